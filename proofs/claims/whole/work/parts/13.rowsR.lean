set_option maxRecDepth 20000 in
theorem ggX8_init_X7_init : GoodIn wsX8_init wsX7_init := goodIn_r _ [9, 10, 2, 3, 11, 12, 13, 14, 15, 16, 17, 18, 19, 20, 21, 22, 23, 24, 25, 26, 27, 28, 29, 30, 31, 37, 38, 39, 32, 33, 34] (by decide +kernel) (by decide +kernel)
set_option maxRecDepth 20000 in
theorem gX8_init_X7_init_n9 : GoodIn wsX8_init (wsX7_init) := ggX8_init_X7_init
theorem dX8_init_0 : decode cX8_init 0 = .ok (.aload_n 0, 1) := by decide +kernel
theorem dX8_init_1 : decode cX8_init 1 = .ok (.invokespecial 1, 3) := by decide +kernel
theorem dX8_init_4 : decode cX8_init 4 = .ok (.aload_n 0, 1) := by decide +kernel
theorem dX8_init_5 : decode cX8_init 5 = .ok (.new 7, 3) := by decide +kernel
theorem dX8_init_8 : decode cX8_init 8 = .ok (.dup, 1) := by decide +kernel
theorem dX8_init_9 : decode cX8_init 9 = .ok (.invokespecial 9, 3) := by decide +kernel
theorem dX8_init_12 : decode cX8_init 12 = .ok (.putfield 10, 3) := by decide +kernel
theorem dX8_init_15 : decode cX8_init 15 = .ok (.return_, 1) := by decide +kernel
theorem dX8_thrown_0 : decode cX8_thrown 0 = .ok (.aload_n 0, 1) := by decide +kernel
theorem dX8_thrown_1 : decode cX8_thrown 1 = .ok (.getfield 16, 3) := by decide +kernel
theorem dX8_thrown_4 : decode cX8_thrown 4 = .ok (.ireturn, 1) := by decide +kernel
theorem dX8_isIn_0 : decode cX8_isIn 0 = .ok (.iload_n 0, 1) := by decide +kernel
theorem dX8_isIn_1 : decode cX8_isIn 1 = .ok (.iload_n 1, 1) := by decide +kernel
theorem dX8_isIn_2 : decode cX8_isIn 2 = .ok (.if_icmp .lt 12, 3) := by decide +kernel
theorem dX8_isIn_5 : decode cX8_isIn 5 = .ok (.iload_n 0, 1) := by decide +kernel
theorem dX8_isIn_6 : decode cX8_isIn 6 = .ok (.iload_n 2, 1) := by decide +kernel
theorem dX8_isIn_7 : decode cX8_isIn 7 = .ok (.if_icmp .gt 7, 3) := by decide +kernel
theorem dX8_isIn_10 : decode cX8_isIn 10 = .ok (.iconst 1, 1) := by decide +kernel
theorem dX8_isIn_11 : decode cX8_isIn 11 = .ok (.goto 4, 3) := by decide +kernel
theorem dX8_isIn_14 : decode cX8_isIn 14 = .ok (.iconst 0, 1) := by decide +kernel
theorem dX8_isIn_15 : decode cX8_isIn 15 = .ok (.ireturn, 1) := by decide +kernel
theorem dX8_refuse_0 : decode cX8_refuse 0 = .ok (.iload_n 1, 1) := by decide +kernel
theorem dX8_refuse_1 : decode cX8_refuse 1 = .ok (.ifCond .eq 15, 3) := by decide +kernel
theorem dX8_refuse_4 : decode cX8_refuse 4 = .ok (.aload_n 0, 1) := by decide +kernel
theorem dX8_refuse_5 : decode cX8_refuse 5 = .ok (.getfield 16, 3) := by decide +kernel
theorem dX8_refuse_8 : decode cX8_refuse 8 = .ok (.ifCond .ne 8, 3) := by decide +kernel
theorem dX8_refuse_11 : decode cX8_refuse 11 = .ok (.aload_n 0, 1) := by decide +kernel
theorem dX8_refuse_12 : decode cX8_refuse 12 = .ok (.iload_n 2, 1) := by decide +kernel
theorem dX8_refuse_13 : decode cX8_refuse 13 = .ok (.putfield 16, 3) := by decide +kernel
theorem dX8_refuse_16 : decode cX8_refuse 16 = .ok (.aload_n 0, 1) := by decide +kernel
theorem dX8_refuse_17 : decode cX8_refuse 17 = .ok (.getfield 16, 3) := by decide +kernel
theorem dX8_refuse_20 : decode cX8_refuse 20 = .ok (.ifCond .le 7, 3) := by decide +kernel
theorem dX8_refuse_23 : decode cX8_refuse 23 = .ok (.iconst 1, 1) := by decide +kernel
theorem dX8_refuse_24 : decode cX8_refuse 24 = .ok (.goto 4, 3) := by decide +kernel
theorem dX8_refuse_27 : decode cX8_refuse 27 = .ok (.iconst 0, 1) := by decide +kernel
theorem dX8_refuse_28 : decode cX8_refuse 28 = .ok (.ireturn, 1) := by decide +kernel
set_option maxRecDepth 20000 in
theorem ggX8_start_X8_refuse : GoodIn wsX8_start wsX8_refuse := goodIn_r _ [6, 1, 7, 8] (by decide +kernel) (by decide +kernel)
set_option maxRecDepth 20000 in
theorem gX8_start_X8_refuse : GoodIn wsX8_start (wsV RX8 20 RX8 yX8_refuse wsX8_refuse) := goodIn_app (goodIn_of _ (by decide +kernel)) ggX8_start_X8_refuse
theorem dX8_start_0 : decode cX8_start 0 = .ok (.aload_n 0, 1) := by decide +kernel
theorem dX8_start_1 : decode cX8_start 1 = .ok (.iconst 0, 1) := by decide +kernel
theorem dX8_start_2 : decode cX8_start 2 = .ok (.putfield 16, 3) := by decide +kernel
theorem dX8_start_5 : decode cX8_start 5 = .ok (.aload_n 0, 1) := by decide +kernel
theorem dX8_start_6 : decode cX8_start 6 = .ok (.iload_n 1, 1) := by decide +kernel
theorem dX8_start_7 : decode cX8_start 7 = .ok (.iload_n 2, 1) := by decide +kernel
theorem dX8_start_8 : decode cX8_start 8 = .ok (.invokevirtual 20, 3) := by decide +kernel
theorem dX8_start_11 : decode cX8_start 11 = .ok (.ireturn, 1) := by decide +kernel
set_option maxRecDepth 20000 in
theorem ggX8_isNoPiece_X8_isIn : GoodIn wsX8_isNoPiece wsX8_isIn := goodIn_r _ [4] (by decide +kernel) (by decide +kernel)
set_option maxRecDepth 20000 in
theorem gX8_isNoPiece_X8_isIn : GoodIn wsX8_isNoPiece (va_wsS RX8 24 yX8_isIn wsX8_isIn) := goodIn_app (goodIn_of _ (by decide +kernel)) ggX8_isNoPiece_X8_isIn
theorem dX8_isNoPiece_0 : decode cX8_isNoPiece 0 = .ok (.iload_n 0, 1) := by decide +kernel
theorem dX8_isNoPiece_1 : decode cX8_isNoPiece 1 = .ok (.iconst 1, 1) := by decide +kernel
theorem dX8_isNoPiece_2 : decode cX8_isNoPiece 2 = .ok (.bipush 24, 2) := by decide +kernel
theorem dX8_isNoPiece_4 : decode cX8_isNoPiece 4 = .ok (.invokestatic 24, 3) := by decide +kernel
theorem dX8_isNoPiece_7 : decode cX8_isNoPiece 7 = .ok (.ifCond .eq 22, 3) := by decide +kernel
theorem dX8_isNoPiece_10 : decode cX8_isNoPiece 10 = .ok (.iload_n 1, 1) := by decide +kernel
theorem dX8_isNoPiece_11 : decode cX8_isNoPiece 11 = .ok (.iconst 1, 1) := by decide +kernel
theorem dX8_isNoPiece_12 : decode cX8_isNoPiece 12 = .ok (.bipush 24, 2) := by decide +kernel
theorem dX8_isNoPiece_14 : decode cX8_isNoPiece 14 = .ok (.invokestatic 24, 3) := by decide +kernel
theorem dX8_isNoPiece_17 : decode cX8_isNoPiece 17 = .ok (.ifCond .eq 12, 3) := by decide +kernel
theorem dX8_isNoPiece_20 : decode cX8_isNoPiece 20 = .ok (.iload_n 2, 1) := by decide +kernel
theorem dX8_isNoPiece_21 : decode cX8_isNoPiece 21 = .ok (.iconst 0, 1) := by decide +kernel
theorem dX8_isNoPiece_22 : decode cX8_isNoPiece 22 = .ok (.iconst 1, 1) := by decide +kernel
theorem dX8_isNoPiece_23 : decode cX8_isNoPiece 23 = .ok (.invokestatic 24, 3) := by decide +kernel
theorem dX8_isNoPiece_26 : decode cX8_isNoPiece 26 = .ok (.ifCond .ne 7, 3) := by decide +kernel
theorem dX8_isNoPiece_29 : decode cX8_isNoPiece 29 = .ok (.iconst 1, 1) := by decide +kernel
theorem dX8_isNoPiece_30 : decode cX8_isNoPiece 30 = .ok (.goto 4, 3) := by decide +kernel
theorem dX8_isNoPiece_33 : decode cX8_isNoPiece 33 = .ok (.iconst 0, 1) := by decide +kernel
theorem dX8_isNoPiece_34 : decode cX8_isNoPiece 34 = .ok (.ireturn, 1) := by decide +kernel
set_option maxRecDepth 20000 in
theorem ggX8_isNo_Jx4a65c_size_8abf5 : GoodIn wsX8_isNo wsJx4a65c_size_8abf5 := goodIn_r _ [7, 8, 18, 19, 20] (by decide +kernel) (by decide +kernel)
set_option maxRecDepth 20000 in
theorem gX8_isNo_Jx4a65c_size_8abf5 : GoodIn wsX8_isNo (wsV RX8 32 RJx4a65c yJx4a65c_size_8abf5 wsJx4a65c_size_8abf5) := goodIn_app (goodIn_of _ (by decide +kernel)) ggX8_isNo_Jx4a65c_size_8abf5
set_option maxRecDepth 20000 in
theorem ggX8_isNo_X8_isIn : GoodIn wsX8_isNo wsX8_isIn := goodIn_r _ [12] (by decide +kernel) (by decide +kernel)
set_option maxRecDepth 20000 in
theorem gX8_isNo_X8_isIn : GoodIn wsX8_isNo (va_wsS RX8 24 yX8_isIn wsX8_isIn) := goodIn_app (goodIn_of _ (by decide +kernel)) ggX8_isNo_X8_isIn
theorem dX8_isNo_0 : decode cX8_isNo 0 = .ok (.iload_n 1, 1) := by decide +kernel
theorem dX8_isNo_1 : decode cX8_isNo 1 = .ok (.iconst 0, 1) := by decide +kernel
theorem dX8_isNo_2 : decode cX8_isNo 2 = .ok (.aload_n 0, 1) := by decide +kernel
theorem dX8_isNo_3 : decode cX8_isNo 3 = .ok (.getfield 10, 3) := by decide +kernel
theorem dX8_isNo_6 : decode cX8_isNo 6 = .ok (.getfield 28, 3) := by decide +kernel
theorem dX8_isNo_9 : decode cX8_isNo 9 = .ok (.invokevirtual 32, 3) := by decide +kernel
theorem dX8_isNo_12 : decode cX8_isNo 12 = .ok (.iconst 1, 1) := by decide +kernel
theorem dX8_isNo_13 : decode cX8_isNo 13 = .ok (.isub, 1) := by decide +kernel
theorem dX8_isNo_14 : decode cX8_isNo 14 = .ok (.invokestatic 24, 3) := by decide +kernel
theorem dX8_isNo_17 : decode cX8_isNo 17 = .ok (.ifCond .ne 7, 3) := by decide +kernel
theorem dX8_isNo_20 : decode cX8_isNo 20 = .ok (.iconst 1, 1) := by decide +kernel
theorem dX8_isNo_21 : decode cX8_isNo 21 = .ok (.goto 4, 3) := by decide +kernel
theorem dX8_isNo_24 : decode cX8_isNo 24 = .ok (.iconst 0, 1) := by decide +kernel
theorem dX8_isNo_25 : decode cX8_isNo 25 = .ok (.ireturn, 1) := by decide +kernel
set_option maxRecDepth 20000 in
theorem ggX8_isNoSlab_X8_isNo : GoodIn wsX8_isNoSlab wsX8_isNo := goodIn_r _ [5, 6, 7, 8, 9, 10, 11, 12, 13, 14, 15, 4, 16, 26, 27, 28, 29, 30, 31, 32, 33] (by decide +kernel) (by decide +kernel)
set_option maxRecDepth 20000 in
theorem gX8_isNoSlab_X8_isNo : GoodIn wsX8_isNoSlab (wsV RX8 38 RX8 yX8_isNo wsX8_isNo) := goodIn_app (goodIn_of _ (by decide +kernel)) ggX8_isNoSlab_X8_isNo
set_option maxRecDepth 20000 in
theorem ggX8_isNoSlab_X8_start : GoodIn wsX8_isNoSlab wsX8_start := goodIn_r _ [20, 21, 22, 23, 24, 4, 25, 26, 27] (by decide +kernel) (by decide +kernel)
set_option maxRecDepth 20000 in
theorem gX8_isNoSlab_X8_start : GoodIn wsX8_isNoSlab (wsV RX8 42 RX8 yX8_start wsX8_start) := goodIn_app (goodIn_of _ (by decide +kernel)) ggX8_isNoSlab_X8_start
theorem dX8_isNoSlab_0 : decode cX8_isNoSlab 0 = .ok (.aload_n 0, 1) := by decide +kernel
theorem dX8_isNoSlab_1 : decode cX8_isNoSlab 1 = .ok (.aload_n 0, 1) := by decide +kernel
theorem dX8_isNoSlab_2 : decode cX8_isNoSlab 2 = .ok (.iload_n 1, 1) := by decide +kernel
theorem dX8_isNoSlab_3 : decode cX8_isNoSlab 3 = .ok (.invokevirtual 38, 3) := by decide +kernel
theorem dX8_isNoSlab_6 : decode cX8_isNoSlab 6 = .ok (.iconst 1, 1) := by decide +kernel
theorem dX8_isNoSlab_7 : decode cX8_isNoSlab 7 = .ok (.invokevirtual 42, 3) := by decide +kernel
theorem dX8_isNoSlab_10 : decode cX8_isNoSlab 10 = .ok (.ireturn, 1) := by decide +kernel
set_option maxRecDepth 20000 in
theorem ggX8_of_Jx4a65c_get_915e3 : GoodIn wsX8_of wsJx4a65c_get_915e3 := goodIn_r _ [8, 9, 10, 11, 12, 13, 14, 15, 16, 17, 18, 19, 20, 7, 21, 22, 28, 29, 30] (by decide +kernel) (by decide +kernel)
set_option maxRecDepth 20000 in
theorem gX8_of_Jx4a65c_get_915e3 : GoodIn wsX8_of (wsV RX8 45 RJx4a65c yJx4a65c_get_915e3 wsJx4a65c_get_915e3) := goodIn_app (goodIn_of _ (by decide +kernel)) ggX8_of_Jx4a65c_get_915e3
theorem dX8_of_0 : decode cX8_of 0 = .ok (.aload_n 0, 1) := by decide +kernel
theorem dX8_of_1 : decode cX8_of 1 = .ok (.getfield 10, 3) := by decide +kernel
theorem dX8_of_4 : decode cX8_of 4 = .ok (.getfield 28, 3) := by decide +kernel
theorem dX8_of_7 : decode cX8_of 7 = .ok (.iload_n 1, 1) := by decide +kernel
theorem dX8_of_8 : decode cX8_of 8 = .ok (.invokevirtual 45, 3) := by decide +kernel
theorem dX8_of_11 : decode cX8_of 11 = .ok (.checkcast 49, 3) := by decide +kernel
theorem dX8_of_14 : decode cX8_of 14 = .ok (.areturn, 1) := by decide +kernel
set_option maxRecDepth 20000 in
theorem ggX8_slab_X8_isNoPiece : GoodIn wsX8_slab wsX8_isNoPiece := goodIn_r _ [9, 10, 11, 8, 12] (by decide +kernel) (by decide +kernel)
set_option maxRecDepth 20000 in
theorem gX8_slab_X8_isNoPiece : GoodIn wsX8_slab (va_wsS RX8 51 yX8_isNoPiece wsX8_isNoPiece) := goodIn_app (goodIn_of _ (by decide +kernel)) ggX8_slab_X8_isNoPiece
set_option maxRecDepth 20000 in
theorem ggX8_slab_X8_start : GoodIn wsX8_slab wsX8_start := goodIn_r _ [16, 17, 18, 19, 20, 8, 21, 109, 110] (by decide +kernel) (by decide +kernel)
set_option maxRecDepth 20000 in
theorem gX8_slab_X8_start : GoodIn wsX8_slab (wsV RX8 42 RX8 yX8_start wsX8_start) := goodIn_app (goodIn_of _ (by decide +kernel)) ggX8_slab_X8_start
set_option maxRecDepth 20000 in
theorem ggX8_slab_Jx4a65c_size_8abf5 : GoodIn wsX8_slab wsJx4a65c_size_8abf5 := goodIn_r _ [26, 27, 120, 121, 122] (by decide +kernel) (by decide +kernel)
set_option maxRecDepth 20000 in
theorem gX8_slab_Jx4a65c_size_8abf5 : GoodIn wsX8_slab (wsV RX8 32 RJx4a65c yJx4a65c_size_8abf5 wsJx4a65c_size_8abf5) := goodIn_app (goodIn_of _ (by decide +kernel)) ggX8_slab_Jx4a65c_size_8abf5
set_option maxRecDepth 20000 in
theorem ggX8_slab_X8_refuse : GoodIn wsX8_slab wsX8_refuse := goodIn_r _ [21, 17, 109, 110] (by decide +kernel) (by decide +kernel)
set_option maxRecDepth 20000 in
theorem gX8_slab_X8_refuse : GoodIn wsX8_slab (wsV RX8 20 RX8 yX8_refuse wsX8_refuse) := goodIn_app (goodIn_of _ (by decide +kernel)) ggX8_slab_X8_refuse
set_option maxRecDepth 20000 in
theorem ggX8_slab_X6_init : GoodIn wsX8_slab wsX6_init := goodIn_r _ [30, 31, 32, 33, 34, 35, 25, 36, 37, 38, 39, 40, 41, 42, 43, 44, 45, 46, 47, 48, 49, 50, 51, 52, 53, 54, 55, 56, 120, 121, 122, 114, 115, 116, 117, 118, 119] (by decide +kernel) (by decide +kernel)
set_option maxRecDepth 20000 in
theorem gX8_slab_X6_init : GoodIn wsX8_slab (wsX6_init) := ggX8_slab_X6_init
set_option maxRecDepth 20000 in
theorem ggX8_slab_Jx4a65c_add_9ea2d : GoodIn wsX8_slab wsJx4a65c_add_9ea2d := goodIn_r _ [60, 61, 62, 46, 27, 63, 64, 65, 25, 66, 67, 68, 69, 70, 71, 72, 73, 74, 45, 75, 76, 77, 78, 79, 80, 81, 82, 83, 84, 85, 86, 87, 88, 89, 90, 91, 92, 93, 94, 95, 96, 97, 98, 99, 100, 101, 102, 103, 104, 105, 106, 107, 108, 120, 121, 122] (by decide +kernel) (by decide +kernel)
set_option maxRecDepth 20000 in
theorem gX8_slab_Jx4a65c_add_9ea2d : GoodIn wsX8_slab (wsV RX8 57 RJx4a65c yJx4a65c_add_9ea2d wsJx4a65c_add_9ea2d) := goodIn_app (goodIn_of _ (by decide +kernel)) ggX8_slab_Jx4a65c_add_9ea2d
theorem dX8_slab_0 : decode cX8_slab 0 = .ok (.aload_n 0, 1) := by decide +kernel
theorem dX8_slab_1 : decode cX8_slab 1 = .ok (.iload_n 1, 1) := by decide +kernel
theorem dX8_slab_2 : decode cX8_slab 2 = .ok (.iload_n 2, 1) := by decide +kernel
theorem dX8_slab_3 : decode cX8_slab 3 = .ok (.iload_n 3, 1) := by decide +kernel
theorem dX8_slab_4 : decode cX8_slab 4 = .ok (.invokestatic 51, 3) := by decide +kernel
theorem dX8_slab_7 : decode cX8_slab 7 = .ok (.iconst 1, 1) := by decide +kernel
theorem dX8_slab_8 : decode cX8_slab 8 = .ok (.invokevirtual 42, 3) := by decide +kernel
theorem dX8_slab_11 : decode cX8_slab 11 = .ok (.ifCond .ne 31, 3) := by decide +kernel
theorem dX8_slab_14 : decode cX8_slab 14 = .ok (.aload_n 0, 1) := by decide +kernel
theorem dX8_slab_15 : decode cX8_slab 15 = .ok (.aload_n 0, 1) := by decide +kernel
theorem dX8_slab_16 : decode cX8_slab 16 = .ok (.getfield 10, 3) := by decide +kernel
theorem dX8_slab_19 : decode cX8_slab 19 = .ok (.getfield 28, 3) := by decide +kernel
theorem dX8_slab_22 : decode cX8_slab 22 = .ok (.invokevirtual 32, 3) := by decide +kernel
theorem dX8_slab_25 : decode cX8_slab 25 = .ok (.bipush 40, 2) := by decide +kernel
theorem dX8_slab_27 : decode cX8_slab 27 = .ok (.if_icmp .ne 7, 3) := by decide +kernel
theorem dX8_slab_30 : decode cX8_slab 30 = .ok (.iconst 1, 1) := by decide +kernel
theorem dX8_slab_31 : decode cX8_slab 31 = .ok (.goto 4, 3) := by decide +kernel
theorem dX8_slab_34 : decode cX8_slab 34 = .ok (.iconst 0, 1) := by decide +kernel
theorem dX8_slab_35 : decode cX8_slab 35 = .ok (.iconst 2, 1) := by decide +kernel
theorem dX8_slab_36 : decode cX8_slab 36 = .ok (.invokevirtual 20, 3) := by decide +kernel
theorem dX8_slab_39 : decode cX8_slab 39 = .ok (.ifCond .eq 5, 3) := by decide +kernel
theorem dX8_slab_42 : decode cX8_slab 42 = .ok (.iconst 0, 1) := by decide +kernel
theorem dX8_slab_43 : decode cX8_slab 43 = .ok (.ireturn, 1) := by decide +kernel
theorem dX8_slab_44 : decode cX8_slab 44 = .ok (.aload_n 0, 1) := by decide +kernel
theorem dX8_slab_45 : decode cX8_slab 45 = .ok (.getfield 10, 3) := by decide +kernel
theorem dX8_slab_48 : decode cX8_slab 48 = .ok (.getfield 28, 3) := by decide +kernel
theorem dX8_slab_51 : decode cX8_slab 51 = .ok (.new 49, 3) := by decide +kernel
theorem dX8_slab_54 : decode cX8_slab 54 = .ok (.dup, 1) := by decide +kernel
theorem dX8_slab_55 : decode cX8_slab 55 = .ok (.iload_n 1, 1) := by decide +kernel
theorem dX8_slab_56 : decode cX8_slab 56 = .ok (.iload_n 2, 1) := by decide +kernel
theorem dX8_slab_57 : decode cX8_slab 57 = .ok (.iload_n 3, 1) := by decide +kernel
theorem dX8_slab_58 : decode cX8_slab 58 = .ok (.iconst (-1), 1) := by decide +kernel
theorem dX8_slab_59 : decode cX8_slab 59 = .ok (.invokespecial 54, 3) := by decide +kernel
theorem dX8_slab_62 : decode cX8_slab 62 = .ok (.invokevirtual 57, 3) := by decide +kernel
theorem dX8_slab_65 : decode cX8_slab 65 = .ok (.pop, 1) := by decide +kernel
theorem dX8_slab_66 : decode cX8_slab 66 = .ok (.aload_n 0, 1) := by decide +kernel
theorem dX8_slab_67 : decode cX8_slab 67 = .ok (.getfield 10, 3) := by decide +kernel
theorem dX8_slab_70 : decode cX8_slab 70 = .ok (.getfield 28, 3) := by decide +kernel
theorem dX8_slab_73 : decode cX8_slab 73 = .ok (.invokevirtual 32, 3) := by decide +kernel
theorem dX8_slab_76 : decode cX8_slab 76 = .ok (.iconst 1, 1) := by decide +kernel
theorem dX8_slab_77 : decode cX8_slab 77 = .ok (.isub, 1) := by decide +kernel
theorem dX8_slab_78 : decode cX8_slab 78 = .ok (.ireturn, 1) := by decide +kernel
set_option maxRecDepth 20000 in
theorem ggX8_isNoPoint_X8_isNoSlab : GoodIn wsX8_isNoPoint wsX8_isNoSlab := goodIn_r _ [5, 6, 7, 8, 4, 9, 10, 11, 12, 13, 14, 15, 16, 17, 18, 19, 20, 21, 22, 23, 24, 25, 26, 27, 28, 29, 59, 60, 61, 62, 63, 64, 65, 66] (by decide +kernel) (by decide +kernel)
set_option maxRecDepth 20000 in
theorem gX8_isNoPoint_X8_isNoSlab : GoodIn wsX8_isNoPoint (wsV RX8 61 RX8 yX8_isNoSlab wsX8_isNoSlab) := goodIn_app (goodIn_of _ (by decide +kernel)) ggX8_isNoPoint_X8_isNoSlab
set_option maxRecDepth 20000 in
theorem ggX8_isNoPoint_X8_of : GoodIn wsX8_isNoPoint wsX8_of := goodIn_r _ [33, 10, 11, 34, 35, 36, 37, 15, 38, 17, 39, 40, 41, 42, 43, 44, 45, 46, 47, 48, 49, 50, 51, 59, 60, 61, 62, 63, 64, 65, 66] (by decide +kernel) (by decide +kernel)
set_option maxRecDepth 20000 in
theorem gX8_isNoPoint_X8_of : GoodIn wsX8_isNoPoint (wsV RX8 64 RX8 yX8_of wsX8_of) := goodIn_app (goodIn_of _ (by decide +kernel)) ggX8_isNoPoint_X8_of
set_option maxRecDepth 20000 in
theorem ggX8_isNoPoint_X6_hasPoint : GoodIn wsX8_isNoPoint wsX6_hasPoint := goodIn_r _ [56, 57, 58, 67, 68, 69, 70, 71, 72] (by decide +kernel) (by decide +kernel)
set_option maxRecDepth 20000 in
theorem gX8_isNoPoint_X6_hasPoint : GoodIn wsX8_isNoPoint (wsV RX8 68 RX6 yX6_hasPoint wsX6_hasPoint) := goodIn_app (goodIn_of _ (by decide +kernel)) ggX8_isNoPoint_X6_hasPoint
set_option maxRecDepth 20000 in
theorem ggX8_isNoPoint_X8_refuse : GoodIn wsX8_isNoPoint wsX8_refuse := goodIn_r _ [29, 25, 59, 60] (by decide +kernel) (by decide +kernel)
set_option maxRecDepth 20000 in
theorem gX8_isNoPoint_X8_refuse : GoodIn wsX8_isNoPoint (wsV RX8 20 RX8 yX8_refuse wsX8_refuse) := goodIn_app (goodIn_of _ (by decide +kernel)) ggX8_isNoPoint_X8_refuse
theorem dX8_isNoPoint_0 : decode cX8_isNoPoint 0 = .ok (.aload_n 0, 1) := by decide +kernel
theorem dX8_isNoPoint_1 : decode cX8_isNoPoint 1 = .ok (.iload_n 1, 1) := by decide +kernel
theorem dX8_isNoPoint_2 : decode cX8_isNoPoint 2 = .ok (.invokevirtual 61, 3) := by decide +kernel
theorem dX8_isNoPoint_5 : decode cX8_isNoPoint 5 = .ok (.ifCond .ne 29, 3) := by decide +kernel
theorem dX8_isNoPoint_8 : decode cX8_isNoPoint 8 = .ok (.aload_n 0, 1) := by decide +kernel
theorem dX8_isNoPoint_9 : decode cX8_isNoPoint 9 = .ok (.aload_n 0, 1) := by decide +kernel
theorem dX8_isNoPoint_10 : decode cX8_isNoPoint 10 = .ok (.iload_n 1, 1) := by decide +kernel
theorem dX8_isNoPoint_11 : decode cX8_isNoPoint 11 = .ok (.invokevirtual 64, 3) := by decide +kernel
theorem dX8_isNoPoint_14 : decode cX8_isNoPoint 14 = .ok (.iload_n 2, 1) := by decide +kernel
theorem dX8_isNoPoint_15 : decode cX8_isNoPoint 15 = .ok (.iload_n 3, 1) := by decide +kernel
theorem dX8_isNoPoint_16 : decode cX8_isNoPoint 16 = .ok (.invokevirtual 68, 3) := by decide +kernel
theorem dX8_isNoPoint_19 : decode cX8_isNoPoint 19 = .ok (.ifCond .ne 7, 3) := by decide +kernel
theorem dX8_isNoPoint_22 : decode cX8_isNoPoint 22 = .ok (.iconst 1, 1) := by decide +kernel
theorem dX8_isNoPoint_23 : decode cX8_isNoPoint 23 = .ok (.goto 4, 3) := by decide +kernel
theorem dX8_isNoPoint_26 : decode cX8_isNoPoint 26 = .ok (.iconst 0, 1) := by decide +kernel
theorem dX8_isNoPoint_27 : decode cX8_isNoPoint 27 = .ok (.iconst 1, 1) := by decide +kernel
theorem dX8_isNoPoint_28 : decode cX8_isNoPoint 28 = .ok (.invokevirtual 20, 3) := by decide +kernel
theorem dX8_isNoPoint_31 : decode cX8_isNoPoint 31 = .ok (.ifCond .eq 7, 3) := by decide +kernel
theorem dX8_isNoPoint_34 : decode cX8_isNoPoint 34 = .ok (.iconst 1, 1) := by decide +kernel
theorem dX8_isNoPoint_35 : decode cX8_isNoPoint 35 = .ok (.goto 4, 3) := by decide +kernel
theorem dX8_isNoPoint_38 : decode cX8_isNoPoint 38 = .ok (.iconst 0, 1) := by decide +kernel
theorem dX8_isNoPoint_39 : decode cX8_isNoPoint 39 = .ok (.ireturn, 1) := by decide +kernel
set_option maxRecDepth 20000 in
theorem ggX8_flaw_X8_isNoPoint : GoodIn wsX8_flaw wsX8_isNoPoint := goodIn_r _ [7, 8, 9, 10, 6, 11, 12, 13, 14, 15, 16, 17, 18, 19, 20, 21, 22, 23, 24, 25, 26, 27, 28, 29, 30, 31, 32, 33, 34, 35, 36, 37, 38, 39, 40, 41, 42, 43, 44, 45, 46, 47, 48, 49, 50, 51, 52, 53, 54, 55, 56, 57, 58, 59, 60, 61, 62, 63, 64, 129, 130, 131, 132, 133, 134, 135, 136, 123, 124, 125, 126, 127, 128] (by decide +kernel) (by decide +kernel)
set_option maxRecDepth 20000 in
theorem gX8_flaw_X8_isNoPoint : GoodIn wsX8_flaw (wsV RX8 72 RX8 yX8_isNoPoint wsX8_isNoPoint) := goodIn_app (goodIn_of _ (by decide +kernel)) ggX8_flaw_X8_isNoPoint
set_option maxRecDepth 20000 in
theorem ggX8_flaw_X8_of : GoodIn wsX8_flaw wsX8_of := goodIn_r _ [39, 16, 17, 40, 41, 42, 43, 21, 44, 23, 45, 46, 47, 48, 49, 50, 51, 52, 53, 54, 55, 56, 57, 129, 130, 131, 132, 133, 134, 135, 136] (by decide +kernel) (by decide +kernel)
set_option maxRecDepth 20000 in
theorem gX8_flaw_X8_of : GoodIn wsX8_flaw (wsV RX8 64 RX8 yX8_of wsX8_of) := goodIn_app (goodIn_of _ (by decide +kernel)) ggX8_flaw_X8_of
set_option maxRecDepth 20000 in
theorem ggX8_flaw_X6_isThere : GoodIn wsX8_flaw wsX6_isThere := goodIn_r _ [68, 69, 123, 124, 125, 126, 127, 128] (by decide +kernel) (by decide +kernel)
set_option maxRecDepth 20000 in
theorem gX8_flaw_X6_isThere : GoodIn wsX8_flaw (wsV RX8 75 RX6 yX6_isThere wsX6_isThere) := goodIn_app (goodIn_of _ (by decide +kernel)) ggX8_flaw_X6_isThere
set_option maxRecDepth 20000 in
theorem ggX8_flaw_Jx4a65c_size_8abf5 : GoodIn wsX8_flaw wsJx4a65c_size_8abf5 := goodIn_r _ [22, 23, 134, 135, 136] (by decide +kernel) (by decide +kernel)
set_option maxRecDepth 20000 in
theorem gX8_flaw_Jx4a65c_size_8abf5 : GoodIn wsX8_flaw (wsV RX8 32 RJx4a65c yJx4a65c_size_8abf5 wsJx4a65c_size_8abf5) := goodIn_app (goodIn_of _ (by decide +kernel)) ggX8_flaw_Jx4a65c_size_8abf5
set_option maxRecDepth 20000 in
theorem ggX8_flaw_X8_refuse : GoodIn wsX8_flaw wsX8_refuse := goodIn_r _ [35, 31, 129, 130] (by decide +kernel) (by decide +kernel)
set_option maxRecDepth 20000 in
theorem gX8_flaw_X8_refuse : GoodIn wsX8_flaw (wsV RX8 20 RX8 yX8_refuse wsX8_refuse) := goodIn_app (goodIn_of _ (by decide +kernel)) ggX8_flaw_X8_refuse
set_option maxRecDepth 20000 in
theorem ggX8_flaw_Jx4a65c_add_9ea2d : GoodIn wsX8_flaw wsJx4a65c_add_9ea2d := goodIn_r _ [73, 74, 75, 57, 23, 76, 77, 78, 21, 79, 80, 81, 82, 83, 84, 85, 86, 87, 88, 89, 90, 91, 92, 93, 94, 95, 96, 97, 98, 99, 100, 101, 102, 103, 104, 105, 106, 107, 108, 109, 110, 111, 112, 113, 114, 115, 116, 117, 118, 119, 120, 121, 122, 134, 135, 136] (by decide +kernel) (by decide +kernel)
set_option maxRecDepth 20000 in
theorem gX8_flaw_Jx4a65c_add_9ea2d : GoodIn wsX8_flaw (wsV RX8 57 RJx4a65c yJx4a65c_add_9ea2d wsJx4a65c_add_9ea2d) := goodIn_app (goodIn_of _ (by decide +kernel)) ggX8_flaw_Jx4a65c_add_9ea2d
theorem dX8_flaw_0 : decode cX8_flaw 0 = .ok (.aload_n 0, 1) := by decide +kernel
theorem dX8_flaw_1 : decode cX8_flaw 1 = .ok (.iload_n 1, 1) := by decide +kernel
theorem dX8_flaw_2 : decode cX8_flaw 2 = .ok (.iload_n 2, 1) := by decide +kernel
theorem dX8_flaw_3 : decode cX8_flaw 3 = .ok (.iload_n 3, 1) := by decide +kernel
theorem dX8_flaw_4 : decode cX8_flaw 4 = .ok (.invokevirtual 72, 3) := by decide +kernel
theorem dX8_flaw_7 : decode cX8_flaw 7 = .ok (.ifCond .ne 43, 3) := by decide +kernel
theorem dX8_flaw_10 : decode cX8_flaw 10 = .ok (.aload_n 0, 1) := by decide +kernel
theorem dX8_flaw_11 : decode cX8_flaw 11 = .ok (.aload_n 0, 1) := by decide +kernel
theorem dX8_flaw_12 : decode cX8_flaw 12 = .ok (.iload_n 1, 1) := by decide +kernel
theorem dX8_flaw_13 : decode cX8_flaw 13 = .ok (.invokevirtual 64, 3) := by decide +kernel
theorem dX8_flaw_16 : decode cX8_flaw 16 = .ok (.invokevirtual 75, 3) := by decide +kernel
theorem dX8_flaw_19 : decode cX8_flaw 19 = .ok (.ifCond .eq 19, 3) := by decide +kernel
theorem dX8_flaw_22 : decode cX8_flaw 22 = .ok (.aload_n 0, 1) := by decide +kernel
theorem dX8_flaw_23 : decode cX8_flaw 23 = .ok (.iload_n 1, 1) := by decide +kernel
theorem dX8_flaw_24 : decode cX8_flaw 24 = .ok (.invokevirtual 64, 3) := by decide +kernel
theorem dX8_flaw_27 : decode cX8_flaw 27 = .ok (.getfield 79, 3) := by decide +kernel
theorem dX8_flaw_30 : decode cX8_flaw 30 = .ok (.invokevirtual 32, 3) := by decide +kernel
theorem dX8_flaw_33 : decode cX8_flaw 33 = .ok (.bipush 6, 2) := by decide +kernel
theorem dX8_flaw_35 : decode cX8_flaw 35 = .ok (.if_icmp .ne 7, 3) := by decide +kernel
theorem dX8_flaw_38 : decode cX8_flaw 38 = .ok (.iconst 1, 1) := by decide +kernel
theorem dX8_flaw_39 : decode cX8_flaw 39 = .ok (.goto 4, 3) := by decide +kernel
theorem dX8_flaw_42 : decode cX8_flaw 42 = .ok (.iconst 0, 1) := by decide +kernel
theorem dX8_flaw_43 : decode cX8_flaw 43 = .ok (.iconst 2, 1) := by decide +kernel
theorem dX8_flaw_44 : decode cX8_flaw 44 = .ok (.invokevirtual 20, 3) := by decide +kernel
theorem dX8_flaw_47 : decode cX8_flaw 47 = .ok (.ifCond .eq 5, 3) := by decide +kernel
theorem dX8_flaw_50 : decode cX8_flaw 50 = .ok (.iconst 0, 1) := by decide +kernel
theorem dX8_flaw_51 : decode cX8_flaw 51 = .ok (.ireturn, 1) := by decide +kernel
theorem dX8_flaw_52 : decode cX8_flaw 52 = .ok (.aload_n 0, 1) := by decide +kernel
theorem dX8_flaw_53 : decode cX8_flaw 53 = .ok (.iload_n 1, 1) := by decide +kernel
theorem dX8_flaw_54 : decode cX8_flaw 54 = .ok (.invokevirtual 64, 3) := by decide +kernel
theorem dX8_flaw_57 : decode cX8_flaw 57 = .ok (.getfield 79, 3) := by decide +kernel
theorem dX8_flaw_60 : decode cX8_flaw 60 = .ok (.iconst 2, 1) := by decide +kernel
theorem dX8_flaw_61 : decode cX8_flaw 61 = .ok (.newarray .int, 2) := by decide +kernel
theorem dX8_flaw_63 : decode cX8_flaw 63 = .ok (.dup, 1) := by decide +kernel
theorem dX8_flaw_64 : decode cX8_flaw 64 = .ok (.iconst 0, 1) := by decide +kernel
theorem dX8_flaw_65 : decode cX8_flaw 65 = .ok (.iload_n 2, 1) := by decide +kernel
theorem dX8_flaw_66 : decode cX8_flaw 66 = .ok (.iastore, 1) := by decide +kernel
theorem dX8_flaw_67 : decode cX8_flaw 67 = .ok (.dup, 1) := by decide +kernel
theorem dX8_flaw_68 : decode cX8_flaw 68 = .ok (.iconst 1, 1) := by decide +kernel
theorem dX8_flaw_69 : decode cX8_flaw 69 = .ok (.iload_n 3, 1) := by decide +kernel
theorem dX8_flaw_70 : decode cX8_flaw 70 = .ok (.iastore, 1) := by decide +kernel
theorem dX8_flaw_71 : decode cX8_flaw 71 = .ok (.invokevirtual 57, 3) := by decide +kernel
theorem dX8_flaw_74 : decode cX8_flaw 74 = .ok (.pop, 1) := by decide +kernel
theorem dX8_flaw_75 : decode cX8_flaw 75 = .ok (.aload_n 0, 1) := by decide +kernel
theorem dX8_flaw_76 : decode cX8_flaw 76 = .ok (.iload_n 1, 1) := by decide +kernel
theorem dX8_flaw_77 : decode cX8_flaw 77 = .ok (.invokevirtual 64, 3) := by decide +kernel
theorem dX8_flaw_80 : decode cX8_flaw 80 = .ok (.getfield 79, 3) := by decide +kernel
theorem dX8_flaw_83 : decode cX8_flaw 83 = .ok (.invokevirtual 32, 3) := by decide +kernel
theorem dX8_flaw_86 : decode cX8_flaw 86 = .ok (.ireturn, 1) := by decide +kernel
set_option maxRecDepth 20000 in
theorem ggX8_kerf_X8_isIn : GoodIn wsX8_kerf wsX8_isIn := goodIn_r _ [6] (by decide +kernel) (by decide +kernel)
set_option maxRecDepth 20000 in
theorem gX8_kerf_X8_isIn : GoodIn wsX8_kerf (va_wsS RX8 24 yX8_isIn wsX8_isIn) := goodIn_app (goodIn_of _ (by decide +kernel)) ggX8_kerf_X8_isIn
set_option maxRecDepth 20000 in
theorem ggX8_kerf_X8_start : GoodIn wsX8_kerf wsX8_start := goodIn_r _ [10, 11, 12, 13, 14, 5, 15, 16, 17] (by decide +kernel) (by decide +kernel)
set_option maxRecDepth 20000 in
theorem gX8_kerf_X8_start : GoodIn wsX8_kerf (wsV RX8 42 RX8 yX8_start wsX8_start) := goodIn_app (goodIn_of _ (by decide +kernel)) ggX8_kerf_X8_start
theorem dX8_kerf_0 : decode cX8_kerf 0 = .ok (.aload_n 0, 1) := by decide +kernel
theorem dX8_kerf_1 : decode cX8_kerf 1 = .ok (.iload_n 1, 1) := by decide +kernel
theorem dX8_kerf_2 : decode cX8_kerf 2 = .ok (.iconst 0, 1) := by decide +kernel
theorem dX8_kerf_3 : decode cX8_kerf 3 = .ok (.iconst 2, 1) := by decide +kernel
theorem dX8_kerf_4 : decode cX8_kerf 4 = .ok (.invokestatic 24, 3) := by decide +kernel
theorem dX8_kerf_7 : decode cX8_kerf 7 = .ok (.ifCond .ne 7, 3) := by decide +kernel
theorem dX8_kerf_10 : decode cX8_kerf 10 = .ok (.iconst 1, 1) := by decide +kernel
theorem dX8_kerf_11 : decode cX8_kerf 11 = .ok (.goto 4, 3) := by decide +kernel
theorem dX8_kerf_14 : decode cX8_kerf 14 = .ok (.iconst 0, 1) := by decide +kernel
theorem dX8_kerf_15 : decode cX8_kerf 15 = .ok (.iconst 1, 1) := by decide +kernel
theorem dX8_kerf_16 : decode cX8_kerf 16 = .ok (.invokevirtual 42, 3) := by decide +kernel
theorem dX8_kerf_19 : decode cX8_kerf 19 = .ok (.ifCond .eq 5, 3) := by decide +kernel
theorem dX8_kerf_22 : decode cX8_kerf 22 = .ok (.iconst 0, 1) := by decide +kernel
theorem dX8_kerf_23 : decode cX8_kerf 23 = .ok (.ireturn, 1) := by decide +kernel
theorem dX8_kerf_24 : decode cX8_kerf 24 = .ok (.aload_n 0, 1) := by decide +kernel
theorem dX8_kerf_25 : decode cX8_kerf 25 = .ok (.getfield 10, 3) := by decide +kernel
theorem dX8_kerf_28 : decode cX8_kerf 28 = .ok (.getfield 82, 3) := by decide +kernel
theorem dX8_kerf_31 : decode cX8_kerf 31 = .ok (.istore_n 2, 1) := by decide +kernel
theorem dX8_kerf_32 : decode cX8_kerf 32 = .ok (.aload_n 0, 1) := by decide +kernel
theorem dX8_kerf_33 : decode cX8_kerf 33 = .ok (.getfield 10, 3) := by decide +kernel
theorem dX8_kerf_36 : decode cX8_kerf 36 = .ok (.iload_n 1, 1) := by decide +kernel
theorem dX8_kerf_37 : decode cX8_kerf 37 = .ok (.putfield 82, 3) := by decide +kernel
theorem dX8_kerf_40 : decode cX8_kerf 40 = .ok (.iload_n 2, 1) := by decide +kernel
theorem dX8_kerf_41 : decode cX8_kerf 41 = .ok (.ireturn, 1) := by decide +kernel
set_option maxRecDepth 20000 in
theorem ggX8_cut_X8_isNoSlab : GoodIn wsX8_cut wsX8_isNoSlab := goodIn_r _ [7, 8, 9, 10, 6, 11, 1, 2, 12, 13, 14, 15, 16, 17, 18, 19, 20, 21, 22, 23, 24, 25, 26, 27, 28, 29, 160, 161, 162, 163, 164, 165, 166, 167] (by decide +kernel) (by decide +kernel)
set_option maxRecDepth 20000 in
theorem gX8_cut_X8_isNoSlab : GoodIn wsX8_cut (wsV RX8 61 RX8 yX8_isNoSlab wsX8_isNoSlab) := goodIn_app (goodIn_of _ (by decide +kernel)) ggX8_cut_X8_isNoSlab
set_option maxRecDepth 20000 in
theorem ggX8_cut_X8_of : GoodIn wsX8_cut wsX8_of := goodIn_r _ [33, 1, 2, 34, 35, 36, 37, 15, 38, 17, 39, 40, 41, 42, 43, 44, 45, 46, 47, 48, 49, 50, 51, 160, 161, 162, 163, 164, 165, 166, 167] (by decide +kernel) (by decide +kernel)
set_option maxRecDepth 20000 in
theorem gX8_cut_X8_of : GoodIn wsX8_cut (wsV RX8 64 RX8 yX8_of wsX8_of) := goodIn_app (goodIn_of _ (by decide +kernel)) ggX8_cut_X8_of
set_option maxRecDepth 20000 in
theorem ggX8_cut_X7_canCut : GoodIn wsX8_cut wsX7_canCut := goodIn_r _ [56, 57, 58, 59, 168, 169, 170, 171, 172, 173, 162, 163, 164] (by decide +kernel) (by decide +kernel)
set_option maxRecDepth 20000 in
theorem gX8_cut_X7_canCut : GoodIn wsX8_cut (wsV RX8 85 RX7 yX7_canCut wsX7_canCut) := goodIn_app (goodIn_of _ (by decide +kernel)) ggX8_cut_X7_canCut
set_option maxRecDepth 20000 in
theorem ggX8_cut_X8_refuse : GoodIn wsX8_cut wsX8_refuse := goodIn_r _ [29, 25, 160, 161] (by decide +kernel) (by decide +kernel)
set_option maxRecDepth 20000 in
theorem gX8_cut_X8_refuse : GoodIn wsX8_cut (wsV RX8 20 RX8 yX8_refuse wsX8_refuse) := goodIn_app (goodIn_of _ (by decide +kernel)) ggX8_cut_X8_refuse
set_option maxRecDepth 20000 in
theorem ggX8_cut_X6_isThere : GoodIn wsX8_cut wsX6_isThere := goodIn_r _ [64, 65, 168, 169, 170, 171, 172, 173] (by decide +kernel) (by decide +kernel)
set_option maxRecDepth 20000 in
theorem gX8_cut_X6_isThere : GoodIn wsX8_cut (wsV RX8 75 RX6 yX6_isThere wsX6_isThere) := goodIn_app (goodIn_of _ (by decide +kernel)) ggX8_cut_X6_isThere
set_option maxRecDepth 20000 in
theorem ggX8_cut_Jx4a65c_size_8abf5 : GoodIn wsX8_cut wsJx4a65c_size_8abf5 := goodIn_r _ [16, 17, 165, 166, 167] (by decide +kernel) (by decide +kernel)
set_option maxRecDepth 20000 in
theorem gX8_cut_Jx4a65c_size_8abf5 : GoodIn wsX8_cut (wsV RX8 32 RJx4a65c yJx4a65c_size_8abf5 wsJx4a65c_size_8abf5) := goodIn_app (goodIn_of _ (by decide +kernel)) ggX8_cut_Jx4a65c_size_8abf5
set_option maxRecDepth 20000 in
theorem ggX8_cut_X7_cut : GoodIn wsX8_cut wsX7_cut := goodIn_r _ [69, 70, 71, 59, 72, 73, 63, 57, 58, 74, 75, 76, 77, 78, 79, 36, 37, 15, 38, 17, 39, 40, 41, 42, 43, 44, 45, 46, 47, 48, 49, 50, 51, 80, 81, 82, 83, 84, 85, 86, 87, 88, 65, 89, 90, 91, 92, 93, 94, 95, 96, 97, 98, 99, 100, 101, 102, 103, 104, 105, 106, 107, 13, 14, 16, 108, 109, 110, 111, 112, 113, 114, 115, 116, 117, 118, 119, 120, 121, 122, 123, 124, 125, 126, 127, 128, 129, 130, 131, 132, 133, 134, 135, 136, 137, 138, 139, 140, 141, 142, 143, 144, 145, 146, 147, 148, 149, 150, 151, 152, 153, 154, 155, 156, 157, 158, 159, 162, 163, 164, 168, 169, 170, 171, 172, 173, 165, 166, 167] (by decide +kernel) (by decide +kernel)
set_option maxRecDepth 20000 in
theorem gX8_cut_X7_cut : GoodIn wsX8_cut (wsV RX8 89 RX7 yX7_cut wsX7_cut) := goodIn_app (goodIn_of _ (by decide +kernel)) ggX8_cut_X7_cut
theorem dX8_cut_0 : decode cX8_cut 0 = .ok (.aload_n 0, 1) := by decide +kernel
theorem dX8_cut_1 : decode cX8_cut 1 = .ok (.iload_n 1, 1) := by decide +kernel
theorem dX8_cut_2 : decode cX8_cut 2 = .ok (.invokevirtual 61, 3) := by decide +kernel
theorem dX8_cut_5 : decode cX8_cut 5 = .ok (.ifCond .ne 72, 3) := by decide +kernel
theorem dX8_cut_8 : decode cX8_cut 8 = .ok (.aload_n 0, 1) := by decide +kernel
theorem dX8_cut_9 : decode cX8_cut 9 = .ok (.aload_n 0, 1) := by decide +kernel
theorem dX8_cut_10 : decode cX8_cut 10 = .ok (.getfield 10, 3) := by decide +kernel
theorem dX8_cut_13 : decode cX8_cut 13 = .ok (.aload_n 0, 1) := by decide +kernel
theorem dX8_cut_14 : decode cX8_cut 14 = .ok (.iload_n 1, 1) := by decide +kernel
theorem dX8_cut_15 : decode cX8_cut 15 = .ok (.invokevirtual 64, 3) := by decide +kernel
theorem dX8_cut_18 : decode cX8_cut 18 = .ok (.iload_n 2, 1) := by decide +kernel
theorem dX8_cut_19 : decode cX8_cut 19 = .ok (.iload_n 3, 1) := by decide +kernel
theorem dX8_cut_20 : decode cX8_cut 20 = .ok (.invokevirtual 85, 3) := by decide +kernel
theorem dX8_cut_23 : decode cX8_cut 23 = .ok (.ifCond .ne 7, 3) := by decide +kernel
theorem dX8_cut_26 : decode cX8_cut 26 = .ok (.iconst 1, 1) := by decide +kernel
theorem dX8_cut_27 : decode cX8_cut 27 = .ok (.goto 4, 3) := by decide +kernel
theorem dX8_cut_30 : decode cX8_cut 30 = .ok (.iconst 0, 1) := by decide +kernel
theorem dX8_cut_31 : decode cX8_cut 31 = .ok (.iconst 2, 1) := by decide +kernel
theorem dX8_cut_32 : decode cX8_cut 32 = .ok (.invokevirtual 20, 3) := by decide +kernel
theorem dX8_cut_35 : decode cX8_cut 35 = .ok (.ifCond .ne 42, 3) := by decide +kernel
theorem dX8_cut_38 : decode cX8_cut 38 = .ok (.aload_n 0, 1) := by decide +kernel
theorem dX8_cut_39 : decode cX8_cut 39 = .ok (.aload_n 0, 1) := by decide +kernel
theorem dX8_cut_40 : decode cX8_cut 40 = .ok (.iload_n 1, 1) := by decide +kernel
theorem dX8_cut_41 : decode cX8_cut 41 = .ok (.invokevirtual 64, 3) := by decide +kernel
theorem dX8_cut_44 : decode cX8_cut 44 = .ok (.invokevirtual 75, 3) := by decide +kernel
theorem dX8_cut_47 : decode cX8_cut 47 = .ok (.ifCond .eq 18, 3) := by decide +kernel
theorem dX8_cut_50 : decode cX8_cut 50 = .ok (.aload_n 0, 1) := by decide +kernel
theorem dX8_cut_51 : decode cX8_cut 51 = .ok (.getfield 10, 3) := by decide +kernel
theorem dX8_cut_54 : decode cX8_cut 54 = .ok (.getfield 28, 3) := by decide +kernel
theorem dX8_cut_57 : decode cX8_cut 57 = .ok (.invokevirtual 32, 3) := by decide +kernel
theorem dX8_cut_60 : decode cX8_cut 60 = .ok (.bipush 38, 2) := by decide +kernel
theorem dX8_cut_62 : decode cX8_cut 62 = .ok (.if_icmp .le 7, 3) := by decide +kernel
theorem dX8_cut_65 : decode cX8_cut 65 = .ok (.iconst 1, 1) := by decide +kernel
theorem dX8_cut_66 : decode cX8_cut 66 = .ok (.goto 4, 3) := by decide +kernel
theorem dX8_cut_69 : decode cX8_cut 69 = .ok (.iconst 0, 1) := by decide +kernel
theorem dX8_cut_70 : decode cX8_cut 70 = .ok (.iconst 3, 1) := by decide +kernel
theorem dX8_cut_71 : decode cX8_cut 71 = .ok (.invokevirtual 20, 3) := by decide +kernel
theorem dX8_cut_74 : decode cX8_cut 74 = .ok (.ifCond .eq 5, 3) := by decide +kernel
theorem dX8_cut_77 : decode cX8_cut 77 = .ok (.iconst 0, 1) := by decide +kernel
theorem dX8_cut_78 : decode cX8_cut 78 = .ok (.ireturn, 1) := by decide +kernel
theorem dX8_cut_79 : decode cX8_cut 79 = .ok (.aload_n 0, 1) := by decide +kernel
theorem dX8_cut_80 : decode cX8_cut 80 = .ok (.getfield 10, 3) := by decide +kernel
theorem dX8_cut_83 : decode cX8_cut 83 = .ok (.iload_n 1, 1) := by decide +kernel
theorem dX8_cut_84 : decode cX8_cut 84 = .ok (.iload_n 2, 1) := by decide +kernel
theorem dX8_cut_85 : decode cX8_cut 85 = .ok (.iload_n 3, 1) := by decide +kernel
theorem dX8_cut_86 : decode cX8_cut 86 = .ok (.invokevirtual 89, 3) := by decide +kernel
theorem dX8_cut_89 : decode cX8_cut 89 = .ok (.ireturn, 1) := by decide +kernel
set_option maxRecDepth 20000 in
theorem ggX8_toss_X8_isNoSlab : GoodIn wsX8_toss wsX8_isNoSlab := goodIn_r _ [6, 7, 8, 9, 5, 10, 11, 12, 13, 14, 15, 16, 17, 18, 19, 20, 21, 22, 23, 24, 25, 26, 27, 28, 29, 30, 71, 72, 73, 74, 75, 76, 77, 78] (by decide +kernel) (by decide +kernel)
set_option maxRecDepth 20000 in
theorem gX8_toss_X8_isNoSlab : GoodIn wsX8_toss (wsV RX8 61 RX8 yX8_isNoSlab wsX8_isNoSlab) := goodIn_app (goodIn_of _ (by decide +kernel)) ggX8_toss_X8_isNoSlab
set_option maxRecDepth 20000 in
theorem ggX8_toss_X8_of : GoodIn wsX8_toss wsX8_of := goodIn_r _ [34, 11, 12, 35, 36, 37, 38, 16, 39, 18, 40, 41, 42, 43, 44, 45, 46, 47, 48, 49, 50, 51, 52, 71, 72, 73, 74, 75, 76, 77, 78] (by decide +kernel) (by decide +kernel)
set_option maxRecDepth 20000 in
theorem gX8_toss_X8_of : GoodIn wsX8_toss (wsV RX8 64 RX8 yX8_of wsX8_of) := goodIn_app (goodIn_of _ (by decide +kernel)) ggX8_toss_X8_of
set_option maxRecDepth 20000 in
theorem ggX8_toss_X6_isThere : GoodIn wsX8_toss wsX6_isThere := goodIn_r _ [57, 58, 65, 66, 67, 68, 69, 70] (by decide +kernel) (by decide +kernel)
set_option maxRecDepth 20000 in
theorem gX8_toss_X6_isThere : GoodIn wsX8_toss (wsV RX8 75 RX6 yX6_isThere wsX6_isThere) := goodIn_app (goodIn_of _ (by decide +kernel)) ggX8_toss_X6_isThere
set_option maxRecDepth 20000 in
theorem ggX8_toss_X8_refuse : GoodIn wsX8_toss wsX8_refuse := goodIn_r _ [30, 26, 71, 72] (by decide +kernel) (by decide +kernel)
set_option maxRecDepth 20000 in
theorem gX8_toss_X8_refuse : GoodIn wsX8_toss (wsV RX8 20 RX8 yX8_refuse wsX8_refuse) := goodIn_app (goodIn_of _ (by decide +kernel)) ggX8_toss_X8_refuse
set_option maxRecDepth 20000 in
theorem ggX8_toss_X6_area : GoodIn wsX8_toss wsX6_area := goodIn_r _ [62, 63, 64, 65, 66, 67, 68, 69, 70] (by decide +kernel) (by decide +kernel)
set_option maxRecDepth 20000 in
theorem gX8_toss_X6_area : GoodIn wsX8_toss (wsV RX8 96 RX6 yX6_area wsX6_area) := goodIn_app (goodIn_of _ (by decide +kernel)) ggX8_toss_X6_area
theorem dX8_toss_0 : decode cX8_toss 0 = .ok (.aload_n 0, 1) := by decide +kernel
theorem dX8_toss_1 : decode cX8_toss 1 = .ok (.iload_n 1, 1) := by decide +kernel
theorem dX8_toss_2 : decode cX8_toss 2 = .ok (.invokevirtual 61, 3) := by decide +kernel
theorem dX8_toss_5 : decode cX8_toss 5 = .ok (.ifCond .ne 27, 3) := by decide +kernel
theorem dX8_toss_8 : decode cX8_toss 8 = .ok (.aload_n 0, 1) := by decide +kernel
theorem dX8_toss_9 : decode cX8_toss 9 = .ok (.aload_n 0, 1) := by decide +kernel
theorem dX8_toss_10 : decode cX8_toss 10 = .ok (.iload_n 1, 1) := by decide +kernel
theorem dX8_toss_11 : decode cX8_toss 11 = .ok (.invokevirtual 64, 3) := by decide +kernel
theorem dX8_toss_14 : decode cX8_toss 14 = .ok (.invokevirtual 75, 3) := by decide +kernel
theorem dX8_toss_17 : decode cX8_toss 17 = .ok (.ifCond .ne 7, 3) := by decide +kernel
theorem dX8_toss_20 : decode cX8_toss 20 = .ok (.iconst 1, 1) := by decide +kernel
theorem dX8_toss_21 : decode cX8_toss 21 = .ok (.goto 4, 3) := by decide +kernel
theorem dX8_toss_24 : decode cX8_toss 24 = .ok (.iconst 0, 1) := by decide +kernel
theorem dX8_toss_25 : decode cX8_toss 25 = .ok (.iconst 2, 1) := by decide +kernel
theorem dX8_toss_26 : decode cX8_toss 26 = .ok (.invokevirtual 20, 3) := by decide +kernel
theorem dX8_toss_29 : decode cX8_toss 29 = .ok (.ifCond .eq 5, 3) := by decide +kernel
theorem dX8_toss_32 : decode cX8_toss 32 = .ok (.iconst 0, 1) := by decide +kernel
theorem dX8_toss_33 : decode cX8_toss 33 = .ok (.ireturn, 1) := by decide +kernel
theorem dX8_toss_34 : decode cX8_toss 34 = .ok (.aload_n 0, 1) := by decide +kernel
theorem dX8_toss_35 : decode cX8_toss 35 = .ok (.iload_n 1, 1) := by decide +kernel
theorem dX8_toss_36 : decode cX8_toss 36 = .ok (.invokevirtual 64, 3) := by decide +kernel
theorem dX8_toss_39 : decode cX8_toss 39 = .ok (.iconst 3, 1) := by decide +kernel
theorem dX8_toss_40 : decode cX8_toss 40 = .ok (.putfield 93, 3) := by decide +kernel
theorem dX8_toss_43 : decode cX8_toss 43 = .ok (.aload_n 0, 1) := by decide +kernel
theorem dX8_toss_44 : decode cX8_toss 44 = .ok (.iload_n 1, 1) := by decide +kernel
theorem dX8_toss_45 : decode cX8_toss 45 = .ok (.invokevirtual 64, 3) := by decide +kernel
theorem dX8_toss_48 : decode cX8_toss 48 = .ok (.invokevirtual 96, 3) := by decide +kernel
theorem dX8_toss_51 : decode cX8_toss 51 = .ok (.ireturn, 1) := by decide +kernel
set_option maxRecDepth 20000 in
theorem ggX8_of__Jx4a65c_size_8abf5 : GoodIn wsX8_of_ wsJx4a65c_size_8abf5 := goodIn_r _ [12, 13, 20, 21, 22] (by decide +kernel) (by decide +kernel)
set_option maxRecDepth 20000 in
theorem gX8_of__Jx4a65c_size_8abf5 : GoodIn wsX8_of_ (wsV RX8 32 RJx4a65c yJx4a65c_size_8abf5 wsJx4a65c_size_8abf5) := goodIn_app (goodIn_of _ (by decide +kernel)) ggX8_of__Jx4a65c_size_8abf5
theorem dX8_of__0 : decode cX8_of_ 0 = .ok (.bipush 6, 2) := by decide +kernel
theorem dX8_of__2 : decode cX8_of_ 2 = .ok (.newarray .int, 2) := by decide +kernel
theorem dX8_of__4 : decode cX8_of_ 4 = .ok (.dup, 1) := by decide +kernel
theorem dX8_of__5 : decode cX8_of_ 5 = .ok (.iconst 0, 1) := by decide +kernel
theorem dX8_of__6 : decode cX8_of_ 6 = .ok (.aload_n 0, 1) := by decide +kernel
theorem dX8_of__7 : decode cX8_of_ 7 = .ok (.getfield 99, 3) := by decide +kernel
theorem dX8_of__10 : decode cX8_of_ 10 = .ok (.iastore, 1) := by decide +kernel
theorem dX8_of__11 : decode cX8_of_ 11 = .ok (.dup, 1) := by decide +kernel
theorem dX8_of__12 : decode cX8_of_ 12 = .ok (.iconst 1, 1) := by decide +kernel
theorem dX8_of__13 : decode cX8_of_ 13 = .ok (.aload_n 0, 1) := by decide +kernel
theorem dX8_of__14 : decode cX8_of_ 14 = .ok (.getfield 102, 3) := by decide +kernel
theorem dX8_of__17 : decode cX8_of_ 17 = .ok (.iastore, 1) := by decide +kernel
theorem dX8_of__18 : decode cX8_of_ 18 = .ok (.dup, 1) := by decide +kernel
theorem dX8_of__19 : decode cX8_of_ 19 = .ok (.iconst 2, 1) := by decide +kernel
theorem dX8_of__20 : decode cX8_of_ 20 = .ok (.aload_n 0, 1) := by decide +kernel
theorem dX8_of__21 : decode cX8_of_ 21 = .ok (.getfield 105, 3) := by decide +kernel
theorem dX8_of__24 : decode cX8_of_ 24 = .ok (.iastore, 1) := by decide +kernel
theorem dX8_of__25 : decode cX8_of_ 25 = .ok (.dup, 1) := by decide +kernel
theorem dX8_of__26 : decode cX8_of_ 26 = .ok (.iconst 3, 1) := by decide +kernel
theorem dX8_of__27 : decode cX8_of_ 27 = .ok (.aload_n 0, 1) := by decide +kernel
theorem dX8_of__28 : decode cX8_of_ 28 = .ok (.getfield 79, 3) := by decide +kernel
theorem dX8_of__31 : decode cX8_of_ 31 = .ok (.invokevirtual 32, 3) := by decide +kernel
theorem dX8_of__34 : decode cX8_of_ 34 = .ok (.iastore, 1) := by decide +kernel
theorem dX8_of__35 : decode cX8_of_ 35 = .ok (.dup, 1) := by decide +kernel
theorem dX8_of__36 : decode cX8_of_ 36 = .ok (.iconst 4, 1) := by decide +kernel
theorem dX8_of__37 : decode cX8_of_ 37 = .ok (.aload_n 0, 1) := by decide +kernel
theorem dX8_of__38 : decode cX8_of_ 38 = .ok (.getfield 108, 3) := by decide +kernel
theorem dX8_of__41 : decode cX8_of_ 41 = .ok (.iastore, 1) := by decide +kernel
theorem dX8_of__42 : decode cX8_of_ 42 = .ok (.dup, 1) := by decide +kernel
theorem dX8_of__43 : decode cX8_of_ 43 = .ok (.iconst 5, 1) := by decide +kernel
theorem dX8_of__44 : decode cX8_of_ 44 = .ok (.aload_n 0, 1) := by decide +kernel
theorem dX8_of__45 : decode cX8_of_ 45 = .ok (.getfield 93, 3) := by decide +kernel
theorem dX8_of__48 : decode cX8_of_ 48 = .ok (.iastore, 1) := by decide +kernel
theorem dX8_of__49 : decode cX8_of_ 49 = .ok (.astore_n 2, 1) := by decide +kernel
theorem dX8_of__50 : decode cX8_of_ 50 = .ok (.aload_n 2, 1) := by decide +kernel
theorem dX8_of__51 : decode cX8_of_ 51 = .ok (.iload_n 1, 1) := by decide +kernel
theorem dX8_of__52 : decode cX8_of_ 52 = .ok (.iaload, 1) := by decide +kernel
theorem dX8_of__53 : decode cX8_of_ 53 = .ok (.ireturn, 1) := by decide +kernel
set_option maxRecDepth 20000 in
theorem ggX8_ofSlab_X8_isNoSlab : GoodIn wsX8_ofSlab wsX8_isNoSlab := goodIn_r _ [5, 6, 7, 8, 4, 9, 10, 11, 12, 13, 14, 15, 16, 17, 18, 19, 20, 21, 22, 23, 24, 25, 26, 27, 28, 29, 62, 63, 64, 65, 66, 67, 68, 69] (by decide +kernel) (by decide +kernel)
set_option maxRecDepth 20000 in
theorem gX8_ofSlab_X8_isNoSlab : GoodIn wsX8_ofSlab (wsV RX8 61 RX8 yX8_isNoSlab wsX8_isNoSlab) := goodIn_app (goodIn_of _ (by decide +kernel)) ggX8_ofSlab_X8_isNoSlab
set_option maxRecDepth 20000 in
theorem ggX8_ofSlab_X8_isIn : GoodIn wsX8_ofSlab wsX8_isIn := goodIn_r _ [20] (by decide +kernel) (by decide +kernel)
set_option maxRecDepth 20000 in
theorem gX8_ofSlab_X8_isIn : GoodIn wsX8_ofSlab (va_wsS RX8 24 yX8_isIn wsX8_isIn) := goodIn_app (goodIn_of _ (by decide +kernel)) ggX8_ofSlab_X8_isIn
set_option maxRecDepth 20000 in
theorem ggX8_ofSlab_X8_refuse : GoodIn wsX8_ofSlab wsX8_refuse := goodIn_r _ [29, 25, 62, 63] (by decide +kernel) (by decide +kernel)
set_option maxRecDepth 20000 in
theorem gX8_ofSlab_X8_refuse : GoodIn wsX8_ofSlab (wsV RX8 20 RX8 yX8_refuse wsX8_refuse) := goodIn_app (goodIn_of _ (by decide +kernel)) ggX8_ofSlab_X8_refuse
set_option maxRecDepth 20000 in
theorem ggX8_ofSlab_X8_of : GoodIn wsX8_ofSlab wsX8_of := goodIn_r _ [33, 10, 11, 34, 35, 36, 37, 15, 38, 17, 39, 40, 41, 42, 43, 44, 45, 46, 47, 48, 49, 50, 51, 62, 63, 64, 65, 66, 67, 68, 69] (by decide +kernel) (by decide +kernel)
set_option maxRecDepth 20000 in
theorem gX8_ofSlab_X8_of : GoodIn wsX8_ofSlab (wsV RX8 64 RX8 yX8_of wsX8_of) := goodIn_app (goodIn_of _ (by decide +kernel)) ggX8_ofSlab_X8_of
set_option maxRecDepth 20000 in
theorem ggX8_ofSlab_X8_of_ : GoodIn wsX8_ofSlab wsX8_of_ := goodIn_r _ [54, 55, 56, 57, 58, 59, 60, 61, 12, 13, 14, 15, 16, 17, 70, 71, 72, 73, 74, 75, 67, 68, 69] (by decide +kernel) (by decide +kernel)
set_option maxRecDepth 20000 in
theorem gX8_ofSlab_X8_of_ : GoodIn wsX8_ofSlab (va_wsS RX8 111 yX8_of_ wsX8_of_) := goodIn_app (goodIn_of _ (by decide +kernel)) ggX8_ofSlab_X8_of_
theorem dX8_ofSlab_0 : decode cX8_ofSlab 0 = .ok (.aload_n 0, 1) := by decide +kernel
theorem dX8_ofSlab_1 : decode cX8_ofSlab 1 = .ok (.iload_n 1, 1) := by decide +kernel
theorem dX8_ofSlab_2 : decode cX8_ofSlab 2 = .ok (.invokevirtual 61, 3) := by decide +kernel
theorem dX8_ofSlab_5 : decode cX8_ofSlab 5 = .ok (.ifCond .ne 25, 3) := by decide +kernel
theorem dX8_ofSlab_8 : decode cX8_ofSlab 8 = .ok (.aload_n 0, 1) := by decide +kernel
theorem dX8_ofSlab_9 : decode cX8_ofSlab 9 = .ok (.iload_n 2, 1) := by decide +kernel
theorem dX8_ofSlab_10 : decode cX8_ofSlab 10 = .ok (.iconst 0, 1) := by decide +kernel
theorem dX8_ofSlab_11 : decode cX8_ofSlab 11 = .ok (.iconst 5, 1) := by decide +kernel
theorem dX8_ofSlab_12 : decode cX8_ofSlab 12 = .ok (.invokestatic 24, 3) := by decide +kernel
theorem dX8_ofSlab_15 : decode cX8_ofSlab 15 = .ok (.ifCond .ne 7, 3) := by decide +kernel
theorem dX8_ofSlab_18 : decode cX8_ofSlab 18 = .ok (.iconst 1, 1) := by decide +kernel
theorem dX8_ofSlab_19 : decode cX8_ofSlab 19 = .ok (.goto 4, 3) := by decide +kernel
theorem dX8_ofSlab_22 : decode cX8_ofSlab 22 = .ok (.iconst 0, 1) := by decide +kernel
theorem dX8_ofSlab_23 : decode cX8_ofSlab 23 = .ok (.iconst 2, 1) := by decide +kernel
theorem dX8_ofSlab_24 : decode cX8_ofSlab 24 = .ok (.invokevirtual 20, 3) := by decide +kernel
theorem dX8_ofSlab_27 : decode cX8_ofSlab 27 = .ok (.ifCond .eq 7, 3) := by decide +kernel
theorem dX8_ofSlab_30 : decode cX8_ofSlab 30 = .ok (.iconst 0, 1) := by decide +kernel
theorem dX8_ofSlab_31 : decode cX8_ofSlab 31 = .ok (.goto 12, 3) := by decide +kernel
theorem dX8_ofSlab_34 : decode cX8_ofSlab 34 = .ok (.aload_n 0, 1) := by decide +kernel
theorem dX8_ofSlab_35 : decode cX8_ofSlab 35 = .ok (.iload_n 1, 1) := by decide +kernel
theorem dX8_ofSlab_36 : decode cX8_ofSlab 36 = .ok (.invokevirtual 64, 3) := by decide +kernel
theorem dX8_ofSlab_39 : decode cX8_ofSlab 39 = .ok (.iload_n 2, 1) := by decide +kernel
theorem dX8_ofSlab_40 : decode cX8_ofSlab 40 = .ok (.invokestatic 111, 3) := by decide +kernel
theorem dX8_ofSlab_43 : decode cX8_ofSlab 43 = .ok (.ireturn, 1) := by decide +kernel
set_option maxRecDepth 20000 in
theorem ggX8_flawsAt_X8_isNoPoint : GoodIn wsX8_flawsAt wsX8_isNoPoint := goodIn_r _ [5, 6, 7, 8, 4, 9, 10, 11, 12, 13, 14, 15, 16, 17, 18, 19, 20, 21, 22, 23, 24, 25, 26, 27, 28, 29, 30, 31, 32, 33, 34, 35, 36, 37, 38, 39, 40, 41, 42, 43, 44, 45, 46, 47, 48, 49, 50, 51, 52, 53, 54, 55, 56, 57, 58, 59, 60, 61, 62, 71, 72, 73, 74, 75, 76, 77, 78, 79, 80, 81, 82, 83, 84] (by decide +kernel) (by decide +kernel)
set_option maxRecDepth 20000 in
theorem gX8_flawsAt_X8_isNoPoint : GoodIn wsX8_flawsAt (wsV RX8 72 RX8 yX8_isNoPoint wsX8_isNoPoint) := goodIn_app (goodIn_of _ (by decide +kernel)) ggX8_flawsAt_X8_isNoPoint
set_option maxRecDepth 20000 in
theorem ggX8_flawsAt_X8_of : GoodIn wsX8_flawsAt wsX8_of := goodIn_r _ [37, 14, 15, 38, 39, 40, 41, 19, 42, 21, 43, 44, 45, 46, 47, 48, 49, 50, 51, 52, 53, 54, 55, 71, 72, 73, 74, 75, 76, 77, 78] (by decide +kernel) (by decide +kernel)
set_option maxRecDepth 20000 in
theorem gX8_flawsAt_X8_of : GoodIn wsX8_flawsAt (wsV RX8 64 RX8 yX8_of wsX8_of) := goodIn_app (goodIn_of _ (by decide +kernel)) ggX8_flawsAt_X8_of
set_option maxRecDepth 20000 in
theorem ggX8_flawsAt_X6_at : GoodIn wsX8_flawsAt wsX6_at := goodIn_r _ [66, 67, 68, 69, 17, 18, 19, 20, 21, 70, 40, 41, 42, 43, 44, 45, 46, 47, 48, 49, 50, 51, 52, 53, 54, 55, 79, 80, 81, 82, 83, 84, 76, 77, 78] (by decide +kernel) (by decide +kernel)
set_option maxRecDepth 20000 in
theorem gX8_flawsAt_X6_at : GoodIn wsX8_flawsAt (wsV RX8 114 RX6 yX6_at wsX6_at) := goodIn_app (goodIn_of _ (by decide +kernel)) ggX8_flawsAt_X6_at
theorem dX8_flawsAt_0 : decode cX8_flawsAt 0 = .ok (.aload_n 0, 1) := by decide +kernel
theorem dX8_flawsAt_1 : decode cX8_flawsAt 1 = .ok (.iload_n 1, 1) := by decide +kernel
theorem dX8_flawsAt_2 : decode cX8_flawsAt 2 = .ok (.iload_n 2, 1) := by decide +kernel
theorem dX8_flawsAt_3 : decode cX8_flawsAt 3 = .ok (.iload_n 3, 1) := by decide +kernel
theorem dX8_flawsAt_4 : decode cX8_flawsAt 4 = .ok (.invokevirtual 72, 3) := by decide +kernel
theorem dX8_flawsAt_7 : decode cX8_flawsAt 7 = .ok (.ifCond .eq 7, 3) := by decide +kernel
theorem dX8_flawsAt_10 : decode cX8_flawsAt 10 = .ok (.iconst 0, 1) := by decide +kernel
theorem dX8_flawsAt_11 : decode cX8_flawsAt 11 = .ok (.goto 13, 3) := by decide +kernel
theorem dX8_flawsAt_14 : decode cX8_flawsAt 14 = .ok (.aload_n 0, 1) := by decide +kernel
theorem dX8_flawsAt_15 : decode cX8_flawsAt 15 = .ok (.iload_n 1, 1) := by decide +kernel
theorem dX8_flawsAt_16 : decode cX8_flawsAt 16 = .ok (.invokevirtual 64, 3) := by decide +kernel
theorem dX8_flawsAt_19 : decode cX8_flawsAt 19 = .ok (.iload_n 2, 1) := by decide +kernel
theorem dX8_flawsAt_20 : decode cX8_flawsAt 20 = .ok (.iload_n 3, 1) := by decide +kernel
theorem dX8_flawsAt_21 : decode cX8_flawsAt 21 = .ok (.invokevirtual 114, 3) := by decide +kernel
theorem dX8_flawsAt_24 : decode cX8_flawsAt 24 = .ok (.ireturn, 1) := by decide +kernel
set_option maxRecDepth 20000 in
theorem ggX8_root_X8_isNoSlab : GoodIn wsX8_root wsX8_isNoSlab := goodIn_r _ [6, 7, 8, 9, 5, 10, 11, 12, 13, 14, 15, 16, 17, 18, 19, 20, 21, 22, 23, 24, 25, 26, 27, 28, 29, 30, 59, 60, 61, 62, 63, 64, 65, 66] (by decide +kernel) (by decide +kernel)
set_option maxRecDepth 20000 in
theorem gX8_root_X8_isNoSlab : GoodIn wsX8_root (wsV RX8 61 RX8 yX8_isNoSlab wsX8_isNoSlab) := goodIn_app (goodIn_of _ (by decide +kernel)) ggX8_root_X8_isNoSlab
set_option maxRecDepth 20000 in
theorem ggX8_root_X8_of : GoodIn wsX8_root wsX8_of := goodIn_r _ [34, 11, 12, 35, 36, 37, 38, 16, 39, 18, 40, 41, 42, 43, 44, 45, 46, 47, 48, 49, 50, 51, 52, 59, 60, 61, 62, 63, 64, 65, 66] (by decide +kernel) (by decide +kernel)
set_option maxRecDepth 20000 in
theorem gX8_root_X8_of : GoodIn wsX8_root (wsV RX8 64 RX8 yX8_of wsX8_of) := goodIn_app (goodIn_of _ (by decide +kernel)) ggX8_root_X8_of
theorem dX8_root_0 : decode cX8_root 0 = .ok (.aload_n 0, 1) := by decide +kernel
theorem dX8_root_1 : decode cX8_root 1 = .ok (.iload_n 1, 1) := by decide +kernel
theorem dX8_root_2 : decode cX8_root 2 = .ok (.invokevirtual 61, 3) := by decide +kernel
theorem dX8_root_5 : decode cX8_root 5 = .ok (.ifCond .eq 5, 3) := by decide +kernel
theorem dX8_root_8 : decode cX8_root 8 = .ok (.iconst 0, 1) := by decide +kernel
theorem dX8_root_9 : decode cX8_root 9 = .ok (.ireturn, 1) := by decide +kernel
theorem dX8_root_10 : decode cX8_root 10 = .ok (.iload_n 1, 1) := by decide +kernel
theorem dX8_root_11 : decode cX8_root 11 = .ok (.istore_n 2, 1) := by decide +kernel
theorem dX8_root_12 : decode cX8_root 12 = .ok (.aload_n 0, 1) := by decide +kernel
theorem dX8_root_13 : decode cX8_root 13 = .ok (.iload_n 2, 1) := by decide +kernel
theorem dX8_root_14 : decode cX8_root 14 = .ok (.invokevirtual 64, 3) := by decide +kernel
theorem dX8_root_17 : decode cX8_root 17 = .ok (.getfield 108, 3) := by decide +kernel
theorem dX8_root_20 : decode cX8_root 20 = .ok (.iconst (-1), 1) := by decide +kernel
theorem dX8_root_21 : decode cX8_root 21 = .ok (.if_icmp .eq 15, 3) := by decide +kernel
theorem dX8_root_24 : decode cX8_root 24 = .ok (.aload_n 0, 1) := by decide +kernel
theorem dX8_root_25 : decode cX8_root 25 = .ok (.iload_n 2, 1) := by decide +kernel
theorem dX8_root_26 : decode cX8_root 26 = .ok (.invokevirtual 64, 3) := by decide +kernel
theorem dX8_root_29 : decode cX8_root 29 = .ok (.getfield 108, 3) := by decide +kernel
theorem dX8_root_32 : decode cX8_root 32 = .ok (.istore_n 2, 1) := by decide +kernel
theorem dX8_root_33 : decode cX8_root 33 = .ok (.goto (-21), 3) := by decide +kernel
theorem dX8_root_36 : decode cX8_root 36 = .ok (.iload_n 2, 1) := by decide +kernel
theorem dX8_root_37 : decode cX8_root 37 = .ok (.ireturn, 1) := by decide +kernel
set_option maxRecDepth 20000 in
theorem ggX8_kind_X8_isIn : GoodIn wsX8_kind wsX8_isIn := goodIn_r _ [9] (by decide +kernel) (by decide +kernel)
set_option maxRecDepth 20000 in
theorem gX8_kind_X8_isIn : GoodIn wsX8_kind (va_wsS RX8 24 yX8_isIn wsX8_isIn) := goodIn_app (goodIn_of _ (by decide +kernel)) ggX8_kind_X8_isIn
set_option maxRecDepth 20000 in
theorem ggX8_kind_X8_start : GoodIn wsX8_kind wsX8_start := goodIn_r _ [13, 14, 15, 16, 17, 8, 18, 88, 89] (by decide +kernel) (by decide +kernel)
set_option maxRecDepth 20000 in
theorem gX8_kind_X8_start : GoodIn wsX8_kind (wsV RX8 42 RX8 yX8_start wsX8_start) := goodIn_app (goodIn_of _ (by decide +kernel)) ggX8_kind_X8_start
set_option maxRecDepth 20000 in
theorem ggX8_kind_Jx4a65c_size_8abf5 : GoodIn wsX8_kind wsJx4a65c_size_8abf5 := goodIn_r _ [23, 24, 101, 102, 103] (by decide +kernel) (by decide +kernel)
set_option maxRecDepth 20000 in
theorem gX8_kind_Jx4a65c_size_8abf5 : GoodIn wsX8_kind (wsV RX8 32 RJx4a65c yJx4a65c_size_8abf5 wsJx4a65c_size_8abf5) := goodIn_app (goodIn_of _ (by decide +kernel)) ggX8_kind_Jx4a65c_size_8abf5
set_option maxRecDepth 20000 in
theorem ggX8_kind_X8_refuse : GoodIn wsX8_kind wsX8_refuse := goodIn_r _ [18, 14, 88, 89] (by decide +kernel) (by decide +kernel)
set_option maxRecDepth 20000 in
theorem gX8_kind_X8_refuse : GoodIn wsX8_kind (wsV RX8 20 RX8 yX8_refuse wsX8_refuse) := goodIn_app (goodIn_of _ (by decide +kernel)) ggX8_kind_X8_refuse
set_option maxRecDepth 20000 in
theorem ggX8_kind_X5_init : GoodIn wsX8_kind wsX5_init := goodIn_r _ [27, 28, 29, 30, 31, 32, 33, 93, 94, 95, 96, 97, 98, 99, 100] (by decide +kernel) (by decide +kernel)
set_option maxRecDepth 20000 in
theorem gX8_kind_X5_init : GoodIn wsX8_kind (wsX5_init) := ggX8_kind_X5_init
set_option maxRecDepth 20000 in
theorem ggX8_kind_Jx4a65c_add_9ea2d : GoodIn wsX8_kind wsJx4a65c_add_9ea2d := goodIn_r _ [37, 38, 39, 40, 24, 41, 42, 43, 22, 44, 45, 46, 47, 48, 49, 50, 51, 52, 53, 54, 55, 56, 57, 58, 59, 60, 61, 62, 63, 64, 65, 66, 67, 68, 69, 70, 71, 72, 73, 74, 75, 76, 77, 78, 79, 80, 81, 82, 83, 84, 85, 86, 87, 101, 102, 103] (by decide +kernel) (by decide +kernel)
set_option maxRecDepth 20000 in
theorem gX8_kind_Jx4a65c_add_9ea2d : GoodIn wsX8_kind (wsV RX8 57 RJx4a65c yJx4a65c_add_9ea2d wsJx4a65c_add_9ea2d) := goodIn_app (goodIn_of _ (by decide +kernel)) ggX8_kind_Jx4a65c_add_9ea2d
theorem dX8_kind_0 : decode cX8_kind 0 = .ok (.aload_n 0, 1) := by decide +kernel
theorem dX8_kind_1 : decode cX8_kind 1 = .ok (.iload_n 1, 1) := by decide +kernel
theorem dX8_kind_2 : decode cX8_kind 2 = .ok (.iconst 1, 1) := by decide +kernel
theorem dX8_kind_3 : decode cX8_kind 3 = .ok (.bipush 24, 2) := by decide +kernel
theorem dX8_kind_5 : decode cX8_kind 5 = .ok (.invokestatic 24, 3) := by decide +kernel
theorem dX8_kind_8 : decode cX8_kind 8 = .ok (.ifCond .eq 24, 3) := by decide +kernel
theorem dX8_kind_11 : decode cX8_kind 11 = .ok (.iload_n 2, 1) := by decide +kernel
theorem dX8_kind_12 : decode cX8_kind 12 = .ok (.iconst 1, 1) := by decide +kernel
theorem dX8_kind_13 : decode cX8_kind 13 = .ok (.bipush 24, 2) := by decide +kernel
theorem dX8_kind_15 : decode cX8_kind 15 = .ok (.invokestatic 24, 3) := by decide +kernel
theorem dX8_kind_18 : decode cX8_kind 18 = .ok (.ifCond .eq 14, 3) := by decide +kernel
theorem dX8_kind_21 : decode cX8_kind 21 = .ok (.iload_n 3, 1) := by decide +kernel
theorem dX8_kind_22 : decode cX8_kind 22 = .ok (.iconst 1, 1) := by decide +kernel
theorem dX8_kind_23 : decode cX8_kind 23 = .ok (.sipush 999, 3) := by decide +kernel
theorem dX8_kind_26 : decode cX8_kind 26 = .ok (.invokestatic 24, 3) := by decide +kernel
theorem dX8_kind_29 : decode cX8_kind 29 = .ok (.ifCond .ne 7, 3) := by decide +kernel
theorem dX8_kind_32 : decode cX8_kind 32 = .ok (.iconst 1, 1) := by decide +kernel
theorem dX8_kind_33 : decode cX8_kind 33 = .ok (.goto 4, 3) := by decide +kernel
theorem dX8_kind_36 : decode cX8_kind 36 = .ok (.iconst 0, 1) := by decide +kernel
theorem dX8_kind_37 : decode cX8_kind 37 = .ok (.iconst 1, 1) := by decide +kernel
theorem dX8_kind_38 : decode cX8_kind 38 = .ok (.invokevirtual 42, 3) := by decide +kernel
theorem dX8_kind_41 : decode cX8_kind 41 = .ok (.ifCond .ne 31, 3) := by decide +kernel
theorem dX8_kind_44 : decode cX8_kind 44 = .ok (.aload_n 0, 1) := by decide +kernel
theorem dX8_kind_45 : decode cX8_kind 45 = .ok (.aload_n 0, 1) := by decide +kernel
theorem dX8_kind_46 : decode cX8_kind 46 = .ok (.getfield 10, 3) := by decide +kernel
theorem dX8_kind_49 : decode cX8_kind 49 = .ok (.getfield 118, 3) := by decide +kernel
theorem dX8_kind_52 : decode cX8_kind 52 = .ok (.invokevirtual 32, 3) := by decide +kernel
theorem dX8_kind_55 : decode cX8_kind 55 = .ok (.bipush 6, 2) := by decide +kernel
theorem dX8_kind_57 : decode cX8_kind 57 = .ok (.if_icmp .ne 7, 3) := by decide +kernel
theorem dX8_kind_60 : decode cX8_kind 60 = .ok (.iconst 1, 1) := by decide +kernel
theorem dX8_kind_61 : decode cX8_kind 61 = .ok (.goto 4, 3) := by decide +kernel
theorem dX8_kind_64 : decode cX8_kind 64 = .ok (.iconst 0, 1) := by decide +kernel
theorem dX8_kind_65 : decode cX8_kind 65 = .ok (.iconst 2, 1) := by decide +kernel
theorem dX8_kind_66 : decode cX8_kind 66 = .ok (.invokevirtual 20, 3) := by decide +kernel
theorem dX8_kind_69 : decode cX8_kind 69 = .ok (.ifCond .eq 5, 3) := by decide +kernel
theorem dX8_kind_72 : decode cX8_kind 72 = .ok (.iconst 0, 1) := by decide +kernel
theorem dX8_kind_73 : decode cX8_kind 73 = .ok (.ireturn, 1) := by decide +kernel
theorem dX8_kind_74 : decode cX8_kind 74 = .ok (.aload_n 0, 1) := by decide +kernel
theorem dX8_kind_75 : decode cX8_kind 75 = .ok (.getfield 10, 3) := by decide +kernel
theorem dX8_kind_78 : decode cX8_kind 78 = .ok (.getfield 118, 3) := by decide +kernel
theorem dX8_kind_81 : decode cX8_kind 81 = .ok (.new 121, 3) := by decide +kernel
theorem dX8_kind_84 : decode cX8_kind 84 = .ok (.dup, 1) := by decide +kernel
theorem dX8_kind_85 : decode cX8_kind 85 = .ok (.iload_n 1, 1) := by decide +kernel
theorem dX8_kind_86 : decode cX8_kind 86 = .ok (.iload_n 2, 1) := by decide +kernel
theorem dX8_kind_87 : decode cX8_kind 87 = .ok (.iload_n 3, 1) := by decide +kernel
theorem dX8_kind_88 : decode cX8_kind 88 = .ok (.invokespecial 123, 3) := by decide +kernel
theorem dX8_kind_91 : decode cX8_kind 91 = .ok (.invokevirtual 57, 3) := by decide +kernel
theorem dX8_kind_94 : decode cX8_kind 94 = .ok (.pop, 1) := by decide +kernel
theorem dX8_kind_95 : decode cX8_kind 95 = .ok (.aload_n 0, 1) := by decide +kernel
theorem dX8_kind_96 : decode cX8_kind 96 = .ok (.getfield 10, 3) := by decide +kernel
theorem dX8_kind_99 : decode cX8_kind 99 = .ok (.getfield 118, 3) := by decide +kernel
theorem dX8_kind_102 : decode cX8_kind 102 = .ok (.invokevirtual 32, 3) := by decide +kernel
theorem dX8_kind_105 : decode cX8_kind 105 = .ok (.iconst 1, 1) := by decide +kernel
theorem dX8_kind_106 : decode cX8_kind 106 = .ok (.isub, 1) := by decide +kernel
theorem dX8_kind_107 : decode cX8_kind 107 = .ok (.ireturn, 1) := by decide +kernel
set_option maxRecDepth 20000 in
theorem ggX8_isNoOne_Jx4a65c_size_8abf5 : GoodIn wsX8_isNoOne wsJx4a65c_size_8abf5 := goodIn_r _ [7, 8, 18, 19, 20] (by decide +kernel) (by decide +kernel)
set_option maxRecDepth 20000 in
theorem gX8_isNoOne_Jx4a65c_size_8abf5 : GoodIn wsX8_isNoOne (wsV RX8 32 RJx4a65c yJx4a65c_size_8abf5 wsJx4a65c_size_8abf5) := goodIn_app (goodIn_of _ (by decide +kernel)) ggX8_isNoOne_Jx4a65c_size_8abf5
set_option maxRecDepth 20000 in
theorem ggX8_isNoOne_X8_isIn : GoodIn wsX8_isNoOne wsX8_isIn := goodIn_r _ [12] (by decide +kernel) (by decide +kernel)
set_option maxRecDepth 20000 in
theorem gX8_isNoOne_X8_isIn : GoodIn wsX8_isNoOne (va_wsS RX8 24 yX8_isIn wsX8_isIn) := goodIn_app (goodIn_of _ (by decide +kernel)) ggX8_isNoOne_X8_isIn
theorem dX8_isNoOne_0 : decode cX8_isNoOne 0 = .ok (.iload_n 1, 1) := by decide +kernel
theorem dX8_isNoOne_1 : decode cX8_isNoOne 1 = .ok (.iconst 0, 1) := by decide +kernel
theorem dX8_isNoOne_2 : decode cX8_isNoOne 2 = .ok (.aload_n 0, 1) := by decide +kernel
theorem dX8_isNoOne_3 : decode cX8_isNoOne 3 = .ok (.getfield 10, 3) := by decide +kernel
theorem dX8_isNoOne_6 : decode cX8_isNoOne 6 = .ok (.getfield 118, 3) := by decide +kernel
theorem dX8_isNoOne_9 : decode cX8_isNoOne 9 = .ok (.invokevirtual 32, 3) := by decide +kernel
theorem dX8_isNoOne_12 : decode cX8_isNoOne 12 = .ok (.iconst 1, 1) := by decide +kernel
theorem dX8_isNoOne_13 : decode cX8_isNoOne 13 = .ok (.isub, 1) := by decide +kernel
theorem dX8_isNoOne_14 : decode cX8_isNoOne 14 = .ok (.invokestatic 24, 3) := by decide +kernel
theorem dX8_isNoOne_17 : decode cX8_isNoOne 17 = .ok (.ifCond .ne 7, 3) := by decide +kernel
theorem dX8_isNoOne_20 : decode cX8_isNoOne 20 = .ok (.iconst 1, 1) := by decide +kernel
theorem dX8_isNoOne_21 : decode cX8_isNoOne 21 = .ok (.goto 4, 3) := by decide +kernel
theorem dX8_isNoOne_24 : decode cX8_isNoOne 24 = .ok (.iconst 0, 1) := by decide +kernel
theorem dX8_isNoOne_25 : decode cX8_isNoOne 25 = .ok (.ireturn, 1) := by decide +kernel
set_option maxRecDepth 20000 in
theorem ggX8_isNoKind_X8_isNoOne : GoodIn wsX8_isNoKind wsX8_isNoOne := goodIn_r _ [5, 6, 7, 8, 9, 10, 11, 12, 13, 14, 15, 4, 16, 26, 27, 28, 29, 30, 31, 32, 33] (by decide +kernel) (by decide +kernel)
set_option maxRecDepth 20000 in
theorem gX8_isNoKind_X8_isNoOne : GoodIn wsX8_isNoKind (wsV RX8 126 RX8 yX8_isNoOne wsX8_isNoOne) := goodIn_app (goodIn_of _ (by decide +kernel)) ggX8_isNoKind_X8_isNoOne
set_option maxRecDepth 20000 in
theorem ggX8_isNoKind_X8_start : GoodIn wsX8_isNoKind wsX8_start := goodIn_r _ [20, 21, 22, 23, 24, 4, 25, 26, 27] (by decide +kernel) (by decide +kernel)
set_option maxRecDepth 20000 in
theorem gX8_isNoKind_X8_start : GoodIn wsX8_isNoKind (wsV RX8 42 RX8 yX8_start wsX8_start) := goodIn_app (goodIn_of _ (by decide +kernel)) ggX8_isNoKind_X8_start
theorem dX8_isNoKind_0 : decode cX8_isNoKind 0 = .ok (.aload_n 0, 1) := by decide +kernel
theorem dX8_isNoKind_1 : decode cX8_isNoKind 1 = .ok (.aload_n 0, 1) := by decide +kernel
theorem dX8_isNoKind_2 : decode cX8_isNoKind 2 = .ok (.iload_n 1, 1) := by decide +kernel
theorem dX8_isNoKind_3 : decode cX8_isNoKind 3 = .ok (.invokevirtual 126, 3) := by decide +kernel
theorem dX8_isNoKind_6 : decode cX8_isNoKind 6 = .ok (.iconst 1, 1) := by decide +kernel
theorem dX8_isNoKind_7 : decode cX8_isNoKind 7 = .ok (.invokevirtual 42, 3) := by decide +kernel
theorem dX8_isNoKind_10 : decode cX8_isNoKind 10 = .ok (.ireturn, 1) := by decide +kernel
set_option maxRecDepth 20000 in
theorem ggX8_let_X8_isNoKind : GoodIn wsX8_let wsX8_isNoKind := goodIn_r _ [10, 11, 12, 13, 9, 14, 1, 2, 15, 16, 17, 18, 19, 20, 21, 22, 23, 24, 25, 26, 27, 28, 29, 30, 31, 32, 50, 51, 52, 53, 54, 63, 64, 65] (by decide +kernel) (by decide +kernel)
set_option maxRecDepth 20000 in
theorem gX8_let_X8_isNoKind : GoodIn wsX8_let (wsV RX8 129 RX8 yX8_isNoKind wsX8_isNoKind) := goodIn_app (goodIn_of _ (by decide +kernel)) ggX8_let_X8_isNoKind
set_option maxRecDepth 20000 in
theorem ggX8_let_X8_isIn : GoodIn wsX8_let wsX8_isIn := goodIn_r _ [23] (by decide +kernel) (by decide +kernel)
set_option maxRecDepth 20000 in
theorem gX8_let_X8_isIn : GoodIn wsX8_let (va_wsS RX8 24 yX8_isIn wsX8_isIn) := goodIn_app (goodIn_of _ (by decide +kernel)) ggX8_let_X8_isIn
set_option maxRecDepth 20000 in
theorem ggX8_let_X8_refuse : GoodIn wsX8_let wsX8_refuse := goodIn_r _ [32, 28, 50, 51] (by decide +kernel) (by decide +kernel)
set_option maxRecDepth 20000 in
theorem gX8_let_X8_refuse : GoodIn wsX8_let (wsV RX8 20 RX8 yX8_refuse wsX8_refuse) := goodIn_app (goodIn_of _ (by decide +kernel)) ggX8_let_X8_refuse
set_option maxRecDepth 20000 in
theorem ggX8_let_Jx4a65c_get_915e3 : GoodIn wsX8_let wsJx4a65c_get_915e3 := goodIn_r _ [36, 20, 37, 38, 39, 40, 41, 42, 43, 44, 45, 46, 47, 18, 48, 49, 63, 64, 65] (by decide +kernel) (by decide +kernel)
set_option maxRecDepth 20000 in
theorem gX8_let_Jx4a65c_get_915e3 : GoodIn wsX8_let (wsV RX8 45 RJx4a65c yJx4a65c_get_915e3 wsJx4a65c_get_915e3) := goodIn_app (goodIn_of _ (by decide +kernel)) ggX8_let_Jx4a65c_get_915e3
theorem dX8_let_0 : decode cX8_let 0 = .ok (.aload_n 0, 1) := by decide +kernel
theorem dX8_let_1 : decode cX8_let 1 = .ok (.iload_n 1, 1) := by decide +kernel
theorem dX8_let_2 : decode cX8_let 2 = .ok (.invokevirtual 129, 3) := by decide +kernel
theorem dX8_let_5 : decode cX8_let 5 = .ok (.ifCond .ne 34, 3) := by decide +kernel
theorem dX8_let_8 : decode cX8_let 8 = .ok (.aload_n 0, 1) := by decide +kernel
theorem dX8_let_9 : decode cX8_let 9 = .ok (.iload_n 2, 1) := by decide +kernel
theorem dX8_let_10 : decode cX8_let 10 = .ok (.iconst 0, 1) := by decide +kernel
theorem dX8_let_11 : decode cX8_let 11 = .ok (.iconst 2, 1) := by decide +kernel
theorem dX8_let_12 : decode cX8_let 12 = .ok (.invokestatic 24, 3) := by decide +kernel
theorem dX8_let_15 : decode cX8_let 15 = .ok (.ifCond .eq 12, 3) := by decide +kernel
theorem dX8_let_18 : decode cX8_let 18 = .ok (.iload_n 3, 1) := by decide +kernel
theorem dX8_let_19 : decode cX8_let 19 = .ok (.iconst 0, 1) := by decide +kernel
theorem dX8_let_20 : decode cX8_let 20 = .ok (.iconst 3, 1) := by decide +kernel
theorem dX8_let_21 : decode cX8_let 21 = .ok (.invokestatic 24, 3) := by decide +kernel
theorem dX8_let_24 : decode cX8_let 24 = .ok (.ifCond .ne 7, 3) := by decide +kernel
theorem dX8_let_27 : decode cX8_let 27 = .ok (.iconst 1, 1) := by decide +kernel
theorem dX8_let_28 : decode cX8_let 28 = .ok (.goto 4, 3) := by decide +kernel
theorem dX8_let_31 : decode cX8_let 31 = .ok (.iconst 0, 1) := by decide +kernel
theorem dX8_let_32 : decode cX8_let 32 = .ok (.iconst 2, 1) := by decide +kernel
theorem dX8_let_33 : decode cX8_let 33 = .ok (.invokevirtual 20, 3) := by decide +kernel
theorem dX8_let_36 : decode cX8_let 36 = .ok (.ifCond .eq 5, 3) := by decide +kernel
theorem dX8_let_39 : decode cX8_let 39 = .ok (.iconst 0, 1) := by decide +kernel
theorem dX8_let_40 : decode cX8_let 40 = .ok (.ireturn, 1) := by decide +kernel
theorem dX8_let_41 : decode cX8_let 41 = .ok (.aload_n 0, 1) := by decide +kernel
theorem dX8_let_42 : decode cX8_let 42 = .ok (.getfield 10, 3) := by decide +kernel
theorem dX8_let_45 : decode cX8_let 45 = .ok (.getfield 118, 3) := by decide +kernel
theorem dX8_let_48 : decode cX8_let 48 = .ok (.iload_n 1, 1) := by decide +kernel
theorem dX8_let_49 : decode cX8_let 49 = .ok (.invokevirtual 45, 3) := by decide +kernel
theorem dX8_let_52 : decode cX8_let 52 = .ok (.checkcast 121, 3) := by decide +kernel
theorem dX8_let_55 : decode cX8_let 55 = .ok (.astore 4, 2) := by decide +kernel
theorem dX8_let_57 : decode cX8_let 57 = .ok (.aload 4, 2) := by decide +kernel
theorem dX8_let_59 : decode cX8_let 59 = .ok (.getfield 132, 3) := by decide +kernel
theorem dX8_let_62 : decode cX8_let 62 = .ok (.istore 5, 2) := by decide +kernel
theorem dX8_let_64 : decode cX8_let 64 = .ok (.aload 4, 2) := by decide +kernel
theorem dX8_let_66 : decode cX8_let 66 = .ok (.iload_n 2, 1) := by decide +kernel
theorem dX8_let_67 : decode cX8_let 67 = .ok (.putfield 132, 3) := by decide +kernel
theorem dX8_let_70 : decode cX8_let 70 = .ok (.aload 4, 2) := by decide +kernel
theorem dX8_let_72 : decode cX8_let 72 = .ok (.iload_n 3, 1) := by decide +kernel
theorem dX8_let_73 : decode cX8_let 73 = .ok (.putfield 135, 3) := by decide +kernel
theorem dX8_let_76 : decode cX8_let 76 = .ok (.iload 5, 2) := by decide +kernel
theorem dX8_let_78 : decode cX8_let 78 = .ok (.ireturn, 1) := by decide +kernel
set_option maxRecDepth 20000 in
theorem ggX8_order_X8_isNoKind : GoodIn wsX8_order wsX8_isNoKind := goodIn_r _ [9, 10, 11, 12, 8, 13, 1, 2, 14, 15, 16, 17, 18, 19, 20, 21, 22, 23, 24, 25, 26, 27, 28, 29, 30, 31, 49, 50, 51, 52, 53, 62, 63, 64] (by decide +kernel) (by decide +kernel)
set_option maxRecDepth 20000 in
theorem gX8_order_X8_isNoKind : GoodIn wsX8_order (wsV RX8 129 RX8 yX8_isNoKind wsX8_isNoKind) := goodIn_app (goodIn_of _ (by decide +kernel)) ggX8_order_X8_isNoKind
set_option maxRecDepth 20000 in
theorem ggX8_order_Jx4a65c_get_915e3 : GoodIn wsX8_order wsJx4a65c_get_915e3 := goodIn_r _ [35, 19, 36, 37, 38, 39, 40, 41, 42, 43, 44, 45, 46, 17, 47, 48, 62, 63, 64] (by decide +kernel) (by decide +kernel)
set_option maxRecDepth 20000 in
theorem gX8_order_Jx4a65c_get_915e3 : GoodIn wsX8_order (wsV RX8 45 RJx4a65c yJx4a65c_get_915e3 wsJx4a65c_get_915e3) := goodIn_app (goodIn_of _ (by decide +kernel)) ggX8_order_Jx4a65c_get_915e3
set_option maxRecDepth 20000 in
theorem ggX8_order_X8_isIn : GoodIn wsX8_order wsX8_isIn := goodIn_r _ [22] (by decide +kernel) (by decide +kernel)
set_option maxRecDepth 20000 in
theorem gX8_order_X8_isIn : GoodIn wsX8_order (va_wsS RX8 24 yX8_isIn wsX8_isIn) := goodIn_app (goodIn_of _ (by decide +kernel)) ggX8_order_X8_isIn
set_option maxRecDepth 20000 in
theorem ggX8_order_X8_refuse : GoodIn wsX8_order wsX8_refuse := goodIn_r _ [31, 27, 49, 50] (by decide +kernel) (by decide +kernel)
set_option maxRecDepth 20000 in
theorem gX8_order_X8_refuse : GoodIn wsX8_order (wsV RX8 20 RX8 yX8_refuse wsX8_refuse) := goodIn_app (goodIn_of _ (by decide +kernel)) ggX8_order_X8_refuse
theorem dX8_order_0 : decode cX8_order 0 = .ok (.aload_n 0, 1) := by decide +kernel
theorem dX8_order_1 : decode cX8_order 1 = .ok (.iload_n 1, 1) := by decide +kernel
theorem dX8_order_2 : decode cX8_order 2 = .ok (.invokevirtual 129, 3) := by decide +kernel
theorem dX8_order_5 : decode cX8_order 5 = .ok (.ifCond .ne 44, 3) := by decide +kernel
theorem dX8_order_8 : decode cX8_order 8 = .ok (.aload_n 0, 1) := by decide +kernel
theorem dX8_order_9 : decode cX8_order 9 = .ok (.iload_n 2, 1) := by decide +kernel
theorem dX8_order_10 : decode cX8_order 10 = .ok (.iconst 1, 1) := by decide +kernel
theorem dX8_order_11 : decode cX8_order 11 = .ok (.bipush 20, 2) := by decide +kernel
theorem dX8_order_13 : decode cX8_order 13 = .ok (.aload_n 0, 1) := by decide +kernel
theorem dX8_order_14 : decode cX8_order 14 = .ok (.getfield 10, 3) := by decide +kernel
theorem dX8_order_17 : decode cX8_order 17 = .ok (.getfield 118, 3) := by decide +kernel
theorem dX8_order_20 : decode cX8_order 20 = .ok (.iload_n 1, 1) := by decide +kernel
theorem dX8_order_21 : decode cX8_order 21 = .ok (.invokevirtual 45, 3) := by decide +kernel
theorem dX8_order_24 : decode cX8_order 24 = .ok (.checkcast 121, 3) := by decide +kernel
theorem dX8_order_27 : decode cX8_order 27 = .ok (.getfield 138, 3) := by decide +kernel
theorem dX8_order_30 : decode cX8_order 30 = .ok (.isub, 1) := by decide +kernel
theorem dX8_order_31 : decode cX8_order 31 = .ok (.invokestatic 24, 3) := by decide +kernel
theorem dX8_order_34 : decode cX8_order 34 = .ok (.ifCond .ne 7, 3) := by decide +kernel
theorem dX8_order_37 : decode cX8_order 37 = .ok (.iconst 1, 1) := by decide +kernel
theorem dX8_order_38 : decode cX8_order 38 = .ok (.goto 4, 3) := by decide +kernel
theorem dX8_order_41 : decode cX8_order 41 = .ok (.iconst 0, 1) := by decide +kernel
theorem dX8_order_42 : decode cX8_order 42 = .ok (.iconst 2, 1) := by decide +kernel
theorem dX8_order_43 : decode cX8_order 43 = .ok (.invokevirtual 20, 3) := by decide +kernel
theorem dX8_order_46 : decode cX8_order 46 = .ok (.ifCond .eq 5, 3) := by decide +kernel
theorem dX8_order_49 : decode cX8_order 49 = .ok (.iconst 0, 1) := by decide +kernel
theorem dX8_order_50 : decode cX8_order 50 = .ok (.ireturn, 1) := by decide +kernel
theorem dX8_order_51 : decode cX8_order 51 = .ok (.aload_n 0, 1) := by decide +kernel
theorem dX8_order_52 : decode cX8_order 52 = .ok (.getfield 10, 3) := by decide +kernel
theorem dX8_order_55 : decode cX8_order 55 = .ok (.getfield 118, 3) := by decide +kernel
theorem dX8_order_58 : decode cX8_order 58 = .ok (.iload_n 1, 1) := by decide +kernel
theorem dX8_order_59 : decode cX8_order 59 = .ok (.invokevirtual 45, 3) := by decide +kernel
theorem dX8_order_62 : decode cX8_order 62 = .ok (.checkcast 121, 3) := by decide +kernel
theorem dX8_order_65 : decode cX8_order 65 = .ok (.dup, 1) := by decide +kernel
theorem dX8_order_66 : decode cX8_order 66 = .ok (.getfield 138, 3) := by decide +kernel
theorem dX8_order_69 : decode cX8_order 69 = .ok (.iload_n 2, 1) := by decide +kernel
theorem dX8_order_70 : decode cX8_order 70 = .ok (.iadd, 1) := by decide +kernel
theorem dX8_order_71 : decode cX8_order 71 = .ok (.putfield 138, 3) := by decide +kernel
theorem dX8_order_74 : decode cX8_order 74 = .ok (.aload_n 0, 1) := by decide +kernel
theorem dX8_order_75 : decode cX8_order 75 = .ok (.getfield 10, 3) := by decide +kernel
theorem dX8_order_78 : decode cX8_order 78 = .ok (.getfield 118, 3) := by decide +kernel
theorem dX8_order_81 : decode cX8_order 81 = .ok (.iload_n 1, 1) := by decide +kernel
theorem dX8_order_82 : decode cX8_order 82 = .ok (.invokevirtual 45, 3) := by decide +kernel
theorem dX8_order_85 : decode cX8_order 85 = .ok (.checkcast 121, 3) := by decide +kernel
theorem dX8_order_88 : decode cX8_order 88 = .ok (.getfield 138, 3) := by decide +kernel
theorem dX8_order_91 : decode cX8_order 91 = .ok (.ireturn, 1) := by decide +kernel
theorem dX8_of___0 : decode cX8_of__ 0 = .ok (.bipush 8, 2) := by decide +kernel
theorem dX8_of___2 : decode cX8_of__ 2 = .ok (.newarray .int, 2) := by decide +kernel
theorem dX8_of___4 : decode cX8_of__ 4 = .ok (.dup, 1) := by decide +kernel
theorem dX8_of___5 : decode cX8_of__ 5 = .ok (.iconst 0, 1) := by decide +kernel
theorem dX8_of___6 : decode cX8_of__ 6 = .ok (.aload_n 0, 1) := by decide +kernel
theorem dX8_of___7 : decode cX8_of__ 7 = .ok (.getfield 141, 3) := by decide +kernel
theorem dX8_of___10 : decode cX8_of__ 10 = .ok (.iastore, 1) := by decide +kernel
theorem dX8_of___11 : decode cX8_of__ 11 = .ok (.dup, 1) := by decide +kernel
theorem dX8_of___12 : decode cX8_of__ 12 = .ok (.iconst 1, 1) := by decide +kernel
theorem dX8_of___13 : decode cX8_of__ 13 = .ok (.aload_n 0, 1) := by decide +kernel
theorem dX8_of___14 : decode cX8_of__ 14 = .ok (.getfield 144, 3) := by decide +kernel
theorem dX8_of___17 : decode cX8_of__ 17 = .ok (.iastore, 1) := by decide +kernel
theorem dX8_of___18 : decode cX8_of__ 18 = .ok (.dup, 1) := by decide +kernel
theorem dX8_of___19 : decode cX8_of__ 19 = .ok (.iconst 2, 1) := by decide +kernel
theorem dX8_of___20 : decode cX8_of__ 20 = .ok (.aload_n 0, 1) := by decide +kernel
theorem dX8_of___21 : decode cX8_of__ 21 = .ok (.getfield 132, 3) := by decide +kernel
theorem dX8_of___24 : decode cX8_of__ 24 = .ok (.iastore, 1) := by decide +kernel
theorem dX8_of___25 : decode cX8_of__ 25 = .ok (.dup, 1) := by decide +kernel
theorem dX8_of___26 : decode cX8_of__ 26 = .ok (.iconst 3, 1) := by decide +kernel
theorem dX8_of___27 : decode cX8_of__ 27 = .ok (.aload_n 0, 1) := by decide +kernel
theorem dX8_of___28 : decode cX8_of__ 28 = .ok (.getfield 135, 3) := by decide +kernel
theorem dX8_of___31 : decode cX8_of__ 31 = .ok (.iastore, 1) := by decide +kernel
theorem dX8_of___32 : decode cX8_of__ 32 = .ok (.dup, 1) := by decide +kernel
theorem dX8_of___33 : decode cX8_of__ 33 = .ok (.iconst 4, 1) := by decide +kernel
theorem dX8_of___34 : decode cX8_of__ 34 = .ok (.aload_n 0, 1) := by decide +kernel
theorem dX8_of___35 : decode cX8_of__ 35 = .ok (.getfield 147, 3) := by decide +kernel
theorem dX8_of___38 : decode cX8_of__ 38 = .ok (.iastore, 1) := by decide +kernel
theorem dX8_of___39 : decode cX8_of__ 39 = .ok (.dup, 1) := by decide +kernel
theorem dX8_of___40 : decode cX8_of__ 40 = .ok (.iconst 5, 1) := by decide +kernel
theorem dX8_of___41 : decode cX8_of__ 41 = .ok (.aload_n 0, 1) := by decide +kernel
theorem dX8_of___42 : decode cX8_of__ 42 = .ok (.getfield 138, 3) := by decide +kernel
theorem dX8_of___45 : decode cX8_of__ 45 = .ok (.iastore, 1) := by decide +kernel
theorem dX8_of___46 : decode cX8_of__ 46 = .ok (.dup, 1) := by decide +kernel
theorem dX8_of___47 : decode cX8_of__ 47 = .ok (.bipush 6, 2) := by decide +kernel
theorem dX8_of___49 : decode cX8_of__ 49 = .ok (.aload_n 0, 1) := by decide +kernel
theorem dX8_of___50 : decode cX8_of__ 50 = .ok (.getfield 150, 3) := by decide +kernel
theorem dX8_of___53 : decode cX8_of__ 53 = .ok (.iastore, 1) := by decide +kernel
theorem dX8_of___54 : decode cX8_of__ 54 = .ok (.dup, 1) := by decide +kernel
theorem dX8_of___55 : decode cX8_of__ 55 = .ok (.bipush 7, 2) := by decide +kernel
theorem dX8_of___57 : decode cX8_of__ 57 = .ok (.aload_n 0, 1) := by decide +kernel
theorem dX8_of___58 : decode cX8_of__ 58 = .ok (.getfield 153, 3) := by decide +kernel
theorem dX8_of___61 : decode cX8_of__ 61 = .ok (.iastore, 1) := by decide +kernel
theorem dX8_of___62 : decode cX8_of__ 62 = .ok (.astore_n 2, 1) := by decide +kernel
theorem dX8_of___63 : decode cX8_of__ 63 = .ok (.aload_n 2, 1) := by decide +kernel
theorem dX8_of___64 : decode cX8_of__ 64 = .ok (.iload_n 1, 1) := by decide +kernel
theorem dX8_of___65 : decode cX8_of__ 65 = .ok (.iaload, 1) := by decide +kernel
theorem dX8_of___66 : decode cX8_of__ 66 = .ok (.ireturn, 1) := by decide +kernel
set_option maxRecDepth 20000 in
theorem ggX8_ofKind_X8_isNoKind : GoodIn wsX8_ofKind wsX8_isNoKind := goodIn_r _ [8, 9, 10, 11, 7, 12, 1, 2, 13, 14, 15, 16, 17, 18, 19, 20, 21, 22, 23, 24, 25, 26, 27, 28, 29, 30, 60, 61, 62, 63, 64, 65, 66, 67] (by decide +kernel) (by decide +kernel)
set_option maxRecDepth 20000 in
theorem gX8_ofKind_X8_isNoKind : GoodIn wsX8_ofKind (wsV RX8 129 RX8 yX8_isNoKind wsX8_isNoKind) := goodIn_app (goodIn_of _ (by decide +kernel)) ggX8_ofKind_X8_isNoKind
set_option maxRecDepth 20000 in
theorem ggX8_ofKind_X8_isIn : GoodIn wsX8_ofKind wsX8_isIn := goodIn_r _ [21] (by decide +kernel) (by decide +kernel)
set_option maxRecDepth 20000 in
theorem gX8_ofKind_X8_isIn : GoodIn wsX8_ofKind (va_wsS RX8 24 yX8_isIn wsX8_isIn) := goodIn_app (goodIn_of _ (by decide +kernel)) ggX8_ofKind_X8_isIn
set_option maxRecDepth 20000 in
theorem ggX8_ofKind_X8_refuse : GoodIn wsX8_ofKind wsX8_refuse := goodIn_r _ [30, 26, 60, 61] (by decide +kernel) (by decide +kernel)
set_option maxRecDepth 20000 in
theorem gX8_ofKind_X8_refuse : GoodIn wsX8_ofKind (wsV RX8 20 RX8 yX8_refuse wsX8_refuse) := goodIn_app (goodIn_of _ (by decide +kernel)) ggX8_ofKind_X8_refuse
set_option maxRecDepth 20000 in
theorem ggX8_ofKind_Jx4a65c_get_915e3 : GoodIn wsX8_ofKind wsJx4a65c_get_915e3 := goodIn_r _ [34, 18, 35, 36, 37, 38, 39, 40, 41, 42, 43, 44, 45, 16, 46, 47, 65, 66, 67] (by decide +kernel) (by decide +kernel)
set_option maxRecDepth 20000 in
theorem gX8_ofKind_Jx4a65c_get_915e3 : GoodIn wsX8_ofKind (wsV RX8 45 RJx4a65c yJx4a65c_get_915e3 wsJx4a65c_get_915e3) := goodIn_app (goodIn_of _ (by decide +kernel)) ggX8_ofKind_Jx4a65c_get_915e3
set_option maxRecDepth 20000 in
theorem ggX8_ofKind_X8_of__ : GoodIn wsX8_ofKind wsX8_of__ := goodIn_r _ [50, 51, 52, 53, 54, 55, 56, 57, 58, 59, 68, 69, 70, 71, 72, 73, 74, 75] (by decide +kernel) (by decide +kernel)
set_option maxRecDepth 20000 in
theorem gX8_ofKind_X8_of__ : GoodIn wsX8_ofKind (va_wsS RX8 156 yX8_of__ wsX8_of__) := goodIn_app (goodIn_of _ (by decide +kernel)) ggX8_ofKind_X8_of__
theorem dX8_ofKind_0 : decode cX8_ofKind 0 = .ok (.aload_n 0, 1) := by decide +kernel
theorem dX8_ofKind_1 : decode cX8_ofKind 1 = .ok (.iload_n 1, 1) := by decide +kernel
theorem dX8_ofKind_2 : decode cX8_ofKind 2 = .ok (.invokevirtual 129, 3) := by decide +kernel
theorem dX8_ofKind_5 : decode cX8_ofKind 5 = .ok (.ifCond .ne 26, 3) := by decide +kernel
theorem dX8_ofKind_8 : decode cX8_ofKind 8 = .ok (.aload_n 0, 1) := by decide +kernel
theorem dX8_ofKind_9 : decode cX8_ofKind 9 = .ok (.iload_n 2, 1) := by decide +kernel
theorem dX8_ofKind_10 : decode cX8_ofKind 10 = .ok (.iconst 0, 1) := by decide +kernel
theorem dX8_ofKind_11 : decode cX8_ofKind 11 = .ok (.bipush 7, 2) := by decide +kernel
theorem dX8_ofKind_13 : decode cX8_ofKind 13 = .ok (.invokestatic 24, 3) := by decide +kernel
theorem dX8_ofKind_16 : decode cX8_ofKind 16 = .ok (.ifCond .ne 7, 3) := by decide +kernel
theorem dX8_ofKind_19 : decode cX8_ofKind 19 = .ok (.iconst 1, 1) := by decide +kernel
theorem dX8_ofKind_20 : decode cX8_ofKind 20 = .ok (.goto 4, 3) := by decide +kernel
theorem dX8_ofKind_23 : decode cX8_ofKind 23 = .ok (.iconst 0, 1) := by decide +kernel
theorem dX8_ofKind_24 : decode cX8_ofKind 24 = .ok (.iconst 2, 1) := by decide +kernel
theorem dX8_ofKind_25 : decode cX8_ofKind 25 = .ok (.invokevirtual 20, 3) := by decide +kernel
theorem dX8_ofKind_28 : decode cX8_ofKind 28 = .ok (.ifCond .eq 7, 3) := by decide +kernel
theorem dX8_ofKind_31 : decode cX8_ofKind 31 = .ok (.iconst 0, 1) := by decide +kernel
theorem dX8_ofKind_32 : decode cX8_ofKind 32 = .ok (.goto 21, 3) := by decide +kernel
theorem dX8_ofKind_35 : decode cX8_ofKind 35 = .ok (.aload_n 0, 1) := by decide +kernel
theorem dX8_ofKind_36 : decode cX8_ofKind 36 = .ok (.getfield 10, 3) := by decide +kernel
theorem dX8_ofKind_39 : decode cX8_ofKind 39 = .ok (.getfield 118, 3) := by decide +kernel
theorem dX8_ofKind_42 : decode cX8_ofKind 42 = .ok (.iload_n 1, 1) := by decide +kernel
theorem dX8_ofKind_43 : decode cX8_ofKind 43 = .ok (.invokevirtual 45, 3) := by decide +kernel
theorem dX8_ofKind_46 : decode cX8_ofKind 46 = .ok (.checkcast 121, 3) := by decide +kernel
theorem dX8_ofKind_49 : decode cX8_ofKind 49 = .ok (.iload_n 2, 1) := by decide +kernel
theorem dX8_ofKind_50 : decode cX8_ofKind 50 = .ok (.invokestatic 156, 3) := by decide +kernel
theorem dX8_ofKind_53 : decode cX8_ofKind 53 = .ok (.ireturn, 1) := by decide +kernel
set_option maxRecDepth 20000 in
theorem ggX8_isNoPair_X8_isNo : GoodIn wsX8_isNoPair wsX8_isNo := goodIn_r _ [5, 6, 7, 8, 9, 10, 11, 12, 13, 14, 15, 4, 16, 31, 32, 33, 34, 35, 36, 37, 38] (by decide +kernel) (by decide +kernel)
set_option maxRecDepth 20000 in
theorem gX8_isNoPair_X8_isNo : GoodIn wsX8_isNoPair (wsV RX8 38 RX8 yX8_isNo wsX8_isNo) := goodIn_app (goodIn_of _ (by decide +kernel)) ggX8_isNoPair_X8_isNo
set_option maxRecDepth 20000 in
theorem ggX8_isNoPair_X8_isNoOne : GoodIn wsX8_isNoPair wsX8_isNoOne := goodIn_r _ [20, 6, 21, 8, 9, 10, 11, 12, 13, 14, 15, 4, 16, 31, 32, 33, 34, 35, 36, 37, 38] (by decide +kernel) (by decide +kernel)
set_option maxRecDepth 20000 in
theorem gX8_isNoPair_X8_isNoOne : GoodIn wsX8_isNoPair (wsV RX8 126 RX8 yX8_isNoOne wsX8_isNoOne) := goodIn_app (goodIn_of _ (by decide +kernel)) ggX8_isNoPair_X8_isNoOne
set_option maxRecDepth 20000 in
theorem ggX8_isNoPair_X8_start : GoodIn wsX8_isNoPair wsX8_start := goodIn_r _ [25, 26, 27, 28, 29, 4, 30, 31, 32] (by decide +kernel) (by decide +kernel)
set_option maxRecDepth 20000 in
theorem gX8_isNoPair_X8_start : GoodIn wsX8_isNoPair (wsV RX8 42 RX8 yX8_start wsX8_start) := goodIn_app (goodIn_of _ (by decide +kernel)) ggX8_isNoPair_X8_start
theorem dX8_isNoPair_0 : decode cX8_isNoPair 0 = .ok (.aload_n 0, 1) := by decide +kernel
theorem dX8_isNoPair_1 : decode cX8_isNoPair 1 = .ok (.aload_n 0, 1) := by decide +kernel
theorem dX8_isNoPair_2 : decode cX8_isNoPair 2 = .ok (.iload_n 1, 1) := by decide +kernel
theorem dX8_isNoPair_3 : decode cX8_isNoPair 3 = .ok (.invokevirtual 38, 3) := by decide +kernel
theorem dX8_isNoPair_6 : decode cX8_isNoPair 6 = .ok (.ifCond .ne 11, 3) := by decide +kernel
theorem dX8_isNoPair_9 : decode cX8_isNoPair 9 = .ok (.aload_n 0, 1) := by decide +kernel
theorem dX8_isNoPair_10 : decode cX8_isNoPair 10 = .ok (.iload_n 2, 1) := by decide +kernel
theorem dX8_isNoPair_11 : decode cX8_isNoPair 11 = .ok (.invokevirtual 126, 3) := by decide +kernel
theorem dX8_isNoPair_14 : decode cX8_isNoPair 14 = .ok (.ifCond .eq 7, 3) := by decide +kernel
theorem dX8_isNoPair_17 : decode cX8_isNoPair 17 = .ok (.iconst 1, 1) := by decide +kernel
theorem dX8_isNoPair_18 : decode cX8_isNoPair 18 = .ok (.goto 4, 3) := by decide +kernel
theorem dX8_isNoPair_21 : decode cX8_isNoPair 21 = .ok (.iconst 0, 1) := by decide +kernel
theorem dX8_isNoPair_22 : decode cX8_isNoPair 22 = .ok (.iconst 1, 1) := by decide +kernel
theorem dX8_isNoPair_23 : decode cX8_isNoPair 23 = .ok (.invokevirtual 42, 3) := by decide +kernel
theorem dX8_isNoPair_26 : decode cX8_isNoPair 26 = .ok (.ireturn, 1) := by decide +kernel
set_option maxRecDepth 20000 in
theorem ggX8_fits_X8_isNoPair : GoodIn wsX8_fits wsX8_isNoPair := goodIn_r _ [8, 9, 10, 11, 7, 12, 1, 13, 14, 15, 16, 17, 18, 19, 20, 21, 22, 23, 24, 25, 26, 2, 27, 28, 29, 30, 31, 32, 33, 34, 35, 100, 101, 102, 103, 104, 105, 106, 107] (by decide +kernel) (by decide +kernel)
set_option maxRecDepth 20000 in
theorem gX8_fits_X8_isNoPair : GoodIn wsX8_fits (wsV RX8 159 RX8 yX8_isNoPair wsX8_isNoPair) := goodIn_app (goodIn_of _ (by decide +kernel)) ggX8_fits_X8_isNoPair
set_option maxRecDepth 20000 in
theorem ggX8_fits_Jx4a65c_get_915e3 : GoodIn wsX8_fits wsJx4a65c_get_915e3 := goodIn_r _ [39, 19, 40, 41, 42, 43, 44, 45, 46, 47, 48, 49, 50, 17, 51, 52, 105, 106, 107] (by decide +kernel) (by decide +kernel)
set_option maxRecDepth 20000 in
theorem gX8_fits_Jx4a65c_get_915e3 : GoodIn wsX8_fits (wsV RX8 45 RJx4a65c yJx4a65c_get_915e3 wsJx4a65c_get_915e3) := goodIn_app (goodIn_of _ (by decide +kernel)) ggX8_fits_Jx4a65c_get_915e3
set_option maxRecDepth 20000 in
theorem ggX8_fits_X8_of : GoodIn wsX8_fits wsX8_of := goodIn_r _ [56, 1, 13, 57, 36, 37, 38, 17, 39, 19, 40, 41, 42, 43, 44, 45, 46, 47, 48, 49, 50, 51, 52, 100, 101, 102, 103, 104, 105, 106, 107] (by decide +kernel) (by decide +kernel)
set_option maxRecDepth 20000 in
theorem gX8_fits_X8_of : GoodIn wsX8_fits (wsV RX8 64 RX8 yX8_of wsX8_of) := goodIn_app (goodIn_of _ (by decide +kernel)) ggX8_fits_X8_of
set_option maxRecDepth 20000 in
theorem ggX8_fits_X5_fits : GoodIn wsX8_fits wsX5_fits := goodIn_r _ [62, 63, 64, 65, 66, 67, 68, 69, 70, 71, 72, 73, 74, 75, 61, 76, 77, 78, 79, 80, 81, 82, 83, 84, 85, 86, 87, 88, 89, 90, 91, 92, 93, 94, 95, 96, 97, 98, 15, 16, 17, 18, 19, 99, 37, 38, 39, 40, 41, 42, 43, 44, 45, 46, 47, 48, 49, 50, 51, 52, 108, 109, 110, 111, 112, 113, 114, 115, 116, 117, 118, 119, 120, 121, 105, 106, 107] (by decide +kernel) (by decide +kernel)
set_option maxRecDepth 20000 in
theorem gX8_fits_X5_fits : GoodIn wsX8_fits (wsV RX8 162 RX5 yX5_fits wsX5_fits) := goodIn_app (goodIn_of _ (by decide +kernel)) ggX8_fits_X5_fits
theorem dX8_fits_0 : decode cX8_fits 0 = .ok (.aload_n 0, 1) := by decide +kernel
theorem dX8_fits_1 : decode cX8_fits 1 = .ok (.iload_n 1, 1) := by decide +kernel
theorem dX8_fits_2 : decode cX8_fits 2 = .ok (.iload_n 2, 1) := by decide +kernel
theorem dX8_fits_3 : decode cX8_fits 3 = .ok (.invokevirtual 159, 3) := by decide +kernel
theorem dX8_fits_6 : decode cX8_fits 6 = .ok (.ifCond .eq 7, 3) := by decide +kernel
theorem dX8_fits_9 : decode cX8_fits 9 = .ok (.iconst 0, 1) := by decide +kernel
theorem dX8_fits_10 : decode cX8_fits 10 = .ok (.goto 25, 3) := by decide +kernel
theorem dX8_fits_13 : decode cX8_fits 13 = .ok (.aload_n 0, 1) := by decide +kernel
theorem dX8_fits_14 : decode cX8_fits 14 = .ok (.getfield 10, 3) := by decide +kernel
theorem dX8_fits_17 : decode cX8_fits 17 = .ok (.getfield 118, 3) := by decide +kernel
theorem dX8_fits_20 : decode cX8_fits 20 = .ok (.iload_n 2, 1) := by decide +kernel
theorem dX8_fits_21 : decode cX8_fits 21 = .ok (.invokevirtual 45, 3) := by decide +kernel
theorem dX8_fits_24 : decode cX8_fits 24 = .ok (.checkcast 121, 3) := by decide +kernel
theorem dX8_fits_27 : decode cX8_fits 27 = .ok (.aload_n 0, 1) := by decide +kernel
theorem dX8_fits_28 : decode cX8_fits 28 = .ok (.iload_n 1, 1) := by decide +kernel
theorem dX8_fits_29 : decode cX8_fits 29 = .ok (.invokevirtual 64, 3) := by decide +kernel
theorem dX8_fits_32 : decode cX8_fits 32 = .ok (.invokevirtual 162, 3) := by decide +kernel
theorem dX8_fits_35 : decode cX8_fits 35 = .ok (.ireturn, 1) := by decide +kernel
set_option maxRecDepth 20000 in
theorem ggX8_take_X8_isNoPair : GoodIn wsX8_take wsX8_isNoPair := goodIn_r _ [9, 10, 11, 12, 8, 13, 1, 4, 14, 15, 16, 17, 18, 19, 20, 21, 22, 23, 24, 25, 26, 2, 27, 28, 29, 30, 31, 32, 33, 34, 35, 212, 213, 214, 215, 216, 217, 218, 219] (by decide +kernel) (by decide +kernel)
set_option maxRecDepth 20000 in
theorem gX8_take_X8_isNoPair : GoodIn wsX8_take (wsV RX8 159 RX8 yX8_isNoPair wsX8_isNoPair) := goodIn_app (goodIn_of _ (by decide +kernel)) ggX8_take_X8_isNoPair
set_option maxRecDepth 20000 in
theorem ggX8_take_Jx4a65c_get_915e3 : GoodIn wsX8_take wsJx4a65c_get_915e3 := goodIn_r _ [39, 19, 40, 41, 42, 43, 44, 45, 46, 47, 48, 49, 50, 17, 51, 52, 217, 218, 219] (by decide +kernel) (by decide +kernel)
set_option maxRecDepth 20000 in
theorem gX8_take_Jx4a65c_get_915e3 : GoodIn wsX8_take (wsV RX8 45 RJx4a65c yJx4a65c_get_915e3 wsJx4a65c_get_915e3) := goodIn_app (goodIn_of _ (by decide +kernel)) ggX8_take_Jx4a65c_get_915e3
set_option maxRecDepth 20000 in
theorem ggX8_take_X8_of : GoodIn wsX8_take wsX8_of := goodIn_r _ [56, 1, 4, 57, 36, 37, 38, 17, 39, 19, 40, 41, 42, 43, 44, 45, 46, 47, 48, 49, 50, 51, 52, 212, 213, 214, 215, 216, 217, 218, 219] (by decide +kernel) (by decide +kernel)
set_option maxRecDepth 20000 in
theorem gX8_take_X8_of : GoodIn wsX8_take (wsV RX8 64 RX8 yX8_of wsX8_of) := goodIn_app (goodIn_of _ (by decide +kernel)) ggX8_take_X8_of
set_option maxRecDepth 20000 in
theorem ggX8_take_X5_fits : GoodIn wsX8_take wsX5_fits := goodIn_r _ [62, 63, 64, 65, 66, 67, 68, 69, 70, 71, 72, 73, 74, 75, 61, 76, 77, 78, 79, 80, 81, 82, 83, 84, 85, 86, 87, 88, 89, 90, 91, 92, 93, 94, 95, 96, 97, 98, 15, 16, 17, 18, 19, 99, 37, 38, 39, 40, 41, 42, 43, 44, 45, 46, 47, 48, 49, 50, 51, 52, 220, 221, 222, 223, 224, 225, 226, 227, 228, 229, 230, 231, 232, 233, 217, 218, 219] (by decide +kernel) (by decide +kernel)
set_option maxRecDepth 20000 in
theorem gX8_take_X5_fits : GoodIn wsX8_take (wsV RX8 162 RX5 yX5_fits wsX5_fits) := goodIn_app (goodIn_of _ (by decide +kernel)) ggX8_take_X5_fits
set_option maxRecDepth 20000 in
theorem ggX8_take_Jx4a65c_size_8abf5 : GoodIn wsX8_take wsJx4a65c_size_8abf5 := goodIn_r _ [18, 19, 217, 218, 219] (by decide +kernel) (by decide +kernel)
set_option maxRecDepth 20000 in
theorem gX8_take_Jx4a65c_size_8abf5 : GoodIn wsX8_take (wsV RX8 32 RJx4a65c yJx4a65c_size_8abf5 wsJx4a65c_size_8abf5) := goodIn_app (goodIn_of _ (by decide +kernel)) ggX8_take_Jx4a65c_size_8abf5
set_option maxRecDepth 20000 in
theorem ggX8_take_X8_refuse : GoodIn wsX8_take wsX8_refuse := goodIn_r _ [35, 31, 212, 213] (by decide +kernel) (by decide +kernel)
set_option maxRecDepth 20000 in
theorem gX8_take_X8_refuse : GoodIn wsX8_take (wsV RX8 20 RX8 yX8_refuse wsX8_refuse) := goodIn_app (goodIn_of _ (by decide +kernel)) ggX8_take_X8_refuse
set_option maxRecDepth 20000 in
theorem ggX8_take_X7_take : GoodIn wsX8_take wsX7_take := goodIn_r _ [104, 105, 106, 107, 108, 109, 110, 111, 112, 113, 114, 115, 116, 117, 118, 119, 120, 121, 122, 123, 124, 37, 38, 17, 39, 19, 40, 41, 42, 43, 44, 45, 46, 47, 48, 49, 50, 51, 52, 125, 59, 60, 61, 62, 63, 64, 65, 66, 67, 68, 69, 70, 71, 72, 73, 74, 75, 76, 77, 78, 79, 80, 81, 82, 83, 84, 85, 86, 87, 88, 89, 90, 91, 92, 93, 94, 95, 96, 97, 98, 15, 16, 18, 99, 126, 127, 128, 129, 103, 130, 131, 132, 133, 134, 135, 136, 137, 138, 139, 140, 141, 142, 143, 144, 145, 146, 147, 148, 149, 150, 151, 152, 153, 154, 155, 156, 157, 158, 159, 160, 161, 162, 163, 164, 165, 166, 167, 168, 169, 170, 171, 172, 173, 174, 175, 176, 177, 178, 179, 180, 181, 182, 183, 184, 185, 186, 187, 188, 189, 190, 191, 192, 193, 194, 195, 196, 197, 198, 199, 200, 201, 202, 203, 204, 205, 206, 207, 208, 209, 210, 211, 214, 215, 216, 220, 221, 222, 223, 224, 225, 226, 227, 228, 229, 230, 231, 232, 233, 217, 218, 219] (by decide +kernel) (by decide +kernel)
set_option maxRecDepth 20000 in
theorem gX8_take_X7_take : GoodIn wsX8_take (wsV RX8 166 RX7 yX7_take wsX7_take) := goodIn_app (goodIn_of _ (by decide +kernel)) ggX8_take_X7_take
theorem dX8_take_0 : decode cX8_take 0 = .ok (.aload_n 0, 1) := by decide +kernel
theorem dX8_take_1 : decode cX8_take 1 = .ok (.iload_n 1, 1) := by decide +kernel
theorem dX8_take_2 : decode cX8_take 2 = .ok (.iload_n 2, 1) := by decide +kernel
theorem dX8_take_3 : decode cX8_take 3 = .ok (.invokevirtual 159, 3) := by decide +kernel
theorem dX8_take_6 : decode cX8_take 6 = .ok (.ifCond .ne 57, 3) := by decide +kernel
theorem dX8_take_9 : decode cX8_take 9 = .ok (.aload_n 0, 1) := by decide +kernel
theorem dX8_take_10 : decode cX8_take 10 = .ok (.aload_n 0, 1) := by decide +kernel
theorem dX8_take_11 : decode cX8_take 11 = .ok (.getfield 10, 3) := by decide +kernel
theorem dX8_take_14 : decode cX8_take 14 = .ok (.getfield 118, 3) := by decide +kernel
theorem dX8_take_17 : decode cX8_take 17 = .ok (.iload_n 2, 1) := by decide +kernel
theorem dX8_take_18 : decode cX8_take 18 = .ok (.invokevirtual 45, 3) := by decide +kernel
theorem dX8_take_21 : decode cX8_take 21 = .ok (.checkcast 121, 3) := by decide +kernel
theorem dX8_take_24 : decode cX8_take 24 = .ok (.aload_n 0, 1) := by decide +kernel
theorem dX8_take_25 : decode cX8_take 25 = .ok (.iload_n 1, 1) := by decide +kernel
theorem dX8_take_26 : decode cX8_take 26 = .ok (.invokevirtual 64, 3) := by decide +kernel
theorem dX8_take_29 : decode cX8_take 29 = .ok (.invokevirtual 162, 3) := by decide +kernel
theorem dX8_take_32 : decode cX8_take 32 = .ok (.iconst (-1), 1) := by decide +kernel
theorem dX8_take_33 : decode cX8_take 33 = .ok (.if_icmp .eq 18, 3) := by decide +kernel
theorem dX8_take_36 : decode cX8_take 36 = .ok (.aload_n 0, 1) := by decide +kernel
theorem dX8_take_37 : decode cX8_take 37 = .ok (.getfield 10, 3) := by decide +kernel
theorem dX8_take_40 : decode cX8_take 40 = .ok (.getfield 28, 3) := by decide +kernel
theorem dX8_take_43 : decode cX8_take 43 = .ok (.invokevirtual 32, 3) := by decide +kernel
theorem dX8_take_46 : decode cX8_take 46 = .ok (.bipush 36, 2) := by decide +kernel
theorem dX8_take_48 : decode cX8_take 48 = .ok (.if_icmp .le 7, 3) := by decide +kernel
theorem dX8_take_51 : decode cX8_take 51 = .ok (.iconst 1, 1) := by decide +kernel
theorem dX8_take_52 : decode cX8_take 52 = .ok (.goto 4, 3) := by decide +kernel
theorem dX8_take_55 : decode cX8_take 55 = .ok (.iconst 0, 1) := by decide +kernel
theorem dX8_take_56 : decode cX8_take 56 = .ok (.iconst 2, 1) := by decide +kernel
theorem dX8_take_57 : decode cX8_take 57 = .ok (.invokevirtual 20, 3) := by decide +kernel
theorem dX8_take_60 : decode cX8_take 60 = .ok (.ifCond .eq 5, 3) := by decide +kernel
theorem dX8_take_63 : decode cX8_take 63 = .ok (.iconst 0, 1) := by decide +kernel
theorem dX8_take_64 : decode cX8_take 64 = .ok (.ireturn, 1) := by decide +kernel
theorem dX8_take_65 : decode cX8_take 65 = .ok (.aload_n 0, 1) := by decide +kernel
theorem dX8_take_66 : decode cX8_take 66 = .ok (.getfield 10, 3) := by decide +kernel
theorem dX8_take_69 : decode cX8_take 69 = .ok (.iload_n 1, 1) := by decide +kernel
theorem dX8_take_70 : decode cX8_take 70 = .ok (.iload_n 2, 1) := by decide +kernel
theorem dX8_take_71 : decode cX8_take 71 = .ok (.invokevirtual 166, 3) := by decide +kernel
theorem dX8_take_74 : decode cX8_take 74 = .ok (.ireturn, 1) := by decide +kernel
set_option maxRecDepth 20000 in
theorem ggX8_plan_X8_isIn : GoodIn wsX8_plan wsX8_isIn := goodIn_r _ [5] (by decide +kernel) (by decide +kernel)
set_option maxRecDepth 20000 in
theorem gX8_plan_X8_isIn : GoodIn wsX8_plan (va_wsS RX8 24 yX8_isIn wsX8_isIn) := goodIn_app (goodIn_of _ (by decide +kernel)) ggX8_plan_X8_isIn
set_option maxRecDepth 20000 in
theorem ggX8_plan_X8_start : GoodIn wsX8_plan wsX8_start := goodIn_r _ [9, 10, 11, 12, 13, 4, 14, 205, 206] (by decide +kernel) (by decide +kernel)
set_option maxRecDepth 20000 in
theorem gX8_plan_X8_start : GoodIn wsX8_plan (wsV RX8 42 RX8 yX8_start wsX8_start) := goodIn_app (goodIn_of _ (by decide +kernel)) ggX8_plan_X8_start
set_option maxRecDepth 20000 in
theorem ggX8_plan_X7_plan : GoodIn wsX8_plan wsX7_plan := goodIn_r _ [19, 20, 21, 22, 18, 23, 24, 25, 26, 27, 28, 29, 30, 31, 32, 33, 34, 35, 36, 37, 38, 39, 40, 41, 42, 43, 44, 45, 46, 47, 48, 49, 50, 51, 52, 53, 54, 55, 56, 57, 58, 59, 60, 61, 62, 63, 64, 65, 66, 67, 68, 69, 70, 71, 72, 73, 74, 75, 76, 77, 78, 79, 80, 81, 82, 83, 84, 85, 86, 87, 88, 89, 90, 91, 92, 93, 94, 95, 96, 97, 98, 99, 100, 101, 102, 103, 104, 105, 106, 107, 108, 109, 110, 111, 112, 113, 114, 115, 116, 117, 118, 119, 120, 121, 122, 123, 124, 125, 126, 127, 128, 129, 130, 131, 132, 133, 134, 135, 136, 137, 138, 139, 140, 141, 142, 143, 144, 145, 146, 147, 148, 149, 150, 151, 152, 153, 154, 155, 156, 157, 158, 159, 160, 161, 162, 163, 164, 165, 166, 167, 168, 169, 170, 171, 172, 173, 174, 175, 176, 177, 178, 179, 180, 181, 182, 183, 184, 185, 186, 187, 188, 189, 190, 191, 192, 193, 194, 195, 196, 197, 198, 199, 200, 201, 202, 203, 204, 207, 208, 209, 210, 211, 212, 213, 214, 215, 216, 217, 218, 219, 220, 221, 222, 223, 224, 225, 226] (by decide +kernel) (by decide +kernel)
set_option maxRecDepth 20000 in
theorem gX8_plan_X7_plan : GoodIn wsX8_plan (wsV RX8 169 RX7 yX7_plan wsX7_plan) := goodIn_app (goodIn_of _ (by decide +kernel)) ggX8_plan_X7_plan
theorem dX8_plan_0 : decode cX8_plan 0 = .ok (.aload_n 0, 1) := by decide +kernel
theorem dX8_plan_1 : decode cX8_plan 1 = .ok (.iload_n 1, 1) := by decide +kernel
theorem dX8_plan_2 : decode cX8_plan 2 = .ok (.iconst 1, 1) := by decide +kernel
theorem dX8_plan_3 : decode cX8_plan 3 = .ok (.bipush 20, 2) := by decide +kernel
theorem dX8_plan_5 : decode cX8_plan 5 = .ok (.invokestatic 24, 3) := by decide +kernel
theorem dX8_plan_8 : decode cX8_plan 8 = .ok (.ifCond .ne 7, 3) := by decide +kernel
theorem dX8_plan_11 : decode cX8_plan 11 = .ok (.iconst 1, 1) := by decide +kernel
theorem dX8_plan_12 : decode cX8_plan 12 = .ok (.goto 4, 3) := by decide +kernel
theorem dX8_plan_15 : decode cX8_plan 15 = .ok (.iconst 0, 1) := by decide +kernel
theorem dX8_plan_16 : decode cX8_plan 16 = .ok (.iconst 1, 1) := by decide +kernel
theorem dX8_plan_17 : decode cX8_plan 17 = .ok (.invokevirtual 42, 3) := by decide +kernel
theorem dX8_plan_20 : decode cX8_plan 20 = .ok (.ifCond .eq 7, 3) := by decide +kernel
theorem dX8_plan_23 : decode cX8_plan 23 = .ok (.iconst 0, 1) := by decide +kernel
theorem dX8_plan_24 : decode cX8_plan 24 = .ok (.goto 11, 3) := by decide +kernel
theorem dX8_plan_27 : decode cX8_plan 27 = .ok (.aload_n 0, 1) := by decide +kernel
theorem dX8_plan_28 : decode cX8_plan 28 = .ok (.getfield 10, 3) := by decide +kernel
theorem dX8_plan_31 : decode cX8_plan 31 = .ok (.iload_n 1, 1) := by decide +kernel
theorem dX8_plan_32 : decode cX8_plan 32 = .ok (.invokevirtual 169, 3) := by decide +kernel
theorem dX8_plan_35 : decode cX8_plan 35 = .ok (.ireturn, 1) := by decide +kernel
set_option maxRecDepth 20000 in
theorem ggX8_count_Jx4a65c_size_8abf5 : GoodIn wsX8_count wsJx4a65c_size_8abf5 := goodIn_r _ [12, 13, 85, 86, 87] (by decide +kernel) (by decide +kernel)
set_option maxRecDepth 20000 in
theorem gX8_count_Jx4a65c_size_8abf5 : GoodIn wsX8_count (wsV RX8 32 RJx4a65c yJx4a65c_size_8abf5 wsJx4a65c_size_8abf5) := goodIn_app (goodIn_of _ (by decide +kernel)) ggX8_count_Jx4a65c_size_8abf5
set_option maxRecDepth 20000 in
theorem ggX8_count_Jx4a65c_get_915e3 : GoodIn wsX8_count wsJx4a65c_get_915e3 := goodIn_r _ [17, 13, 18, 19, 20, 21, 22, 23, 24, 25, 26, 27, 28, 11, 29, 30, 85, 86, 87] (by decide +kernel) (by decide +kernel)
set_option maxRecDepth 20000 in
theorem gX8_count_Jx4a65c_get_915e3 : GoodIn wsX8_count (wsV RX8 45 RJx4a65c yJx4a65c_get_915e3 wsJx4a65c_get_915e3) := goodIn_app (goodIn_of _ (by decide +kernel)) ggX8_count_Jx4a65c_get_915e3
set_option maxRecDepth 20000 in
theorem ggX8_count_X7_there : GoodIn wsX8_count wsX7_there := goodIn_r _ [35, 36, 37, 38, 9, 10, 11, 12, 13, 39, 15, 16, 17, 18, 19, 20, 21, 22, 23, 24, 25, 26, 27, 28, 29, 30, 40, 41, 42, 43, 44, 45, 74, 75, 76, 85, 86, 87, 88, 89, 90, 91, 92, 93] (by decide +kernel) (by decide +kernel)
set_option maxRecDepth 20000 in
theorem gX8_count_X7_there : GoodIn wsX8_count (wsV RX8 173 RX7 yX7_there wsX7_there) := goodIn_app (goodIn_of _ (by decide +kernel)) ggX8_count_X7_there
set_option maxRecDepth 20000 in
theorem ggX8_count_X7_paid : GoodIn wsX8_count wsX7_paid := goodIn_r _ [49, 50, 51, 52, 38, 9, 10, 11, 12, 13, 39, 15, 16, 17, 18, 19, 20, 21, 22, 23, 24, 25, 26, 27, 28, 29, 30, 74, 75, 76, 77, 78, 79, 80, 81, 82, 83, 84, 85, 86, 87] (by decide +kernel) (by decide +kernel)
set_option maxRecDepth 20000 in
theorem gX8_count_X7_paid : GoodIn wsX8_count (wsV RX8 176 RX7 yX7_paid wsX7_paid) := goodIn_app (goodIn_of _ (by decide +kernel)) ggX8_count_X7_paid
set_option maxRecDepth 20000 in
theorem ggX8_count_X7_waste : GoodIn wsX8_count wsX7_waste := goodIn_r _ [56, 36, 37, 57, 50, 51, 58, 59, 60, 61, 62, 63, 34, 64, 38, 9, 10, 11, 12, 13, 39, 15, 16, 17, 18, 19, 20, 21, 22, 23, 24, 25, 26, 27, 28, 29, 30, 40, 41, 42, 43, 44, 45, 65, 66, 67, 68, 69, 70, 74, 75, 76, 88, 89, 90, 91, 92, 93, 77, 78, 79, 80, 81, 82, 83, 84, 85, 86, 87] (by decide +kernel) (by decide +kernel)
set_option maxRecDepth 20000 in
theorem gX8_count_X7_waste : GoodIn wsX8_count (wsV RX8 178 RX7 yX7_waste wsX7_waste) := goodIn_app (goodIn_of _ (by decide +kernel)) ggX8_count_X7_waste
set_option maxRecDepth 20000 in
theorem ggX8_count_X7_areaThere : GoodIn wsX8_count wsX7_areaThere := goodIn_r _ [64, 36, 37, 38, 9, 10, 11, 12, 13, 39, 15, 16, 17, 18, 19, 20, 21, 22, 23, 24, 25, 26, 27, 28, 29, 30, 40, 41, 42, 43, 44, 45, 65, 66, 67, 68, 69, 70, 74, 75, 76, 85, 86, 87, 88, 89, 90, 91, 92, 93] (by decide +kernel) (by decide +kernel)
set_option maxRecDepth 20000 in
theorem gX8_count_X7_areaThere : GoodIn wsX8_count (wsV RX8 181 RX7 yX7_areaThere wsX7_areaThere) := goodIn_app (goodIn_of _ (by decide +kernel)) ggX8_count_X7_areaThere
theorem dX8_count_0 : decode cX8_count 0 = .ok (.iconst 0, 1) := by decide +kernel
theorem dX8_count_1 : decode cX8_count 1 = .ok (.istore_n 2, 1) := by decide +kernel
theorem dX8_count_2 : decode cX8_count 2 = .ok (.iconst 0, 1) := by decide +kernel
theorem dX8_count_3 : decode cX8_count 3 = .ok (.istore_n 3, 1) := by decide +kernel
theorem dX8_count_4 : decode cX8_count 4 = .ok (.iconst 0, 1) := by decide +kernel
theorem dX8_count_5 : decode cX8_count 5 = .ok (.istore 4, 2) := by decide +kernel
theorem dX8_count_7 : decode cX8_count 7 = .ok (.iload 4, 2) := by decide +kernel
theorem dX8_count_9 : decode cX8_count 9 = .ok (.aload_n 0, 1) := by decide +kernel
theorem dX8_count_10 : decode cX8_count 10 = .ok (.getfield 10, 3) := by decide +kernel
theorem dX8_count_13 : decode cX8_count 13 = .ok (.getfield 118, 3) := by decide +kernel
theorem dX8_count_16 : decode cX8_count 16 = .ok (.invokevirtual 32, 3) := by decide +kernel
theorem dX8_count_19 : decode cX8_count 19 = .ok (.if_icmp .ge 51, 3) := by decide +kernel
theorem dX8_count_22 : decode cX8_count 22 = .ok (.iload_n 2, 1) := by decide +kernel
theorem dX8_count_23 : decode cX8_count 23 = .ok (.aload_n 0, 1) := by decide +kernel
theorem dX8_count_24 : decode cX8_count 24 = .ok (.getfield 10, 3) := by decide +kernel
theorem dX8_count_27 : decode cX8_count 27 = .ok (.getfield 118, 3) := by decide +kernel
theorem dX8_count_30 : decode cX8_count 30 = .ok (.iload 4, 2) := by decide +kernel
theorem dX8_count_32 : decode cX8_count 32 = .ok (.invokevirtual 45, 3) := by decide +kernel
theorem dX8_count_35 : decode cX8_count 35 = .ok (.checkcast 121, 3) := by decide +kernel
theorem dX8_count_38 : decode cX8_count 38 = .ok (.getfield 150, 3) := by decide +kernel
theorem dX8_count_41 : decode cX8_count 41 = .ok (.iadd, 1) := by decide +kernel
theorem dX8_count_42 : decode cX8_count 42 = .ok (.istore_n 2, 1) := by decide +kernel
theorem dX8_count_43 : decode cX8_count 43 = .ok (.iload_n 3, 1) := by decide +kernel
theorem dX8_count_44 : decode cX8_count 44 = .ok (.aload_n 0, 1) := by decide +kernel
theorem dX8_count_45 : decode cX8_count 45 = .ok (.getfield 10, 3) := by decide +kernel
theorem dX8_count_48 : decode cX8_count 48 = .ok (.getfield 118, 3) := by decide +kernel
theorem dX8_count_51 : decode cX8_count 51 = .ok (.iload 4, 2) := by decide +kernel
theorem dX8_count_53 : decode cX8_count 53 = .ok (.invokevirtual 45, 3) := by decide +kernel
theorem dX8_count_56 : decode cX8_count 56 = .ok (.checkcast 121, 3) := by decide +kernel
theorem dX8_count_59 : decode cX8_count 59 = .ok (.getfield 138, 3) := by decide +kernel
theorem dX8_count_62 : decode cX8_count 62 = .ok (.iadd, 1) := by decide +kernel
theorem dX8_count_63 : decode cX8_count 63 = .ok (.istore_n 3, 1) := by decide +kernel
theorem dX8_count_64 : decode cX8_count 64 = .ok (.iinc 4 1, 3) := by decide +kernel
theorem dX8_count_67 : decode cX8_count 67 = .ok (.goto (-60), 3) := by decide +kernel
theorem dX8_count_70 : decode cX8_count 70 = .ok (.bipush 8, 2) := by decide +kernel
theorem dX8_count_72 : decode cX8_count 72 = .ok (.newarray .int, 2) := by decide +kernel
theorem dX8_count_74 : decode cX8_count 74 = .ok (.dup, 1) := by decide +kernel
theorem dX8_count_75 : decode cX8_count 75 = .ok (.iconst 0, 1) := by decide +kernel
theorem dX8_count_76 : decode cX8_count 76 = .ok (.aload_n 0, 1) := by decide +kernel
theorem dX8_count_77 : decode cX8_count 77 = .ok (.getfield 10, 3) := by decide +kernel
theorem dX8_count_80 : decode cX8_count 80 = .ok (.getfield 28, 3) := by decide +kernel
theorem dX8_count_83 : decode cX8_count 83 = .ok (.invokevirtual 32, 3) := by decide +kernel
theorem dX8_count_86 : decode cX8_count 86 = .ok (.iastore, 1) := by decide +kernel
theorem dX8_count_87 : decode cX8_count 87 = .ok (.dup, 1) := by decide +kernel
theorem dX8_count_88 : decode cX8_count 88 = .ok (.iconst 1, 1) := by decide +kernel
theorem dX8_count_89 : decode cX8_count 89 = .ok (.aload_n 0, 1) := by decide +kernel
theorem dX8_count_90 : decode cX8_count 90 = .ok (.getfield 10, 3) := by decide +kernel
theorem dX8_count_93 : decode cX8_count 93 = .ok (.invokevirtual 173, 3) := by decide +kernel
theorem dX8_count_96 : decode cX8_count 96 = .ok (.iastore, 1) := by decide +kernel
theorem dX8_count_97 : decode cX8_count 97 = .ok (.dup, 1) := by decide +kernel
theorem dX8_count_98 : decode cX8_count 98 = .ok (.iconst 2, 1) := by decide +kernel
theorem dX8_count_99 : decode cX8_count 99 = .ok (.aload_n 0, 1) := by decide +kernel
theorem dX8_count_100 : decode cX8_count 100 = .ok (.getfield 10, 3) := by decide +kernel
theorem dX8_count_103 : decode cX8_count 103 = .ok (.getfield 118, 3) := by decide +kernel
theorem dX8_count_106 : decode cX8_count 106 = .ok (.invokevirtual 32, 3) := by decide +kernel
theorem dX8_count_109 : decode cX8_count 109 = .ok (.iastore, 1) := by decide +kernel
theorem dX8_count_110 : decode cX8_count 110 = .ok (.dup, 1) := by decide +kernel
theorem dX8_count_111 : decode cX8_count 111 = .ok (.iconst 3, 1) := by decide +kernel
theorem dX8_count_112 : decode cX8_count 112 = .ok (.iload_n 2, 1) := by decide +kernel
theorem dX8_count_113 : decode cX8_count 113 = .ok (.iastore, 1) := by decide +kernel
theorem dX8_count_114 : decode cX8_count 114 = .ok (.dup, 1) := by decide +kernel
theorem dX8_count_115 : decode cX8_count 115 = .ok (.iconst 4, 1) := by decide +kernel
theorem dX8_count_116 : decode cX8_count 116 = .ok (.aload_n 0, 1) := by decide +kernel
theorem dX8_count_117 : decode cX8_count 117 = .ok (.getfield 10, 3) := by decide +kernel
theorem dX8_count_120 : decode cX8_count 120 = .ok (.invokevirtual 176, 3) := by decide +kernel
theorem dX8_count_123 : decode cX8_count 123 = .ok (.iastore, 1) := by decide +kernel
theorem dX8_count_124 : decode cX8_count 124 = .ok (.dup, 1) := by decide +kernel
theorem dX8_count_125 : decode cX8_count 125 = .ok (.iconst 5, 1) := by decide +kernel
theorem dX8_count_126 : decode cX8_count 126 = .ok (.aload_n 0, 1) := by decide +kernel
theorem dX8_count_127 : decode cX8_count 127 = .ok (.getfield 10, 3) := by decide +kernel
theorem dX8_count_130 : decode cX8_count 130 = .ok (.invokevirtual 178, 3) := by decide +kernel
theorem dX8_count_133 : decode cX8_count 133 = .ok (.iastore, 1) := by decide +kernel
theorem dX8_count_134 : decode cX8_count 134 = .ok (.dup, 1) := by decide +kernel
theorem dX8_count_135 : decode cX8_count 135 = .ok (.bipush 6, 2) := by decide +kernel
theorem dX8_count_137 : decode cX8_count 137 = .ok (.iload_n 3, 1) := by decide +kernel
theorem dX8_count_138 : decode cX8_count 138 = .ok (.iastore, 1) := by decide +kernel
theorem dX8_count_139 : decode cX8_count 139 = .ok (.dup, 1) := by decide +kernel
theorem dX8_count_140 : decode cX8_count 140 = .ok (.bipush 7, 2) := by decide +kernel
theorem dX8_count_142 : decode cX8_count 142 = .ok (.aload_n 0, 1) := by decide +kernel
theorem dX8_count_143 : decode cX8_count 143 = .ok (.getfield 10, 3) := by decide +kernel
theorem dX8_count_146 : decode cX8_count 146 = .ok (.invokevirtual 181, 3) := by decide +kernel
theorem dX8_count_149 : decode cX8_count 149 = .ok (.iastore, 1) := by decide +kernel
theorem dX8_count_150 : decode cX8_count 150 = .ok (.astore 4, 2) := by decide +kernel
theorem dX8_count_152 : decode cX8_count 152 = .ok (.aload 4, 2) := by decide +kernel
theorem dX8_count_154 : decode cX8_count 154 = .ok (.iload_n 1, 1) := by decide +kernel
theorem dX8_count_155 : decode cX8_count 155 = .ok (.iaload, 1) := by decide +kernel
theorem dX8_count_156 : decode cX8_count 156 = .ok (.ireturn, 1) := by decide +kernel
set_option maxRecDepth 20000 in
theorem ggX8_many_X8_isIn : GoodIn wsX8_many wsX8_isIn := goodIn_r _ [4] (by decide +kernel) (by decide +kernel)
set_option maxRecDepth 20000 in
theorem gX8_many_X8_isIn : GoodIn wsX8_many (va_wsS RX8 24 yX8_isIn wsX8_isIn) := goodIn_app (goodIn_of _ (by decide +kernel)) ggX8_many_X8_isIn
set_option maxRecDepth 20000 in
theorem ggX8_many_X8_start : GoodIn wsX8_many wsX8_start := goodIn_r _ [8, 9, 10, 11, 12, 3, 13, 89, 90] (by decide +kernel) (by decide +kernel)
set_option maxRecDepth 20000 in
theorem gX8_many_X8_start : GoodIn wsX8_many (wsV RX8 42 RX8 yX8_start wsX8_start) := goodIn_app (goodIn_of _ (by decide +kernel)) ggX8_many_X8_start
set_option maxRecDepth 20000 in
theorem ggX8_many_X8_count : GoodIn wsX8_many wsX8_count := goodIn_r _ [17, 18, 19, 20, 21, 22, 23, 24, 25, 26, 27, 28, 29, 30, 31, 32, 33, 34, 35, 36, 37, 38, 39, 40, 41, 42, 43, 44, 45, 46, 47, 48, 49, 50, 51, 52, 53, 54, 55, 56, 57, 58, 59, 60, 61, 62, 63, 64, 65, 66, 67, 68, 69, 70, 71, 72, 73, 74, 75, 76, 77, 78, 79, 80, 81, 82, 83, 84, 85, 86, 87, 88, 89, 90, 91, 92, 93, 94, 95, 96, 97, 98, 99, 100, 101, 102, 103, 104, 105, 106, 107, 108, 109, 110] (by decide +kernel) (by decide +kernel)
set_option maxRecDepth 20000 in
theorem gX8_many_X8_count : GoodIn wsX8_many (wsV RX8 184 RX8 yX8_count wsX8_count) := goodIn_app (goodIn_of _ (by decide +kernel)) ggX8_many_X8_count
theorem dX8_many_0 : decode cX8_many 0 = .ok (.aload_n 0, 1) := by decide +kernel
theorem dX8_many_1 : decode cX8_many 1 = .ok (.iload_n 1, 1) := by decide +kernel
theorem dX8_many_2 : decode cX8_many 2 = .ok (.iconst 0, 1) := by decide +kernel
theorem dX8_many_3 : decode cX8_many 3 = .ok (.bipush 7, 2) := by decide +kernel
theorem dX8_many_5 : decode cX8_many 5 = .ok (.invokestatic 24, 3) := by decide +kernel
theorem dX8_many_8 : decode cX8_many 8 = .ok (.ifCond .ne 7, 3) := by decide +kernel
theorem dX8_many_11 : decode cX8_many 11 = .ok (.iconst 1, 1) := by decide +kernel
theorem dX8_many_12 : decode cX8_many 12 = .ok (.goto 4, 3) := by decide +kernel
theorem dX8_many_15 : decode cX8_many 15 = .ok (.iconst 0, 1) := by decide +kernel
theorem dX8_many_16 : decode cX8_many 16 = .ok (.iconst 1, 1) := by decide +kernel
theorem dX8_many_17 : decode cX8_many 17 = .ok (.invokevirtual 42, 3) := by decide +kernel
theorem dX8_many_20 : decode cX8_many 20 = .ok (.ifCond .eq 7, 3) := by decide +kernel
theorem dX8_many_23 : decode cX8_many 23 = .ok (.iconst 0, 1) := by decide +kernel
theorem dX8_many_24 : decode cX8_many 24 = .ok (.goto 8, 3) := by decide +kernel
theorem dX8_many_27 : decode cX8_many 27 = .ok (.aload_n 0, 1) := by decide +kernel
theorem dX8_many_28 : decode cX8_many 28 = .ok (.iload_n 1, 1) := by decide +kernel
theorem dX8_many_29 : decode cX8_many 29 = .ok (.invokevirtual 184, 3) := by decide +kernel
theorem dX8_many_32 : decode cX8_many 32 = .ok (.ireturn, 1) := by decide +kernel
set_option maxRecDepth 20000 in
theorem ggX8_meanArea_X7_there : GoodIn wsX8_meanArea wsX7_there := goodIn_r _ [7, 8, 9, 10, 11, 12, 13, 14, 15, 16, 17, 18, 19, 20, 21, 22, 23, 24, 25, 26, 27, 28, 29, 30, 31, 32, 33, 34, 35, 36, 37, 38, 51, 52, 53, 54, 55, 56, 57, 58, 59, 60, 61, 62] (by decide +kernel) (by decide +kernel)
set_option maxRecDepth 20000 in
theorem gX8_meanArea_X7_there : GoodIn wsX8_meanArea (wsV RX8 173 RX7 yX7_there wsX7_there) := goodIn_app (goodIn_of _ (by decide +kernel)) ggX8_meanArea_X7_there
set_option maxRecDepth 20000 in
theorem ggX8_meanArea_X7_areaThere : GoodIn wsX8_meanArea wsX7_areaThere := goodIn_r _ [42, 8, 9, 10, 11, 12, 13, 14, 15, 16, 17, 18, 19, 20, 21, 22, 23, 24, 25, 26, 27, 28, 29, 30, 31, 32, 33, 34, 35, 36, 37, 38, 43, 44, 45, 46, 47, 48, 51, 52, 53, 54, 55, 56, 57, 58, 59, 60, 61, 62] (by decide +kernel) (by decide +kernel)
set_option maxRecDepth 20000 in
theorem gX8_meanArea_X7_areaThere : GoodIn wsX8_meanArea (wsV RX8 181 RX7 yX7_areaThere wsX7_areaThere) := goodIn_app (goodIn_of _ (by decide +kernel)) ggX8_meanArea_X7_areaThere
theorem dX8_meanArea_0 : decode cX8_meanArea 0 = .ok (.aload_n 0, 1) := by decide +kernel
theorem dX8_meanArea_1 : decode cX8_meanArea 1 = .ok (.iconst 0, 1) := by decide +kernel
theorem dX8_meanArea_2 : decode cX8_meanArea 2 = .ok (.putfield 16, 3) := by decide +kernel
theorem dX8_meanArea_5 : decode cX8_meanArea 5 = .ok (.aload_n 0, 1) := by decide +kernel
theorem dX8_meanArea_6 : decode cX8_meanArea 6 = .ok (.getfield 10, 3) := by decide +kernel
theorem dX8_meanArea_9 : decode cX8_meanArea 9 = .ok (.invokevirtual 173, 3) := by decide +kernel
theorem dX8_meanArea_12 : decode cX8_meanArea 12 = .ok (.ifCond .ne 7, 3) := by decide +kernel
theorem dX8_meanArea_15 : decode cX8_meanArea 15 = .ok (.dconst 0, 1) := by decide +kernel
theorem dX8_meanArea_16 : decode cX8_meanArea 16 = .ok (.goto 20, 3) := by decide +kernel
theorem dX8_meanArea_19 : decode cX8_meanArea 19 = .ok (.aload_n 0, 1) := by decide +kernel
theorem dX8_meanArea_20 : decode cX8_meanArea 20 = .ok (.getfield 10, 3) := by decide +kernel
theorem dX8_meanArea_23 : decode cX8_meanArea 23 = .ok (.invokevirtual 181, 3) := by decide +kernel
theorem dX8_meanArea_26 : decode cX8_meanArea 26 = .ok (.i2d, 1) := by decide +kernel
theorem dX8_meanArea_27 : decode cX8_meanArea 27 = .ok (.aload_n 0, 1) := by decide +kernel
theorem dX8_meanArea_28 : decode cX8_meanArea 28 = .ok (.getfield 10, 3) := by decide +kernel
theorem dX8_meanArea_31 : decode cX8_meanArea 31 = .ok (.invokevirtual 173, 3) := by decide +kernel
theorem dX8_meanArea_34 : decode cX8_meanArea 34 = .ok (.i2d, 1) := by decide +kernel
theorem dX8_meanArea_35 : decode cX8_meanArea 35 = .ok (.ddiv, 1) := by decide +kernel
theorem dX8_meanArea_36 : decode cX8_meanArea 36 = .ok (.dreturn, 1) := by decide +kernel
set_option maxRecDepth 20000 in
theorem ggX8_worth_X8_isNoPiece : GoodIn wsX8_worth wsX8_isNoPiece := goodIn_r _ [5, 6, 7, 4, 8] (by decide +kernel) (by decide +kernel)
set_option maxRecDepth 20000 in
theorem gX8_worth_X8_isNoPiece : GoodIn wsX8_worth (va_wsS RX8 51 yX8_isNoPiece wsX8_isNoPiece) := goodIn_app (goodIn_of _ (by decide +kernel)) ggX8_worth_X8_isNoPiece
set_option maxRecDepth 20000 in
theorem ggX8_worth_X8_start : GoodIn wsX8_worth wsX8_start := goodIn_r _ [12, 13, 14, 15, 16, 4, 17, 84, 85] (by decide +kernel) (by decide +kernel)
set_option maxRecDepth 20000 in
theorem gX8_worth_X8_start : GoodIn wsX8_worth (wsV RX8 42 RX8 yX8_start wsX8_start) := goodIn_app (goodIn_of _ (by decide +kernel)) ggX8_worth_X8_start
set_option maxRecDepth 20000 in
theorem ggX8_worth_X7_worths : GoodIn wsX8_worth wsX7_worths := goodIn_r _ [22, 23, 24, 25, 26, 27, 28, 29, 30, 31, 32, 21, 33, 34, 35, 36, 37, 38, 39, 40, 41, 42, 43, 44, 45, 46, 47, 48, 49, 50, 51, 52, 53, 54, 55, 56, 57, 58, 59, 60, 61, 62, 63, 64, 65, 66, 67, 68, 69, 70, 71, 72, 73, 74, 75, 76, 77, 78, 79, 80, 81, 82, 83, 86, 87, 88, 89, 90, 91, 92, 93, 94, 95, 96, 97, 98, 99] (by decide +kernel) (by decide +kernel)
set_option maxRecDepth 20000 in
theorem gX8_worth_X7_worths : GoodIn wsX8_worth (wsV RX8 187 RX7 yX7_worths wsX7_worths) := goodIn_app (goodIn_of _ (by decide +kernel)) ggX8_worth_X7_worths
theorem dX8_worth_0 : decode cX8_worth 0 = .ok (.aload_n 0, 1) := by decide +kernel
theorem dX8_worth_1 : decode cX8_worth 1 = .ok (.iload_n 1, 1) := by decide +kernel
theorem dX8_worth_2 : decode cX8_worth 2 = .ok (.iload_n 2, 1) := by decide +kernel
theorem dX8_worth_3 : decode cX8_worth 3 = .ok (.iload_n 3, 1) := by decide +kernel
theorem dX8_worth_4 : decode cX8_worth 4 = .ok (.invokestatic 51, 3) := by decide +kernel
theorem dX8_worth_7 : decode cX8_worth 7 = .ok (.iconst 1, 1) := by decide +kernel
theorem dX8_worth_8 : decode cX8_worth 8 = .ok (.invokevirtual 42, 3) := by decide +kernel
theorem dX8_worth_11 : decode cX8_worth 11 = .ok (.ifCond .eq 7, 3) := by decide +kernel
theorem dX8_worth_14 : decode cX8_worth 14 = .ok (.iconst 0, 1) := by decide +kernel
theorem dX8_worth_15 : decode cX8_worth 15 = .ok (.goto 15, 3) := by decide +kernel
theorem dX8_worth_18 : decode cX8_worth 18 = .ok (.aload_n 0, 1) := by decide +kernel
theorem dX8_worth_19 : decode cX8_worth 19 = .ok (.getfield 10, 3) := by decide +kernel
theorem dX8_worth_22 : decode cX8_worth 22 = .ok (.iload_n 3, 1) := by decide +kernel
theorem dX8_worth_23 : decode cX8_worth 23 = .ok (.invokevirtual 187, 3) := by decide +kernel
theorem dX8_worth_26 : decode cX8_worth 26 = .ok (.iload_n 1, 1) := by decide +kernel
theorem dX8_worth_27 : decode cX8_worth 27 = .ok (.aaload, 1) := by decide +kernel
theorem dX8_worth_28 : decode cX8_worth 28 = .ok (.iload_n 2, 1) := by decide +kernel
theorem dX8_worth_29 : decode cX8_worth 29 = .ok (.iaload, 1) := by decide +kernel
theorem dX8_worth_30 : decode cX8_worth 30 = .ok (.ireturn, 1) := by decide +kernel
set_option maxRecDepth 20000 in
theorem ggX8_bestCut_X8_isNoPiece : GoodIn wsX8_bestCut wsX8_isNoPiece := goodIn_r _ [5, 6, 7, 4, 8] (by decide +kernel) (by decide +kernel)
set_option maxRecDepth 20000 in
theorem gX8_bestCut_X8_isNoPiece : GoodIn wsX8_bestCut (va_wsS RX8 51 yX8_isNoPiece wsX8_isNoPiece) := goodIn_app (goodIn_of _ (by decide +kernel)) ggX8_bestCut_X8_isNoPiece
set_option maxRecDepth 20000 in
theorem ggX8_bestCut_X8_start : GoodIn wsX8_bestCut wsX8_start := goodIn_r _ [12, 13, 14, 15, 16, 4, 17, 92, 93] (by decide +kernel) (by decide +kernel)
set_option maxRecDepth 20000 in
theorem gX8_bestCut_X8_start : GoodIn wsX8_bestCut (wsV RX8 42 RX8 yX8_start wsX8_start) := goodIn_app (goodIn_of _ (by decide +kernel)) ggX8_bestCut_X8_start
set_option maxRecDepth 20000 in
theorem ggX8_bestCut_X7_worths : GoodIn wsX8_bestCut wsX7_worths := goodIn_r _ [22, 23, 24, 25, 26, 27, 28, 29, 30, 31, 32, 21, 33, 34, 35, 36, 37, 38, 39, 40, 41, 42, 43, 44, 45, 46, 47, 48, 49, 50, 51, 52, 53, 54, 55, 56, 57, 58, 59, 60, 61, 62, 63, 64, 65, 66, 67, 68, 69, 70, 71, 72, 73, 74, 75, 76, 77, 78, 79, 80, 81, 82, 83, 94, 95, 96, 97, 98, 99, 100, 101, 102, 103, 104, 105, 106, 107] (by decide +kernel) (by decide +kernel)
set_option maxRecDepth 20000 in
theorem gX8_bestCut_X7_worths : GoodIn wsX8_bestCut (wsV RX8 187 RX7 yX7_worths wsX7_worths) := goodIn_app (goodIn_of _ (by decide +kernel)) ggX8_bestCut_X7_worths
set_option maxRecDepth 20000 in
theorem ggX8_bestCut_X7_bestCut : GoodIn wsX8_bestCut wsX7_bestCut := goodIn_r _ [87, 25, 88, 89, 90, 21, 91, 34, 35, 36, 37, 38, 39, 40, 41, 42, 43, 44, 45, 46, 47, 48, 49, 50, 51, 52, 53, 54, 55, 56, 57, 58, 59, 60, 61, 62, 63, 64, 65, 66, 67, 68, 69, 70, 71, 72, 73, 74, 75, 76, 77, 78, 79, 80, 81, 82, 83, 94, 95, 96, 97, 98, 99, 100, 101, 102, 103, 104, 105, 106, 107] (by decide +kernel) (by decide +kernel)
set_option maxRecDepth 20000 in
theorem gX8_bestCut_X7_bestCut : GoodIn wsX8_bestCut (wsV RX8 191 RX7 yX7_bestCut wsX7_bestCut) := goodIn_app (goodIn_of _ (by decide +kernel)) ggX8_bestCut_X7_bestCut
theorem dX8_bestCut_0 : decode cX8_bestCut 0 = .ok (.aload_n 0, 1) := by decide +kernel
theorem dX8_bestCut_1 : decode cX8_bestCut 1 = .ok (.iload_n 1, 1) := by decide +kernel
theorem dX8_bestCut_2 : decode cX8_bestCut 2 = .ok (.iload_n 2, 1) := by decide +kernel
theorem dX8_bestCut_3 : decode cX8_bestCut 3 = .ok (.iload_n 3, 1) := by decide +kernel
theorem dX8_bestCut_4 : decode cX8_bestCut 4 = .ok (.invokestatic 51, 3) := by decide +kernel
theorem dX8_bestCut_7 : decode cX8_bestCut 7 = .ok (.iconst 1, 1) := by decide +kernel
theorem dX8_bestCut_8 : decode cX8_bestCut 8 = .ok (.invokevirtual 42, 3) := by decide +kernel
theorem dX8_bestCut_11 : decode cX8_bestCut 11 = .ok (.ifCond .eq 7, 3) := by decide +kernel
theorem dX8_bestCut_14 : decode cX8_bestCut 14 = .ok (.iconst 0, 1) := by decide +kernel
theorem dX8_bestCut_15 : decode cX8_bestCut 15 = .ok (.goto 21, 3) := by decide +kernel
theorem dX8_bestCut_18 : decode cX8_bestCut 18 = .ok (.aload_n 0, 1) := by decide +kernel
theorem dX8_bestCut_19 : decode cX8_bestCut 19 = .ok (.getfield 10, 3) := by decide +kernel
theorem dX8_bestCut_22 : decode cX8_bestCut 22 = .ok (.aload_n 0, 1) := by decide +kernel
theorem dX8_bestCut_23 : decode cX8_bestCut 23 = .ok (.getfield 10, 3) := by decide +kernel
theorem dX8_bestCut_26 : decode cX8_bestCut 26 = .ok (.iload_n 3, 1) := by decide +kernel
theorem dX8_bestCut_27 : decode cX8_bestCut 27 = .ok (.invokevirtual 187, 3) := by decide +kernel
theorem dX8_bestCut_30 : decode cX8_bestCut 30 = .ok (.iload_n 1, 1) := by decide +kernel
theorem dX8_bestCut_31 : decode cX8_bestCut 31 = .ok (.iload_n 2, 1) := by decide +kernel
theorem dX8_bestCut_32 : decode cX8_bestCut 32 = .ok (.iload_n 3, 1) := by decide +kernel
theorem dX8_bestCut_33 : decode cX8_bestCut 33 = .ok (.invokevirtual 191, 3) := by decide +kernel
theorem dX8_bestCut_36 : decode cX8_bestCut 36 = .ok (.ireturn, 1) := by decide +kernel
set_option maxRecDepth 20000 in
theorem ggX8_column_X8_isNoKind : GoodIn wsX8_column wsX8_isNoKind := goodIn_r _ [6, 7, 8, 9, 5, 10, 1, 11, 12, 13, 14, 15, 16, 17, 18, 19, 20, 21, 22, 23, 24, 25, 26, 27, 28, 29, 107, 108, 109, 110, 111, 112, 113, 114] (by decide +kernel) (by decide +kernel)
set_option maxRecDepth 20000 in
theorem gX8_column_X8_isNoKind : GoodIn wsX8_column (wsV RX8 129 RX8 yX8_isNoKind wsX8_isNoKind) := goodIn_app (goodIn_of _ (by decide +kernel)) ggX8_column_X8_isNoKind
set_option maxRecDepth 20000 in
theorem ggX8_column_X8_isNoPiece : GoodIn wsX8_column wsX8_isNoPiece := goodIn_r _ [32, 18, 19, 5, 20] (by decide +kernel) (by decide +kernel)
set_option maxRecDepth 20000 in
theorem gX8_column_X8_isNoPiece : GoodIn wsX8_column (va_wsS RX8 51 yX8_isNoPiece wsX8_isNoPiece) := goodIn_app (goodIn_of _ (by decide +kernel)) ggX8_column_X8_isNoPiece
set_option maxRecDepth 20000 in
theorem ggX8_column_X8_refuse : GoodIn wsX8_column wsX8_refuse := goodIn_r _ [29, 25, 107, 108] (by decide +kernel) (by decide +kernel)
set_option maxRecDepth 20000 in
theorem gX8_column_X8_refuse : GoodIn wsX8_column (wsV RX8 20 RX8 yX8_refuse wsX8_refuse) := goodIn_app (goodIn_of _ (by decide +kernel)) ggX8_column_X8_refuse
set_option maxRecDepth 20000 in
theorem ggX8_column_X7_worths : GoodIn wsX8_column wsX7_worths := goodIn_r _ [37, 38, 39, 40, 41, 42, 43, 44, 45, 46, 47, 36, 48, 49, 50, 51, 52, 13, 14, 15, 16, 17, 53, 54, 55, 56, 57, 58, 59, 60, 61, 62, 63, 64, 65, 66, 67, 68, 69, 70, 71, 72, 73, 74, 75, 76, 77, 78, 79, 80, 81, 82, 83, 84, 85, 86, 87, 88, 89, 90, 91, 92, 93, 109, 110, 111, 115, 116, 117, 118, 119, 120, 121, 122, 112, 113, 114] (by decide +kernel) (by decide +kernel)
set_option maxRecDepth 20000 in
theorem gX8_column_X7_worths : GoodIn wsX8_column (wsV RX8 187 RX7 yX7_worths wsX7_worths) := goodIn_app (goodIn_of _ (by decide +kernel)) ggX8_column_X7_worths
set_option maxRecDepth 20000 in
theorem ggX8_column_X7_column : GoodIn wsX8_column wsX7_column := goodIn_r _ [97, 40, 98, 99, 100, 36, 101, 102, 103, 104, 105, 49, 50, 51, 52, 13, 14, 15, 16, 17, 53, 54, 55, 56, 57, 58, 59, 60, 61, 62, 63, 64, 65, 66, 67, 68, 69, 70, 71, 72, 73, 74, 75, 76, 77, 78, 79, 80, 81, 82, 83, 84, 85, 86, 87, 88, 89, 90, 91, 92, 93, 106, 95, 96, 109, 110, 111, 115, 116, 117, 118, 119, 120, 121, 122, 112, 113, 114] (by decide +kernel) (by decide +kernel)
set_option maxRecDepth 20000 in
theorem gX8_column_X7_column : GoodIn wsX8_column (wsV RX8 195 RX7 yX7_column wsX7_column) := goodIn_app (goodIn_of _ (by decide +kernel)) ggX8_column_X7_column
theorem dX8_column_0 : decode cX8_column 0 = .ok (.aload_n 0, 1) := by decide +kernel
theorem dX8_column_1 : decode cX8_column 1 = .ok (.iload 4, 2) := by decide +kernel
theorem dX8_column_3 : decode cX8_column 3 = .ok (.invokevirtual 129, 3) := by decide +kernel
theorem dX8_column_6 : decode cX8_column 6 = .ok (.ifCond .ne 17, 3) := by decide +kernel
theorem dX8_column_9 : decode cX8_column 9 = .ok (.aload_n 0, 1) := by decide +kernel
theorem dX8_column_10 : decode cX8_column 10 = .ok (.iload_n 1, 1) := by decide +kernel
theorem dX8_column_11 : decode cX8_column 11 = .ok (.iload_n 2, 1) := by decide +kernel
theorem dX8_column_12 : decode cX8_column 12 = .ok (.iload_n 3, 1) := by decide +kernel
theorem dX8_column_13 : decode cX8_column 13 = .ok (.invokestatic 51, 3) := by decide +kernel
theorem dX8_column_16 : decode cX8_column 16 = .ok (.iconst 2, 1) := by decide +kernel
theorem dX8_column_17 : decode cX8_column 17 = .ok (.invokevirtual 20, 3) := by decide +kernel
theorem dX8_column_20 : decode cX8_column 20 = .ok (.ifCond .eq 7, 3) := by decide +kernel
theorem dX8_column_23 : decode cX8_column 23 = .ok (.iconst 0, 1) := by decide +kernel
theorem dX8_column_24 : decode cX8_column 24 = .ok (.goto 23, 3) := by decide +kernel
theorem dX8_column_27 : decode cX8_column 27 = .ok (.aload_n 0, 1) := by decide +kernel
theorem dX8_column_28 : decode cX8_column 28 = .ok (.getfield 10, 3) := by decide +kernel
theorem dX8_column_31 : decode cX8_column 31 = .ok (.aload_n 0, 1) := by decide +kernel
theorem dX8_column_32 : decode cX8_column 32 = .ok (.getfield 10, 3) := by decide +kernel
theorem dX8_column_35 : decode cX8_column 35 = .ok (.iload_n 3, 1) := by decide +kernel
theorem dX8_column_36 : decode cX8_column 36 = .ok (.invokevirtual 187, 3) := by decide +kernel
theorem dX8_column_39 : decode cX8_column 39 = .ok (.iload_n 1, 1) := by decide +kernel
theorem dX8_column_40 : decode cX8_column 40 = .ok (.iload_n 2, 1) := by decide +kernel
theorem dX8_column_41 : decode cX8_column 41 = .ok (.iload_n 3, 1) := by decide +kernel
theorem dX8_column_42 : decode cX8_column 42 = .ok (.iload 4, 2) := by decide +kernel
theorem dX8_column_44 : decode cX8_column 44 = .ok (.invokevirtual 195, 3) := by decide +kernel
theorem dX8_column_47 : decode cX8_column 47 = .ok (.ireturn, 1) := by decide +kernel
set_option maxRecDepth 20000 in
theorem ggX8_worthMore_X8_isNoKind : GoodIn wsX8_worthMore wsX8_isNoKind := goodIn_r _ [9, 10, 11, 12, 8, 13, 1, 2, 14, 15, 16, 17, 18, 19, 20, 21, 22, 23, 24, 25, 26, 27, 28, 29, 30, 31, 227, 228, 229, 230, 231, 240, 241, 242] (by decide +kernel) (by decide +kernel)
set_option maxRecDepth 20000 in
theorem gX8_worthMore_X8_isNoKind : GoodIn wsX8_worthMore (wsV RX8 129 RX8 yX8_isNoKind wsX8_isNoKind) := goodIn_app (goodIn_of _ (by decide +kernel)) ggX8_worthMore_X8_isNoKind
set_option maxRecDepth 20000 in
theorem ggX8_worthMore_X8_isIn : GoodIn wsX8_worthMore wsX8_isIn := goodIn_r _ [22] (by decide +kernel) (by decide +kernel)
set_option maxRecDepth 20000 in
theorem gX8_worthMore_X8_isIn : GoodIn wsX8_worthMore (va_wsS RX8 24 yX8_isIn wsX8_isIn) := goodIn_app (goodIn_of _ (by decide +kernel)) ggX8_worthMore_X8_isIn
set_option maxRecDepth 20000 in
theorem ggX8_worthMore_X8_refuse : GoodIn wsX8_worthMore wsX8_refuse := goodIn_r _ [31, 27, 227, 228] (by decide +kernel) (by decide +kernel)
set_option maxRecDepth 20000 in
theorem gX8_worthMore_X8_refuse : GoodIn wsX8_worthMore (wsV RX8 20 RX8 yX8_refuse wsX8_refuse) := goodIn_app (goodIn_of _ (by decide +kernel)) ggX8_worthMore_X8_refuse
set_option maxRecDepth 20000 in
theorem ggX8_worthMore_X7_copy : GoodIn wsX8_worthMore wsX7_copy := goodIn_r _ [36, 37, 38, 35, 39, 40, 41, 42, 43, 44, 45, 46, 47, 48, 49, 50, 51, 17, 52, 53, 54, 55, 56, 57, 58, 59, 60, 61, 62, 63, 64, 65, 66, 67, 15, 16, 18, 19, 68, 69, 70, 71, 72, 73, 74, 75, 76, 77, 78, 79, 80, 81, 82, 83, 84, 85, 86, 87, 88, 89, 90, 91, 92, 93, 94, 95, 96, 97, 98, 99, 100, 101, 102, 103, 104, 105, 106, 107, 108, 109, 110, 111, 112, 113, 114, 115, 116, 117, 118, 119, 120, 121, 122, 123, 124, 125, 126, 127, 128, 129, 130, 131, 132, 133, 134, 135, 136, 137, 138, 139, 140, 141, 142, 143, 144, 145, 146, 147, 148, 149, 150, 151, 152, 153, 154, 155, 156, 157, 158, 159, 160, 161, 162, 163, 164, 165, 166, 167, 168, 169, 170, 171, 172, 173, 174, 175, 176, 177, 178, 179, 180, 181, 182, 229, 230, 231, 240, 241, 242, 243, 244, 245, 246, 247, 248, 232, 233, 234, 235, 236, 237, 238, 239] (by decide +kernel) (by decide +kernel)
set_option maxRecDepth 20000 in
theorem gX8_worthMore_X7_copy : GoodIn wsX8_worthMore (wsV RX8 199 RX7 yX7_copy wsX7_copy) := goodIn_app (goodIn_of _ (by decide +kernel)) ggX8_worthMore_X7_copy
set_option maxRecDepth 20000 in
theorem ggX8_worthMore_Jx4a65c_get_915e3 : GoodIn wsX8_worthMore wsJx4a65c_get_915e3 := goodIn_r _ [71, 19, 72, 73, 74, 75, 76, 77, 78, 79, 80, 81, 82, 17, 83, 56, 240, 241, 242] (by decide +kernel) (by decide +kernel)
set_option maxRecDepth 20000 in
theorem gX8_worthMore_Jx4a65c_get_915e3 : GoodIn wsX8_worthMore (wsV RX8 45 RJx4a65c yJx4a65c_get_915e3 wsJx4a65c_get_915e3) := goodIn_app (goodIn_of _ (by decide +kernel)) ggX8_worthMore_Jx4a65c_get_915e3
set_option maxRecDepth 20000 in
theorem ggX8_worthMore_X7_worthThere : GoodIn wsX8_worthMore wsX7_worthThere := goodIn_r _ [187, 188, 39, 40, 189, 190, 191, 192, 193, 194, 35, 195, 196, 43, 197, 140, 132, 141, 198, 199, 200, 201, 41, 42, 202, 67, 15, 16, 17, 18, 19, 68, 69, 70, 71, 72, 73, 74, 75, 76, 77, 78, 79, 80, 81, 82, 83, 56, 203, 204, 205, 167, 206, 207, 208, 209, 210, 211, 212, 213, 214, 174, 215, 216, 217, 218, 171, 172, 219, 220, 221, 222, 223, 224, 225, 87, 226, 96, 229, 230, 231, 243, 244, 245, 246, 247, 248, 232, 233, 234, 235, 236, 237, 238, 239, 240, 241, 242] (by decide +kernel) (by decide +kernel)
set_option maxRecDepth 20000 in
theorem gX8_worthMore_X7_worthThere : GoodIn wsX8_worthMore (wsV RX8 203 RX7 yX7_worthThere wsX7_worthThere) := goodIn_app (goodIn_of _ (by decide +kernel)) ggX8_worthMore_X7_worthThere
theorem dX8_worthMore_0 : decode cX8_worthMore 0 = .ok (.aload_n 0, 1) := by decide +kernel
theorem dX8_worthMore_1 : decode cX8_worthMore 1 = .ok (.iload_n 1, 1) := by decide +kernel
theorem dX8_worthMore_2 : decode cX8_worthMore 2 = .ok (.invokevirtual 129, 3) := by decide +kernel
theorem dX8_worthMore_5 : decode cX8_worthMore 5 = .ok (.ifCond .ne 27, 3) := by decide +kernel
theorem dX8_worthMore_8 : decode cX8_worthMore 8 = .ok (.aload_n 0, 1) := by decide +kernel
theorem dX8_worthMore_9 : decode cX8_worthMore 9 = .ok (.iload_n 2, 1) := by decide +kernel
theorem dX8_worthMore_10 : decode cX8_worthMore 10 = .ok (.iconst 1, 1) := by decide +kernel
theorem dX8_worthMore_11 : decode cX8_worthMore 11 = .ok (.sipush 999, 3) := by decide +kernel
theorem dX8_worthMore_14 : decode cX8_worthMore 14 = .ok (.invokestatic 24, 3) := by decide +kernel
theorem dX8_worthMore_17 : decode cX8_worthMore 17 = .ok (.ifCond .ne 7, 3) := by decide +kernel
theorem dX8_worthMore_20 : decode cX8_worthMore 20 = .ok (.iconst 1, 1) := by decide +kernel
theorem dX8_worthMore_21 : decode cX8_worthMore 21 = .ok (.goto 4, 3) := by decide +kernel
theorem dX8_worthMore_24 : decode cX8_worthMore 24 = .ok (.iconst 0, 1) := by decide +kernel
theorem dX8_worthMore_25 : decode cX8_worthMore 25 = .ok (.iconst 2, 1) := by decide +kernel
theorem dX8_worthMore_26 : decode cX8_worthMore 26 = .ok (.invokevirtual 20, 3) := by decide +kernel
theorem dX8_worthMore_29 : decode cX8_worthMore 29 = .ok (.ifCond .eq 5, 3) := by decide +kernel
theorem dX8_worthMore_32 : decode cX8_worthMore 32 = .ok (.iconst 0, 1) := by decide +kernel
theorem dX8_worthMore_33 : decode cX8_worthMore 33 = .ok (.ireturn, 1) := by decide +kernel
theorem dX8_worthMore_34 : decode cX8_worthMore 34 = .ok (.aload_n 0, 1) := by decide +kernel
theorem dX8_worthMore_35 : decode cX8_worthMore 35 = .ok (.getfield 10, 3) := by decide +kernel
theorem dX8_worthMore_38 : decode cX8_worthMore 38 = .ok (.invokevirtual 199, 3) := by decide +kernel
theorem dX8_worthMore_41 : decode cX8_worthMore 41 = .ok (.astore_n 3, 1) := by decide +kernel
theorem dX8_worthMore_42 : decode cX8_worthMore 42 = .ok (.aload_n 3, 1) := by decide +kernel
theorem dX8_worthMore_43 : decode cX8_worthMore 43 = .ok (.getfield 118, 3) := by decide +kernel
theorem dX8_worthMore_46 : decode cX8_worthMore 46 = .ok (.iload_n 1, 1) := by decide +kernel
theorem dX8_worthMore_47 : decode cX8_worthMore 47 = .ok (.invokevirtual 45, 3) := by decide +kernel
theorem dX8_worthMore_50 : decode cX8_worthMore 50 = .ok (.checkcast 121, 3) := by decide +kernel
theorem dX8_worthMore_53 : decode cX8_worthMore 53 = .ok (.iload_n 2, 1) := by decide +kernel
theorem dX8_worthMore_54 : decode cX8_worthMore 54 = .ok (.putfield 147, 3) := by decide +kernel
theorem dX8_worthMore_57 : decode cX8_worthMore 57 = .ok (.aload_n 3, 1) := by decide +kernel
theorem dX8_worthMore_58 : decode cX8_worthMore 58 = .ok (.invokevirtual 203, 3) := by decide +kernel
theorem dX8_worthMore_61 : decode cX8_worthMore 61 = .ok (.aload_n 0, 1) := by decide +kernel
theorem dX8_worthMore_62 : decode cX8_worthMore 62 = .ok (.getfield 10, 3) := by decide +kernel
theorem dX8_worthMore_65 : decode cX8_worthMore 65 = .ok (.invokevirtual 203, 3) := by decide +kernel
theorem dX8_worthMore_68 : decode cX8_worthMore 68 = .ok (.isub, 1) := by decide +kernel
theorem dX8_worthMore_69 : decode cX8_worthMore 69 = .ok (.ireturn, 1) := by decide +kernel
set_option maxRecDepth 20000 in
theorem ggX8_wasteBy_X8_isNoPair : GoodIn wsX8_wasteBy wsX8_isNoPair := goodIn_r _ [8, 9, 10, 11, 7, 12, 1, 13, 14, 15, 16, 17, 18, 19, 20, 21, 22, 23, 24, 25, 26, 2, 27, 28, 29, 30, 31, 32, 33, 34, 35, 269, 270, 271, 272, 273, 274, 275, 276] (by decide +kernel) (by decide +kernel)
set_option maxRecDepth 20000 in
theorem gX8_wasteBy_X8_isNoPair : GoodIn wsX8_wasteBy (wsV RX8 159 RX8 yX8_isNoPair wsX8_isNoPair) := goodIn_app (goodIn_of _ (by decide +kernel)) ggX8_wasteBy_X8_isNoPair
set_option maxRecDepth 20000 in
theorem ggX8_wasteBy_Jx4a65c_get_915e3 : GoodIn wsX8_wasteBy wsJx4a65c_get_915e3 := goodIn_r _ [39, 19, 40, 41, 42, 43, 44, 45, 46, 47, 48, 49, 50, 17, 51, 52, 274, 275, 276] (by decide +kernel) (by decide +kernel)
set_option maxRecDepth 20000 in
theorem gX8_wasteBy_Jx4a65c_get_915e3 : GoodIn wsX8_wasteBy (wsV RX8 45 RJx4a65c yJx4a65c_get_915e3 wsJx4a65c_get_915e3) := goodIn_app (goodIn_of _ (by decide +kernel)) ggX8_wasteBy_Jx4a65c_get_915e3
set_option maxRecDepth 20000 in
theorem ggX8_wasteBy_X8_of : GoodIn wsX8_wasteBy wsX8_of := goodIn_r _ [56, 1, 13, 57, 36, 37, 38, 17, 39, 19, 40, 41, 42, 43, 44, 45, 46, 47, 48, 49, 50, 51, 52, 269, 270, 271, 272, 273, 274, 275, 276] (by decide +kernel) (by decide +kernel)
set_option maxRecDepth 20000 in
theorem gX8_wasteBy_X8_of : GoodIn wsX8_wasteBy (wsV RX8 64 RX8 yX8_of wsX8_of) := goodIn_app (goodIn_of _ (by decide +kernel)) ggX8_wasteBy_X8_of
set_option maxRecDepth 20000 in
theorem ggX8_wasteBy_X5_fits : GoodIn wsX8_wasteBy wsX5_fits := goodIn_r _ [62, 63, 64, 65, 66, 67, 68, 69, 70, 71, 72, 73, 74, 75, 61, 76, 77, 78, 79, 80, 81, 82, 83, 84, 85, 86, 87, 88, 89, 90, 91, 92, 93, 94, 95, 96, 97, 98, 15, 16, 17, 18, 19, 99, 37, 38, 39, 40, 41, 42, 43, 44, 45, 46, 47, 48, 49, 50, 51, 52, 277, 278, 279, 280, 281, 282, 283, 284, 285, 286, 287, 288, 289, 290, 274, 275, 276] (by decide +kernel) (by decide +kernel)
set_option maxRecDepth 20000 in
theorem gX8_wasteBy_X5_fits : GoodIn wsX8_wasteBy (wsV RX8 162 RX5 yX5_fits wsX5_fits) := goodIn_app (goodIn_of _ (by decide +kernel)) ggX8_wasteBy_X5_fits
set_option maxRecDepth 20000 in
theorem ggX8_wasteBy_X7_copy : GoodIn wsX8_wasteBy wsX7_copy := goodIn_r _ [104, 105, 106, 103, 107, 108, 109, 110, 111, 112, 113, 114, 115, 116, 117, 118, 119, 17, 120, 121, 122, 123, 52, 124, 125, 126, 127, 128, 129, 130, 131, 132, 133, 134, 15, 16, 18, 19, 135, 37, 38, 39, 40, 41, 42, 43, 44, 45, 46, 47, 48, 49, 50, 51, 136, 137, 138, 70, 139, 140, 141, 142, 143, 144, 145, 96, 72, 146, 147, 148, 149, 150, 151, 152, 153, 154, 155, 156, 157, 158, 159, 160, 161, 162, 163, 164, 165, 166, 167, 168, 169, 170, 171, 172, 173, 174, 175, 176, 177, 178, 179, 180, 181, 182, 183, 184, 185, 186, 187, 188, 189, 190, 191, 192, 193, 194, 195, 196, 197, 198, 199, 200, 201, 202, 203, 204, 205, 206, 207, 208, 209, 210, 211, 212, 213, 214, 215, 61, 216, 217, 218, 86, 87, 219, 81, 66, 220, 221, 222, 223, 224, 225, 226, 271, 272, 273, 274, 275, 276, 277, 278, 279, 280, 281, 282, 283, 284, 285, 286, 287, 288, 289, 290] (by decide +kernel) (by decide +kernel)
set_option maxRecDepth 20000 in
theorem gX8_wasteBy_X7_copy : GoodIn wsX8_wasteBy (wsV RX8 199 RX7 yX7_copy wsX7_copy) := goodIn_app (goodIn_of _ (by decide +kernel)) ggX8_wasteBy_X7_copy
set_option maxRecDepth 20000 in
theorem ggX8_wasteBy_X7_take : GoodIn wsX8_wasteBy wsX7_take := goodIn_r _ [230, 109, 110, 107, 108, 231, 111, 232, 233, 234, 235, 236, 189, 181, 190, 237, 238, 239, 180, 182, 135, 37, 38, 17, 39, 19, 40, 41, 42, 43, 44, 45, 46, 47, 48, 49, 50, 51, 52, 240, 59, 60, 61, 62, 63, 64, 65, 66, 67, 68, 69, 70, 71, 72, 73, 74, 75, 76, 77, 78, 79, 80, 81, 82, 83, 84, 85, 86, 87, 88, 89, 90, 91, 92, 93, 94, 95, 96, 97, 98, 15, 16, 18, 99, 241, 242, 243, 244, 103, 245, 246, 141, 247, 248, 249, 250, 251, 147, 148, 149, 116, 117, 150, 119, 142, 143, 144, 145, 151, 121, 122, 123, 124, 125, 126, 127, 128, 129, 130, 131, 132, 133, 134, 201, 202, 203, 204, 156, 157, 205, 206, 207, 208, 209, 210, 211, 212, 184, 185, 186, 187, 188, 191, 192, 193, 194, 195, 196, 197, 198, 199, 200, 166, 167, 168, 169, 170, 171, 172, 173, 174, 175, 176, 177, 178, 179, 183, 159, 160, 161, 252, 271, 272, 273, 277, 278, 279, 280, 281, 282, 283, 284, 285, 286, 287, 288, 289, 290, 274, 275, 276] (by decide +kernel) (by decide +kernel)
set_option maxRecDepth 20000 in
theorem gX8_wasteBy_X7_take : GoodIn wsX8_wasteBy (wsV RX8 166 RX7 yX7_take wsX7_take) := goodIn_app (goodIn_of _ (by decide +kernel)) ggX8_wasteBy_X7_take
set_option maxRecDepth 20000 in
theorem ggX8_wasteBy_X7_waste : GoodIn wsX8_wasteBy wsX7_waste := goodIn_r _ [256, 107, 108, 257, 109, 110, 237, 258, 259, 260, 261, 262, 103, 263, 134, 15, 16, 17, 18, 19, 135, 37, 38, 39, 40, 41, 42, 43, 44, 45, 46, 47, 48, 49, 50, 51, 52, 264, 68, 69, 70, 71, 72, 265, 266, 267, 268, 142, 143, 271, 272, 273, 277, 278, 279, 280, 281, 282, 283, 284, 285, 286, 287, 288, 289, 290, 274, 275, 276] (by decide +kernel) (by decide +kernel)
set_option maxRecDepth 20000 in
theorem gX8_wasteBy_X7_waste : GoodIn wsX8_wasteBy (wsV RX8 178 RX7 yX7_waste wsX7_waste) := goodIn_app (goodIn_of _ (by decide +kernel)) ggX8_wasteBy_X7_waste
theorem dX8_wasteBy_0 : decode cX8_wasteBy 0 = .ok (.aload_n 0, 1) := by decide +kernel
theorem dX8_wasteBy_1 : decode cX8_wasteBy 1 = .ok (.iload_n 1, 1) := by decide +kernel
theorem dX8_wasteBy_2 : decode cX8_wasteBy 2 = .ok (.iload_n 2, 1) := by decide +kernel
theorem dX8_wasteBy_3 : decode cX8_wasteBy 3 = .ok (.invokevirtual 159, 3) := by decide +kernel
theorem dX8_wasteBy_6 : decode cX8_wasteBy 6 = .ok (.ifCond .eq 5, 3) := by decide +kernel
theorem dX8_wasteBy_9 : decode cX8_wasteBy 9 = .ok (.iconst 0, 1) := by decide +kernel
theorem dX8_wasteBy_10 : decode cX8_wasteBy 10 = .ok (.ireturn, 1) := by decide +kernel
theorem dX8_wasteBy_11 : decode cX8_wasteBy 11 = .ok (.aload_n 0, 1) := by decide +kernel
theorem dX8_wasteBy_12 : decode cX8_wasteBy 12 = .ok (.getfield 10, 3) := by decide +kernel
theorem dX8_wasteBy_15 : decode cX8_wasteBy 15 = .ok (.getfield 118, 3) := by decide +kernel
theorem dX8_wasteBy_18 : decode cX8_wasteBy 18 = .ok (.iload_n 2, 1) := by decide +kernel
theorem dX8_wasteBy_19 : decode cX8_wasteBy 19 = .ok (.invokevirtual 45, 3) := by decide +kernel
theorem dX8_wasteBy_22 : decode cX8_wasteBy 22 = .ok (.checkcast 121, 3) := by decide +kernel
theorem dX8_wasteBy_25 : decode cX8_wasteBy 25 = .ok (.aload_n 0, 1) := by decide +kernel
theorem dX8_wasteBy_26 : decode cX8_wasteBy 26 = .ok (.iload_n 1, 1) := by decide +kernel
theorem dX8_wasteBy_27 : decode cX8_wasteBy 27 = .ok (.invokevirtual 64, 3) := by decide +kernel
theorem dX8_wasteBy_30 : decode cX8_wasteBy 30 = .ok (.invokevirtual 162, 3) := by decide +kernel
theorem dX8_wasteBy_33 : decode cX8_wasteBy 33 = .ok (.iconst (-1), 1) := by decide +kernel
theorem dX8_wasteBy_34 : decode cX8_wasteBy 34 = .ok (.if_icmp .ne 5, 3) := by decide +kernel
theorem dX8_wasteBy_37 : decode cX8_wasteBy 37 = .ok (.iconst (-1), 1) := by decide +kernel
theorem dX8_wasteBy_38 : decode cX8_wasteBy 38 = .ok (.ireturn, 1) := by decide +kernel
theorem dX8_wasteBy_39 : decode cX8_wasteBy 39 = .ok (.aload_n 0, 1) := by decide +kernel
theorem dX8_wasteBy_40 : decode cX8_wasteBy 40 = .ok (.getfield 10, 3) := by decide +kernel
theorem dX8_wasteBy_43 : decode cX8_wasteBy 43 = .ok (.invokevirtual 199, 3) := by decide +kernel
theorem dX8_wasteBy_46 : decode cX8_wasteBy 46 = .ok (.astore_n 3, 1) := by decide +kernel
theorem dX8_wasteBy_47 : decode cX8_wasteBy 47 = .ok (.aload_n 3, 1) := by decide +kernel
theorem dX8_wasteBy_48 : decode cX8_wasteBy 48 = .ok (.iload_n 1, 1) := by decide +kernel
theorem dX8_wasteBy_49 : decode cX8_wasteBy 49 = .ok (.iload_n 2, 1) := by decide +kernel
theorem dX8_wasteBy_50 : decode cX8_wasteBy 50 = .ok (.invokevirtual 166, 3) := by decide +kernel
theorem dX8_wasteBy_53 : decode cX8_wasteBy 53 = .ok (.pop, 1) := by decide +kernel
theorem dX8_wasteBy_54 : decode cX8_wasteBy 54 = .ok (.aload_n 3, 1) := by decide +kernel
theorem dX8_wasteBy_55 : decode cX8_wasteBy 55 = .ok (.invokevirtual 178, 3) := by decide +kernel
theorem dX8_wasteBy_58 : decode cX8_wasteBy 58 = .ok (.ireturn, 1) := by decide +kernel
set_option maxRecDepth 20000 in
theorem ggX8_planPaysNow_X7_copy : GoodIn wsX8_planPaysNow wsX7_copy := goodIn_r _ [6, 7, 8, 5, 9, 10, 11, 12, 13, 14, 15, 16, 17, 18, 19, 20, 21, 22, 23, 24, 25, 26, 27, 28, 29, 30, 31, 32, 33, 34, 35, 36, 37, 38, 39, 40, 41, 42, 43, 44, 45, 46, 47, 48, 49, 50, 51, 52, 53, 54, 55, 56, 57, 58, 59, 60, 61, 62, 63, 64, 65, 66, 67, 68, 69, 70, 71, 72, 73, 74, 75, 76, 77, 78, 79, 80, 81, 82, 83, 84, 85, 86, 87, 88, 89, 90, 91, 92, 93, 94, 95, 96, 97, 98, 99, 100, 101, 102, 103, 104, 105, 106, 107, 108, 109, 110, 111, 112, 113, 114, 115, 116, 117, 118, 119, 120, 121, 122, 123, 124, 125, 126, 127, 128, 129, 130, 131, 132, 133, 134, 135, 136, 137, 138, 139, 140, 141, 142, 143, 144, 145, 146, 147, 148, 149, 150, 151, 152, 153, 154, 155, 156, 157, 239, 240, 241, 242, 243, 244, 245, 246, 247, 248, 249, 250, 251, 252, 253, 254, 255, 256, 257, 258] (by decide +kernel) (by decide +kernel)
set_option maxRecDepth 20000 in
theorem gX8_planPaysNow_X7_copy : GoodIn wsX8_planPaysNow (wsV RX8 199 RX7 yX7_copy wsX7_copy) := goodIn_app (goodIn_of _ (by decide +kernel)) ggX8_planPaysNow_X7_copy
set_option maxRecDepth 20000 in
theorem ggX8_planPaysNow_X7_plan : GoodIn wsX8_planPaysNow wsX7_plan := goodIn_r _ [161, 162, 163, 164, 5, 165, 9, 11, 12, 166, 10, 38, 39, 40, 22, 41, 42, 43, 44, 45, 46, 47, 48, 49, 50, 51, 52, 53, 54, 55, 56, 57, 58, 27, 167, 168, 169, 142, 170, 171, 172, 173, 150, 174, 175, 176, 62, 177, 71, 178, 179, 180, 181, 182, 183, 184, 185, 149, 186, 187, 188, 189, 146, 147, 190, 191, 192, 193, 194, 195, 196, 197, 70, 198, 199, 200, 201, 202, 203, 204, 205, 206, 207, 208, 209, 66, 67, 210, 211, 212, 213, 214, 13, 215, 216, 217, 115, 107, 116, 218, 219, 220, 106, 108, 221, 222, 223, 224, 225, 226, 65, 227, 228, 229, 230, 231, 73, 74, 75, 18, 19, 76, 21, 68, 69, 77, 24, 25, 26, 28, 29, 30, 31, 32, 33, 34, 35, 36, 37, 127, 128, 129, 130, 82, 83, 131, 132, 133, 134, 135, 136, 137, 138, 110, 111, 112, 113, 114, 117, 118, 119, 120, 121, 122, 123, 124, 125, 126, 92, 93, 94, 95, 96, 97, 98, 99, 100, 101, 102, 103, 104, 105, 109, 85, 86, 87, 232, 239, 240, 241, 251, 252, 253, 254, 255, 256, 257, 258, 242, 243, 244, 245, 246, 247, 248, 249, 250] (by decide +kernel) (by decide +kernel)
set_option maxRecDepth 20000 in
theorem gX8_planPaysNow_X7_plan : GoodIn wsX8_planPaysNow (wsV RX8 169 RX7 yX7_plan wsX7_plan) := goodIn_app (goodIn_of _ (by decide +kernel)) ggX8_planPaysNow_X7_plan
set_option maxRecDepth 20000 in
theorem ggX8_planPaysNow_X7_paid : GoodIn wsX8_planPaysNow wsX7_paid := goodIn_r _ [236, 11, 12, 219, 38, 39, 40, 22, 41, 42, 43, 44, 45, 46, 47, 48, 49, 50, 51, 52, 53, 54, 55, 56, 57, 58, 27, 239, 240, 241, 251, 252, 253, 254, 255, 256, 257, 258, 242, 243, 244] (by decide +kernel) (by decide +kernel)
set_option maxRecDepth 20000 in
theorem gX8_planPaysNow_X7_paid : GoodIn wsX8_planPaysNow (wsV RX8 176 RX7 yX7_paid wsX7_paid) := goodIn_app (goodIn_of _ (by decide +kernel)) ggX8_planPaysNow_X7_paid
theorem dX8_planPaysNow_0 : decode cX8_planPaysNow 0 = .ok (.aload_n 0, 1) := by decide +kernel
theorem dX8_planPaysNow_1 : decode cX8_planPaysNow 1 = .ok (.getfield 10, 3) := by decide +kernel
theorem dX8_planPaysNow_4 : decode cX8_planPaysNow 4 = .ok (.invokevirtual 199, 3) := by decide +kernel
theorem dX8_planPaysNow_7 : decode cX8_planPaysNow 7 = .ok (.astore_n 2, 1) := by decide +kernel
theorem dX8_planPaysNow_8 : decode cX8_planPaysNow 8 = .ok (.aload_n 2, 1) := by decide +kernel
theorem dX8_planPaysNow_9 : decode cX8_planPaysNow 9 = .ok (.iload_n 1, 1) := by decide +kernel
theorem dX8_planPaysNow_10 : decode cX8_planPaysNow 10 = .ok (.invokevirtual 169, 3) := by decide +kernel
theorem dX8_planPaysNow_13 : decode cX8_planPaysNow 13 = .ok (.pop, 1) := by decide +kernel
theorem dX8_planPaysNow_14 : decode cX8_planPaysNow 14 = .ok (.aload_n 2, 1) := by decide +kernel
theorem dX8_planPaysNow_15 : decode cX8_planPaysNow 15 = .ok (.invokevirtual 176, 3) := by decide +kernel
theorem dX8_planPaysNow_18 : decode cX8_planPaysNow 18 = .ok (.aload_n 0, 1) := by decide +kernel
theorem dX8_planPaysNow_19 : decode cX8_planPaysNow 19 = .ok (.getfield 10, 3) := by decide +kernel
theorem dX8_planPaysNow_22 : decode cX8_planPaysNow 22 = .ok (.invokevirtual 176, 3) := by decide +kernel
theorem dX8_planPaysNow_25 : decode cX8_planPaysNow 25 = .ok (.isub, 1) := by decide +kernel
theorem dX8_planPaysNow_26 : decode cX8_planPaysNow 26 = .ok (.ireturn, 1) := by decide +kernel
set_option maxRecDepth 20000 in
theorem ggX8_planPays_X8_isIn : GoodIn wsX8_planPays wsX8_isIn := goodIn_r _ [4] (by decide +kernel) (by decide +kernel)
set_option maxRecDepth 20000 in
theorem gX8_planPays_X8_isIn : GoodIn wsX8_planPays (va_wsS RX8 24 yX8_isIn wsX8_isIn) := goodIn_app (goodIn_of _ (by decide +kernel)) ggX8_planPays_X8_isIn
set_option maxRecDepth 20000 in
theorem ggX8_planPays_X8_start : GoodIn wsX8_planPays wsX8_start := goodIn_r _ [8, 9, 10, 11, 12, 3, 13, 254, 255] (by decide +kernel) (by decide +kernel)
set_option maxRecDepth 20000 in
theorem gX8_planPays_X8_start : GoodIn wsX8_planPays (wsV RX8 42 RX8 yX8_start wsX8_start) := goodIn_app (goodIn_of _ (by decide +kernel)) ggX8_planPays_X8_start
set_option maxRecDepth 20000 in
theorem ggX8_planPays_X8_planPaysNow : GoodIn wsX8_planPays wsX8_planPaysNow := goodIn_r _ [17, 18, 19, 20, 21, 22, 23, 24, 25, 26, 27, 28, 29, 30, 31, 32, 33, 34, 35, 36, 37, 38, 39, 40, 41, 42, 43, 44, 45, 46, 47, 48, 49, 50, 51, 52, 53, 54, 55, 56, 57, 58, 59, 60, 61, 62, 63, 64, 65, 66, 67, 68, 69, 70, 71, 72, 73, 74, 75, 76, 77, 78, 79, 80, 81, 82, 83, 84, 85, 86, 87, 88, 89, 90, 91, 92, 93, 94, 95, 96, 97, 98, 99, 100, 101, 102, 103, 104, 105, 106, 107, 108, 109, 110, 111, 112, 113, 114, 115, 116, 117, 118, 119, 120, 121, 122, 123, 124, 125, 126, 127, 128, 129, 130, 131, 132, 133, 134, 135, 136, 137, 138, 139, 140, 141, 142, 143, 144, 145, 146, 147, 148, 149, 150, 151, 152, 153, 154, 155, 156, 157, 158, 159, 160, 161, 162, 163, 164, 165, 166, 167, 168, 169, 170, 171, 172, 173, 174, 175, 176, 177, 178, 179, 180, 181, 182, 183, 184, 185, 186, 187, 188, 189, 190, 191, 192, 193, 194, 195, 196, 197, 198, 199, 200, 201, 202, 203, 204, 205, 206, 207, 208, 209, 210, 211, 212, 213, 214, 215, 216, 217, 218, 219, 220, 221, 222, 223, 224, 225, 226, 227, 228, 229, 230, 231, 232, 233, 234, 235, 236, 237, 238, 239, 240, 241, 242, 243, 244, 245, 246, 247, 248, 249, 250, 251, 252, 253, 254, 255, 256, 257, 258, 259, 260, 261, 262, 263, 264, 265, 266, 267, 268, 269, 270, 271, 272, 273, 274, 275] (by decide +kernel) (by decide +kernel)
set_option maxRecDepth 20000 in
theorem gX8_planPays_X8_planPaysNow : GoodIn wsX8_planPays (wsV RX8 206 RX8 yX8_planPaysNow wsX8_planPaysNow) := goodIn_app (goodIn_of _ (by decide +kernel)) ggX8_planPays_X8_planPaysNow
theorem dX8_planPays_0 : decode cX8_planPays 0 = .ok (.aload_n 0, 1) := by decide +kernel
theorem dX8_planPays_1 : decode cX8_planPays 1 = .ok (.iload_n 1, 1) := by decide +kernel
theorem dX8_planPays_2 : decode cX8_planPays 2 = .ok (.iconst 1, 1) := by decide +kernel
theorem dX8_planPays_3 : decode cX8_planPays 3 = .ok (.bipush 20, 2) := by decide +kernel
theorem dX8_planPays_5 : decode cX8_planPays 5 = .ok (.invokestatic 24, 3) := by decide +kernel
theorem dX8_planPays_8 : decode cX8_planPays 8 = .ok (.ifCond .ne 7, 3) := by decide +kernel
theorem dX8_planPays_11 : decode cX8_planPays 11 = .ok (.iconst 1, 1) := by decide +kernel
theorem dX8_planPays_12 : decode cX8_planPays 12 = .ok (.goto 4, 3) := by decide +kernel
theorem dX8_planPays_15 : decode cX8_planPays 15 = .ok (.iconst 0, 1) := by decide +kernel
theorem dX8_planPays_16 : decode cX8_planPays 16 = .ok (.iconst 1, 1) := by decide +kernel
theorem dX8_planPays_17 : decode cX8_planPays 17 = .ok (.invokevirtual 42, 3) := by decide +kernel
theorem dX8_planPays_20 : decode cX8_planPays 20 = .ok (.ifCond .eq 7, 3) := by decide +kernel
theorem dX8_planPays_23 : decode cX8_planPays 23 = .ok (.iconst 0, 1) := by decide +kernel
theorem dX8_planPays_24 : decode cX8_planPays 24 = .ok (.goto 8, 3) := by decide +kernel
theorem dX8_planPays_27 : decode cX8_planPays 27 = .ok (.aload_n 0, 1) := by decide +kernel
theorem dX8_planPays_28 : decode cX8_planPays 28 = .ok (.iload_n 1, 1) := by decide +kernel
theorem dX8_planPays_29 : decode cX8_planPays 29 = .ok (.invokevirtual 206, 3) := by decide +kernel
theorem dX8_planPays_32 : decode cX8_planPays 32 = .ok (.ireturn, 1) := by decide +kernel
theorem dX8_add_0 : decode cX8_add 0 = .ok (.lload_n 0, 1) := by decide +kernel
theorem dX8_add_1 : decode cX8_add 1 = .ok (.ldc2_w 209, 3) := by decide +kernel
theorem dX8_add_4 : decode cX8_add 4 = .ok (.lmul, 1) := by decide +kernel
theorem dX8_add_5 : decode cX8_add 5 = .ok (.lload_n 2, 1) := by decide +kernel
theorem dX8_add_6 : decode cX8_add 6 = .ok (.ladd, 1) := by decide +kernel
theorem dX8_add_7 : decode cX8_add 7 = .ok (.lreturn, 1) := by decide +kernel
set_option maxRecDepth 20000 in
theorem ggX8_digest_X8_count : GoodIn wsX8_digest wsX8_count := goodIn_r _ [11, 3, 5, 6, 12, 13, 14, 4, 15, 16, 17, 18, 19, 20, 21, 22, 23, 24, 25, 26, 27, 28, 29, 30, 31, 32, 33, 34, 35, 36, 37, 38, 39, 40, 41, 42, 43, 44, 45, 46, 47, 48, 49, 50, 51, 52, 53, 54, 55, 56, 57, 58, 59, 60, 61, 62, 63, 64, 65, 66, 67, 68, 69, 70, 71, 72, 73, 74, 75, 76, 77, 78, 321, 322, 323, 324, 325, 326, 327, 328, 329, 330, 331, 332, 333, 334, 335, 336, 337, 338, 339, 340, 341, 342] (by decide +kernel) (by decide +kernel)
set_option maxRecDepth 20000 in
theorem gX8_digest_X8_count : GoodIn wsX8_digest (wsV RX8 184 RX8 yX8_count wsX8_count) := goodIn_app (goodIn_of _ (by decide +kernel)) ggX8_digest_X8_count
set_option maxRecDepth 20000 in
theorem ggX8_digest_X8_add : GoodIn wsX8_digest wsX8_add := goodIn_r _ [81, 82] (by decide +kernel) (by decide +kernel)
set_option maxRecDepth 20000 in
theorem gX8_digest_X8_add : GoodIn wsX8_digest (va_wsS RX8 213 yX8_add wsX8_add) := goodIn_app (goodIn_of _ (by decide +kernel)) ggX8_digest_X8_add
set_option maxRecDepth 20000 in
theorem ggX8_digest_Jx4a65c_size_8abf5 : GoodIn wsX8_digest wsJx4a65c_size_8abf5 := goodIn_r _ [19, 20, 334, 335, 336] (by decide +kernel) (by decide +kernel)
set_option maxRecDepth 20000 in
theorem gX8_digest_Jx4a65c_size_8abf5 : GoodIn wsX8_digest (wsV RX8 32 RJx4a65c yJx4a65c_size_8abf5 wsJx4a65c_size_8abf5) := goodIn_app (goodIn_of _ (by decide +kernel)) ggX8_digest_Jx4a65c_size_8abf5
set_option maxRecDepth 20000 in
theorem ggX8_digest_X8_of : GoodIn wsX8_digest wsX8_of := goodIn_r _ [86, 3, 4, 87, 21, 22, 23, 18, 24, 20, 25, 26, 27, 28, 29, 30, 31, 32, 33, 34, 35, 36, 37, 321, 322, 323, 324, 325, 334, 335, 336] (by decide +kernel) (by decide +kernel)
set_option maxRecDepth 20000 in
theorem gX8_digest_X8_of : GoodIn wsX8_digest (wsV RX8 64 RX8 yX8_of wsX8_of) := goodIn_app (goodIn_of _ (by decide +kernel)) ggX8_digest_X8_of
set_option maxRecDepth 20000 in
theorem ggX8_digest_X8_of_ : GoodIn wsX8_digest wsX8_of_ := goodIn_r _ [90, 14, 91, 92, 93, 94, 95, 96, 15, 16, 17, 18, 19, 20, 337, 338, 339, 340, 341, 342, 334, 335, 336] (by decide +kernel) (by decide +kernel)
set_option maxRecDepth 20000 in
theorem gX8_digest_X8_of_ : GoodIn wsX8_digest (va_wsS RX8 111 yX8_of_ wsX8_of_) := goodIn_app (goodIn_of _ (by decide +kernel)) ggX8_digest_X8_of_
set_option maxRecDepth 20000 in
theorem ggX8_digest_Jx4a65c_get_915e3 : GoodIn wsX8_digest wsJx4a65c_get_915e3 := goodIn_r _ [24, 20, 25, 26, 27, 28, 29, 30, 31, 32, 33, 34, 35, 18, 36, 37, 334, 335, 336] (by decide +kernel) (by decide +kernel)
set_option maxRecDepth 20000 in
theorem gX8_digest_Jx4a65c_get_915e3 : GoodIn wsX8_digest (wsV RX8 45 RJx4a65c yJx4a65c_get_915e3 wsJx4a65c_get_915e3) := goodIn_app (goodIn_of _ (by decide +kernel)) ggX8_digest_Jx4a65c_get_915e3
set_option maxRecDepth 20000 in
theorem ggX8_digest_X5_fits : GoodIn wsX8_digest wsX5_fits := goodIn_r _ [101, 102, 103, 104, 105, 106, 48, 49, 50, 51, 52, 107, 108, 109, 100, 110, 111, 112, 113, 114, 115, 116, 117, 118, 119, 120, 121, 122, 123, 124, 125, 126, 127, 128, 129, 130, 131, 132, 16, 17, 18, 19, 20, 133, 22, 23, 24, 25, 26, 27, 28, 29, 30, 31, 32, 33, 34, 35, 36, 37, 337, 338, 339, 340, 341, 342, 326, 327, 328, 329, 330, 331, 332, 333, 334, 335, 336] (by decide +kernel) (by decide +kernel)
set_option maxRecDepth 20000 in
theorem gX8_digest_X5_fits : GoodIn wsX8_digest (wsV RX8 162 RX5 yX5_fits wsX5_fits) := goodIn_app (goodIn_of _ (by decide +kernel)) ggX8_digest_X5_fits
set_option maxRecDepth 20000 in
theorem ggX8_digest_X8_of__ : GoodIn wsX8_digest wsX8_of__ := goodIn_r _ [136, 14, 137, 138, 139, 140, 141, 13, 12, 142, 326, 327, 328, 329, 330, 331, 332, 333] (by decide +kernel) (by decide +kernel)
set_option maxRecDepth 20000 in
theorem gX8_digest_X8_of__ : GoodIn wsX8_digest (va_wsS RX8 156 yX8_of__ wsX8_of__) := goodIn_app (goodIn_of _ (by decide +kernel)) ggX8_digest_X8_of__
set_option maxRecDepth 20000 in
theorem ggX8_digest_X7_worths : GoodIn wsX8_digest wsX7_worths := goodIn_r _ [146, 147, 14, 148, 149, 150, 151, 152, 153, 154, 155, 41, 156, 57, 58, 157, 45, 16, 17, 18, 19, 20, 46, 22, 23, 24, 25, 26, 27, 28, 29, 30, 31, 32, 33, 34, 35, 36, 37, 158, 159, 160, 100, 161, 107, 108, 109, 110, 111, 112, 113, 114, 115, 116, 117, 118, 119, 120, 121, 122, 123, 124, 125, 323, 324, 325, 326, 327, 328, 329, 330, 331, 332, 333, 334, 335, 336] (by decide +kernel) (by decide +kernel)
set_option maxRecDepth 20000 in
theorem gX8_digest_X7_worths : GoodIn wsX8_digest (wsV RX8 187 RX7 yX7_worths wsX7_worths) := goodIn_app (goodIn_of _ (by decide +kernel)) ggX8_digest_X7_worths
set_option maxRecDepth 20000 in
theorem ggX8_digest_X7_bestCut : GoodIn wsX8_digest wsX7_bestCut := goodIn_r _ [165, 148, 166, 167, 168, 41, 169, 57, 58, 157, 45, 16, 17, 18, 19, 20, 46, 22, 23, 24, 25, 26, 27, 28, 29, 30, 31, 32, 33, 34, 35, 36, 37, 158, 159, 160, 100, 161, 107, 108, 109, 110, 111, 112, 113, 114, 115, 116, 117, 118, 119, 120, 121, 122, 123, 124, 125, 323, 324, 325, 326, 327, 328, 329, 330, 331, 332, 333, 334, 335, 336] (by decide +kernel) (by decide +kernel)
set_option maxRecDepth 20000 in
theorem gX8_digest_X7_bestCut : GoodIn wsX8_digest (wsV RX8 191 RX7 yX7_bestCut wsX7_bestCut) := goodIn_app (goodIn_of _ (by decide +kernel)) ggX8_digest_X7_bestCut
set_option maxRecDepth 20000 in
theorem ggX8_digest_X8_planPaysNow : GoodIn wsX8_digest wsX8_planPaysNow := goodIn_r _ [173, 3, 174, 175, 176, 41, 177, 178, 179, 43, 44, 57, 58, 148, 180, 181, 182, 183, 184, 185, 186, 187, 18, 188, 189, 190, 191, 37, 192, 193, 194, 195, 196, 197, 198, 199, 200, 201, 45, 16, 17, 19, 20, 46, 22, 23, 24, 25, 26, 27, 28, 29, 30, 31, 32, 33, 34, 35, 36, 202, 203, 204, 50, 205, 206, 207, 76, 77, 208, 209, 130, 52, 210, 211, 212, 213, 214, 215, 216, 217, 218, 219, 220, 221, 222, 223, 224, 225, 226, 227, 228, 229, 230, 231, 232, 233, 234, 235, 236, 237, 238, 239, 240, 241, 242, 243, 244, 151, 245, 246, 247, 248, 249, 250, 251, 150, 152, 252, 253, 254, 255, 256, 257, 258, 259, 260, 261, 262, 263, 264, 265, 266, 267, 268, 269, 270, 271, 272, 273, 274, 275, 276, 100, 277, 278, 279, 120, 121, 280, 115, 105, 281, 282, 283, 284, 285, 286, 287, 288, 289, 290, 291, 292, 293, 294, 295, 296, 297, 98, 99, 101, 102, 103, 104, 106, 48, 49, 51, 107, 108, 109, 110, 111, 112, 113, 114, 116, 117, 118, 119, 122, 123, 124, 125, 126, 127, 128, 129, 131, 132, 133, 298, 299, 300, 301, 157, 72, 73, 74, 75, 302, 303, 304, 305, 306, 307, 308, 149, 65, 59, 309, 310, 311, 312, 313, 314, 315, 316, 317, 318, 14, 319, 320, 53, 54, 55, 56, 321, 322, 323, 324, 325, 334, 335, 336, 337, 338, 339, 340, 341, 342, 326, 327, 328, 329, 330, 331, 332, 333] (by decide +kernel) (by decide +kernel)
set_option maxRecDepth 20000 in
theorem gX8_digest_X8_planPaysNow : GoodIn wsX8_digest (wsV RX8 206 RX8 yX8_planPaysNow wsX8_planPaysNow) := goodIn_app (goodIn_of _ (by decide +kernel)) ggX8_digest_X8_planPaysNow
theorem dX8_digest_0 : decode cX8_digest 0 = .ok (.aload_n 0, 1) := by decide +kernel
theorem dX8_digest_1 : decode cX8_digest 1 = .ok (.iconst 0, 1) := by decide +kernel
theorem dX8_digest_2 : decode cX8_digest 2 = .ok (.putfield 16, 3) := by decide +kernel
theorem dX8_digest_5 : decode cX8_digest 5 = .ok (.ldc2_w 211, 3) := by decide +kernel
theorem dX8_digest_8 : decode cX8_digest 8 = .ok (.lstore_n 1, 1) := by decide +kernel
theorem dX8_digest_9 : decode cX8_digest 9 = .ok (.iconst 0, 1) := by decide +kernel
theorem dX8_digest_10 : decode cX8_digest 10 = .ok (.istore_n 3, 1) := by decide +kernel
theorem dX8_digest_11 : decode cX8_digest 11 = .ok (.iload_n 3, 1) := by decide +kernel
theorem dX8_digest_12 : decode cX8_digest 12 = .ok (.bipush 8, 2) := by decide +kernel
theorem dX8_digest_14 : decode cX8_digest 14 = .ok (.if_icmp .ge 20, 3) := by decide +kernel
theorem dX8_digest_17 : decode cX8_digest 17 = .ok (.lload_n 1, 1) := by decide +kernel
theorem dX8_digest_18 : decode cX8_digest 18 = .ok (.aload_n 0, 1) := by decide +kernel
theorem dX8_digest_19 : decode cX8_digest 19 = .ok (.iload_n 3, 1) := by decide +kernel
theorem dX8_digest_20 : decode cX8_digest 20 = .ok (.invokevirtual 184, 3) := by decide +kernel
theorem dX8_digest_23 : decode cX8_digest 23 = .ok (.i2l, 1) := by decide +kernel
theorem dX8_digest_24 : decode cX8_digest 24 = .ok (.invokestatic 213, 3) := by decide +kernel
theorem dX8_digest_27 : decode cX8_digest 27 = .ok (.lstore_n 1, 1) := by decide +kernel
theorem dX8_digest_28 : decode cX8_digest 28 = .ok (.iinc 3 1, 3) := by decide +kernel
theorem dX8_digest_31 : decode cX8_digest 31 = .ok (.goto (-20), 3) := by decide +kernel
theorem dX8_digest_34 : decode cX8_digest 34 = .ok (.iconst 0, 1) := by decide +kernel
theorem dX8_digest_35 : decode cX8_digest 35 = .ok (.istore_n 3, 1) := by decide +kernel
theorem dX8_digest_36 : decode cX8_digest 36 = .ok (.iload_n 3, 1) := by decide +kernel
theorem dX8_digest_37 : decode cX8_digest 37 = .ok (.aload_n 0, 1) := by decide +kernel
theorem dX8_digest_38 : decode cX8_digest 38 = .ok (.getfield 10, 3) := by decide +kernel
theorem dX8_digest_41 : decode cX8_digest 41 = .ok (.getfield 28, 3) := by decide +kernel
theorem dX8_digest_44 : decode cX8_digest 44 = .ok (.invokevirtual 32, 3) := by decide +kernel
theorem dX8_digest_47 : decode cX8_digest 47 = .ok (.if_icmp .ge 94, 3) := by decide +kernel
theorem dX8_digest_50 : decode cX8_digest 50 = .ok (.iconst 0, 1) := by decide +kernel
theorem dX8_digest_51 : decode cX8_digest 51 = .ok (.istore 4, 2) := by decide +kernel
theorem dX8_digest_53 : decode cX8_digest 53 = .ok (.iload 4, 2) := by decide +kernel
theorem dX8_digest_55 : decode cX8_digest 55 = .ok (.bipush 6, 2) := by decide +kernel
theorem dX8_digest_57 : decode cX8_digest 57 = .ok (.if_icmp .ge 25, 3) := by decide +kernel
theorem dX8_digest_60 : decode cX8_digest 60 = .ok (.lload_n 1, 1) := by decide +kernel
theorem dX8_digest_61 : decode cX8_digest 61 = .ok (.aload_n 0, 1) := by decide +kernel
theorem dX8_digest_62 : decode cX8_digest 62 = .ok (.iload_n 3, 1) := by decide +kernel
theorem dX8_digest_63 : decode cX8_digest 63 = .ok (.invokevirtual 64, 3) := by decide +kernel
theorem dX8_digest_66 : decode cX8_digest 66 = .ok (.iload 4, 2) := by decide +kernel
theorem dX8_digest_68 : decode cX8_digest 68 = .ok (.invokestatic 111, 3) := by decide +kernel
theorem dX8_digest_71 : decode cX8_digest 71 = .ok (.i2l, 1) := by decide +kernel
theorem dX8_digest_72 : decode cX8_digest 72 = .ok (.invokestatic 213, 3) := by decide +kernel
theorem dX8_digest_75 : decode cX8_digest 75 = .ok (.lstore_n 1, 1) := by decide +kernel
theorem dX8_digest_76 : decode cX8_digest 76 = .ok (.iinc 4 1, 3) := by decide +kernel
theorem dX8_digest_79 : decode cX8_digest 79 = .ok (.goto (-26), 3) := by decide +kernel
theorem dX8_digest_82 : decode cX8_digest 82 = .ok (.iconst 0, 1) := by decide +kernel
theorem dX8_digest_83 : decode cX8_digest 83 = .ok (.istore 4, 2) := by decide +kernel
theorem dX8_digest_85 : decode cX8_digest 85 = .ok (.iload 4, 2) := by decide +kernel
theorem dX8_digest_87 : decode cX8_digest 87 = .ok (.aload_n 0, 1) := by decide +kernel
theorem dX8_digest_88 : decode cX8_digest 88 = .ok (.getfield 10, 3) := by decide +kernel
theorem dX8_digest_91 : decode cX8_digest 91 = .ok (.getfield 118, 3) := by decide +kernel
theorem dX8_digest_94 : decode cX8_digest 94 = .ok (.invokevirtual 32, 3) := by decide +kernel
theorem dX8_digest_97 : decode cX8_digest 97 = .ok (.if_icmp .ge 38, 3) := by decide +kernel
theorem dX8_digest_100 : decode cX8_digest 100 = .ok (.lload_n 1, 1) := by decide +kernel
theorem dX8_digest_101 : decode cX8_digest 101 = .ok (.aload_n 0, 1) := by decide +kernel
theorem dX8_digest_102 : decode cX8_digest 102 = .ok (.getfield 10, 3) := by decide +kernel
theorem dX8_digest_105 : decode cX8_digest 105 = .ok (.getfield 118, 3) := by decide +kernel
theorem dX8_digest_108 : decode cX8_digest 108 = .ok (.iload 4, 2) := by decide +kernel
theorem dX8_digest_110 : decode cX8_digest 110 = .ok (.invokevirtual 45, 3) := by decide +kernel
theorem dX8_digest_113 : decode cX8_digest 113 = .ok (.checkcast 121, 3) := by decide +kernel
theorem dX8_digest_116 : decode cX8_digest 116 = .ok (.aload_n 0, 1) := by decide +kernel
theorem dX8_digest_117 : decode cX8_digest 117 = .ok (.iload_n 3, 1) := by decide +kernel
theorem dX8_digest_118 : decode cX8_digest 118 = .ok (.invokevirtual 64, 3) := by decide +kernel
theorem dX8_digest_121 : decode cX8_digest 121 = .ok (.invokevirtual 162, 3) := by decide +kernel
theorem dX8_digest_124 : decode cX8_digest 124 = .ok (.i2l, 1) := by decide +kernel
theorem dX8_digest_125 : decode cX8_digest 125 = .ok (.invokestatic 213, 3) := by decide +kernel
theorem dX8_digest_128 : decode cX8_digest 128 = .ok (.lstore_n 1, 1) := by decide +kernel
theorem dX8_digest_129 : decode cX8_digest 129 = .ok (.iinc 4 1, 3) := by decide +kernel
theorem dX8_digest_132 : decode cX8_digest 132 = .ok (.goto (-47), 3) := by decide +kernel
theorem dX8_digest_135 : decode cX8_digest 135 = .ok (.iinc 3 1, 3) := by decide +kernel
theorem dX8_digest_138 : decode cX8_digest 138 = .ok (.goto (-102), 3) := by decide +kernel
theorem dX8_digest_141 : decode cX8_digest 141 = .ok (.iconst 0, 1) := by decide +kernel
theorem dX8_digest_142 : decode cX8_digest 142 = .ok (.istore_n 3, 1) := by decide +kernel
theorem dX8_digest_143 : decode cX8_digest 143 = .ok (.iload_n 3, 1) := by decide +kernel
theorem dX8_digest_144 : decode cX8_digest 144 = .ok (.aload_n 0, 1) := by decide +kernel
theorem dX8_digest_145 : decode cX8_digest 145 = .ok (.getfield 10, 3) := by decide +kernel
theorem dX8_digest_148 : decode cX8_digest 148 = .ok (.getfield 118, 3) := by decide +kernel
theorem dX8_digest_151 : decode cX8_digest 151 = .ok (.invokevirtual 32, 3) := by decide +kernel
theorem dX8_digest_154 : decode cX8_digest 154 = .ok (.if_icmp .ge 50, 3) := by decide +kernel
theorem dX8_digest_157 : decode cX8_digest 157 = .ok (.iconst 0, 1) := by decide +kernel
theorem dX8_digest_158 : decode cX8_digest 158 = .ok (.istore 4, 2) := by decide +kernel
theorem dX8_digest_160 : decode cX8_digest 160 = .ok (.iload 4, 2) := by decide +kernel
theorem dX8_digest_162 : decode cX8_digest 162 = .ok (.bipush 8, 2) := by decide +kernel
theorem dX8_digest_164 : decode cX8_digest 164 = .ok (.if_icmp .ge 34, 3) := by decide +kernel
theorem dX8_digest_167 : decode cX8_digest 167 = .ok (.lload_n 1, 1) := by decide +kernel
theorem dX8_digest_168 : decode cX8_digest 168 = .ok (.aload_n 0, 1) := by decide +kernel
theorem dX8_digest_169 : decode cX8_digest 169 = .ok (.getfield 10, 3) := by decide +kernel
theorem dX8_digest_172 : decode cX8_digest 172 = .ok (.getfield 118, 3) := by decide +kernel
theorem dX8_digest_175 : decode cX8_digest 175 = .ok (.iload_n 3, 1) := by decide +kernel
theorem dX8_digest_176 : decode cX8_digest 176 = .ok (.invokevirtual 45, 3) := by decide +kernel
theorem dX8_digest_179 : decode cX8_digest 179 = .ok (.checkcast 121, 3) := by decide +kernel
theorem dX8_digest_182 : decode cX8_digest 182 = .ok (.iload 4, 2) := by decide +kernel
theorem dX8_digest_184 : decode cX8_digest 184 = .ok (.invokestatic 156, 3) := by decide +kernel
theorem dX8_digest_187 : decode cX8_digest 187 = .ok (.i2l, 1) := by decide +kernel
theorem dX8_digest_188 : decode cX8_digest 188 = .ok (.invokestatic 213, 3) := by decide +kernel
theorem dX8_digest_191 : decode cX8_digest 191 = .ok (.lstore_n 1, 1) := by decide +kernel
theorem dX8_digest_192 : decode cX8_digest 192 = .ok (.iinc 4 1, 3) := by decide +kernel
theorem dX8_digest_195 : decode cX8_digest 195 = .ok (.goto (-35), 3) := by decide +kernel
theorem dX8_digest_198 : decode cX8_digest 198 = .ok (.iinc 3 1, 3) := by decide +kernel
theorem dX8_digest_201 : decode cX8_digest 201 = .ok (.goto (-58), 3) := by decide +kernel
theorem dX8_digest_204 : decode cX8_digest 204 = .ok (.aload_n 0, 1) := by decide +kernel
theorem dX8_digest_205 : decode cX8_digest 205 = .ok (.getfield 10, 3) := by decide +kernel
theorem dX8_digest_208 : decode cX8_digest 208 = .ok (.iconst 0, 1) := by decide +kernel
theorem dX8_digest_209 : decode cX8_digest 209 = .ok (.invokevirtual 187, 3) := by decide +kernel
theorem dX8_digest_212 : decode cX8_digest 212 = .ok (.astore_n 3, 1) := by decide +kernel
theorem dX8_digest_213 : decode cX8_digest 213 = .ok (.lload_n 1, 1) := by decide +kernel
theorem dX8_digest_214 : decode cX8_digest 214 = .ok (.aload_n 3, 1) := by decide +kernel
theorem dX8_digest_215 : decode cX8_digest 215 = .ok (.bipush 12, 2) := by decide +kernel
theorem dX8_digest_217 : decode cX8_digest 217 = .ok (.aaload, 1) := by decide +kernel
theorem dX8_digest_218 : decode cX8_digest 218 = .ok (.bipush 9, 2) := by decide +kernel
theorem dX8_digest_220 : decode cX8_digest 220 = .ok (.iaload, 1) := by decide +kernel
theorem dX8_digest_221 : decode cX8_digest 221 = .ok (.i2l, 1) := by decide +kernel
theorem dX8_digest_222 : decode cX8_digest 222 = .ok (.invokestatic 213, 3) := by decide +kernel
theorem dX8_digest_225 : decode cX8_digest 225 = .ok (.aload_n 0, 1) := by decide +kernel
theorem dX8_digest_226 : decode cX8_digest 226 = .ok (.getfield 10, 3) := by decide +kernel
theorem dX8_digest_229 : decode cX8_digest 229 = .ok (.aload_n 3, 1) := by decide +kernel
theorem dX8_digest_230 : decode cX8_digest 230 = .ok (.bipush 12, 2) := by decide +kernel
theorem dX8_digest_232 : decode cX8_digest 232 = .ok (.bipush 9, 2) := by decide +kernel
theorem dX8_digest_234 : decode cX8_digest 234 = .ok (.iconst 0, 1) := by decide +kernel
theorem dX8_digest_235 : decode cX8_digest 235 = .ok (.invokevirtual 191, 3) := by decide +kernel
theorem dX8_digest_238 : decode cX8_digest 238 = .ok (.i2l, 1) := by decide +kernel
theorem dX8_digest_239 : decode cX8_digest 239 = .ok (.invokestatic 213, 3) := by decide +kernel
theorem dX8_digest_242 : decode cX8_digest 242 = .ok (.lstore_n 1, 1) := by decide +kernel
theorem dX8_digest_243 : decode cX8_digest 243 = .ok (.lload_n 1, 1) := by decide +kernel
theorem dX8_digest_244 : decode cX8_digest 244 = .ok (.aload_n 0, 1) := by decide +kernel
theorem dX8_digest_245 : decode cX8_digest 245 = .ok (.iconst 3, 1) := by decide +kernel
theorem dX8_digest_246 : decode cX8_digest 246 = .ok (.invokevirtual 206, 3) := by decide +kernel
theorem dX8_digest_249 : decode cX8_digest 249 = .ok (.i2l, 1) := by decide +kernel
theorem dX8_digest_250 : decode cX8_digest 250 = .ok (.invokestatic 213, 3) := by decide +kernel
theorem dX8_digest_253 : decode cX8_digest 253 = .ok (.lreturn, 1) := by decide +kernel
