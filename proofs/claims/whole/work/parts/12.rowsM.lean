theorem dX5_init_0 : decode cX5_init 0 = .ok (.aload_n 0, 1) := by decide +kernel
theorem dX5_init_1 : decode cX5_init 1 = .ok (.invokespecial 3, 3) := by decide +kernel
theorem dX5_init_4 : decode cX5_init 4 = .ok (.aload_n 0, 1) := by decide +kernel
theorem dX5_init_5 : decode cX5_init 5 = .ok (.iload_n 1, 1) := by decide +kernel
theorem dX5_init_6 : decode cX5_init 6 = .ok (.putfield 9, 3) := by decide +kernel
theorem dX5_init_9 : decode cX5_init 9 = .ok (.aload_n 0, 1) := by decide +kernel
theorem dX5_init_10 : decode cX5_init 10 = .ok (.iload_n 2, 1) := by decide +kernel
theorem dX5_init_11 : decode cX5_init 11 = .ok (.putfield 15, 3) := by decide +kernel
theorem dX5_init_14 : decode cX5_init 14 = .ok (.aload_n 0, 1) := by decide +kernel
theorem dX5_init_15 : decode cX5_init 15 = .ok (.iload_n 3, 1) := by decide +kernel
theorem dX5_init_16 : decode cX5_init 16 = .ok (.putfield 18, 3) := by decide +kernel
theorem dX5_init_19 : decode cX5_init 19 = .ok (.return_, 1) := by decide +kernel
set_option maxRecDepth 20000 in
theorem ggX5_copy_X5_init : GoodIn wsX5_copy wsX5_init := goodIn_r _ [14, 15, 16, 17, 4, 5, 6, 18, 19, 20, 21, 22, 23, 24, 25] (by decide +kernel) (by decide +kernel)
set_option maxRecDepth 20000 in
theorem gX5_copy_X5_init : GoodIn wsX5_copy (wsX5_init) := ggX5_copy_X5_init
theorem dX5_copy_0 : decode cX5_copy 0 = .ok (.new 10, 3) := by decide +kernel
theorem dX5_copy_3 : decode cX5_copy 3 = .ok (.dup, 1) := by decide +kernel
theorem dX5_copy_4 : decode cX5_copy 4 = .ok (.aload_n 0, 1) := by decide +kernel
theorem dX5_copy_5 : decode cX5_copy 5 = .ok (.getfield 9, 3) := by decide +kernel
theorem dX5_copy_8 : decode cX5_copy 8 = .ok (.aload_n 0, 1) := by decide +kernel
theorem dX5_copy_9 : decode cX5_copy 9 = .ok (.getfield 15, 3) := by decide +kernel
theorem dX5_copy_12 : decode cX5_copy 12 = .ok (.aload_n 0, 1) := by decide +kernel
theorem dX5_copy_13 : decode cX5_copy 13 = .ok (.getfield 18, 3) := by decide +kernel
theorem dX5_copy_16 : decode cX5_copy 16 = .ok (.invokespecial 21, 3) := by decide +kernel
theorem dX5_copy_19 : decode cX5_copy 19 = .ok (.astore_n 1, 1) := by decide +kernel
theorem dX5_copy_20 : decode cX5_copy 20 = .ok (.aload_n 1, 1) := by decide +kernel
theorem dX5_copy_21 : decode cX5_copy 21 = .ok (.aload_n 0, 1) := by decide +kernel
theorem dX5_copy_22 : decode cX5_copy 22 = .ok (.getfield 24, 3) := by decide +kernel
theorem dX5_copy_25 : decode cX5_copy 25 = .ok (.putfield 24, 3) := by decide +kernel
theorem dX5_copy_28 : decode cX5_copy 28 = .ok (.aload_n 1, 1) := by decide +kernel
theorem dX5_copy_29 : decode cX5_copy 29 = .ok (.aload_n 0, 1) := by decide +kernel
theorem dX5_copy_30 : decode cX5_copy 30 = .ok (.getfield 27, 3) := by decide +kernel
theorem dX5_copy_33 : decode cX5_copy 33 = .ok (.putfield 27, 3) := by decide +kernel
theorem dX5_copy_36 : decode cX5_copy 36 = .ok (.aload_n 1, 1) := by decide +kernel
theorem dX5_copy_37 : decode cX5_copy 37 = .ok (.aload_n 0, 1) := by decide +kernel
theorem dX5_copy_38 : decode cX5_copy 38 = .ok (.getfield 30, 3) := by decide +kernel
theorem dX5_copy_41 : decode cX5_copy 41 = .ok (.putfield 30, 3) := by decide +kernel
theorem dX5_copy_44 : decode cX5_copy 44 = .ok (.aload_n 1, 1) := by decide +kernel
theorem dX5_copy_45 : decode cX5_copy 45 = .ok (.aload_n 0, 1) := by decide +kernel
theorem dX5_copy_46 : decode cX5_copy 46 = .ok (.getfield 33, 3) := by decide +kernel
theorem dX5_copy_49 : decode cX5_copy 49 = .ok (.putfield 33, 3) := by decide +kernel
theorem dX5_copy_52 : decode cX5_copy 52 = .ok (.aload_n 1, 1) := by decide +kernel
theorem dX5_copy_53 : decode cX5_copy 53 = .ok (.aload_n 0, 1) := by decide +kernel
theorem dX5_copy_54 : decode cX5_copy 54 = .ok (.getfield 36, 3) := by decide +kernel
theorem dX5_copy_57 : decode cX5_copy 57 = .ok (.putfield 36, 3) := by decide +kernel
theorem dX5_copy_60 : decode cX5_copy 60 = .ok (.aload_n 1, 1) := by decide +kernel
theorem dX5_copy_61 : decode cX5_copy 61 = .ok (.areturn, 1) := by decide +kernel
theorem dX5_wide_0 : decode cX5_wide 0 = .ok (.iload_n 1, 1) := by decide +kernel
theorem dX5_wide_1 : decode cX5_wide 1 = .ok (.ifCond .ne 10, 3) := by decide +kernel
theorem dX5_wide_4 : decode cX5_wide 4 = .ok (.aload_n 0, 1) := by decide +kernel
theorem dX5_wide_5 : decode cX5_wide 5 = .ok (.getfield 9, 3) := by decide +kernel
theorem dX5_wide_8 : decode cX5_wide 8 = .ok (.goto 7, 3) := by decide +kernel
theorem dX5_wide_11 : decode cX5_wide 11 = .ok (.aload_n 0, 1) := by decide +kernel
theorem dX5_wide_12 : decode cX5_wide 12 = .ok (.getfield 15, 3) := by decide +kernel
theorem dX5_wide_15 : decode cX5_wide 15 = .ok (.ireturn, 1) := by decide +kernel
theorem dX5_high_0 : decode cX5_high 0 = .ok (.iload_n 1, 1) := by decide +kernel
theorem dX5_high_1 : decode cX5_high 1 = .ok (.ifCond .ne 10, 3) := by decide +kernel
theorem dX5_high_4 : decode cX5_high 4 = .ok (.aload_n 0, 1) := by decide +kernel
theorem dX5_high_5 : decode cX5_high 5 = .ok (.getfield 15, 3) := by decide +kernel
theorem dX5_high_8 : decode cX5_high 8 = .ok (.goto 7, 3) := by decide +kernel
theorem dX5_high_11 : decode cX5_high 11 = .ok (.aload_n 0, 1) := by decide +kernel
theorem dX5_high_12 : decode cX5_high 12 = .ok (.getfield 9, 3) := by decide +kernel
theorem dX5_high_15 : decode cX5_high 15 = .ok (.ireturn, 1) := by decide +kernel
theorem dX5_isLet_0 : decode cX5_isLet 0 = .ok (.aload_n 0, 1) := by decide +kernel
theorem dX5_isLet_1 : decode cX5_isLet 1 = .ok (.getfield 24, 3) := by decide +kernel
theorem dX5_isLet_4 : decode cX5_isLet 4 = .ok (.ifCond .eq 29, 3) := by decide +kernel
theorem dX5_isLet_7 : decode cX5_isLet 7 = .ok (.aload_n 0, 1) := by decide +kernel
theorem dX5_isLet_8 : decode cX5_isLet 8 = .ok (.getfield 24, 3) := by decide +kernel
theorem dX5_isLet_11 : decode cX5_isLet 11 = .ok (.iconst 1, 1) := by decide +kernel
theorem dX5_isLet_12 : decode cX5_isLet 12 = .ok (.if_icmp .ne 7, 3) := by decide +kernel
theorem dX5_isLet_15 : decode cX5_isLet 15 = .ok (.iconst 1, 1) := by decide +kernel
theorem dX5_isLet_16 : decode cX5_isLet 16 = .ok (.goto 4, 3) := by decide +kernel
theorem dX5_isLet_19 : decode cX5_isLet 19 = .ok (.iconst 0, 1) := by decide +kernel
theorem dX5_isLet_20 : decode cX5_isLet 20 = .ok (.iload_n 1, 1) := by decide +kernel
theorem dX5_isLet_21 : decode cX5_isLet 21 = .ok (.iload_n 2, 1) := by decide +kernel
theorem dX5_isLet_22 : decode cX5_isLet 22 = .ok (.if_icmp .ne 7, 3) := by decide +kernel
theorem dX5_isLet_25 : decode cX5_isLet 25 = .ok (.iconst 1, 1) := by decide +kernel
theorem dX5_isLet_26 : decode cX5_isLet 26 = .ok (.goto 4, 3) := by decide +kernel
theorem dX5_isLet_29 : decode cX5_isLet 29 = .ok (.iconst 0, 1) := by decide +kernel
theorem dX5_isLet_30 : decode cX5_isLet 30 = .ok (.if_icmp .ne 7, 3) := by decide +kernel
theorem dX5_isLet_33 : decode cX5_isLet 33 = .ok (.iconst 1, 1) := by decide +kernel
theorem dX5_isLet_34 : decode cX5_isLet 34 = .ok (.goto 4, 3) := by decide +kernel
theorem dX5_isLet_37 : decode cX5_isLet 37 = .ok (.iconst 0, 1) := by decide +kernel
theorem dX5_isLet_38 : decode cX5_isLet 38 = .ok (.ireturn, 1) := by decide +kernel
set_option maxRecDepth 20000 in
theorem ggX5_lies_X5_isLet : GoodIn wsX5_lies wsX5_isLet := goodIn_r _ [5, 6, 17, 18, 19, 20, 21, 22, 23, 24] (by decide +kernel) (by decide +kernel)
set_option maxRecDepth 20000 in
theorem gX5_lies_X5_isLet : GoodIn wsX5_lies (wsV RX5 39 RX5 yX5_isLet wsX5_isLet) := goodIn_app (goodIn_of _ (by decide +kernel)) ggX5_lies_X5_isLet
set_option maxRecDepth 20000 in
theorem ggX5_lies_X5_wide : GoodIn wsX5_lies wsX5_wide := goodIn_r _ [10, 11, 12, 17, 18, 19, 20, 21, 22, 23, 24] (by decide +kernel) (by decide +kernel)
set_option maxRecDepth 20000 in
theorem gX5_lies_X5_wide : GoodIn wsX5_lies (wsV RX5 43 RX5 yX5_wide wsX5_wide) := goodIn_app (goodIn_of _ (by decide +kernel)) ggX5_lies_X5_wide
set_option maxRecDepth 20000 in
theorem ggX5_lies_X5_high : GoodIn wsX5_lies wsX5_high := goodIn_r _ [16, 12, 11, 17, 18, 19, 20, 21, 22, 23, 24] (by decide +kernel) (by decide +kernel)
set_option maxRecDepth 20000 in
theorem gX5_lies_X5_high : GoodIn wsX5_lies (wsV RX5 47 RX5 yX5_high wsX5_high) := goodIn_app (goodIn_of _ (by decide +kernel)) ggX5_lies_X5_high
theorem dX5_lies_0 : decode cX5_lies 0 = .ok (.aload_n 0, 1) := by decide +kernel
theorem dX5_lies_1 : decode cX5_lies 1 = .ok (.iload_n 1, 1) := by decide +kernel
theorem dX5_lies_2 : decode cX5_lies 2 = .ok (.iload 4, 2) := by decide +kernel
theorem dX5_lies_4 : decode cX5_lies 4 = .ok (.invokevirtual 39, 3) := by decide +kernel
theorem dX5_lies_7 : decode cX5_lies 7 = .ok (.ifCond .eq 25, 3) := by decide +kernel
theorem dX5_lies_10 : decode cX5_lies 10 = .ok (.aload_n 0, 1) := by decide +kernel
theorem dX5_lies_11 : decode cX5_lies 11 = .ok (.iload_n 1, 1) := by decide +kernel
theorem dX5_lies_12 : decode cX5_lies 12 = .ok (.invokevirtual 43, 3) := by decide +kernel
theorem dX5_lies_15 : decode cX5_lies 15 = .ok (.iload_n 2, 1) := by decide +kernel
theorem dX5_lies_16 : decode cX5_lies 16 = .ok (.if_icmp .gt 16, 3) := by decide +kernel
theorem dX5_lies_19 : decode cX5_lies 19 = .ok (.aload_n 0, 1) := by decide +kernel
theorem dX5_lies_20 : decode cX5_lies 20 = .ok (.iload_n 1, 1) := by decide +kernel
theorem dX5_lies_21 : decode cX5_lies 21 = .ok (.invokevirtual 47, 3) := by decide +kernel
theorem dX5_lies_24 : decode cX5_lies 24 = .ok (.iload_n 3, 1) := by decide +kernel
theorem dX5_lies_25 : decode cX5_lies 25 = .ok (.if_icmp .gt 7, 3) := by decide +kernel
theorem dX5_lies_28 : decode cX5_lies 28 = .ok (.iconst 1, 1) := by decide +kernel
theorem dX5_lies_29 : decode cX5_lies 29 = .ok (.goto 4, 3) := by decide +kernel
theorem dX5_lies_32 : decode cX5_lies 32 = .ok (.iconst 0, 1) := by decide +kernel
theorem dX5_lies_33 : decode cX5_lies 33 = .ok (.ireturn, 1) := by decide +kernel
set_option maxRecDepth 20000 in
theorem ggX5_lies__X5_lies : GoodIn wsX5_lies_ wsX5_lies := goodIn_r _ [5, 6, 7, 8, 4, 9, 10, 11, 12, 13, 14, 15, 16, 17, 18, 19, 20, 21, 22, 23, 24, 25, 26, 27, 28] (by decide +kernel) (by decide +kernel)
set_option maxRecDepth 20000 in
theorem gX5_lies__X5_lies : GoodIn wsX5_lies_ (wsV RX5 50 RX5 yX5_lies wsX5_lies) := goodIn_app (goodIn_of _ (by decide +kernel)) ggX5_lies__X5_lies
theorem dX5_lies__0 : decode cX5_lies_ 0 = .ok (.aload_n 0, 1) := by decide +kernel
theorem dX5_lies__1 : decode cX5_lies_ 1 = .ok (.iconst 0, 1) := by decide +kernel
theorem dX5_lies__2 : decode cX5_lies_ 2 = .ok (.iload_n 1, 1) := by decide +kernel
theorem dX5_lies__3 : decode cX5_lies_ 3 = .ok (.iload_n 2, 1) := by decide +kernel
theorem dX5_lies__4 : decode cX5_lies_ 4 = .ok (.iload_n 3, 1) := by decide +kernel
theorem dX5_lies__5 : decode cX5_lies_ 5 = .ok (.invokevirtual 50, 3) := by decide +kernel
theorem dX5_lies__8 : decode cX5_lies_ 8 = .ok (.ifCond .ne 14, 3) := by decide +kernel
theorem dX5_lies__11 : decode cX5_lies_ 11 = .ok (.aload_n 0, 1) := by decide +kernel
theorem dX5_lies__12 : decode cX5_lies_ 12 = .ok (.iconst 1, 1) := by decide +kernel
theorem dX5_lies__13 : decode cX5_lies_ 13 = .ok (.iload_n 1, 1) := by decide +kernel
theorem dX5_lies__14 : decode cX5_lies_ 14 = .ok (.iload_n 2, 1) := by decide +kernel
theorem dX5_lies__15 : decode cX5_lies_ 15 = .ok (.iload_n 3, 1) := by decide +kernel
theorem dX5_lies__16 : decode cX5_lies_ 16 = .ok (.invokevirtual 50, 3) := by decide +kernel
theorem dX5_lies__19 : decode cX5_lies_ 19 = .ok (.ifCond .eq 7, 3) := by decide +kernel
theorem dX5_lies__22 : decode cX5_lies_ 22 = .ok (.iconst 1, 1) := by decide +kernel
theorem dX5_lies__23 : decode cX5_lies_ 23 = .ok (.goto 4, 3) := by decide +kernel
theorem dX5_lies__26 : decode cX5_lies_ 26 = .ok (.iconst 0, 1) := by decide +kernel
theorem dX5_lies__27 : decode cX5_lies_ 27 = .ok (.ireturn, 1) := by decide +kernel
set_option maxRecDepth 20000 in
theorem ggX5_fits_X6_isThere : GoodIn wsX5_fits wsX6_isThere := goodIn_r _ [9, 10, 60, 61, 62, 63, 64, 65] (by decide +kernel) (by decide +kernel)
set_option maxRecDepth 20000 in
theorem gX5_fits_X6_isThere : GoodIn wsX5_fits (wsV RX5 54 RX6 yX6_isThere wsX6_isThere) := goodIn_app (goodIn_of _ (by decide +kernel)) ggX5_fits_X6_isThere
set_option maxRecDepth 20000 in
theorem ggX5_fits_X5_lies : GoodIn wsX5_fits wsX5_lies := goodIn_r _ [15, 16, 17, 18, 14, 19, 20, 21, 22, 23, 24, 25, 26, 27, 28, 29, 30, 66, 67, 68, 69, 70, 71, 72, 73] (by decide +kernel) (by decide +kernel)
set_option maxRecDepth 20000 in
theorem gX5_fits_X5_lies : GoodIn wsX5_fits (wsV RX5 50 RX5 yX5_lies wsX5_lies) := goodIn_app (goodIn_of _ (by decide +kernel)) ggX5_fits_X5_lies
set_option maxRecDepth 20000 in
theorem ggX5_fits_X5_wide : GoodIn wsX5_fits wsX5_wide := goodIn_r _ [24, 25, 26, 66, 67, 68, 69, 70, 71, 72, 73] (by decide +kernel) (by decide +kernel)
set_option maxRecDepth 20000 in
theorem gX5_fits_X5_wide : GoodIn wsX5_fits (wsV RX5 43 RX5 yX5_wide wsX5_wide) := goodIn_app (goodIn_of _ (by decide +kernel)) ggX5_fits_X5_wide
set_option maxRecDepth 20000 in
theorem ggX5_fits_X5_high : GoodIn wsX5_fits wsX5_high := goodIn_r _ [30, 26, 25, 66, 67, 68, 69, 70, 71, 72, 73] (by decide +kernel) (by decide +kernel)
set_option maxRecDepth 20000 in
theorem gX5_fits_X5_high : GoodIn wsX5_fits (wsV RX5 47 RX5 yX5_high wsX5_high) := goodIn_app (goodIn_of _ (by decide +kernel)) ggX5_fits_X5_high
set_option maxRecDepth 20000 in
theorem ggX5_fits_X6_within : GoodIn wsX5_fits wsX6_within := goodIn_r _ [34, 35, 36, 37, 38, 39, 40, 41, 42, 43, 44, 45, 46, 47, 48, 49, 50, 51, 52, 53, 54, 55, 56, 57, 58, 59, 60, 61, 62, 63, 64, 65, 74, 75, 76] (by decide +kernel) (by decide +kernel)
set_option maxRecDepth 20000 in
theorem gX5_fits_X6_within : GoodIn wsX5_fits (wsV RX5 67 RX6 yX6_within wsX6_within) := goodIn_app (goodIn_of _ (by decide +kernel)) ggX5_fits_X6_within
theorem dX5_fits_0 : decode cX5_fits 0 = .ok (.iconst 0, 1) := by decide +kernel
theorem dX5_fits_1 : decode cX5_fits 1 = .ok (.istore_n 2, 1) := by decide +kernel
theorem dX5_fits_2 : decode cX5_fits 2 = .ok (.iload_n 2, 1) := by decide +kernel
theorem dX5_fits_3 : decode cX5_fits 3 = .ok (.iconst 2, 1) := by decide +kernel
theorem dX5_fits_4 : decode cX5_fits 4 = .ok (.if_icmp .ge 59, 3) := by decide +kernel
theorem dX5_fits_7 : decode cX5_fits 7 = .ok (.aload_n 1, 1) := by decide +kernel
theorem dX5_fits_8 : decode cX5_fits 8 = .ok (.invokevirtual 54, 3) := by decide +kernel
theorem dX5_fits_11 : decode cX5_fits 11 = .ok (.ifCond .eq 52, 3) := by decide +kernel
theorem dX5_fits_14 : decode cX5_fits 14 = .ok (.aload_n 0, 1) := by decide +kernel
theorem dX5_fits_15 : decode cX5_fits 15 = .ok (.iload_n 2, 1) := by decide +kernel
theorem dX5_fits_16 : decode cX5_fits 16 = .ok (.aload_n 1, 1) := by decide +kernel
theorem dX5_fits_17 : decode cX5_fits 17 = .ok (.getfield 60, 3) := by decide +kernel
theorem dX5_fits_20 : decode cX5_fits 20 = .ok (.aload_n 1, 1) := by decide +kernel
theorem dX5_fits_21 : decode cX5_fits 21 = .ok (.getfield 62, 3) := by decide +kernel
theorem dX5_fits_24 : decode cX5_fits 24 = .ok (.aload_n 1, 1) := by decide +kernel
theorem dX5_fits_25 : decode cX5_fits 25 = .ok (.getfield 64, 3) := by decide +kernel
theorem dX5_fits_28 : decode cX5_fits 28 = .ok (.invokevirtual 50, 3) := by decide +kernel
theorem dX5_fits_31 : decode cX5_fits 31 = .ok (.ifCond .eq 26, 3) := by decide +kernel
theorem dX5_fits_34 : decode cX5_fits 34 = .ok (.aload_n 1, 1) := by decide +kernel
theorem dX5_fits_35 : decode cX5_fits 35 = .ok (.aload_n 0, 1) := by decide +kernel
theorem dX5_fits_36 : decode cX5_fits 36 = .ok (.iload_n 2, 1) := by decide +kernel
theorem dX5_fits_37 : decode cX5_fits 37 = .ok (.invokevirtual 43, 3) := by decide +kernel
theorem dX5_fits_40 : decode cX5_fits 40 = .ok (.aload_n 0, 1) := by decide +kernel
theorem dX5_fits_41 : decode cX5_fits 41 = .ok (.iload_n 2, 1) := by decide +kernel
theorem dX5_fits_42 : decode cX5_fits 42 = .ok (.invokevirtual 47, 3) := by decide +kernel
theorem dX5_fits_45 : decode cX5_fits 45 = .ok (.invokevirtual 67, 3) := by decide +kernel
theorem dX5_fits_48 : decode cX5_fits 48 = .ok (.aload_n 0, 1) := by decide +kernel
theorem dX5_fits_49 : decode cX5_fits 49 = .ok (.getfield 27, 3) := by decide +kernel
theorem dX5_fits_52 : decode cX5_fits 52 = .ok (.if_icmp .gt 5, 3) := by decide +kernel
theorem dX5_fits_55 : decode cX5_fits 55 = .ok (.iload_n 2, 1) := by decide +kernel
theorem dX5_fits_56 : decode cX5_fits 56 = .ok (.ireturn, 1) := by decide +kernel
theorem dX5_fits_57 : decode cX5_fits 57 = .ok (.iinc 2 1, 3) := by decide +kernel
theorem dX5_fits_60 : decode cX5_fits 60 = .ok (.goto (-58), 3) := by decide +kernel
theorem dX5_fits_63 : decode cX5_fits 63 = .ok (.iconst (-1), 1) := by decide +kernel
theorem dX5_fits_64 : decode cX5_fits 64 = .ok (.ireturn, 1) := by decide +kernel
set_option maxRecDepth 20000 in
theorem ggX6_init_Jx4a65c_init_da8c8 : GoodIn wsX6_init wsJx4a65c_init_da8c8 := goodIn_r _ [15, 16, 17, 18, 19, 20, 21, 22, 23, 24, 25, 26, 27, 2, 3, 28, 29, 30] (by decide +kernel) (by decide +kernel)
set_option maxRecDepth 20000 in
theorem gX6_init_Jx4a65c_init_da8c8 : GoodIn wsX6_init (wsJx4a65c_init_da8c8) := ggX6_init_Jx4a65c_init_da8c8
theorem dX6_init_0 : decode cX6_init 0 = .ok (.aload_n 0, 1) := by decide +kernel
theorem dX6_init_1 : decode cX6_init 1 = .ok (.invokespecial 3, 3) := by decide +kernel
theorem dX6_init_4 : decode cX6_init 4 = .ok (.aload_n 0, 1) := by decide +kernel
theorem dX6_init_5 : decode cX6_init 5 = .ok (.new 9, 3) := by decide +kernel
theorem dX6_init_8 : decode cX6_init 8 = .ok (.dup, 1) := by decide +kernel
theorem dX6_init_9 : decode cX6_init 9 = .ok (.invokespecial 11, 3) := by decide +kernel
theorem dX6_init_12 : decode cX6_init 12 = .ok (.putfield 12, 3) := by decide +kernel
theorem dX6_init_15 : decode cX6_init 15 = .ok (.aload_n 0, 1) := by decide +kernel
theorem dX6_init_16 : decode cX6_init 16 = .ok (.iconst 0, 1) := by decide +kernel
theorem dX6_init_17 : decode cX6_init 17 = .ok (.putfield 18, 3) := by decide +kernel
theorem dX6_init_20 : decode cX6_init 20 = .ok (.aload_n 0, 1) := by decide +kernel
theorem dX6_init_21 : decode cX6_init 21 = .ok (.iload_n 1, 1) := by decide +kernel
theorem dX6_init_22 : decode cX6_init 22 = .ok (.putfield 22, 3) := by decide +kernel
theorem dX6_init_25 : decode cX6_init 25 = .ok (.aload_n 0, 1) := by decide +kernel
theorem dX6_init_26 : decode cX6_init 26 = .ok (.iload_n 2, 1) := by decide +kernel
theorem dX6_init_27 : decode cX6_init 27 = .ok (.putfield 25, 3) := by decide +kernel
theorem dX6_init_30 : decode cX6_init 30 = .ok (.aload_n 0, 1) := by decide +kernel
theorem dX6_init_31 : decode cX6_init 31 = .ok (.iload_n 3, 1) := by decide +kernel
theorem dX6_init_32 : decode cX6_init 32 = .ok (.putfield 28, 3) := by decide +kernel
theorem dX6_init_35 : decode cX6_init 35 = .ok (.aload_n 0, 1) := by decide +kernel
theorem dX6_init_36 : decode cX6_init 36 = .ok (.iload 4, 2) := by decide +kernel
theorem dX6_init_38 : decode cX6_init 38 = .ok (.putfield 31, 3) := by decide +kernel
theorem dX6_init_41 : decode cX6_init 41 = .ok (.return_, 1) := by decide +kernel
set_option maxRecDepth 20000 in
theorem ggX6_copy_X6_init : GoodIn wsX6_copy wsX6_init := goodIn_r _ [12, 13, 14, 15, 16, 17, 18, 8, 9, 4, 5, 6, 7, 19, 20, 21, 22, 23, 24, 25, 26, 27, 28, 29, 30, 31, 32, 33, 90, 91, 92, 84, 85, 86, 87, 88, 89] (by decide +kernel) (by decide +kernel)
set_option maxRecDepth 20000 in
theorem gX6_copy_X6_init : GoodIn wsX6_copy (wsX6_init) := ggX6_copy_X6_init
set_option maxRecDepth 20000 in
theorem ggX6_copy_Jx4a65c_addAll_f0b43 : GoodIn wsX6_copy wsJx4a65c_addAll_f0b43 := goodIn_r _ [37, 38, 39, 23, 40, 41, 42, 43, 44, 45, 46, 47, 18, 48, 49, 50, 51, 52, 53, 54, 55, 56, 57, 58, 59, 60, 61, 62, 63, 64, 65, 66, 67, 68, 69, 70, 22, 71, 72, 73, 74, 75, 76, 77, 78, 79, 80, 81, 82, 83, 90, 91, 92] (by decide +kernel) (by decide +kernel)
set_option maxRecDepth 20000 in
theorem gX6_copy_Jx4a65c_addAll_f0b43 : GoodIn wsX6_copy (wsV RX6 37 RJx4a65c yJx4a65c_addAll_f0b43 wsJx4a65c_addAll_f0b43) := goodIn_app (goodIn_of _ (by decide +kernel)) ggX6_copy_Jx4a65c_addAll_f0b43
theorem dX6_copy_0 : decode cX6_copy 0 = .ok (.new 13, 3) := by decide +kernel
theorem dX6_copy_3 : decode cX6_copy 3 = .ok (.dup, 1) := by decide +kernel
theorem dX6_copy_4 : decode cX6_copy 4 = .ok (.aload_n 0, 1) := by decide +kernel
theorem dX6_copy_5 : decode cX6_copy 5 = .ok (.getfield 22, 3) := by decide +kernel
theorem dX6_copy_8 : decode cX6_copy 8 = .ok (.aload_n 0, 1) := by decide +kernel
theorem dX6_copy_9 : decode cX6_copy 9 = .ok (.getfield 25, 3) := by decide +kernel
theorem dX6_copy_12 : decode cX6_copy 12 = .ok (.aload_n 0, 1) := by decide +kernel
theorem dX6_copy_13 : decode cX6_copy 13 = .ok (.getfield 28, 3) := by decide +kernel
theorem dX6_copy_16 : decode cX6_copy 16 = .ok (.aload_n 0, 1) := by decide +kernel
theorem dX6_copy_17 : decode cX6_copy 17 = .ok (.getfield 31, 3) := by decide +kernel
theorem dX6_copy_20 : decode cX6_copy 20 = .ok (.invokespecial 34, 3) := by decide +kernel
theorem dX6_copy_23 : decode cX6_copy 23 = .ok (.astore_n 1, 1) := by decide +kernel
theorem dX6_copy_24 : decode cX6_copy 24 = .ok (.aload_n 1, 1) := by decide +kernel
theorem dX6_copy_25 : decode cX6_copy 25 = .ok (.getfield 12, 3) := by decide +kernel
theorem dX6_copy_28 : decode cX6_copy 28 = .ok (.aload_n 0, 1) := by decide +kernel
theorem dX6_copy_29 : decode cX6_copy 29 = .ok (.getfield 12, 3) := by decide +kernel
theorem dX6_copy_32 : decode cX6_copy 32 = .ok (.invokevirtual 37, 3) := by decide +kernel
theorem dX6_copy_35 : decode cX6_copy 35 = .ok (.pop, 1) := by decide +kernel
theorem dX6_copy_36 : decode cX6_copy 36 = .ok (.aload_n 1, 1) := by decide +kernel
theorem dX6_copy_37 : decode cX6_copy 37 = .ok (.aload_n 0, 1) := by decide +kernel
theorem dX6_copy_38 : decode cX6_copy 38 = .ok (.getfield 18, 3) := by decide +kernel
theorem dX6_copy_41 : decode cX6_copy 41 = .ok (.putfield 18, 3) := by decide +kernel
theorem dX6_copy_44 : decode cX6_copy 44 = .ok (.aload_n 1, 1) := by decide +kernel
theorem dX6_copy_45 : decode cX6_copy 45 = .ok (.areturn, 1) := by decide +kernel
theorem dX6_isThere_0 : decode cX6_isThere 0 = .ok (.aload_n 0, 1) := by decide +kernel
theorem dX6_isThere_1 : decode cX6_isThere 1 = .ok (.getfield 18, 3) := by decide +kernel
theorem dX6_isThere_4 : decode cX6_isThere 4 = .ok (.ifCond .ne 7, 3) := by decide +kernel
theorem dX6_isThere_7 : decode cX6_isThere 7 = .ok (.iconst 1, 1) := by decide +kernel
theorem dX6_isThere_8 : decode cX6_isThere 8 = .ok (.goto 4, 3) := by decide +kernel
theorem dX6_isThere_11 : decode cX6_isThere 11 = .ok (.iconst 0, 1) := by decide +kernel
theorem dX6_isThere_12 : decode cX6_isThere 12 = .ok (.ireturn, 1) := by decide +kernel
theorem dX6_area_0 : decode cX6_area 0 = .ok (.aload_n 0, 1) := by decide +kernel
theorem dX6_area_1 : decode cX6_area 1 = .ok (.getfield 22, 3) := by decide +kernel
theorem dX6_area_4 : decode cX6_area 4 = .ok (.aload_n 0, 1) := by decide +kernel
theorem dX6_area_5 : decode cX6_area 5 = .ok (.getfield 25, 3) := by decide +kernel
theorem dX6_area_8 : decode cX6_area 8 = .ok (.imul, 1) := by decide +kernel
theorem dX6_area_9 : decode cX6_area 9 = .ok (.ireturn, 1) := by decide +kernel
theorem dX6_hasPoint_0 : decode cX6_hasPoint 0 = .ok (.iload_n 1, 1) := by decide +kernel
theorem dX6_hasPoint_1 : decode cX6_hasPoint 1 = .ok (.ifCond .lt 27, 3) := by decide +kernel
theorem dX6_hasPoint_4 : decode cX6_hasPoint 4 = .ok (.iload_n 1, 1) := by decide +kernel
theorem dX6_hasPoint_5 : decode cX6_hasPoint 5 = .ok (.aload_n 0, 1) := by decide +kernel
theorem dX6_hasPoint_6 : decode cX6_hasPoint 6 = .ok (.getfield 22, 3) := by decide +kernel
theorem dX6_hasPoint_9 : decode cX6_hasPoint 9 = .ok (.if_icmp .ge 19, 3) := by decide +kernel
theorem dX6_hasPoint_12 : decode cX6_hasPoint 12 = .ok (.iload_n 2, 1) := by decide +kernel
theorem dX6_hasPoint_13 : decode cX6_hasPoint 13 = .ok (.ifCond .lt 15, 3) := by decide +kernel
theorem dX6_hasPoint_16 : decode cX6_hasPoint 16 = .ok (.iload_n 2, 1) := by decide +kernel
theorem dX6_hasPoint_17 : decode cX6_hasPoint 17 = .ok (.aload_n 0, 1) := by decide +kernel
theorem dX6_hasPoint_18 : decode cX6_hasPoint 18 = .ok (.getfield 25, 3) := by decide +kernel
theorem dX6_hasPoint_21 : decode cX6_hasPoint 21 = .ok (.if_icmp .ge 7, 3) := by decide +kernel
theorem dX6_hasPoint_24 : decode cX6_hasPoint 24 = .ok (.iconst 1, 1) := by decide +kernel
theorem dX6_hasPoint_25 : decode cX6_hasPoint 25 = .ok (.goto 4, 3) := by decide +kernel
theorem dX6_hasPoint_28 : decode cX6_hasPoint 28 = .ok (.iconst 0, 1) := by decide +kernel
theorem dX6_hasPoint_29 : decode cX6_hasPoint 29 = .ok (.ireturn, 1) := by decide +kernel
set_option maxRecDepth 20000 in
theorem ggX6_at_Jx4a65c_size_8abf5 : GoodIn wsX6_at wsJx4a65c_size_8abf5 := goodIn_r _ [7, 8, 32, 33, 34] (by decide +kernel) (by decide +kernel)
set_option maxRecDepth 20000 in
theorem gX6_at_Jx4a65c_size_8abf5 : GoodIn wsX6_at (wsV RX6 41 RJx4a65c yJx4a65c_size_8abf5 wsJx4a65c_size_8abf5) := goodIn_app (goodIn_of _ (by decide +kernel)) ggX6_at_Jx4a65c_size_8abf5
set_option maxRecDepth 20000 in
theorem ggX6_at_Jx4a65c_get_915e3 : GoodIn wsX6_at wsJx4a65c_get_915e3 := goodIn_r _ [12, 8, 13, 14, 15, 16, 17, 18, 19, 20, 21, 22, 23, 6, 24, 25, 32, 33, 34] (by decide +kernel) (by decide +kernel)
set_option maxRecDepth 20000 in
theorem gX6_at_Jx4a65c_get_915e3 : GoodIn wsX6_at (wsV RX6 45 RJx4a65c yJx4a65c_get_915e3 wsJx4a65c_get_915e3) := goodIn_app (goodIn_of _ (by decide +kernel)) ggX6_at_Jx4a65c_get_915e3
theorem dX6_at_0 : decode cX6_at 0 = .ok (.iconst 0, 1) := by decide +kernel
theorem dX6_at_1 : decode cX6_at 1 = .ok (.istore_n 3, 1) := by decide +kernel
theorem dX6_at_2 : decode cX6_at 2 = .ok (.iconst 0, 1) := by decide +kernel
theorem dX6_at_3 : decode cX6_at 3 = .ok (.istore 4, 2) := by decide +kernel
theorem dX6_at_5 : decode cX6_at 5 = .ok (.iload 4, 2) := by decide +kernel
theorem dX6_at_7 : decode cX6_at 7 = .ok (.aload_n 0, 1) := by decide +kernel
theorem dX6_at_8 : decode cX6_at 8 = .ok (.getfield 12, 3) := by decide +kernel
theorem dX6_at_11 : decode cX6_at 11 = .ok (.invokevirtual 41, 3) := by decide +kernel
theorem dX6_at_14 : decode cX6_at 14 = .ok (.if_icmp .ge 53, 3) := by decide +kernel
theorem dX6_at_17 : decode cX6_at 17 = .ok (.iload_n 3, 1) := by decide +kernel
theorem dX6_at_18 : decode cX6_at 18 = .ok (.aload_n 0, 1) := by decide +kernel
theorem dX6_at_19 : decode cX6_at 19 = .ok (.getfield 12, 3) := by decide +kernel
theorem dX6_at_22 : decode cX6_at 22 = .ok (.iload 4, 2) := by decide +kernel
theorem dX6_at_24 : decode cX6_at 24 = .ok (.invokevirtual 45, 3) := by decide +kernel
theorem dX6_at_27 : decode cX6_at 27 = .ok (.checkcast 49, 3) := by decide +kernel
theorem dX6_at_30 : decode cX6_at 30 = .ok (.iconst 0, 1) := by decide +kernel
theorem dX6_at_31 : decode cX6_at 31 = .ok (.iaload, 1) := by decide +kernel
theorem dX6_at_32 : decode cX6_at 32 = .ok (.iload_n 1, 1) := by decide +kernel
theorem dX6_at_33 : decode cX6_at 33 = .ok (.if_icmp .ne 25, 3) := by decide +kernel
theorem dX6_at_36 : decode cX6_at 36 = .ok (.aload_n 0, 1) := by decide +kernel
theorem dX6_at_37 : decode cX6_at 37 = .ok (.getfield 12, 3) := by decide +kernel
theorem dX6_at_40 : decode cX6_at 40 = .ok (.iload 4, 2) := by decide +kernel
theorem dX6_at_42 : decode cX6_at 42 = .ok (.invokevirtual 45, 3) := by decide +kernel
theorem dX6_at_45 : decode cX6_at 45 = .ok (.checkcast 49, 3) := by decide +kernel
theorem dX6_at_48 : decode cX6_at 48 = .ok (.iconst 1, 1) := by decide +kernel
theorem dX6_at_49 : decode cX6_at 49 = .ok (.iaload, 1) := by decide +kernel
theorem dX6_at_50 : decode cX6_at 50 = .ok (.iload_n 2, 1) := by decide +kernel
theorem dX6_at_51 : decode cX6_at 51 = .ok (.if_icmp .ne 7, 3) := by decide +kernel
theorem dX6_at_54 : decode cX6_at 54 = .ok (.iconst 1, 1) := by decide +kernel
theorem dX6_at_55 : decode cX6_at 55 = .ok (.goto 4, 3) := by decide +kernel
theorem dX6_at_58 : decode cX6_at 58 = .ok (.iconst 0, 1) := by decide +kernel
theorem dX6_at_59 : decode cX6_at 59 = .ok (.iadd, 1) := by decide +kernel
theorem dX6_at_60 : decode cX6_at 60 = .ok (.istore_n 3, 1) := by decide +kernel
theorem dX6_at_61 : decode cX6_at 61 = .ok (.iinc 4 1, 3) := by decide +kernel
theorem dX6_at_64 : decode cX6_at 64 = .ok (.goto (-59), 3) := by decide +kernel
theorem dX6_at_67 : decode cX6_at 67 = .ok (.iload_n 3, 1) := by decide +kernel
theorem dX6_at_68 : decode cX6_at 68 = .ok (.ireturn, 1) := by decide +kernel
set_option maxRecDepth 20000 in
theorem ggX6_within_Jx4a65c_size_8abf5 : GoodIn wsX6_within wsJx4a65c_size_8abf5 := goodIn_r _ [7, 8, 32, 33, 34] (by decide +kernel) (by decide +kernel)
set_option maxRecDepth 20000 in
theorem gX6_within_Jx4a65c_size_8abf5 : GoodIn wsX6_within (wsV RX6 41 RJx4a65c yJx4a65c_size_8abf5 wsJx4a65c_size_8abf5) := goodIn_app (goodIn_of _ (by decide +kernel)) ggX6_within_Jx4a65c_size_8abf5
set_option maxRecDepth 20000 in
theorem ggX6_within_Jx4a65c_get_915e3 : GoodIn wsX6_within wsJx4a65c_get_915e3 := goodIn_r _ [12, 8, 13, 14, 15, 16, 17, 18, 19, 20, 21, 22, 23, 6, 24, 25, 32, 33, 34] (by decide +kernel) (by decide +kernel)
set_option maxRecDepth 20000 in
theorem gX6_within_Jx4a65c_get_915e3 : GoodIn wsX6_within (wsV RX6 45 RJx4a65c yJx4a65c_get_915e3 wsJx4a65c_get_915e3) := goodIn_app (goodIn_of _ (by decide +kernel)) ggX6_within_Jx4a65c_get_915e3
theorem dX6_within_0 : decode cX6_within 0 = .ok (.iconst 0, 1) := by decide +kernel
theorem dX6_within_1 : decode cX6_within 1 = .ok (.istore_n 3, 1) := by decide +kernel
theorem dX6_within_2 : decode cX6_within 2 = .ok (.iconst 0, 1) := by decide +kernel
theorem dX6_within_3 : decode cX6_within 3 = .ok (.istore 4, 2) := by decide +kernel
theorem dX6_within_5 : decode cX6_within 5 = .ok (.iload 4, 2) := by decide +kernel
theorem dX6_within_7 : decode cX6_within 7 = .ok (.aload_n 0, 1) := by decide +kernel
theorem dX6_within_8 : decode cX6_within 8 = .ok (.getfield 12, 3) := by decide +kernel
theorem dX6_within_11 : decode cX6_within 11 = .ok (.invokevirtual 41, 3) := by decide +kernel
theorem dX6_within_14 : decode cX6_within 14 = .ok (.if_icmp .ge 53, 3) := by decide +kernel
theorem dX6_within_17 : decode cX6_within 17 = .ok (.iload_n 3, 1) := by decide +kernel
theorem dX6_within_18 : decode cX6_within 18 = .ok (.aload_n 0, 1) := by decide +kernel
theorem dX6_within_19 : decode cX6_within 19 = .ok (.getfield 12, 3) := by decide +kernel
theorem dX6_within_22 : decode cX6_within 22 = .ok (.iload 4, 2) := by decide +kernel
theorem dX6_within_24 : decode cX6_within 24 = .ok (.invokevirtual 45, 3) := by decide +kernel
theorem dX6_within_27 : decode cX6_within 27 = .ok (.checkcast 49, 3) := by decide +kernel
theorem dX6_within_30 : decode cX6_within 30 = .ok (.iconst 0, 1) := by decide +kernel
theorem dX6_within_31 : decode cX6_within 31 = .ok (.iaload, 1) := by decide +kernel
theorem dX6_within_32 : decode cX6_within 32 = .ok (.iload_n 1, 1) := by decide +kernel
theorem dX6_within_33 : decode cX6_within 33 = .ok (.if_icmp .ge 25, 3) := by decide +kernel
theorem dX6_within_36 : decode cX6_within 36 = .ok (.aload_n 0, 1) := by decide +kernel
theorem dX6_within_37 : decode cX6_within 37 = .ok (.getfield 12, 3) := by decide +kernel
theorem dX6_within_40 : decode cX6_within 40 = .ok (.iload 4, 2) := by decide +kernel
theorem dX6_within_42 : decode cX6_within 42 = .ok (.invokevirtual 45, 3) := by decide +kernel
theorem dX6_within_45 : decode cX6_within 45 = .ok (.checkcast 49, 3) := by decide +kernel
theorem dX6_within_48 : decode cX6_within 48 = .ok (.iconst 1, 1) := by decide +kernel
theorem dX6_within_49 : decode cX6_within 49 = .ok (.iaload, 1) := by decide +kernel
theorem dX6_within_50 : decode cX6_within 50 = .ok (.iload_n 2, 1) := by decide +kernel
theorem dX6_within_51 : decode cX6_within 51 = .ok (.if_icmp .ge 7, 3) := by decide +kernel
theorem dX6_within_54 : decode cX6_within 54 = .ok (.iconst 1, 1) := by decide +kernel
theorem dX6_within_55 : decode cX6_within 55 = .ok (.goto 4, 3) := by decide +kernel
theorem dX6_within_58 : decode cX6_within 58 = .ok (.iconst 0, 1) := by decide +kernel
theorem dX6_within_59 : decode cX6_within 59 = .ok (.iadd, 1) := by decide +kernel
theorem dX6_within_60 : decode cX6_within 60 = .ok (.istore_n 3, 1) := by decide +kernel
theorem dX6_within_61 : decode cX6_within 61 = .ok (.iinc 4 1, 3) := by decide +kernel
theorem dX6_within_64 : decode cX6_within 64 = .ok (.goto (-59), 3) := by decide +kernel
theorem dX6_within_67 : decode cX6_within 67 = .ok (.iload_n 3, 1) := by decide +kernel
theorem dX6_within_68 : decode cX6_within 68 = .ok (.ireturn, 1) := by decide +kernel
set_option maxRecDepth 20000 in
theorem ggX7_init_Jx4a65c_init_da8c8 : GoodIn wsX7_init wsJx4a65c_init_da8c8 := goodIn_r _ [12, 13, 14, 15, 16, 17, 18, 19, 20, 21, 22, 23, 24, 2, 3, 25, 26, 27] (by decide +kernel) (by decide +kernel)
set_option maxRecDepth 20000 in
theorem gX7_init_Jx4a65c_init_da8c8 : GoodIn wsX7_init (wsJx4a65c_init_da8c8) := ggX7_init_Jx4a65c_init_da8c8
theorem dX7_init_0 : decode cX7_init 0 = .ok (.aload_n 0, 1) := by decide +kernel
theorem dX7_init_1 : decode cX7_init 1 = .ok (.invokespecial 3, 3) := by decide +kernel
theorem dX7_init_4 : decode cX7_init 4 = .ok (.aload_n 0, 1) := by decide +kernel
theorem dX7_init_5 : decode cX7_init 5 = .ok (.new 9, 3) := by decide +kernel
theorem dX7_init_8 : decode cX7_init 8 = .ok (.dup, 1) := by decide +kernel
theorem dX7_init_9 : decode cX7_init 9 = .ok (.invokespecial 11, 3) := by decide +kernel
theorem dX7_init_12 : decode cX7_init 12 = .ok (.putfield 12, 3) := by decide +kernel
theorem dX7_init_15 : decode cX7_init 15 = .ok (.aload_n 0, 1) := by decide +kernel
theorem dX7_init_16 : decode cX7_init 16 = .ok (.new 9, 3) := by decide +kernel
theorem dX7_init_19 : decode cX7_init 19 = .ok (.dup, 1) := by decide +kernel
theorem dX7_init_20 : decode cX7_init 20 = .ok (.invokespecial 11, 3) := by decide +kernel
theorem dX7_init_23 : decode cX7_init 23 = .ok (.putfield 18, 3) := by decide +kernel
theorem dX7_init_26 : decode cX7_init 26 = .ok (.aload_n 0, 1) := by decide +kernel
theorem dX7_init_27 : decode cX7_init 27 = .ok (.iconst 1, 1) := by decide +kernel
theorem dX7_init_28 : decode cX7_init 28 = .ok (.putfield 21, 3) := by decide +kernel
theorem dX7_init_31 : decode cX7_init 31 = .ok (.return_, 1) := by decide +kernel
set_option maxRecDepth 20000 in
theorem ggX7_copy_X7_init : GoodIn wsX7_copy wsX7_init := goodIn_r _ [11, 12, 13, 14, 15, 16, 17, 4, 6, 8, 18, 19, 20, 21, 22, 23, 24, 25, 26, 27, 28, 29, 30, 31, 32, 156, 157, 158, 153, 154, 155] (by decide +kernel) (by decide +kernel)
set_option maxRecDepth 20000 in
theorem gX7_copy_X7_init : GoodIn wsX7_copy (wsX7_init) := ggX7_copy_X7_init
set_option maxRecDepth 20000 in
theorem ggX7_copy_Jx4a65c_size_8abf5 : GoodIn wsX7_copy wsJx4a65c_size_8abf5 := goodIn_r _ [36, 37, 156, 157, 158] (by decide +kernel) (by decide +kernel)
set_option maxRecDepth 20000 in
theorem gX7_copy_Jx4a65c_size_8abf5 : GoodIn wsX7_copy (wsV RX7 26 RJx4a65c yJx4a65c_size_8abf5 wsJx4a65c_size_8abf5) := goodIn_app (goodIn_of _ (by decide +kernel)) ggX7_copy_Jx4a65c_size_8abf5
set_option maxRecDepth 20000 in
theorem ggX7_copy_Jx4a65c_get_915e3 : GoodIn wsX7_copy wsJx4a65c_get_915e3 := goodIn_r _ [41, 37, 42, 43, 44, 45, 46, 47, 48, 49, 50, 51, 52, 17, 53, 22, 156, 157, 158] (by decide +kernel) (by decide +kernel)
set_option maxRecDepth 20000 in
theorem gX7_copy_Jx4a65c_get_915e3 : GoodIn wsX7_copy (wsV RX7 30 RJx4a65c yJx4a65c_get_915e3 wsJx4a65c_get_915e3) := goodIn_app (goodIn_of _ (by decide +kernel)) ggX7_copy_Jx4a65c_get_915e3
set_option maxRecDepth 20000 in
theorem ggX7_copy_X6_copy : GoodIn wsX7_copy wsX6_copy := goodIn_r _ [58, 59, 60, 57, 61, 62, 63, 64, 65, 66, 67, 68, 69, 70, 13, 14, 71, 16, 17, 72, 19, 20, 21, 22, 23, 24, 25, 26, 27, 28, 29, 30, 31, 32, 73, 74, 75, 76, 77, 78, 37, 79, 80, 81, 82, 83, 84, 85, 86, 87, 88, 89, 90, 91, 92, 93, 94, 95, 96, 97, 98, 99, 100, 101, 102, 103, 104, 105, 106, 107, 108, 109, 110, 111, 112, 113, 114, 115, 116, 117, 118, 119, 120, 121, 159, 160, 161, 162, 163, 164, 156, 157, 158] (by decide +kernel) (by decide +kernel)
set_option maxRecDepth 20000 in
theorem gX7_copy_X6_copy : GoodIn wsX7_copy (wsV RX7 36 RX6 yX6_copy wsX6_copy) := goodIn_app (goodIn_of _ (by decide +kernel)) ggX7_copy_X6_copy
set_option maxRecDepth 20000 in
theorem ggX7_copy_Jx4a65c_add_9ea2d : GoodIn wsX7_copy wsJx4a65c_add_9ea2d := goodIn_r _ [125, 77, 78, 22, 37, 126, 127, 128, 17, 129, 130, 131, 132, 133, 105, 106, 107, 108, 21, 109, 110, 102, 111, 112, 113, 114, 115, 116, 117, 118, 119, 120, 121, 87, 88, 89, 90, 91, 92, 93, 94, 95, 96, 97, 98, 99, 100, 101, 103, 104, 80, 81, 82, 156, 157, 158] (by decide +kernel) (by decide +kernel)
set_option maxRecDepth 20000 in
theorem gX7_copy_Jx4a65c_add_9ea2d : GoodIn wsX7_copy (wsV RX7 40 RJx4a65c yJx4a65c_add_9ea2d wsJx4a65c_add_9ea2d) := goodIn_app (goodIn_of _ (by decide +kernel)) ggX7_copy_Jx4a65c_add_9ea2d
set_option maxRecDepth 20000 in
theorem ggX7_copy_X5_copy : GoodIn wsX7_copy wsX5_copy := goodIn_r _ [138, 139, 140, 137, 141, 142, 143, 144, 145, 146, 147, 148, 149, 150, 151, 152, 13, 14, 165, 166, 167, 168, 169, 170, 171, 172] (by decide +kernel) (by decide +kernel)
set_option maxRecDepth 20000 in
theorem gX7_copy_X5_copy : GoodIn wsX7_copy (wsV RX7 46 RX5 yX5_copy wsX5_copy) := goodIn_app (goodIn_of _ (by decide +kernel)) ggX7_copy_X5_copy
theorem dX7_copy_0 : decode cX7_copy 0 = .ok (.new 13, 3) := by decide +kernel
theorem dX7_copy_3 : decode cX7_copy 3 = .ok (.dup, 1) := by decide +kernel
theorem dX7_copy_4 : decode cX7_copy 4 = .ok (.invokespecial 25, 3) := by decide +kernel
theorem dX7_copy_7 : decode cX7_copy 7 = .ok (.astore_n 1, 1) := by decide +kernel
theorem dX7_copy_8 : decode cX7_copy 8 = .ok (.iconst 0, 1) := by decide +kernel
theorem dX7_copy_9 : decode cX7_copy 9 = .ok (.istore_n 2, 1) := by decide +kernel
theorem dX7_copy_10 : decode cX7_copy 10 = .ok (.iload_n 2, 1) := by decide +kernel
theorem dX7_copy_11 : decode cX7_copy 11 = .ok (.aload_n 0, 1) := by decide +kernel
theorem dX7_copy_12 : decode cX7_copy 12 = .ok (.getfield 12, 3) := by decide +kernel
theorem dX7_copy_15 : decode cX7_copy 15 = .ok (.invokevirtual 26, 3) := by decide +kernel
theorem dX7_copy_18 : decode cX7_copy 18 = .ok (.if_icmp .ge 31, 3) := by decide +kernel
theorem dX7_copy_21 : decode cX7_copy 21 = .ok (.aload_n 1, 1) := by decide +kernel
theorem dX7_copy_22 : decode cX7_copy 22 = .ok (.getfield 12, 3) := by decide +kernel
theorem dX7_copy_25 : decode cX7_copy 25 = .ok (.aload_n 0, 1) := by decide +kernel
theorem dX7_copy_26 : decode cX7_copy 26 = .ok (.getfield 12, 3) := by decide +kernel
theorem dX7_copy_29 : decode cX7_copy 29 = .ok (.iload_n 2, 1) := by decide +kernel
theorem dX7_copy_30 : decode cX7_copy 30 = .ok (.invokevirtual 30, 3) := by decide +kernel
theorem dX7_copy_33 : decode cX7_copy 33 = .ok (.checkcast 34, 3) := by decide +kernel
theorem dX7_copy_36 : decode cX7_copy 36 = .ok (.invokevirtual 36, 3) := by decide +kernel
theorem dX7_copy_39 : decode cX7_copy 39 = .ok (.invokevirtual 40, 3) := by decide +kernel
theorem dX7_copy_42 : decode cX7_copy 42 = .ok (.pop, 1) := by decide +kernel
theorem dX7_copy_43 : decode cX7_copy 43 = .ok (.iinc 2 1, 3) := by decide +kernel
theorem dX7_copy_46 : decode cX7_copy 46 = .ok (.goto (-36), 3) := by decide +kernel
theorem dX7_copy_49 : decode cX7_copy 49 = .ok (.iconst 0, 1) := by decide +kernel
theorem dX7_copy_50 : decode cX7_copy 50 = .ok (.istore_n 2, 1) := by decide +kernel
theorem dX7_copy_51 : decode cX7_copy 51 = .ok (.iload_n 2, 1) := by decide +kernel
theorem dX7_copy_52 : decode cX7_copy 52 = .ok (.aload_n 0, 1) := by decide +kernel
theorem dX7_copy_53 : decode cX7_copy 53 = .ok (.getfield 18, 3) := by decide +kernel
theorem dX7_copy_56 : decode cX7_copy 56 = .ok (.invokevirtual 26, 3) := by decide +kernel
theorem dX7_copy_59 : decode cX7_copy 59 = .ok (.if_icmp .ge 31, 3) := by decide +kernel
theorem dX7_copy_62 : decode cX7_copy 62 = .ok (.aload_n 1, 1) := by decide +kernel
theorem dX7_copy_63 : decode cX7_copy 63 = .ok (.getfield 18, 3) := by decide +kernel
theorem dX7_copy_66 : decode cX7_copy 66 = .ok (.aload_n 0, 1) := by decide +kernel
theorem dX7_copy_67 : decode cX7_copy 67 = .ok (.getfield 18, 3) := by decide +kernel
theorem dX7_copy_70 : decode cX7_copy 70 = .ok (.iload_n 2, 1) := by decide +kernel
theorem dX7_copy_71 : decode cX7_copy 71 = .ok (.invokevirtual 30, 3) := by decide +kernel
theorem dX7_copy_74 : decode cX7_copy 74 = .ok (.checkcast 44, 3) := by decide +kernel
theorem dX7_copy_77 : decode cX7_copy 77 = .ok (.invokevirtual 46, 3) := by decide +kernel
theorem dX7_copy_80 : decode cX7_copy 80 = .ok (.invokevirtual 40, 3) := by decide +kernel
theorem dX7_copy_83 : decode cX7_copy 83 = .ok (.pop, 1) := by decide +kernel
theorem dX7_copy_84 : decode cX7_copy 84 = .ok (.iinc 2 1, 3) := by decide +kernel
theorem dX7_copy_87 : decode cX7_copy 87 = .ok (.goto (-36), 3) := by decide +kernel
theorem dX7_copy_90 : decode cX7_copy 90 = .ok (.aload_n 1, 1) := by decide +kernel
theorem dX7_copy_91 : decode cX7_copy 91 = .ok (.aload_n 0, 1) := by decide +kernel
theorem dX7_copy_92 : decode cX7_copy 92 = .ok (.getfield 21, 3) := by decide +kernel
theorem dX7_copy_95 : decode cX7_copy 95 = .ok (.putfield 21, 3) := by decide +kernel
theorem dX7_copy_98 : decode cX7_copy 98 = .ok (.aload_n 1, 1) := by decide +kernel
theorem dX7_copy_99 : decode cX7_copy 99 = .ok (.areturn, 1) := by decide +kernel
theorem dX7_canCut_0 : decode cX7_canCut 0 = .ok (.iload_n 3, 1) := by decide +kernel
theorem dX7_canCut_1 : decode cX7_canCut 1 = .ok (.iconst 1, 1) := by decide +kernel
theorem dX7_canCut_2 : decode cX7_canCut 2 = .ok (.if_icmp .lt 31, 3) := by decide +kernel
theorem dX7_canCut_5 : decode cX7_canCut 5 = .ok (.iload_n 3, 1) := by decide +kernel
theorem dX7_canCut_6 : decode cX7_canCut 6 = .ok (.iload_n 2, 1) := by decide +kernel
theorem dX7_canCut_7 : decode cX7_canCut 7 = .ok (.ifCond .eq 10, 3) := by decide +kernel
theorem dX7_canCut_10 : decode cX7_canCut 10 = .ok (.aload_n 1, 1) := by decide +kernel
theorem dX7_canCut_11 : decode cX7_canCut 11 = .ok (.getfield 49, 3) := by decide +kernel
theorem dX7_canCut_14 : decode cX7_canCut 14 = .ok (.goto 7, 3) := by decide +kernel
theorem dX7_canCut_17 : decode cX7_canCut 17 = .ok (.aload_n 1, 1) := by decide +kernel
theorem dX7_canCut_18 : decode cX7_canCut 18 = .ok (.getfield 52, 3) := by decide +kernel
theorem dX7_canCut_21 : decode cX7_canCut 21 = .ok (.aload_n 0, 1) := by decide +kernel
theorem dX7_canCut_22 : decode cX7_canCut 22 = .ok (.getfield 21, 3) := by decide +kernel
theorem dX7_canCut_25 : decode cX7_canCut 25 = .ok (.isub, 1) := by decide +kernel
theorem dX7_canCut_26 : decode cX7_canCut 26 = .ok (.if_icmp .ge 7, 3) := by decide +kernel
theorem dX7_canCut_29 : decode cX7_canCut 29 = .ok (.iconst 1, 1) := by decide +kernel
theorem dX7_canCut_30 : decode cX7_canCut 30 = .ok (.goto 4, 3) := by decide +kernel
theorem dX7_canCut_33 : decode cX7_canCut 33 = .ok (.iconst 0, 1) := by decide +kernel
theorem dX7_canCut_34 : decode cX7_canCut 34 = .ok (.ireturn, 1) := by decide +kernel
set_option maxRecDepth 20000 in
theorem ggX7_cut_Jx4a65c_get_915e3 : GoodIn wsX7_cut wsJx4a65c_get_915e3 := goodIn_r _ [18, 19, 20, 21, 22, 23, 24, 25, 26, 27, 28, 29, 30, 17, 31, 32, 126, 127, 128] (by decide +kernel) (by decide +kernel)
set_option maxRecDepth 20000 in
theorem gX7_cut_Jx4a65c_get_915e3 : GoodIn wsX7_cut (wsV RX7 30 RJx4a65c yJx4a65c_get_915e3 wsJx4a65c_get_915e3) := goodIn_app (goodIn_of _ (by decide +kernel)) ggX7_cut_Jx4a65c_get_915e3
set_option maxRecDepth 20000 in
theorem ggX7_cut_X6_init : GoodIn wsX7_cut wsX6_init := goodIn_r _ [35, 36, 37, 38, 39, 40, 17, 41, 42, 43, 44, 45, 46, 47, 48, 49, 50, 32, 51, 52, 53, 54, 55, 56, 57, 58, 59, 60, 126, 127, 128, 120, 121, 122, 123, 124, 125] (by decide +kernel) (by decide +kernel)
set_option maxRecDepth 20000 in
theorem gX7_cut_X6_init : GoodIn wsX7_cut (wsX6_init) := ggX7_cut_X6_init
set_option maxRecDepth 20000 in
theorem ggX7_cut_Jx4a65c_size_8abf5 : GoodIn wsX7_cut wsJx4a65c_size_8abf5 := goodIn_r _ [64, 19, 126, 127, 128] (by decide +kernel) (by decide +kernel)
set_option maxRecDepth 20000 in
theorem gX7_cut_Jx4a65c_size_8abf5 : GoodIn wsX7_cut (wsV RX7 26 RJx4a65c yJx4a65c_size_8abf5 wsJx4a65c_size_8abf5) := goodIn_app (goodIn_of _ (by decide +kernel)) ggX7_cut_Jx4a65c_size_8abf5
set_option maxRecDepth 20000 in
theorem ggX7_cut_Jx4a65c_add_9ea2d : GoodIn wsX7_cut wsJx4a65c_add_9ea2d := goodIn_r _ [68, 69, 70, 32, 19, 71, 72, 73, 17, 74, 75, 76, 77, 78, 79, 80, 81, 82, 50, 83, 84, 85, 86, 87, 88, 89, 90, 91, 92, 93, 94, 95, 96, 97, 98, 99, 100, 101, 102, 103, 104, 105, 106, 107, 108, 109, 110, 111, 112, 113, 114, 115, 116, 126, 127, 128] (by decide +kernel) (by decide +kernel)
set_option maxRecDepth 20000 in
theorem gX7_cut_Jx4a65c_add_9ea2d : GoodIn wsX7_cut (wsV RX7 40 RJx4a65c yJx4a65c_add_9ea2d wsJx4a65c_add_9ea2d) := goodIn_app (goodIn_of _ (by decide +kernel)) ggX7_cut_Jx4a65c_add_9ea2d
theorem dX7_cut_0 : decode cX7_cut 0 = .ok (.aload_n 0, 1) := by decide +kernel
theorem dX7_cut_1 : decode cX7_cut 1 = .ok (.getfield 12, 3) := by decide +kernel
theorem dX7_cut_4 : decode cX7_cut 4 = .ok (.iload_n 1, 1) := by decide +kernel
theorem dX7_cut_5 : decode cX7_cut 5 = .ok (.invokevirtual 30, 3) := by decide +kernel
theorem dX7_cut_8 : decode cX7_cut 8 = .ok (.checkcast 34, 3) := by decide +kernel
theorem dX7_cut_11 : decode cX7_cut 11 = .ok (.astore 4, 2) := by decide +kernel
theorem dX7_cut_13 : decode cX7_cut 13 = .ok (.iload_n 3, 1) := by decide +kernel
theorem dX7_cut_14 : decode cX7_cut 14 = .ok (.aload_n 0, 1) := by decide +kernel
theorem dX7_cut_15 : decode cX7_cut 15 = .ok (.getfield 21, 3) := by decide +kernel
theorem dX7_cut_18 : decode cX7_cut 18 = .ok (.iadd, 1) := by decide +kernel
theorem dX7_cut_19 : decode cX7_cut 19 = .ok (.istore 5, 2) := by decide +kernel
theorem dX7_cut_21 : decode cX7_cut 21 = .ok (.new 34, 3) := by decide +kernel
theorem dX7_cut_24 : decode cX7_cut 24 = .ok (.dup, 1) := by decide +kernel
theorem dX7_cut_25 : decode cX7_cut 25 = .ok (.iload_n 2, 1) := by decide +kernel
theorem dX7_cut_26 : decode cX7_cut 26 = .ok (.ifCond .eq 7, 3) := by decide +kernel
theorem dX7_cut_29 : decode cX7_cut 29 = .ok (.iload_n 3, 1) := by decide +kernel
theorem dX7_cut_30 : decode cX7_cut 30 = .ok (.goto 8, 3) := by decide +kernel
theorem dX7_cut_33 : decode cX7_cut 33 = .ok (.aload 4, 2) := by decide +kernel
theorem dX7_cut_35 : decode cX7_cut 35 = .ok (.getfield 49, 3) := by decide +kernel
theorem dX7_cut_38 : decode cX7_cut 38 = .ok (.iload_n 2, 1) := by decide +kernel
theorem dX7_cut_39 : decode cX7_cut 39 = .ok (.ifCond .eq 11, 3) := by decide +kernel
theorem dX7_cut_42 : decode cX7_cut 42 = .ok (.aload 4, 2) := by decide +kernel
theorem dX7_cut_44 : decode cX7_cut 44 = .ok (.getfield 52, 3) := by decide +kernel
theorem dX7_cut_47 : decode cX7_cut 47 = .ok (.goto 4, 3) := by decide +kernel
theorem dX7_cut_50 : decode cX7_cut 50 = .ok (.iload_n 3, 1) := by decide +kernel
theorem dX7_cut_51 : decode cX7_cut 51 = .ok (.aload 4, 2) := by decide +kernel
theorem dX7_cut_53 : decode cX7_cut 53 = .ok (.getfield 55, 3) := by decide +kernel
theorem dX7_cut_56 : decode cX7_cut 56 = .ok (.iload_n 1, 1) := by decide +kernel
theorem dX7_cut_57 : decode cX7_cut 57 = .ok (.invokespecial 58, 3) := by decide +kernel
theorem dX7_cut_60 : decode cX7_cut 60 = .ok (.astore 6, 2) := by decide +kernel
theorem dX7_cut_62 : decode cX7_cut 62 = .ok (.new 34, 3) := by decide +kernel
theorem dX7_cut_65 : decode cX7_cut 65 = .ok (.dup, 1) := by decide +kernel
theorem dX7_cut_66 : decode cX7_cut 66 = .ok (.iload_n 2, 1) := by decide +kernel
theorem dX7_cut_67 : decode cX7_cut 67 = .ok (.ifCond .eq 14, 3) := by decide +kernel
theorem dX7_cut_70 : decode cX7_cut 70 = .ok (.aload 4, 2) := by decide +kernel
theorem dX7_cut_72 : decode cX7_cut 72 = .ok (.getfield 49, 3) := by decide +kernel
theorem dX7_cut_75 : decode cX7_cut 75 = .ok (.iload 5, 2) := by decide +kernel
theorem dX7_cut_77 : decode cX7_cut 77 = .ok (.isub, 1) := by decide +kernel
theorem dX7_cut_78 : decode cX7_cut 78 = .ok (.goto 8, 3) := by decide +kernel
theorem dX7_cut_81 : decode cX7_cut 81 = .ok (.aload 4, 2) := by decide +kernel
theorem dX7_cut_83 : decode cX7_cut 83 = .ok (.getfield 49, 3) := by decide +kernel
theorem dX7_cut_86 : decode cX7_cut 86 = .ok (.iload_n 2, 1) := by decide +kernel
theorem dX7_cut_87 : decode cX7_cut 87 = .ok (.ifCond .eq 11, 3) := by decide +kernel
theorem dX7_cut_90 : decode cX7_cut 90 = .ok (.aload 4, 2) := by decide +kernel
theorem dX7_cut_92 : decode cX7_cut 92 = .ok (.getfield 52, 3) := by decide +kernel
theorem dX7_cut_95 : decode cX7_cut 95 = .ok (.goto 11, 3) := by decide +kernel
theorem dX7_cut_98 : decode cX7_cut 98 = .ok (.aload 4, 2) := by decide +kernel
theorem dX7_cut_100 : decode cX7_cut 100 = .ok (.getfield 52, 3) := by decide +kernel
theorem dX7_cut_103 : decode cX7_cut 103 = .ok (.iload 5, 2) := by decide +kernel
theorem dX7_cut_105 : decode cX7_cut 105 = .ok (.isub, 1) := by decide +kernel
theorem dX7_cut_106 : decode cX7_cut 106 = .ok (.aload 4, 2) := by decide +kernel
theorem dX7_cut_108 : decode cX7_cut 108 = .ok (.getfield 55, 3) := by decide +kernel
theorem dX7_cut_111 : decode cX7_cut 111 = .ok (.iload_n 1, 1) := by decide +kernel
theorem dX7_cut_112 : decode cX7_cut 112 = .ok (.invokespecial 58, 3) := by decide +kernel
theorem dX7_cut_115 : decode cX7_cut 115 = .ok (.astore 7, 2) := by decide +kernel
theorem dX7_cut_117 : decode cX7_cut 117 = .ok (.iconst 0, 1) := by decide +kernel
theorem dX7_cut_118 : decode cX7_cut 118 = .ok (.istore 8, 2) := by decide +kernel
theorem dX7_cut_120 : decode cX7_cut 120 = .ok (.iload 8, 2) := by decide +kernel
theorem dX7_cut_122 : decode cX7_cut 122 = .ok (.aload 4, 2) := by decide +kernel
theorem dX7_cut_124 : decode cX7_cut 124 = .ok (.getfield 61, 3) := by decide +kernel
theorem dX7_cut_127 : decode cX7_cut 127 = .ok (.invokevirtual 26, 3) := by decide +kernel
theorem dX7_cut_130 : decode cX7_cut 130 = .ok (.if_icmp .ge 121, 3) := by decide +kernel
theorem dX7_cut_133 : decode cX7_cut 133 = .ok (.aload 4, 2) := by decide +kernel
theorem dX7_cut_135 : decode cX7_cut 135 = .ok (.getfield 61, 3) := by decide +kernel
theorem dX7_cut_138 : decode cX7_cut 138 = .ok (.iload 8, 2) := by decide +kernel
theorem dX7_cut_140 : decode cX7_cut 140 = .ok (.invokevirtual 30, 3) := by decide +kernel
theorem dX7_cut_143 : decode cX7_cut 143 = .ok (.checkcast 64, 3) := by decide +kernel
theorem dX7_cut_146 : decode cX7_cut 146 = .ok (.astore 9, 2) := by decide +kernel
theorem dX7_cut_148 : decode cX7_cut 148 = .ok (.iload_n 2, 1) := by decide +kernel
theorem dX7_cut_149 : decode cX7_cut 149 = .ok (.ifCond .eq 10, 3) := by decide +kernel
theorem dX7_cut_152 : decode cX7_cut 152 = .ok (.aload 9, 2) := by decide +kernel
theorem dX7_cut_154 : decode cX7_cut 154 = .ok (.iconst 0, 1) := by decide +kernel
theorem dX7_cut_155 : decode cX7_cut 155 = .ok (.iaload, 1) := by decide +kernel
theorem dX7_cut_156 : decode cX7_cut 156 = .ok (.goto 7, 3) := by decide +kernel
theorem dX7_cut_159 : decode cX7_cut 159 = .ok (.aload 9, 2) := by decide +kernel
theorem dX7_cut_161 : decode cX7_cut 161 = .ok (.iconst 1, 1) := by decide +kernel
theorem dX7_cut_162 : decode cX7_cut 162 = .ok (.iaload, 1) := by decide +kernel
theorem dX7_cut_163 : decode cX7_cut 163 = .ok (.istore 10, 2) := by decide +kernel
theorem dX7_cut_165 : decode cX7_cut 165 = .ok (.iload 10, 2) := by decide +kernel
theorem dX7_cut_167 : decode cX7_cut 167 = .ok (.iload_n 3, 1) := by decide +kernel
theorem dX7_cut_168 : decode cX7_cut 168 = .ok (.if_icmp .ge 14, 3) := by decide +kernel
theorem dX7_cut_171 : decode cX7_cut 171 = .ok (.aload 6, 2) := by decide +kernel
theorem dX7_cut_173 : decode cX7_cut 173 = .ok (.getfield 61, 3) := by decide +kernel
theorem dX7_cut_176 : decode cX7_cut 176 = .ok (.aload 9, 2) := by decide +kernel
theorem dX7_cut_178 : decode cX7_cut 178 = .ok (.invokevirtual 40, 3) := by decide +kernel
theorem dX7_cut_181 : decode cX7_cut 181 = .ok (.pop, 1) := by decide +kernel
theorem dX7_cut_182 : decode cX7_cut 182 = .ok (.iload 10, 2) := by decide +kernel
theorem dX7_cut_184 : decode cX7_cut 184 = .ok (.iload 5, 2) := by decide +kernel
theorem dX7_cut_186 : decode cX7_cut 186 = .ok (.if_icmp .lt 59, 3) := by decide +kernel
theorem dX7_cut_189 : decode cX7_cut 189 = .ok (.aload 7, 2) := by decide +kernel
theorem dX7_cut_191 : decode cX7_cut 191 = .ok (.getfield 61, 3) := by decide +kernel
theorem dX7_cut_194 : decode cX7_cut 194 = .ok (.iload_n 2, 1) := by decide +kernel
theorem dX7_cut_195 : decode cX7_cut 195 = .ok (.ifCond .eq 26, 3) := by decide +kernel
theorem dX7_cut_198 : decode cX7_cut 198 = .ok (.iconst 2, 1) := by decide +kernel
theorem dX7_cut_199 : decode cX7_cut 199 = .ok (.newarray .int, 2) := by decide +kernel
theorem dX7_cut_201 : decode cX7_cut 201 = .ok (.dup, 1) := by decide +kernel
theorem dX7_cut_202 : decode cX7_cut 202 = .ok (.iconst 0, 1) := by decide +kernel
theorem dX7_cut_203 : decode cX7_cut 203 = .ok (.aload 9, 2) := by decide +kernel
theorem dX7_cut_205 : decode cX7_cut 205 = .ok (.iconst 0, 1) := by decide +kernel
theorem dX7_cut_206 : decode cX7_cut 206 = .ok (.iaload, 1) := by decide +kernel
theorem dX7_cut_207 : decode cX7_cut 207 = .ok (.iload 5, 2) := by decide +kernel
theorem dX7_cut_209 : decode cX7_cut 209 = .ok (.isub, 1) := by decide +kernel
theorem dX7_cut_210 : decode cX7_cut 210 = .ok (.iastore, 1) := by decide +kernel
theorem dX7_cut_211 : decode cX7_cut 211 = .ok (.dup, 1) := by decide +kernel
theorem dX7_cut_212 : decode cX7_cut 212 = .ok (.iconst 1, 1) := by decide +kernel
theorem dX7_cut_213 : decode cX7_cut 213 = .ok (.aload 9, 2) := by decide +kernel
theorem dX7_cut_215 : decode cX7_cut 215 = .ok (.iconst 1, 1) := by decide +kernel
theorem dX7_cut_216 : decode cX7_cut 216 = .ok (.iaload, 1) := by decide +kernel
theorem dX7_cut_217 : decode cX7_cut 217 = .ok (.iastore, 1) := by decide +kernel
theorem dX7_cut_218 : decode cX7_cut 218 = .ok (.goto 23, 3) := by decide +kernel
theorem dX7_cut_221 : decode cX7_cut 221 = .ok (.iconst 2, 1) := by decide +kernel
theorem dX7_cut_222 : decode cX7_cut 222 = .ok (.newarray .int, 2) := by decide +kernel
theorem dX7_cut_224 : decode cX7_cut 224 = .ok (.dup, 1) := by decide +kernel
theorem dX7_cut_225 : decode cX7_cut 225 = .ok (.iconst 0, 1) := by decide +kernel
theorem dX7_cut_226 : decode cX7_cut 226 = .ok (.aload 9, 2) := by decide +kernel
theorem dX7_cut_228 : decode cX7_cut 228 = .ok (.iconst 0, 1) := by decide +kernel
theorem dX7_cut_229 : decode cX7_cut 229 = .ok (.iaload, 1) := by decide +kernel
theorem dX7_cut_230 : decode cX7_cut 230 = .ok (.iastore, 1) := by decide +kernel
theorem dX7_cut_231 : decode cX7_cut 231 = .ok (.dup, 1) := by decide +kernel
theorem dX7_cut_232 : decode cX7_cut 232 = .ok (.iconst 1, 1) := by decide +kernel
theorem dX7_cut_233 : decode cX7_cut 233 = .ok (.aload 9, 2) := by decide +kernel
theorem dX7_cut_235 : decode cX7_cut 235 = .ok (.iconst 1, 1) := by decide +kernel
theorem dX7_cut_236 : decode cX7_cut 236 = .ok (.iaload, 1) := by decide +kernel
theorem dX7_cut_237 : decode cX7_cut 237 = .ok (.iload 5, 2) := by decide +kernel
theorem dX7_cut_239 : decode cX7_cut 239 = .ok (.isub, 1) := by decide +kernel
theorem dX7_cut_240 : decode cX7_cut 240 = .ok (.iastore, 1) := by decide +kernel
theorem dX7_cut_241 : decode cX7_cut 241 = .ok (.invokevirtual 40, 3) := by decide +kernel
theorem dX7_cut_244 : decode cX7_cut 244 = .ok (.pop, 1) := by decide +kernel
theorem dX7_cut_245 : decode cX7_cut 245 = .ok (.iinc 8 1, 3) := by decide +kernel
theorem dX7_cut_248 : decode cX7_cut 248 = .ok (.goto (-128), 3) := by decide +kernel
theorem dX7_cut_251 : decode cX7_cut 251 = .ok (.aload 4, 2) := by decide +kernel
theorem dX7_cut_253 : decode cX7_cut 253 = .ok (.iconst 1, 1) := by decide +kernel
theorem dX7_cut_254 : decode cX7_cut 254 = .ok (.putfield 66, 3) := by decide +kernel
theorem dX7_cut_257 : decode cX7_cut 257 = .ok (.aload_n 0, 1) := by decide +kernel
theorem dX7_cut_258 : decode cX7_cut 258 = .ok (.getfield 12, 3) := by decide +kernel
theorem dX7_cut_261 : decode cX7_cut 261 = .ok (.aload 6, 2) := by decide +kernel
theorem dX7_cut_263 : decode cX7_cut 263 = .ok (.invokevirtual 40, 3) := by decide +kernel
theorem dX7_cut_266 : decode cX7_cut 266 = .ok (.pop, 1) := by decide +kernel
theorem dX7_cut_267 : decode cX7_cut 267 = .ok (.aload_n 0, 1) := by decide +kernel
theorem dX7_cut_268 : decode cX7_cut 268 = .ok (.getfield 12, 3) := by decide +kernel
theorem dX7_cut_271 : decode cX7_cut 271 = .ok (.aload 7, 2) := by decide +kernel
theorem dX7_cut_273 : decode cX7_cut 273 = .ok (.invokevirtual 40, 3) := by decide +kernel
theorem dX7_cut_276 : decode cX7_cut 276 = .ok (.pop, 1) := by decide +kernel
theorem dX7_cut_277 : decode cX7_cut 277 = .ok (.aload_n 0, 1) := by decide +kernel
theorem dX7_cut_278 : decode cX7_cut 278 = .ok (.getfield 12, 3) := by decide +kernel
theorem dX7_cut_281 : decode cX7_cut 281 = .ok (.invokevirtual 26, 3) := by decide +kernel
theorem dX7_cut_284 : decode cX7_cut 284 = .ok (.iconst 2, 1) := by decide +kernel
theorem dX7_cut_285 : decode cX7_cut 285 = .ok (.isub, 1) := by decide +kernel
theorem dX7_cut_286 : decode cX7_cut 286 = .ok (.ireturn, 1) := by decide +kernel
set_option maxRecDepth 20000 in
theorem ggX7_take_Jx4a65c_get_915e3 : GoodIn wsX7_take wsJx4a65c_get_915e3 := goodIn_r _ [24, 25, 26, 27, 28, 29, 30, 31, 32, 33, 34, 35, 36, 23, 37, 38, 188, 189, 190] (by decide +kernel) (by decide +kernel)
set_option maxRecDepth 20000 in
theorem gX7_take_Jx4a65c_get_915e3 : GoodIn wsX7_take (wsV RX7 30 RJx4a65c yJx4a65c_get_915e3 wsJx4a65c_get_915e3) := goodIn_app (goodIn_of _ (by decide +kernel)) ggX7_take_Jx4a65c_get_915e3
set_option maxRecDepth 20000 in
theorem ggX7_take_X5_fits : GoodIn wsX7_take wsX5_fits := goodIn_r _ [43, 44, 45, 46, 47, 48, 49, 50, 51, 52, 53, 54, 55, 56, 42, 57, 58, 59, 60, 61, 62, 63, 64, 65, 66, 67, 68, 69, 70, 71, 72, 73, 74, 75, 76, 77, 78, 79, 80, 81, 23, 82, 25, 83, 21, 22, 24, 26, 27, 28, 29, 30, 31, 32, 33, 34, 35, 36, 37, 38, 174, 175, 176, 177, 178, 179, 180, 181, 182, 183, 184, 185, 186, 187, 188, 189, 190] (by decide +kernel) (by decide +kernel)
set_option maxRecDepth 20000 in
theorem gX7_take_X5_fits : GoodIn wsX7_take (wsV RX7 69 RX5 yX5_fits wsX5_fits) := goodIn_app (goodIn_of _ (by decide +kernel)) ggX7_take_X5_fits
set_option maxRecDepth 20000 in
theorem ggX7_take_X5_wide : GoodIn wsX7_take wsX5_wide := goodIn_r _ [66, 67, 68, 180, 181, 182, 183, 184, 185, 186, 187] (by decide +kernel) (by decide +kernel)
set_option maxRecDepth 20000 in
theorem gX7_take_X5_wide : GoodIn wsX7_take (wsV RX7 73 RX5 yX5_wide wsX5_wide) := goodIn_app (goodIn_of _ (by decide +kernel)) ggX7_take_X5_wide
set_option maxRecDepth 20000 in
theorem ggX7_take_X7_cut : GoodIn wsX7_take wsX7_cut := goodIn_r _ [89, 3, 4, 6, 90, 91, 51, 5, 7, 92, 93, 94, 95, 8, 20, 21, 22, 23, 24, 25, 26, 27, 28, 29, 30, 31, 32, 33, 34, 35, 36, 37, 38, 96, 97, 98, 99, 100, 101, 102, 103, 77, 53, 104, 105, 106, 107, 108, 109, 110, 111, 112, 113, 114, 115, 116, 117, 118, 119, 120, 121, 122, 80, 81, 82, 123, 124, 125, 126, 127, 128, 129, 130, 131, 132, 133, 134, 135, 136, 137, 138, 139, 140, 141, 12, 13, 14, 142, 143, 144, 145, 146, 147, 148, 149, 150, 151, 152, 153, 154, 155, 156, 157, 158, 159, 160, 161, 162, 163, 164, 165, 18, 19, 166, 167, 168, 169, 171, 172, 173, 174, 175, 176, 177, 178, 179, 188, 189, 190] (by decide +kernel) (by decide +kernel)
set_option maxRecDepth 20000 in
theorem gX7_take_X7_cut : GoodIn wsX7_take (wsV RX7 76 RX7 yX7_cut wsX7_cut) := goodIn_app (goodIn_of _ (by decide +kernel)) ggX7_take_X7_cut
set_option maxRecDepth 20000 in
theorem ggX7_take_X5_high : GoodIn wsX7_take wsX5_high := goodIn_r _ [72, 68, 67, 180, 181, 182, 183, 184, 185, 186, 187] (by decide +kernel) (by decide +kernel)
set_option maxRecDepth 20000 in
theorem gX7_take_X5_high : GoodIn wsX7_take (wsV RX7 80 RX5 yX5_high wsX5_high) := goodIn_app (goodIn_of _ (by decide +kernel)) ggX7_take_X5_high
set_option maxRecDepth 20000 in
theorem ggX7_take_Jx4a65c_size_8abf5 : GoodIn wsX7_take wsJx4a65c_size_8abf5 := goodIn_r _ [82, 25, 188, 189, 190] (by decide +kernel) (by decide +kernel)
set_option maxRecDepth 20000 in
theorem gX7_take_Jx4a65c_size_8abf5 : GoodIn wsX7_take (wsV RX7 26 RJx4a65c yJx4a65c_size_8abf5 wsJx4a65c_size_8abf5) := goodIn_app (goodIn_of _ (by decide +kernel)) ggX7_take_Jx4a65c_size_8abf5
theorem dX7_take_0 : decode cX7_take 0 = .ok (.aload_n 0, 1) := by decide +kernel
theorem dX7_take_1 : decode cX7_take 1 = .ok (.getfield 18, 3) := by decide +kernel
theorem dX7_take_4 : decode cX7_take 4 = .ok (.iload_n 2, 1) := by decide +kernel
theorem dX7_take_5 : decode cX7_take 5 = .ok (.invokevirtual 30, 3) := by decide +kernel
theorem dX7_take_8 : decode cX7_take 8 = .ok (.checkcast 44, 3) := by decide +kernel
theorem dX7_take_11 : decode cX7_take 11 = .ok (.astore_n 3, 1) := by decide +kernel
theorem dX7_take_12 : decode cX7_take 12 = .ok (.aload_n 3, 1) := by decide +kernel
theorem dX7_take_13 : decode cX7_take 13 = .ok (.aload_n 0, 1) := by decide +kernel
theorem dX7_take_14 : decode cX7_take 14 = .ok (.getfield 12, 3) := by decide +kernel
theorem dX7_take_17 : decode cX7_take 17 = .ok (.iload_n 1, 1) := by decide +kernel
theorem dX7_take_18 : decode cX7_take 18 = .ok (.invokevirtual 30, 3) := by decide +kernel
theorem dX7_take_21 : decode cX7_take 21 = .ok (.checkcast 34, 3) := by decide +kernel
theorem dX7_take_24 : decode cX7_take 24 = .ok (.invokevirtual 69, 3) := by decide +kernel
theorem dX7_take_27 : decode cX7_take 27 = .ok (.istore 4, 2) := by decide +kernel
theorem dX7_take_29 : decode cX7_take 29 = .ok (.iload_n 1, 1) := by decide +kernel
theorem dX7_take_30 : decode cX7_take 30 = .ok (.istore 5, 2) := by decide +kernel
theorem dX7_take_32 : decode cX7_take 32 = .ok (.aload_n 0, 1) := by decide +kernel
theorem dX7_take_33 : decode cX7_take 33 = .ok (.getfield 12, 3) := by decide +kernel
theorem dX7_take_36 : decode cX7_take 36 = .ok (.iload 5, 2) := by decide +kernel
theorem dX7_take_38 : decode cX7_take 38 = .ok (.invokevirtual 30, 3) := by decide +kernel
theorem dX7_take_41 : decode cX7_take 41 = .ok (.checkcast 34, 3) := by decide +kernel
theorem dX7_take_44 : decode cX7_take 44 = .ok (.getfield 49, 3) := by decide +kernel
theorem dX7_take_47 : decode cX7_take 47 = .ok (.aload_n 3, 1) := by decide +kernel
theorem dX7_take_48 : decode cX7_take 48 = .ok (.iload 4, 2) := by decide +kernel
theorem dX7_take_50 : decode cX7_take 50 = .ok (.invokevirtual 73, 3) := by decide +kernel
theorem dX7_take_53 : decode cX7_take 53 = .ok (.aload_n 0, 1) := by decide +kernel
theorem dX7_take_54 : decode cX7_take 54 = .ok (.getfield 21, 3) := by decide +kernel
theorem dX7_take_57 : decode cX7_take 57 = .ok (.iadd, 1) := by decide +kernel
theorem dX7_take_58 : decode cX7_take 58 = .ok (.if_icmp .le 18, 3) := by decide +kernel
theorem dX7_take_61 : decode cX7_take 61 = .ok (.aload_n 0, 1) := by decide +kernel
theorem dX7_take_62 : decode cX7_take 62 = .ok (.iload 5, 2) := by decide +kernel
theorem dX7_take_64 : decode cX7_take 64 = .ok (.iconst 1, 1) := by decide +kernel
theorem dX7_take_65 : decode cX7_take 65 = .ok (.aload_n 3, 1) := by decide +kernel
theorem dX7_take_66 : decode cX7_take 66 = .ok (.iload 4, 2) := by decide +kernel
theorem dX7_take_68 : decode cX7_take 68 = .ok (.invokevirtual 73, 3) := by decide +kernel
theorem dX7_take_71 : decode cX7_take 71 = .ok (.invokevirtual 76, 3) := by decide +kernel
theorem dX7_take_74 : decode cX7_take 74 = .ok (.istore 5, 2) := by decide +kernel
theorem dX7_take_76 : decode cX7_take 76 = .ok (.aload_n 0, 1) := by decide +kernel
theorem dX7_take_77 : decode cX7_take 77 = .ok (.getfield 12, 3) := by decide +kernel
theorem dX7_take_80 : decode cX7_take 80 = .ok (.iload 5, 2) := by decide +kernel
theorem dX7_take_82 : decode cX7_take 82 = .ok (.invokevirtual 30, 3) := by decide +kernel
theorem dX7_take_85 : decode cX7_take 85 = .ok (.checkcast 34, 3) := by decide +kernel
theorem dX7_take_88 : decode cX7_take 88 = .ok (.getfield 52, 3) := by decide +kernel
theorem dX7_take_91 : decode cX7_take 91 = .ok (.aload_n 3, 1) := by decide +kernel
theorem dX7_take_92 : decode cX7_take 92 = .ok (.iload 4, 2) := by decide +kernel
theorem dX7_take_94 : decode cX7_take 94 = .ok (.invokevirtual 80, 3) := by decide +kernel
theorem dX7_take_97 : decode cX7_take 97 = .ok (.aload_n 0, 1) := by decide +kernel
theorem dX7_take_98 : decode cX7_take 98 = .ok (.getfield 21, 3) := by decide +kernel
theorem dX7_take_101 : decode cX7_take 101 = .ok (.iadd, 1) := by decide +kernel
theorem dX7_take_102 : decode cX7_take 102 = .ok (.if_icmp .le 18, 3) := by decide +kernel
theorem dX7_take_105 : decode cX7_take 105 = .ok (.aload_n 0, 1) := by decide +kernel
theorem dX7_take_106 : decode cX7_take 106 = .ok (.iload 5, 2) := by decide +kernel
theorem dX7_take_108 : decode cX7_take 108 = .ok (.iconst 0, 1) := by decide +kernel
theorem dX7_take_109 : decode cX7_take 109 = .ok (.aload_n 3, 1) := by decide +kernel
theorem dX7_take_110 : decode cX7_take 110 = .ok (.iload 4, 2) := by decide +kernel
theorem dX7_take_112 : decode cX7_take 112 = .ok (.invokevirtual 80, 3) := by decide +kernel
theorem dX7_take_115 : decode cX7_take 115 = .ok (.invokevirtual 76, 3) := by decide +kernel
theorem dX7_take_118 : decode cX7_take 118 = .ok (.istore 5, 2) := by decide +kernel
theorem dX7_take_120 : decode cX7_take 120 = .ok (.aload_n 0, 1) := by decide +kernel
theorem dX7_take_121 : decode cX7_take 121 = .ok (.getfield 12, 3) := by decide +kernel
theorem dX7_take_124 : decode cX7_take 124 = .ok (.iload 5, 2) := by decide +kernel
theorem dX7_take_126 : decode cX7_take 126 = .ok (.invokevirtual 30, 3) := by decide +kernel
theorem dX7_take_129 : decode cX7_take 129 = .ok (.checkcast 34, 3) := by decide +kernel
theorem dX7_take_132 : decode cX7_take 132 = .ok (.iconst 2, 1) := by decide +kernel
theorem dX7_take_133 : decode cX7_take 133 = .ok (.putfield 66, 3) := by decide +kernel
theorem dX7_take_136 : decode cX7_take 136 = .ok (.aload_n 3, 1) := by decide +kernel
theorem dX7_take_137 : decode cX7_take 137 = .ok (.getfield 82, 3) := by decide +kernel
theorem dX7_take_140 : decode cX7_take 140 = .ok (.ifCond .le 10, 3) := by decide +kernel
theorem dX7_take_143 : decode cX7_take 143 = .ok (.aload_n 3, 1) := by decide +kernel
theorem dX7_take_144 : decode cX7_take 144 = .ok (.getfield 85, 3) := by decide +kernel
theorem dX7_take_147 : decode cX7_take 147 = .ok (.goto 9, 3) := by decide +kernel
theorem dX7_take_150 : decode cX7_take 150 = .ok (.aload_n 3, 1) := by decide +kernel
theorem dX7_take_151 : decode cX7_take 151 = .ok (.getfield 85, 3) := by decide +kernel
theorem dX7_take_154 : decode cX7_take 154 = .ok (.iconst 4, 1) := by decide +kernel
theorem dX7_take_155 : decode cX7_take 155 = .ok (.idiv, 1) := by decide +kernel
theorem dX7_take_156 : decode cX7_take 156 = .ok (.istore 6, 2) := by decide +kernel
theorem dX7_take_158 : decode cX7_take 158 = .ok (.aload_n 3, 1) := by decide +kernel
theorem dX7_take_159 : decode cX7_take 159 = .ok (.iconst 0, 1) := by decide +kernel
theorem dX7_take_160 : decode cX7_take 160 = .ok (.aload_n 3, 1) := by decide +kernel
theorem dX7_take_161 : decode cX7_take 161 = .ok (.getfield 82, 3) := by decide +kernel
theorem dX7_take_164 : decode cX7_take 164 = .ok (.iconst 1, 1) := by decide +kernel
theorem dX7_take_165 : decode cX7_take 165 = .ok (.isub, 1) := by decide +kernel
theorem dX7_take_166 : decode cX7_take 166 = .ok (.invokestatic 88, 3) := by decide +kernel
theorem dX7_take_169 : decode cX7_take 169 = .ok (.putfield 82, 3) := by decide +kernel
theorem dX7_take_172 : decode cX7_take 172 = .ok (.aload_n 3, 1) := by decide +kernel
theorem dX7_take_173 : decode cX7_take 173 = .ok (.dup, 1) := by decide +kernel
theorem dX7_take_174 : decode cX7_take 174 = .ok (.getfield 94, 3) := by decide +kernel
theorem dX7_take_177 : decode cX7_take 177 = .ok (.iconst 1, 1) := by decide +kernel
theorem dX7_take_178 : decode cX7_take 178 = .ok (.iadd, 1) := by decide +kernel
theorem dX7_take_179 : decode cX7_take 179 = .ok (.putfield 94, 3) := by decide +kernel
theorem dX7_take_182 : decode cX7_take 182 = .ok (.aload_n 3, 1) := by decide +kernel
theorem dX7_take_183 : decode cX7_take 183 = .ok (.dup, 1) := by decide +kernel
theorem dX7_take_184 : decode cX7_take 184 = .ok (.getfield 97, 3) := by decide +kernel
theorem dX7_take_187 : decode cX7_take 187 = .ok (.iload 6, 2) := by decide +kernel
theorem dX7_take_189 : decode cX7_take 189 = .ok (.iadd, 1) := by decide +kernel
theorem dX7_take_190 : decode cX7_take 190 = .ok (.putfield 97, 3) := by decide +kernel
theorem dX7_take_193 : decode cX7_take 193 = .ok (.aload_n 3, 1) := by decide +kernel
theorem dX7_take_194 : decode cX7_take 194 = .ok (.iconst 1, 1) := by decide +kernel
theorem dX7_take_195 : decode cX7_take 195 = .ok (.aload_n 3, 1) := by decide +kernel
theorem dX7_take_196 : decode cX7_take 196 = .ok (.getfield 85, 3) := by decide +kernel
theorem dX7_take_199 : decode cX7_take 199 = .ok (.bipush 9, 2) := by decide +kernel
theorem dX7_take_201 : decode cX7_take 201 = .ok (.imul, 1) := by decide +kernel
theorem dX7_take_202 : decode cX7_take 202 = .ok (.bipush 10, 2) := by decide +kernel
theorem dX7_take_204 : decode cX7_take 204 = .ok (.idiv, 1) := by decide +kernel
theorem dX7_take_205 : decode cX7_take 205 = .ok (.invokestatic 88, 3) := by decide +kernel
theorem dX7_take_208 : decode cX7_take 208 = .ok (.putfield 85, 3) := by decide +kernel
theorem dX7_take_211 : decode cX7_take 211 = .ok (.iconst 0, 1) := by decide +kernel
theorem dX7_take_212 : decode cX7_take 212 = .ok (.istore 7, 2) := by decide +kernel
theorem dX7_take_214 : decode cX7_take 214 = .ok (.iload 7, 2) := by decide +kernel
theorem dX7_take_216 : decode cX7_take 216 = .ok (.aload_n 0, 1) := by decide +kernel
theorem dX7_take_217 : decode cX7_take 217 = .ok (.getfield 18, 3) := by decide +kernel
theorem dX7_take_220 : decode cX7_take 220 = .ok (.invokevirtual 26, 3) := by decide +kernel
theorem dX7_take_223 : decode cX7_take 223 = .ok (.if_icmp .ge 71, 3) := by decide +kernel
theorem dX7_take_226 : decode cX7_take 226 = .ok (.iload 7, 2) := by decide +kernel
theorem dX7_take_228 : decode cX7_take 228 = .ok (.iload_n 2, 1) := by decide +kernel
theorem dX7_take_229 : decode cX7_take 229 = .ok (.if_icmp .eq 59, 3) := by decide +kernel
theorem dX7_take_232 : decode cX7_take 232 = .ok (.aload_n 0, 1) := by decide +kernel
theorem dX7_take_233 : decode cX7_take 233 = .ok (.getfield 18, 3) := by decide +kernel
theorem dX7_take_236 : decode cX7_take 236 = .ok (.iload 7, 2) := by decide +kernel
theorem dX7_take_238 : decode cX7_take 238 = .ok (.invokevirtual 30, 3) := by decide +kernel
theorem dX7_take_241 : decode cX7_take 241 = .ok (.checkcast 44, 3) := by decide +kernel
theorem dX7_take_244 : decode cX7_take 244 = .ok (.getfield 82, 3) := by decide +kernel
theorem dX7_take_247 : decode cX7_take 247 = .ok (.ifCond .le 41, 3) := by decide +kernel
theorem dX7_take_250 : decode cX7_take 250 = .ok (.aload_n 0, 1) := by decide +kernel
theorem dX7_take_251 : decode cX7_take 251 = .ok (.getfield 18, 3) := by decide +kernel
theorem dX7_take_254 : decode cX7_take 254 = .ok (.iload 7, 2) := by decide +kernel
theorem dX7_take_256 : decode cX7_take 256 = .ok (.invokevirtual 30, 3) := by decide +kernel
theorem dX7_take_259 : decode cX7_take 259 = .ok (.checkcast 44, 3) := by decide +kernel
theorem dX7_take_262 : decode cX7_take 262 = .ok (.sipush 999, 3) := by decide +kernel
theorem dX7_take_265 : decode cX7_take 265 = .ok (.aload_n 0, 1) := by decide +kernel
theorem dX7_take_266 : decode cX7_take 266 = .ok (.getfield 18, 3) := by decide +kernel
theorem dX7_take_269 : decode cX7_take 269 = .ok (.iload 7, 2) := by decide +kernel
theorem dX7_take_271 : decode cX7_take 271 = .ok (.invokevirtual 30, 3) := by decide +kernel
theorem dX7_take_274 : decode cX7_take 274 = .ok (.checkcast 44, 3) := by decide +kernel
theorem dX7_take_277 : decode cX7_take 277 = .ok (.getfield 85, 3) := by decide +kernel
theorem dX7_take_280 : decode cX7_take 280 = .ok (.iconst 1, 1) := by decide +kernel
theorem dX7_take_281 : decode cX7_take 281 = .ok (.iadd, 1) := by decide +kernel
theorem dX7_take_282 : decode cX7_take 282 = .ok (.invokestatic 100, 3) := by decide +kernel
theorem dX7_take_285 : decode cX7_take 285 = .ok (.putfield 85, 3) := by decide +kernel
theorem dX7_take_288 : decode cX7_take 288 = .ok (.iinc 7 1, 3) := by decide +kernel
theorem dX7_take_291 : decode cX7_take 291 = .ok (.goto (-77), 3) := by decide +kernel
theorem dX7_take_294 : decode cX7_take 294 = .ok (.iload 6, 2) := by decide +kernel
theorem dX7_take_296 : decode cX7_take 296 = .ok (.ireturn, 1) := by decide +kernel
set_option maxRecDepth 20000 in
theorem ggX7_there_Jx4a65c_size_8abf5 : GoodIn wsX7_there wsJx4a65c_size_8abf5 := goodIn_r _ [7, 8, 35, 36, 37] (by decide +kernel) (by decide +kernel)
set_option maxRecDepth 20000 in
theorem gX7_there_Jx4a65c_size_8abf5 : GoodIn wsX7_there (wsV RX7 26 RJx4a65c yJx4a65c_size_8abf5 wsJx4a65c_size_8abf5) := goodIn_app (goodIn_of _ (by decide +kernel)) ggX7_there_Jx4a65c_size_8abf5
set_option maxRecDepth 20000 in
theorem ggX7_there_Jx4a65c_get_915e3 : GoodIn wsX7_there wsJx4a65c_get_915e3 := goodIn_r _ [12, 8, 13, 14, 15, 16, 17, 18, 19, 20, 21, 22, 23, 6, 24, 25, 35, 36, 37] (by decide +kernel) (by decide +kernel)
set_option maxRecDepth 20000 in
theorem gX7_there_Jx4a65c_get_915e3 : GoodIn wsX7_there (wsV RX7 30 RJx4a65c yJx4a65c_get_915e3 wsJx4a65c_get_915e3) := goodIn_app (goodIn_of _ (by decide +kernel)) ggX7_there_Jx4a65c_get_915e3
set_option maxRecDepth 20000 in
theorem ggX7_there_X6_isThere : GoodIn wsX7_there wsX6_isThere := goodIn_r _ [30, 31, 38, 39, 40, 41, 42, 43] (by decide +kernel) (by decide +kernel)
set_option maxRecDepth 20000 in
theorem gX7_there_X6_isThere : GoodIn wsX7_there (wsV RX7 103 RX6 yX6_isThere wsX6_isThere) := goodIn_app (goodIn_of _ (by decide +kernel)) ggX7_there_X6_isThere
theorem dX7_there_0 : decode cX7_there 0 = .ok (.iconst 0, 1) := by decide +kernel
theorem dX7_there_1 : decode cX7_there 1 = .ok (.istore_n 1, 1) := by decide +kernel
theorem dX7_there_2 : decode cX7_there 2 = .ok (.iconst 0, 1) := by decide +kernel
theorem dX7_there_3 : decode cX7_there 3 = .ok (.istore_n 2, 1) := by decide +kernel
theorem dX7_there_4 : decode cX7_there 4 = .ok (.iload_n 2, 1) := by decide +kernel
theorem dX7_there_5 : decode cX7_there 5 = .ok (.aload_n 0, 1) := by decide +kernel
theorem dX7_there_6 : decode cX7_there 6 = .ok (.getfield 12, 3) := by decide +kernel
theorem dX7_there_9 : decode cX7_there 9 = .ok (.invokevirtual 26, 3) := by decide +kernel
theorem dX7_there_12 : decode cX7_there 12 = .ok (.if_icmp .ge 34, 3) := by decide +kernel
theorem dX7_there_15 : decode cX7_there 15 = .ok (.iload_n 1, 1) := by decide +kernel
theorem dX7_there_16 : decode cX7_there 16 = .ok (.aload_n 0, 1) := by decide +kernel
theorem dX7_there_17 : decode cX7_there 17 = .ok (.getfield 12, 3) := by decide +kernel
theorem dX7_there_20 : decode cX7_there 20 = .ok (.iload_n 2, 1) := by decide +kernel
theorem dX7_there_21 : decode cX7_there 21 = .ok (.invokevirtual 30, 3) := by decide +kernel
theorem dX7_there_24 : decode cX7_there 24 = .ok (.checkcast 34, 3) := by decide +kernel
theorem dX7_there_27 : decode cX7_there 27 = .ok (.invokevirtual 103, 3) := by decide +kernel
theorem dX7_there_30 : decode cX7_there 30 = .ok (.ifCond .eq 7, 3) := by decide +kernel
theorem dX7_there_33 : decode cX7_there 33 = .ok (.iconst 1, 1) := by decide +kernel
theorem dX7_there_34 : decode cX7_there 34 = .ok (.goto 4, 3) := by decide +kernel
theorem dX7_there_37 : decode cX7_there 37 = .ok (.iconst 0, 1) := by decide +kernel
theorem dX7_there_38 : decode cX7_there 38 = .ok (.iadd, 1) := by decide +kernel
theorem dX7_there_39 : decode cX7_there 39 = .ok (.istore_n 1, 1) := by decide +kernel
theorem dX7_there_40 : decode cX7_there 40 = .ok (.iinc 2 1, 3) := by decide +kernel
theorem dX7_there_43 : decode cX7_there 43 = .ok (.goto (-39), 3) := by decide +kernel
theorem dX7_there_46 : decode cX7_there 46 = .ok (.iload_n 1, 1) := by decide +kernel
theorem dX7_there_47 : decode cX7_there 47 = .ok (.ireturn, 1) := by decide +kernel
set_option maxRecDepth 20000 in
theorem ggX7_areaThere_Jx4a65c_size_8abf5 : GoodIn wsX7_areaThere wsJx4a65c_size_8abf5 := goodIn_r _ [7, 8, 41, 42, 43] (by decide +kernel) (by decide +kernel)
set_option maxRecDepth 20000 in
theorem gX7_areaThere_Jx4a65c_size_8abf5 : GoodIn wsX7_areaThere (wsV RX7 26 RJx4a65c yJx4a65c_size_8abf5 wsJx4a65c_size_8abf5) := goodIn_app (goodIn_of _ (by decide +kernel)) ggX7_areaThere_Jx4a65c_size_8abf5
set_option maxRecDepth 20000 in
theorem ggX7_areaThere_Jx4a65c_get_915e3 : GoodIn wsX7_areaThere wsJx4a65c_get_915e3 := goodIn_r _ [12, 8, 13, 14, 15, 16, 17, 18, 19, 20, 21, 22, 23, 6, 24, 25, 41, 42, 43] (by decide +kernel) (by decide +kernel)
set_option maxRecDepth 20000 in
theorem gX7_areaThere_Jx4a65c_get_915e3 : GoodIn wsX7_areaThere (wsV RX7 30 RJx4a65c yJx4a65c_get_915e3 wsJx4a65c_get_915e3) := goodIn_app (goodIn_of _ (by decide +kernel)) ggX7_areaThere_Jx4a65c_get_915e3
set_option maxRecDepth 20000 in
theorem ggX7_areaThere_X6_isThere : GoodIn wsX7_areaThere wsX6_isThere := goodIn_r _ [30, 31, 44, 45, 46, 47, 48, 49] (by decide +kernel) (by decide +kernel)
set_option maxRecDepth 20000 in
theorem gX7_areaThere_X6_isThere : GoodIn wsX7_areaThere (wsV RX7 103 RX6 yX6_isThere wsX6_isThere) := goodIn_app (goodIn_of _ (by decide +kernel)) ggX7_areaThere_X6_isThere
set_option maxRecDepth 20000 in
theorem ggX7_areaThere_X6_area : GoodIn wsX7_areaThere wsX6_area := goodIn_r _ [35, 36, 37, 44, 45, 46, 47, 48, 49] (by decide +kernel) (by decide +kernel)
set_option maxRecDepth 20000 in
theorem gX7_areaThere_X6_area : GoodIn wsX7_areaThere (wsV RX7 107 RX6 yX6_area wsX6_area) := goodIn_app (goodIn_of _ (by decide +kernel)) ggX7_areaThere_X6_area
theorem dX7_areaThere_0 : decode cX7_areaThere 0 = .ok (.iconst 0, 1) := by decide +kernel
theorem dX7_areaThere_1 : decode cX7_areaThere 1 = .ok (.istore_n 1, 1) := by decide +kernel
theorem dX7_areaThere_2 : decode cX7_areaThere 2 = .ok (.iconst 0, 1) := by decide +kernel
theorem dX7_areaThere_3 : decode cX7_areaThere 3 = .ok (.istore_n 2, 1) := by decide +kernel
theorem dX7_areaThere_4 : decode cX7_areaThere 4 = .ok (.iload_n 2, 1) := by decide +kernel
theorem dX7_areaThere_5 : decode cX7_areaThere 5 = .ok (.aload_n 0, 1) := by decide +kernel
theorem dX7_areaThere_6 : decode cX7_areaThere 6 = .ok (.getfield 12, 3) := by decide +kernel
theorem dX7_areaThere_9 : decode cX7_areaThere 9 = .ok (.invokevirtual 26, 3) := by decide +kernel
theorem dX7_areaThere_12 : decode cX7_areaThere 12 = .ok (.if_icmp .ge 47, 3) := by decide +kernel
theorem dX7_areaThere_15 : decode cX7_areaThere 15 = .ok (.iload_n 1, 1) := by decide +kernel
theorem dX7_areaThere_16 : decode cX7_areaThere 16 = .ok (.aload_n 0, 1) := by decide +kernel
theorem dX7_areaThere_17 : decode cX7_areaThere 17 = .ok (.getfield 12, 3) := by decide +kernel
theorem dX7_areaThere_20 : decode cX7_areaThere 20 = .ok (.iload_n 2, 1) := by decide +kernel
theorem dX7_areaThere_21 : decode cX7_areaThere 21 = .ok (.invokevirtual 30, 3) := by decide +kernel
theorem dX7_areaThere_24 : decode cX7_areaThere 24 = .ok (.checkcast 34, 3) := by decide +kernel
theorem dX7_areaThere_27 : decode cX7_areaThere 27 = .ok (.invokevirtual 103, 3) := by decide +kernel
theorem dX7_areaThere_30 : decode cX7_areaThere 30 = .ok (.ifCond .eq 20, 3) := by decide +kernel
theorem dX7_areaThere_33 : decode cX7_areaThere 33 = .ok (.aload_n 0, 1) := by decide +kernel
theorem dX7_areaThere_34 : decode cX7_areaThere 34 = .ok (.getfield 12, 3) := by decide +kernel
theorem dX7_areaThere_37 : decode cX7_areaThere 37 = .ok (.iload_n 2, 1) := by decide +kernel
theorem dX7_areaThere_38 : decode cX7_areaThere 38 = .ok (.invokevirtual 30, 3) := by decide +kernel
theorem dX7_areaThere_41 : decode cX7_areaThere 41 = .ok (.checkcast 34, 3) := by decide +kernel
theorem dX7_areaThere_44 : decode cX7_areaThere 44 = .ok (.invokevirtual 107, 3) := by decide +kernel
theorem dX7_areaThere_47 : decode cX7_areaThere 47 = .ok (.goto 4, 3) := by decide +kernel
theorem dX7_areaThere_50 : decode cX7_areaThere 50 = .ok (.iconst 0, 1) := by decide +kernel
theorem dX7_areaThere_51 : decode cX7_areaThere 51 = .ok (.iadd, 1) := by decide +kernel
theorem dX7_areaThere_52 : decode cX7_areaThere 52 = .ok (.istore_n 1, 1) := by decide +kernel
theorem dX7_areaThere_53 : decode cX7_areaThere 53 = .ok (.iinc 2 1, 3) := by decide +kernel
theorem dX7_areaThere_56 : decode cX7_areaThere 56 = .ok (.goto (-52), 3) := by decide +kernel
theorem dX7_areaThere_59 : decode cX7_areaThere 59 = .ok (.iload_n 1, 1) := by decide +kernel
theorem dX7_areaThere_60 : decode cX7_areaThere 60 = .ok (.ireturn, 1) := by decide +kernel
set_option maxRecDepth 20000 in
theorem ggX7_waste_X7_areaThere : GoodIn wsX7_waste wsX7_areaThere := goodIn_r _ [13, 1, 2, 14, 15, 16, 17, 18, 19, 20, 21, 22, 23, 24, 25, 26, 27, 28, 29, 30, 31, 32, 33, 34, 35, 36, 37, 38, 39, 40, 41, 42, 43, 44, 45, 46, 47, 48, 49, 50, 51, 66, 67, 68, 52, 53, 54, 55, 56, 57] (by decide +kernel) (by decide +kernel)
set_option maxRecDepth 20000 in
theorem gX7_waste_X7_areaThere : GoodIn wsX7_waste (wsV RX7 110 RX7 yX7_areaThere wsX7_areaThere) := goodIn_app (goodIn_of _ (by decide +kernel)) ggX7_waste_X7_areaThere
set_option maxRecDepth 20000 in
theorem ggX7_waste_Jx4a65c_size_8abf5 : GoodIn wsX7_waste wsJx4a65c_size_8abf5 := goodIn_r _ [18, 19, 66, 67, 68] (by decide +kernel) (by decide +kernel)
set_option maxRecDepth 20000 in
theorem gX7_waste_Jx4a65c_size_8abf5 : GoodIn wsX7_waste (wsV RX7 26 RJx4a65c yJx4a65c_size_8abf5 wsJx4a65c_size_8abf5) := goodIn_app (goodIn_of _ (by decide +kernel)) ggX7_waste_Jx4a65c_size_8abf5
set_option maxRecDepth 20000 in
theorem ggX7_waste_Jx4a65c_get_915e3 : GoodIn wsX7_waste wsJx4a65c_get_915e3 := goodIn_r _ [23, 19, 24, 25, 26, 27, 28, 29, 30, 31, 32, 33, 34, 17, 35, 36, 66, 67, 68] (by decide +kernel) (by decide +kernel)
set_option maxRecDepth 20000 in
theorem gX7_waste_Jx4a65c_get_915e3 : GoodIn wsX7_waste (wsV RX7 30 RJx4a65c yJx4a65c_get_915e3 wsJx4a65c_get_915e3) := goodIn_app (goodIn_of _ (by decide +kernel)) ggX7_waste_Jx4a65c_get_915e3
set_option maxRecDepth 20000 in
theorem ggX7_waste_X6_area : GoodIn wsX7_waste wsX6_area := goodIn_r _ [46, 47, 48, 52, 53, 54, 55, 56, 57] (by decide +kernel) (by decide +kernel)
set_option maxRecDepth 20000 in
theorem gX7_waste_X6_area : GoodIn wsX7_waste (wsV RX7 107 RX6 yX6_area wsX6_area) := goodIn_app (goodIn_of _ (by decide +kernel)) ggX7_waste_X6_area
theorem dX7_waste_0 : decode cX7_waste 0 = .ok (.aload_n 0, 1) := by decide +kernel
theorem dX7_waste_1 : decode cX7_waste 1 = .ok (.invokevirtual 110, 3) := by decide +kernel
theorem dX7_waste_4 : decode cX7_waste 4 = .ok (.ineg, 1) := by decide +kernel
theorem dX7_waste_5 : decode cX7_waste 5 = .ok (.istore_n 1, 1) := by decide +kernel
theorem dX7_waste_6 : decode cX7_waste 6 = .ok (.iconst 0, 1) := by decide +kernel
theorem dX7_waste_7 : decode cX7_waste 7 = .ok (.istore_n 2, 1) := by decide +kernel
theorem dX7_waste_8 : decode cX7_waste 8 = .ok (.iload_n 2, 1) := by decide +kernel
theorem dX7_waste_9 : decode cX7_waste 9 = .ok (.aload_n 0, 1) := by decide +kernel
theorem dX7_waste_10 : decode cX7_waste 10 = .ok (.getfield 12, 3) := by decide +kernel
theorem dX7_waste_13 : decode cX7_waste 13 = .ok (.invokevirtual 26, 3) := by decide +kernel
theorem dX7_waste_16 : decode cX7_waste 16 = .ok (.if_icmp .ge 48, 3) := by decide +kernel
theorem dX7_waste_19 : decode cX7_waste 19 = .ok (.iload_n 1, 1) := by decide +kernel
theorem dX7_waste_20 : decode cX7_waste 20 = .ok (.aload_n 0, 1) := by decide +kernel
theorem dX7_waste_21 : decode cX7_waste 21 = .ok (.getfield 12, 3) := by decide +kernel
theorem dX7_waste_24 : decode cX7_waste 24 = .ok (.iload_n 2, 1) := by decide +kernel
theorem dX7_waste_25 : decode cX7_waste 25 = .ok (.invokevirtual 30, 3) := by decide +kernel
theorem dX7_waste_28 : decode cX7_waste 28 = .ok (.checkcast 34, 3) := by decide +kernel
theorem dX7_waste_31 : decode cX7_waste 31 = .ok (.getfield 113, 3) := by decide +kernel
theorem dX7_waste_34 : decode cX7_waste 34 = .ok (.iconst (-1), 1) := by decide +kernel
theorem dX7_waste_35 : decode cX7_waste 35 = .ok (.if_icmp .ne 20, 3) := by decide +kernel
theorem dX7_waste_38 : decode cX7_waste 38 = .ok (.aload_n 0, 1) := by decide +kernel
theorem dX7_waste_39 : decode cX7_waste 39 = .ok (.getfield 12, 3) := by decide +kernel
theorem dX7_waste_42 : decode cX7_waste 42 = .ok (.iload_n 2, 1) := by decide +kernel
theorem dX7_waste_43 : decode cX7_waste 43 = .ok (.invokevirtual 30, 3) := by decide +kernel
theorem dX7_waste_46 : decode cX7_waste 46 = .ok (.checkcast 34, 3) := by decide +kernel
theorem dX7_waste_49 : decode cX7_waste 49 = .ok (.invokevirtual 107, 3) := by decide +kernel
theorem dX7_waste_52 : decode cX7_waste 52 = .ok (.goto 4, 3) := by decide +kernel
theorem dX7_waste_55 : decode cX7_waste 55 = .ok (.iconst 0, 1) := by decide +kernel
theorem dX7_waste_56 : decode cX7_waste 56 = .ok (.iadd, 1) := by decide +kernel
theorem dX7_waste_57 : decode cX7_waste 57 = .ok (.istore_n 1, 1) := by decide +kernel
theorem dX7_waste_58 : decode cX7_waste 58 = .ok (.iinc 2 1, 3) := by decide +kernel
theorem dX7_waste_61 : decode cX7_waste 61 = .ok (.goto (-53), 3) := by decide +kernel
theorem dX7_waste_64 : decode cX7_waste 64 = .ok (.iconst 0, 1) := by decide +kernel
theorem dX7_waste_65 : decode cX7_waste 65 = .ok (.istore_n 2, 1) := by decide +kernel
theorem dX7_waste_66 : decode cX7_waste 66 = .ok (.iload_n 2, 1) := by decide +kernel
theorem dX7_waste_67 : decode cX7_waste 67 = .ok (.aload_n 0, 1) := by decide +kernel
theorem dX7_waste_68 : decode cX7_waste 68 = .ok (.getfield 18, 3) := by decide +kernel
theorem dX7_waste_71 : decode cX7_waste 71 = .ok (.invokevirtual 26, 3) := by decide +kernel
theorem dX7_waste_74 : decode cX7_waste 74 = .ok (.if_icmp .ge 56, 3) := by decide +kernel
theorem dX7_waste_77 : decode cX7_waste 77 = .ok (.iload_n 1, 1) := by decide +kernel
theorem dX7_waste_78 : decode cX7_waste 78 = .ok (.aload_n 0, 1) := by decide +kernel
theorem dX7_waste_79 : decode cX7_waste 79 = .ok (.getfield 18, 3) := by decide +kernel
theorem dX7_waste_82 : decode cX7_waste 82 = .ok (.iload_n 2, 1) := by decide +kernel
theorem dX7_waste_83 : decode cX7_waste 83 = .ok (.invokevirtual 30, 3) := by decide +kernel
theorem dX7_waste_86 : decode cX7_waste 86 = .ok (.checkcast 44, 3) := by decide +kernel
theorem dX7_waste_89 : decode cX7_waste 89 = .ok (.getfield 94, 3) := by decide +kernel
theorem dX7_waste_92 : decode cX7_waste 92 = .ok (.aload_n 0, 1) := by decide +kernel
theorem dX7_waste_93 : decode cX7_waste 93 = .ok (.getfield 18, 3) := by decide +kernel
theorem dX7_waste_96 : decode cX7_waste 96 = .ok (.iload_n 2, 1) := by decide +kernel
theorem dX7_waste_97 : decode cX7_waste 97 = .ok (.invokevirtual 30, 3) := by decide +kernel
theorem dX7_waste_100 : decode cX7_waste 100 = .ok (.checkcast 44, 3) := by decide +kernel
theorem dX7_waste_103 : decode cX7_waste 103 = .ok (.getfield 116, 3) := by decide +kernel
theorem dX7_waste_106 : decode cX7_waste 106 = .ok (.imul, 1) := by decide +kernel
theorem dX7_waste_107 : decode cX7_waste 107 = .ok (.aload_n 0, 1) := by decide +kernel
theorem dX7_waste_108 : decode cX7_waste 108 = .ok (.getfield 18, 3) := by decide +kernel
theorem dX7_waste_111 : decode cX7_waste 111 = .ok (.iload_n 2, 1) := by decide +kernel
theorem dX7_waste_112 : decode cX7_waste 112 = .ok (.invokevirtual 30, 3) := by decide +kernel
theorem dX7_waste_115 : decode cX7_waste 115 = .ok (.checkcast 44, 3) := by decide +kernel
theorem dX7_waste_118 : decode cX7_waste 118 = .ok (.getfield 119, 3) := by decide +kernel
theorem dX7_waste_121 : decode cX7_waste 121 = .ok (.imul, 1) := by decide +kernel
theorem dX7_waste_122 : decode cX7_waste 122 = .ok (.isub, 1) := by decide +kernel
theorem dX7_waste_123 : decode cX7_waste 123 = .ok (.istore_n 1, 1) := by decide +kernel
theorem dX7_waste_124 : decode cX7_waste 124 = .ok (.iinc 2 1, 3) := by decide +kernel
theorem dX7_waste_127 : decode cX7_waste 127 = .ok (.goto (-61), 3) := by decide +kernel
theorem dX7_waste_130 : decode cX7_waste 130 = .ok (.iload_n 1, 1) := by decide +kernel
theorem dX7_waste_131 : decode cX7_waste 131 = .ok (.ireturn, 1) := by decide +kernel
set_option maxRecDepth 20000 in
theorem ggX7_paid_Jx4a65c_size_8abf5 : GoodIn wsX7_paid wsJx4a65c_size_8abf5 := goodIn_r _ [8, 9, 38, 39, 40] (by decide +kernel) (by decide +kernel)
set_option maxRecDepth 20000 in
theorem gX7_paid_Jx4a65c_size_8abf5 : GoodIn wsX7_paid (wsV RX7 26 RJx4a65c yJx4a65c_size_8abf5 wsJx4a65c_size_8abf5) := goodIn_app (goodIn_of _ (by decide +kernel)) ggX7_paid_Jx4a65c_size_8abf5
set_option maxRecDepth 20000 in
theorem ggX7_paid_Jx4a65c_get_915e3 : GoodIn wsX7_paid wsJx4a65c_get_915e3 := goodIn_r _ [13, 9, 14, 15, 16, 17, 18, 19, 20, 21, 22, 23, 24, 7, 25, 26, 38, 39, 40] (by decide +kernel) (by decide +kernel)
set_option maxRecDepth 20000 in
theorem gX7_paid_Jx4a65c_get_915e3 : GoodIn wsX7_paid (wsV RX7 30 RJx4a65c yJx4a65c_get_915e3 wsJx4a65c_get_915e3) := goodIn_app (goodIn_of _ (by decide +kernel)) ggX7_paid_Jx4a65c_get_915e3
theorem dX7_paid_0 : decode cX7_paid 0 = .ok (.iconst 0, 1) := by decide +kernel
theorem dX7_paid_1 : decode cX7_paid 1 = .ok (.istore_n 1, 1) := by decide +kernel
theorem dX7_paid_2 : decode cX7_paid 2 = .ok (.iconst 0, 1) := by decide +kernel
theorem dX7_paid_3 : decode cX7_paid 3 = .ok (.istore_n 2, 1) := by decide +kernel
theorem dX7_paid_4 : decode cX7_paid 4 = .ok (.iload_n 2, 1) := by decide +kernel
theorem dX7_paid_5 : decode cX7_paid 5 = .ok (.aload_n 0, 1) := by decide +kernel
theorem dX7_paid_6 : decode cX7_paid 6 = .ok (.getfield 18, 3) := by decide +kernel
theorem dX7_paid_9 : decode cX7_paid 9 = .ok (.invokevirtual 26, 3) := by decide +kernel
theorem dX7_paid_12 : decode cX7_paid 12 = .ok (.if_icmp .ge 26, 3) := by decide +kernel
theorem dX7_paid_15 : decode cX7_paid 15 = .ok (.iload_n 1, 1) := by decide +kernel
theorem dX7_paid_16 : decode cX7_paid 16 = .ok (.aload_n 0, 1) := by decide +kernel
theorem dX7_paid_17 : decode cX7_paid 17 = .ok (.getfield 18, 3) := by decide +kernel
theorem dX7_paid_20 : decode cX7_paid 20 = .ok (.iload_n 2, 1) := by decide +kernel
theorem dX7_paid_21 : decode cX7_paid 21 = .ok (.invokevirtual 30, 3) := by decide +kernel
theorem dX7_paid_24 : decode cX7_paid 24 = .ok (.checkcast 44, 3) := by decide +kernel
theorem dX7_paid_27 : decode cX7_paid 27 = .ok (.getfield 97, 3) := by decide +kernel
theorem dX7_paid_30 : decode cX7_paid 30 = .ok (.iadd, 1) := by decide +kernel
theorem dX7_paid_31 : decode cX7_paid 31 = .ok (.istore_n 1, 1) := by decide +kernel
theorem dX7_paid_32 : decode cX7_paid 32 = .ok (.iinc 2 1, 3) := by decide +kernel
theorem dX7_paid_35 : decode cX7_paid 35 = .ok (.goto (-31), 3) := by decide +kernel
theorem dX7_paid_38 : decode cX7_paid 38 = .ok (.iload_n 1, 1) := by decide +kernel
theorem dX7_paid_39 : decode cX7_paid 39 = .ok (.ireturn, 1) := by decide +kernel
set_option maxRecDepth 20000 in
theorem ggX7_isBetter_Jx4a65c_get_915e3 : GoodIn wsX7_isBetter wsJx4a65c_get_915e3 := goodIn_r _ [10, 11, 12, 13, 14, 15, 16, 17, 18, 19, 20, 21, 22, 9, 23, 24, 43, 44, 45] (by decide +kernel) (by decide +kernel)
set_option maxRecDepth 20000 in
theorem gX7_isBetter_Jx4a65c_get_915e3 : GoodIn wsX7_isBetter (wsV RX7 30 RJx4a65c yJx4a65c_get_915e3 wsJx4a65c_get_915e3) := goodIn_app (goodIn_of _ (by decide +kernel)) ggX7_isBetter_Jx4a65c_get_915e3
set_option maxRecDepth 20000 in
theorem ggX7_isBetter_X6_area : GoodIn wsX7_isBetter wsX6_area := goodIn_r _ [29, 30, 31, 46, 47, 48, 49, 50, 51] (by decide +kernel) (by decide +kernel)
set_option maxRecDepth 20000 in
theorem gX7_isBetter_X6_area : GoodIn wsX7_isBetter (wsV RX7 107 RX6 yX6_area wsX6_area) := goodIn_app (goodIn_of _ (by decide +kernel)) ggX7_isBetter_X6_area
theorem dX7_isBetter_0 : decode cX7_isBetter 0 = .ok (.aload_n 0, 1) := by decide +kernel
theorem dX7_isBetter_1 : decode cX7_isBetter 1 = .ok (.getfield 18, 3) := by decide +kernel
theorem dX7_isBetter_4 : decode cX7_isBetter 4 = .ok (.iload_n 2, 1) := by decide +kernel
theorem dX7_isBetter_5 : decode cX7_isBetter 5 = .ok (.invokevirtual 30, 3) := by decide +kernel
theorem dX7_isBetter_8 : decode cX7_isBetter 8 = .ok (.checkcast 44, 3) := by decide +kernel
theorem dX7_isBetter_11 : decode cX7_isBetter 11 = .ok (.getfield 85, 3) := by decide +kernel
theorem dX7_isBetter_14 : decode cX7_isBetter 14 = .ok (.aload_n 0, 1) := by decide +kernel
theorem dX7_isBetter_15 : decode cX7_isBetter 15 = .ok (.getfield 18, 3) := by decide +kernel
theorem dX7_isBetter_18 : decode cX7_isBetter 18 = .ok (.iload 4, 2) := by decide +kernel
theorem dX7_isBetter_20 : decode cX7_isBetter 20 = .ok (.invokevirtual 30, 3) := by decide +kernel
theorem dX7_isBetter_23 : decode cX7_isBetter 23 = .ok (.checkcast 44, 3) := by decide +kernel
theorem dX7_isBetter_26 : decode cX7_isBetter 26 = .ok (.getfield 85, 3) := by decide +kernel
theorem dX7_isBetter_29 : decode cX7_isBetter 29 = .ok (.isub, 1) := by decide +kernel
theorem dX7_isBetter_30 : decode cX7_isBetter 30 = .ok (.istore 5, 2) := by decide +kernel
theorem dX7_isBetter_32 : decode cX7_isBetter 32 = .ok (.iload 5, 2) := by decide +kernel
theorem dX7_isBetter_34 : decode cX7_isBetter 34 = .ok (.ifCond .eq 14, 3) := by decide +kernel
theorem dX7_isBetter_37 : decode cX7_isBetter 37 = .ok (.iload 5, 2) := by decide +kernel
theorem dX7_isBetter_39 : decode cX7_isBetter 39 = .ok (.ifCond .le 7, 3) := by decide +kernel
theorem dX7_isBetter_42 : decode cX7_isBetter 42 = .ok (.iconst 1, 1) := by decide +kernel
theorem dX7_isBetter_43 : decode cX7_isBetter 43 = .ok (.goto 4, 3) := by decide +kernel
theorem dX7_isBetter_46 : decode cX7_isBetter 46 = .ok (.iconst 0, 1) := by decide +kernel
theorem dX7_isBetter_47 : decode cX7_isBetter 47 = .ok (.ireturn, 1) := by decide +kernel
theorem dX7_isBetter_48 : decode cX7_isBetter 48 = .ok (.aload_n 0, 1) := by decide +kernel
theorem dX7_isBetter_49 : decode cX7_isBetter 49 = .ok (.getfield 12, 3) := by decide +kernel
theorem dX7_isBetter_52 : decode cX7_isBetter 52 = .ok (.iload_n 1, 1) := by decide +kernel
theorem dX7_isBetter_53 : decode cX7_isBetter 53 = .ok (.invokevirtual 30, 3) := by decide +kernel
theorem dX7_isBetter_56 : decode cX7_isBetter 56 = .ok (.checkcast 34, 3) := by decide +kernel
theorem dX7_isBetter_59 : decode cX7_isBetter 59 = .ok (.invokevirtual 107, 3) := by decide +kernel
theorem dX7_isBetter_62 : decode cX7_isBetter 62 = .ok (.aload_n 0, 1) := by decide +kernel
theorem dX7_isBetter_63 : decode cX7_isBetter 63 = .ok (.getfield 12, 3) := by decide +kernel
theorem dX7_isBetter_66 : decode cX7_isBetter 66 = .ok (.iload_n 3, 1) := by decide +kernel
theorem dX7_isBetter_67 : decode cX7_isBetter 67 = .ok (.invokevirtual 30, 3) := by decide +kernel
theorem dX7_isBetter_70 : decode cX7_isBetter 70 = .ok (.checkcast 34, 3) := by decide +kernel
theorem dX7_isBetter_73 : decode cX7_isBetter 73 = .ok (.invokevirtual 107, 3) := by decide +kernel
theorem dX7_isBetter_76 : decode cX7_isBetter 76 = .ok (.isub, 1) := by decide +kernel
theorem dX7_isBetter_77 : decode cX7_isBetter 77 = .ok (.istore 6, 2) := by decide +kernel
theorem dX7_isBetter_79 : decode cX7_isBetter 79 = .ok (.iload 6, 2) := by decide +kernel
theorem dX7_isBetter_81 : decode cX7_isBetter 81 = .ok (.ifCond .eq 14, 3) := by decide +kernel
theorem dX7_isBetter_84 : decode cX7_isBetter 84 = .ok (.iload 6, 2) := by decide +kernel
theorem dX7_isBetter_86 : decode cX7_isBetter 86 = .ok (.ifCond .ge 7, 3) := by decide +kernel
theorem dX7_isBetter_89 : decode cX7_isBetter 89 = .ok (.iconst 1, 1) := by decide +kernel
theorem dX7_isBetter_90 : decode cX7_isBetter 90 = .ok (.goto 4, 3) := by decide +kernel
theorem dX7_isBetter_93 : decode cX7_isBetter 93 = .ok (.iconst 0, 1) := by decide +kernel
theorem dX7_isBetter_94 : decode cX7_isBetter 94 = .ok (.ireturn, 1) := by decide +kernel
theorem dX7_isBetter_95 : decode cX7_isBetter 95 = .ok (.iload_n 1, 1) := by decide +kernel
theorem dX7_isBetter_96 : decode cX7_isBetter 96 = .ok (.iload_n 3, 1) := by decide +kernel
theorem dX7_isBetter_97 : decode cX7_isBetter 97 = .ok (.if_icmp .eq 16, 3) := by decide +kernel
theorem dX7_isBetter_100 : decode cX7_isBetter 100 = .ok (.iload_n 1, 1) := by decide +kernel
theorem dX7_isBetter_101 : decode cX7_isBetter 101 = .ok (.iload_n 3, 1) := by decide +kernel
theorem dX7_isBetter_102 : decode cX7_isBetter 102 = .ok (.if_icmp .ge 7, 3) := by decide +kernel
theorem dX7_isBetter_105 : decode cX7_isBetter 105 = .ok (.iconst 1, 1) := by decide +kernel
theorem dX7_isBetter_106 : decode cX7_isBetter 106 = .ok (.goto 18, 3) := by decide +kernel
theorem dX7_isBetter_109 : decode cX7_isBetter 109 = .ok (.iconst 0, 1) := by decide +kernel
theorem dX7_isBetter_110 : decode cX7_isBetter 110 = .ok (.goto 14, 3) := by decide +kernel
theorem dX7_isBetter_113 : decode cX7_isBetter 113 = .ok (.iload_n 2, 1) := by decide +kernel
theorem dX7_isBetter_114 : decode cX7_isBetter 114 = .ok (.iload 4, 2) := by decide +kernel
theorem dX7_isBetter_116 : decode cX7_isBetter 116 = .ok (.if_icmp .ge 7, 3) := by decide +kernel
theorem dX7_isBetter_119 : decode cX7_isBetter 119 = .ok (.iconst 1, 1) := by decide +kernel
theorem dX7_isBetter_120 : decode cX7_isBetter 120 = .ok (.goto 4, 3) := by decide +kernel
theorem dX7_isBetter_123 : decode cX7_isBetter 123 = .ok (.iconst 0, 1) := by decide +kernel
theorem dX7_isBetter_124 : decode cX7_isBetter 124 = .ok (.ireturn, 1) := by decide +kernel
set_option maxRecDepth 20000 in
theorem ggX7_takeNext_Jx4a65c_size_8abf5 : GoodIn wsX7_takeNext wsJx4a65c_size_8abf5 := goodIn_r _ [10, 11, 194, 195, 196] (by decide +kernel) (by decide +kernel)
set_option maxRecDepth 20000 in
theorem gX7_takeNext_Jx4a65c_size_8abf5 : GoodIn wsX7_takeNext (wsV RX7 26 RJx4a65c yJx4a65c_size_8abf5 wsJx4a65c_size_8abf5) := goodIn_app (goodIn_of _ (by decide +kernel)) ggX7_takeNext_Jx4a65c_size_8abf5
set_option maxRecDepth 20000 in
theorem ggX7_takeNext_Jx4a65c_get_915e3 : GoodIn wsX7_takeNext wsJx4a65c_get_915e3 := goodIn_r _ [15, 11, 16, 17, 18, 19, 20, 21, 22, 23, 24, 25, 26, 9, 27, 28, 194, 195, 196] (by decide +kernel) (by decide +kernel)
set_option maxRecDepth 20000 in
theorem gX7_takeNext_Jx4a65c_get_915e3 : GoodIn wsX7_takeNext (wsV RX7 30 RJx4a65c yJx4a65c_get_915e3 wsJx4a65c_get_915e3) := goodIn_app (goodIn_of _ (by decide +kernel)) ggX7_takeNext_Jx4a65c_get_915e3
set_option maxRecDepth 20000 in
theorem ggX7_takeNext_X5_fits : GoodIn wsX7_takeNext wsX5_fits := goodIn_r _ [33, 34, 35, 36, 37, 38, 39, 40, 41, 42, 43, 44, 45, 46, 32, 47, 48, 49, 50, 51, 52, 53, 54, 55, 56, 57, 58, 59, 60, 61, 62, 63, 64, 65, 66, 67, 68, 69, 7, 8, 9, 10, 11, 70, 13, 14, 15, 16, 17, 18, 19, 20, 21, 22, 23, 24, 25, 26, 27, 28, 197, 198, 199, 200, 201, 202, 186, 187, 188, 189, 190, 191, 192, 193, 194, 195, 196] (by decide +kernel) (by decide +kernel)
set_option maxRecDepth 20000 in
theorem gX7_takeNext_X5_fits : GoodIn wsX7_takeNext (wsV RX7 69 RX5 yX5_fits wsX5_fits) := goodIn_app (goodIn_of _ (by decide +kernel)) ggX7_takeNext_X5_fits
set_option maxRecDepth 20000 in
theorem ggX7_takeNext_X7_isBetter : GoodIn wsX7_takeNext wsX7_isBetter := goodIn_r _ [75, 2, 3, 76, 1, 5, 12, 13, 14, 9, 15, 11, 16, 17, 18, 19, 20, 21, 22, 23, 24, 25, 26, 27, 28, 77, 78, 79, 41, 80, 81, 82, 183, 184, 185, 186, 187, 188, 189, 190, 191, 192, 193, 194, 195, 196, 197, 198, 199, 200, 201, 202] (by decide +kernel) (by decide +kernel)
set_option maxRecDepth 20000 in
theorem gX7_takeNext_X7_isBetter : GoodIn wsX7_takeNext (wsV RX7 122 RX7 yX7_isBetter wsX7_isBetter) := goodIn_app (goodIn_of _ (by decide +kernel)) ggX7_takeNext_X7_isBetter
set_option maxRecDepth 20000 in
theorem ggX7_takeNext_X7_take : GoodIn wsX7_takeNext wsX7_take := goodIn_r _ [86, 2, 3, 1, 5, 87, 88, 89, 90, 4, 76, 91, 92, 93, 94, 95, 96, 97, 98, 99, 12, 13, 14, 9, 15, 11, 16, 17, 18, 19, 20, 21, 22, 23, 24, 25, 26, 27, 28, 29, 30, 31, 32, 33, 34, 35, 36, 37, 38, 39, 40, 41, 42, 43, 44, 45, 46, 47, 48, 49, 50, 51, 52, 53, 54, 55, 56, 57, 58, 59, 60, 61, 62, 63, 64, 65, 66, 67, 68, 69, 7, 8, 10, 70, 100, 101, 102, 103, 74, 104, 105, 106, 107, 108, 109, 110, 111, 112, 113, 114, 115, 116, 117, 118, 81, 82, 119, 120, 121, 122, 123, 124, 125, 126, 127, 128, 129, 130, 131, 132, 133, 134, 6, 135, 136, 137, 138, 139, 140, 141, 142, 143, 144, 145, 146, 147, 148, 149, 150, 151, 152, 153, 154, 155, 156, 157, 158, 159, 160, 161, 162, 163, 164, 165, 166, 167, 168, 169, 170, 171, 172, 173, 174, 175, 176, 177, 178, 179, 180, 181, 182, 183, 184, 185, 197, 198, 199, 200, 201, 202, 186, 187, 188, 189, 190, 191, 192, 193, 194, 195, 196] (by decide +kernel) (by decide +kernel)
set_option maxRecDepth 20000 in
theorem gX7_takeNext_X7_take : GoodIn wsX7_takeNext (wsV RX7 126 RX7 yX7_take wsX7_take) := goodIn_app (goodIn_of _ (by decide +kernel)) ggX7_takeNext_X7_take
theorem dX7_takeNext_0 : decode cX7_takeNext 0 = .ok (.iconst (-1), 1) := by decide +kernel
theorem dX7_takeNext_1 : decode cX7_takeNext 1 = .ok (.istore_n 1, 1) := by decide +kernel
theorem dX7_takeNext_2 : decode cX7_takeNext 2 = .ok (.iconst (-1), 1) := by decide +kernel
theorem dX7_takeNext_3 : decode cX7_takeNext 3 = .ok (.istore_n 2, 1) := by decide +kernel
theorem dX7_takeNext_4 : decode cX7_takeNext 4 = .ok (.iconst 0, 1) := by decide +kernel
theorem dX7_takeNext_5 : decode cX7_takeNext 5 = .ok (.istore_n 3, 1) := by decide +kernel
theorem dX7_takeNext_6 : decode cX7_takeNext 6 = .ok (.iload_n 3, 1) := by decide +kernel
theorem dX7_takeNext_7 : decode cX7_takeNext 7 = .ok (.aload_n 0, 1) := by decide +kernel
theorem dX7_takeNext_8 : decode cX7_takeNext 8 = .ok (.getfield 12, 3) := by decide +kernel
theorem dX7_takeNext_11 : decode cX7_takeNext 11 = .ok (.invokevirtual 26, 3) := by decide +kernel
theorem dX7_takeNext_14 : decode cX7_takeNext 14 = .ok (.if_icmp .ge 103, 3) := by decide +kernel
theorem dX7_takeNext_17 : decode cX7_takeNext 17 = .ok (.iconst 0, 1) := by decide +kernel
theorem dX7_takeNext_18 : decode cX7_takeNext 18 = .ok (.istore 4, 2) := by decide +kernel
theorem dX7_takeNext_20 : decode cX7_takeNext 20 = .ok (.iload 4, 2) := by decide +kernel
theorem dX7_takeNext_22 : decode cX7_takeNext 22 = .ok (.aload_n 0, 1) := by decide +kernel
theorem dX7_takeNext_23 : decode cX7_takeNext 23 = .ok (.getfield 18, 3) := by decide +kernel
theorem dX7_takeNext_26 : decode cX7_takeNext 26 = .ok (.invokevirtual 26, 3) := by decide +kernel
theorem dX7_takeNext_29 : decode cX7_takeNext 29 = .ok (.if_icmp .ge 82, 3) := by decide +kernel
theorem dX7_takeNext_32 : decode cX7_takeNext 32 = .ok (.aload_n 0, 1) := by decide +kernel
theorem dX7_takeNext_33 : decode cX7_takeNext 33 = .ok (.getfield 18, 3) := by decide +kernel
theorem dX7_takeNext_36 : decode cX7_takeNext 36 = .ok (.iload 4, 2) := by decide +kernel
theorem dX7_takeNext_38 : decode cX7_takeNext 38 = .ok (.invokevirtual 30, 3) := by decide +kernel
theorem dX7_takeNext_41 : decode cX7_takeNext 41 = .ok (.checkcast 44, 3) := by decide +kernel
theorem dX7_takeNext_44 : decode cX7_takeNext 44 = .ok (.getfield 82, 3) := by decide +kernel
theorem dX7_takeNext_47 : decode cX7_takeNext 47 = .ok (.ifCond .eq 58, 3) := by decide +kernel
theorem dX7_takeNext_50 : decode cX7_takeNext 50 = .ok (.aload_n 0, 1) := by decide +kernel
theorem dX7_takeNext_51 : decode cX7_takeNext 51 = .ok (.getfield 18, 3) := by decide +kernel
theorem dX7_takeNext_54 : decode cX7_takeNext 54 = .ok (.iload 4, 2) := by decide +kernel
theorem dX7_takeNext_56 : decode cX7_takeNext 56 = .ok (.invokevirtual 30, 3) := by decide +kernel
theorem dX7_takeNext_59 : decode cX7_takeNext 59 = .ok (.checkcast 44, 3) := by decide +kernel
theorem dX7_takeNext_62 : decode cX7_takeNext 62 = .ok (.aload_n 0, 1) := by decide +kernel
theorem dX7_takeNext_63 : decode cX7_takeNext 63 = .ok (.getfield 12, 3) := by decide +kernel
theorem dX7_takeNext_66 : decode cX7_takeNext 66 = .ok (.iload_n 3, 1) := by decide +kernel
theorem dX7_takeNext_67 : decode cX7_takeNext 67 = .ok (.invokevirtual 30, 3) := by decide +kernel
theorem dX7_takeNext_70 : decode cX7_takeNext 70 = .ok (.checkcast 34, 3) := by decide +kernel
theorem dX7_takeNext_73 : decode cX7_takeNext 73 = .ok (.invokevirtual 69, 3) := by decide +kernel
theorem dX7_takeNext_76 : decode cX7_takeNext 76 = .ok (.iconst (-1), 1) := by decide +kernel
theorem dX7_takeNext_77 : decode cX7_takeNext 77 = .ok (.if_icmp .eq 28, 3) := by decide +kernel
theorem dX7_takeNext_80 : decode cX7_takeNext 80 = .ok (.iload_n 1, 1) := by decide +kernel
theorem dX7_takeNext_81 : decode cX7_takeNext 81 = .ok (.iconst (-1), 1) := by decide +kernel
theorem dX7_takeNext_82 : decode cX7_takeNext 82 = .ok (.if_icmp .eq 18, 3) := by decide +kernel
theorem dX7_takeNext_85 : decode cX7_takeNext 85 = .ok (.aload_n 0, 1) := by decide +kernel
theorem dX7_takeNext_86 : decode cX7_takeNext 86 = .ok (.iload_n 3, 1) := by decide +kernel
theorem dX7_takeNext_87 : decode cX7_takeNext 87 = .ok (.iload 4, 2) := by decide +kernel
theorem dX7_takeNext_89 : decode cX7_takeNext 89 = .ok (.iload_n 1, 1) := by decide +kernel
theorem dX7_takeNext_90 : decode cX7_takeNext 90 = .ok (.iload_n 2, 1) := by decide +kernel
theorem dX7_takeNext_91 : decode cX7_takeNext 91 = .ok (.invokevirtual 122, 3) := by decide +kernel
theorem dX7_takeNext_94 : decode cX7_takeNext 94 = .ok (.ifCond .ne 6, 3) := by decide +kernel
theorem dX7_takeNext_97 : decode cX7_takeNext 97 = .ok (.goto 8, 3) := by decide +kernel
theorem dX7_takeNext_100 : decode cX7_takeNext 100 = .ok (.iload_n 3, 1) := by decide +kernel
theorem dX7_takeNext_101 : decode cX7_takeNext 101 = .ok (.istore_n 1, 1) := by decide +kernel
theorem dX7_takeNext_102 : decode cX7_takeNext 102 = .ok (.iload 4, 2) := by decide +kernel
theorem dX7_takeNext_104 : decode cX7_takeNext 104 = .ok (.istore_n 2, 1) := by decide +kernel
theorem dX7_takeNext_105 : decode cX7_takeNext 105 = .ok (.iinc 4 1, 3) := by decide +kernel
theorem dX7_takeNext_108 : decode cX7_takeNext 108 = .ok (.goto (-88), 3) := by decide +kernel
theorem dX7_takeNext_111 : decode cX7_takeNext 111 = .ok (.iinc 3 1, 3) := by decide +kernel
theorem dX7_takeNext_114 : decode cX7_takeNext 114 = .ok (.goto (-108), 3) := by decide +kernel
theorem dX7_takeNext_117 : decode cX7_takeNext 117 = .ok (.iload_n 1, 1) := by decide +kernel
theorem dX7_takeNext_118 : decode cX7_takeNext 118 = .ok (.iconst (-1), 1) := by decide +kernel
theorem dX7_takeNext_119 : decode cX7_takeNext 119 = .ok (.if_icmp .eq 15, 3) := by decide +kernel
theorem dX7_takeNext_122 : decode cX7_takeNext 122 = .ok (.aload_n 0, 1) := by decide +kernel
theorem dX7_takeNext_123 : decode cX7_takeNext 123 = .ok (.getfield 12, 3) := by decide +kernel
theorem dX7_takeNext_126 : decode cX7_takeNext 126 = .ok (.invokevirtual 26, 3) := by decide +kernel
theorem dX7_takeNext_129 : decode cX7_takeNext 129 = .ok (.bipush 36, 2) := by decide +kernel
theorem dX7_takeNext_131 : decode cX7_takeNext 131 = .ok (.if_icmp .le 5, 3) := by decide +kernel
theorem dX7_takeNext_134 : decode cX7_takeNext 134 = .ok (.iconst 0, 1) := by decide +kernel
theorem dX7_takeNext_135 : decode cX7_takeNext 135 = .ok (.ireturn, 1) := by decide +kernel
theorem dX7_takeNext_136 : decode cX7_takeNext 136 = .ok (.aload_n 0, 1) := by decide +kernel
theorem dX7_takeNext_137 : decode cX7_takeNext 137 = .ok (.iload_n 1, 1) := by decide +kernel
theorem dX7_takeNext_138 : decode cX7_takeNext 138 = .ok (.iload_n 2, 1) := by decide +kernel
theorem dX7_takeNext_139 : decode cX7_takeNext 139 = .ok (.invokevirtual 126, 3) := by decide +kernel
theorem dX7_takeNext_142 : decode cX7_takeNext 142 = .ok (.pop, 1) := by decide +kernel
theorem dX7_takeNext_143 : decode cX7_takeNext 143 = .ok (.iconst 1, 1) := by decide +kernel
theorem dX7_takeNext_144 : decode cX7_takeNext 144 = .ok (.ireturn, 1) := by decide +kernel
set_option maxRecDepth 20000 in
theorem ggX7_plan_X7_takeNext : GoodIn wsX7_plan wsX7_takeNext := goodIn_r _ [5, 6, 7, 8, 9, 10, 11, 12, 13, 14, 15, 16, 17, 18, 19, 20, 21, 22, 23, 24, 25, 26, 27, 28, 29, 30, 31, 32, 33, 34, 35, 36, 37, 38, 39, 40, 41, 42, 43, 44, 45, 46, 47, 48, 49, 50, 51, 52, 53, 54, 55, 56, 57, 58, 59, 60, 61, 62, 63, 64, 65, 66, 67, 68, 69, 70, 71, 72, 73, 74, 75, 76, 77, 78, 4, 79, 80, 81, 82, 83, 84, 85, 86, 87, 88, 89, 90, 91, 92, 93, 94, 95, 96, 97, 98, 99, 100, 101, 102, 103, 104, 105, 106, 107, 108, 109, 110, 111, 112, 113, 114, 115, 116, 117, 118, 119, 120, 121, 122, 123, 124, 125, 126, 127, 128, 129, 130, 131, 132, 133, 134, 135, 136, 137, 138, 139, 140, 141, 142, 143, 144, 145, 146, 147, 148, 149, 150, 151, 152, 153, 154, 155, 156, 157, 158, 159, 160, 161, 162, 163, 164, 165, 166, 167, 168, 169, 170, 171, 172, 173, 174, 175, 176, 177, 178, 179, 180, 181, 182, 183, 184, 185, 186, 187, 188, 189, 190, 191, 192, 193, 194, 195, 196, 197, 198, 199, 200, 201, 202, 203, 204, 205, 206] (by decide +kernel) (by decide +kernel)
set_option maxRecDepth 20000 in
theorem gX7_plan_X7_takeNext : GoodIn wsX7_plan (wsV RX7 129 RX7 yX7_takeNext wsX7_takeNext) := goodIn_app (goodIn_of _ (by decide +kernel)) ggX7_plan_X7_takeNext
theorem dX7_plan_0 : decode cX7_plan 0 = .ok (.iconst 0, 1) := by decide +kernel
theorem dX7_plan_1 : decode cX7_plan 1 = .ok (.istore_n 2, 1) := by decide +kernel
theorem dX7_plan_2 : decode cX7_plan 2 = .ok (.iload_n 2, 1) := by decide +kernel
theorem dX7_plan_3 : decode cX7_plan 3 = .ok (.iload_n 1, 1) := by decide +kernel
theorem dX7_plan_4 : decode cX7_plan 4 = .ok (.if_icmp .ge 16, 3) := by decide +kernel
theorem dX7_plan_7 : decode cX7_plan 7 = .ok (.aload_n 0, 1) := by decide +kernel
theorem dX7_plan_8 : decode cX7_plan 8 = .ok (.invokevirtual 129, 3) := by decide +kernel
theorem dX7_plan_11 : decode cX7_plan 11 = .ok (.ifCond .eq 9, 3) := by decide +kernel
theorem dX7_plan_14 : decode cX7_plan 14 = .ok (.iinc 2 1, 3) := by decide +kernel
theorem dX7_plan_17 : decode cX7_plan 17 = .ok (.goto (-15), 3) := by decide +kernel
theorem dX7_plan_20 : decode cX7_plan 20 = .ok (.iload_n 2, 1) := by decide +kernel
theorem dX7_plan_21 : decode cX7_plan 21 = .ok (.ireturn, 1) := by decide +kernel
set_option maxRecDepth 20000 in
theorem ggX7_single_Jx4a65c_size_8abf5 : GoodIn wsX7_single wsJx4a65c_size_8abf5 := goodIn_r _ [12, 13, 66, 67, 68] (by decide +kernel) (by decide +kernel)
set_option maxRecDepth 20000 in
theorem gX7_single_Jx4a65c_size_8abf5 : GoodIn wsX7_single (wsV RX7 26 RJx4a65c yJx4a65c_size_8abf5 wsJx4a65c_size_8abf5) := goodIn_app (goodIn_of _ (by decide +kernel)) ggX7_single_Jx4a65c_size_8abf5
set_option maxRecDepth 20000 in
theorem ggX7_single_Jx4a65c_get_915e3 : GoodIn wsX7_single wsJx4a65c_get_915e3 := goodIn_r _ [17, 13, 18, 19, 20, 21, 22, 23, 24, 25, 26, 27, 28, 11, 29, 30, 66, 67, 68] (by decide +kernel) (by decide +kernel)
set_option maxRecDepth 20000 in
theorem gX7_single_Jx4a65c_get_915e3 : GoodIn wsX7_single (wsV RX7 30 RJx4a65c yJx4a65c_get_915e3 wsJx4a65c_get_915e3) := goodIn_app (goodIn_of _ (by decide +kernel)) ggX7_single_Jx4a65c_get_915e3
set_option maxRecDepth 20000 in
theorem ggX7_single_X5_lies_ : GoodIn wsX7_single wsX5_lies_ := goodIn_r _ [35, 36, 37, 38, 34, 39, 40, 41, 42, 43, 44, 45, 46, 47, 48, 49, 50, 51, 52, 53, 54, 58, 59, 60, 61, 62, 63, 64, 65] (by decide +kernel) (by decide +kernel)
set_option maxRecDepth 20000 in
theorem gX7_single_X5_lies_ : GoodIn wsX7_single (wsV RX7 132 RX5 yX5_lies_ wsX5_lies_) := goodIn_app (goodIn_of _ (by decide +kernel)) ggX7_single_X5_lies_
theorem dX7_single_0 : decode cX7_single 0 = .ok (.iconst 0, 1) := by decide +kernel
theorem dX7_single_1 : decode cX7_single 1 = .ok (.istore 4, 2) := by decide +kernel
theorem dX7_single_3 : decode cX7_single 3 = .ok (.iconst 0, 1) := by decide +kernel
theorem dX7_single_4 : decode cX7_single 4 = .ok (.istore 5, 2) := by decide +kernel
theorem dX7_single_6 : decode cX7_single 6 = .ok (.iload 5, 2) := by decide +kernel
theorem dX7_single_8 : decode cX7_single 8 = .ok (.aload_n 0, 1) := by decide +kernel
theorem dX7_single_9 : decode cX7_single 9 = .ok (.getfield 18, 3) := by decide +kernel
theorem dX7_single_12 : decode cX7_single 12 = .ok (.invokevirtual 26, 3) := by decide +kernel
theorem dX7_single_15 : decode cX7_single 15 = .ok (.if_icmp .ge 52, 3) := by decide +kernel
theorem dX7_single_18 : decode cX7_single 18 = .ok (.aload_n 0, 1) := by decide +kernel
theorem dX7_single_19 : decode cX7_single 19 = .ok (.getfield 18, 3) := by decide +kernel
theorem dX7_single_22 : decode cX7_single 22 = .ok (.iload 5, 2) := by decide +kernel
theorem dX7_single_24 : decode cX7_single 24 = .ok (.invokevirtual 30, 3) := by decide +kernel
theorem dX7_single_27 : decode cX7_single 27 = .ok (.checkcast 44, 3) := by decide +kernel
theorem dX7_single_30 : decode cX7_single 30 = .ok (.iload_n 1, 1) := by decide +kernel
theorem dX7_single_31 : decode cX7_single 31 = .ok (.iload_n 2, 1) := by decide +kernel
theorem dX7_single_32 : decode cX7_single 32 = .ok (.iload_n 3, 1) := by decide +kernel
theorem dX7_single_33 : decode cX7_single 33 = .ok (.invokevirtual 132, 3) := by decide +kernel
theorem dX7_single_36 : decode cX7_single 36 = .ok (.ifCond .eq 25, 3) := by decide +kernel
theorem dX7_single_39 : decode cX7_single 39 = .ok (.iload 4, 2) := by decide +kernel
theorem dX7_single_41 : decode cX7_single 41 = .ok (.aload_n 0, 1) := by decide +kernel
theorem dX7_single_42 : decode cX7_single 42 = .ok (.getfield 18, 3) := by decide +kernel
theorem dX7_single_45 : decode cX7_single 45 = .ok (.iload 5, 2) := by decide +kernel
theorem dX7_single_47 : decode cX7_single 47 = .ok (.invokevirtual 30, 3) := by decide +kernel
theorem dX7_single_50 : decode cX7_single 50 = .ok (.checkcast 44, 3) := by decide +kernel
theorem dX7_single_53 : decode cX7_single 53 = .ok (.getfield 85, 3) := by decide +kernel
theorem dX7_single_56 : decode cX7_single 56 = .ok (.invokestatic 88, 3) := by decide +kernel
theorem dX7_single_59 : decode cX7_single 59 = .ok (.istore 4, 2) := by decide +kernel
theorem dX7_single_61 : decode cX7_single 61 = .ok (.iinc 5 1, 3) := by decide +kernel
theorem dX7_single_64 : decode cX7_single 64 = .ok (.goto (-58), 3) := by decide +kernel
theorem dX7_single_67 : decode cX7_single 67 = .ok (.iload 4, 2) := by decide +kernel
theorem dX7_single_69 : decode cX7_single 69 = .ok (.ireturn, 1) := by decide +kernel
set_option maxRecDepth 20000 in
theorem ggX7_worths_X7_single : GoodIn wsX7_worths wsX7_single := goodIn_r _ [12, 13, 14, 15, 4, 5, 6, 7, 16, 17, 18, 19, 20, 21, 22, 23, 24, 25, 26, 27, 28, 29, 30, 31, 32, 33, 34, 35, 36, 37, 38, 39, 40, 41, 42, 43, 44, 45, 46, 47, 48, 49, 50, 51, 52, 53, 54, 55, 56, 57, 58, 59, 60, 61, 62, 63, 64, 65, 66, 67, 68, 69, 70, 71, 72, 73, 74, 75, 76] (by decide +kernel) (by decide +kernel)
set_option maxRecDepth 20000 in
theorem gX7_worths_X7_single : GoodIn wsX7_worths (wsV RX7 138 RX7 yX7_single wsX7_single) := goodIn_app (goodIn_of _ (by decide +kernel)) ggX7_worths_X7_single
theorem dX7_worths_0 : decode cX7_worths 0 = .ok (.bipush 25, 2) := by decide +kernel
theorem dX7_worths_2 : decode cX7_worths 2 = .ok (.bipush 25, 2) := by decide +kernel
theorem dX7_worths_4 : decode cX7_worths 4 = .ok (.multianewarray 136 2, 4) := by decide +kernel
theorem dX7_worths_8 : decode cX7_worths 8 = .ok (.astore_n 2, 1) := by decide +kernel
theorem dX7_worths_9 : decode cX7_worths 9 = .ok (.iconst 1, 1) := by decide +kernel
theorem dX7_worths_10 : decode cX7_worths 10 = .ok (.istore_n 3, 1) := by decide +kernel
theorem dX7_worths_11 : decode cX7_worths 11 = .ok (.iload_n 3, 1) := by decide +kernel
theorem dX7_worths_12 : decode cX7_worths 12 = .ok (.bipush 24, 2) := by decide +kernel
theorem dX7_worths_14 : decode cX7_worths 14 = .ok (.if_icmp .gt 141, 3) := by decide +kernel
theorem dX7_worths_17 : decode cX7_worths 17 = .ok (.iconst 1, 1) := by decide +kernel
theorem dX7_worths_18 : decode cX7_worths 18 = .ok (.istore 4, 2) := by decide +kernel
theorem dX7_worths_20 : decode cX7_worths 20 = .ok (.iload 4, 2) := by decide +kernel
theorem dX7_worths_22 : decode cX7_worths 22 = .ok (.bipush 24, 2) := by decide +kernel
theorem dX7_worths_24 : decode cX7_worths 24 = .ok (.if_icmp .gt 125, 3) := by decide +kernel
theorem dX7_worths_27 : decode cX7_worths 27 = .ok (.aload_n 0, 1) := by decide +kernel
theorem dX7_worths_28 : decode cX7_worths 28 = .ok (.iload_n 3, 1) := by decide +kernel
theorem dX7_worths_29 : decode cX7_worths 29 = .ok (.iload 4, 2) := by decide +kernel
theorem dX7_worths_31 : decode cX7_worths 31 = .ok (.iload_n 1, 1) := by decide +kernel
theorem dX7_worths_32 : decode cX7_worths 32 = .ok (.invokevirtual 138, 3) := by decide +kernel
theorem dX7_worths_35 : decode cX7_worths 35 = .ok (.istore 5, 2) := by decide +kernel
theorem dX7_worths_37 : decode cX7_worths 37 = .ok (.iconst 1, 1) := by decide +kernel
theorem dX7_worths_38 : decode cX7_worths 38 = .ok (.istore 6, 2) := by decide +kernel
theorem dX7_worths_40 : decode cX7_worths 40 = .ok (.iload 6, 2) := by decide +kernel
theorem dX7_worths_42 : decode cX7_worths 42 = .ok (.aload_n 0, 1) := by decide +kernel
theorem dX7_worths_43 : decode cX7_worths 43 = .ok (.getfield 21, 3) := by decide +kernel
theorem dX7_worths_46 : decode cX7_worths 46 = .ok (.iadd, 1) := by decide +kernel
theorem dX7_worths_47 : decode cX7_worths 47 = .ok (.iload_n 3, 1) := by decide +kernel
theorem dX7_worths_48 : decode cX7_worths 48 = .ok (.if_icmp .ge 38, 3) := by decide +kernel
theorem dX7_worths_51 : decode cX7_worths 51 = .ok (.iload 5, 2) := by decide +kernel
theorem dX7_worths_53 : decode cX7_worths 53 = .ok (.aload_n 2, 1) := by decide +kernel
theorem dX7_worths_54 : decode cX7_worths 54 = .ok (.iload 6, 2) := by decide +kernel
theorem dX7_worths_56 : decode cX7_worths 56 = .ok (.aaload, 1) := by decide +kernel
theorem dX7_worths_57 : decode cX7_worths 57 = .ok (.iload 4, 2) := by decide +kernel
theorem dX7_worths_59 : decode cX7_worths 59 = .ok (.iaload, 1) := by decide +kernel
theorem dX7_worths_60 : decode cX7_worths 60 = .ok (.aload_n 2, 1) := by decide +kernel
theorem dX7_worths_61 : decode cX7_worths 61 = .ok (.iload_n 3, 1) := by decide +kernel
theorem dX7_worths_62 : decode cX7_worths 62 = .ok (.iload 6, 2) := by decide +kernel
theorem dX7_worths_64 : decode cX7_worths 64 = .ok (.isub, 1) := by decide +kernel
theorem dX7_worths_65 : decode cX7_worths 65 = .ok (.aload_n 0, 1) := by decide +kernel
theorem dX7_worths_66 : decode cX7_worths 66 = .ok (.getfield 21, 3) := by decide +kernel
theorem dX7_worths_69 : decode cX7_worths 69 = .ok (.isub, 1) := by decide +kernel
theorem dX7_worths_70 : decode cX7_worths 70 = .ok (.aaload, 1) := by decide +kernel
theorem dX7_worths_71 : decode cX7_worths 71 = .ok (.iload 4, 2) := by decide +kernel
theorem dX7_worths_73 : decode cX7_worths 73 = .ok (.iaload, 1) := by decide +kernel
theorem dX7_worths_74 : decode cX7_worths 74 = .ok (.iadd, 1) := by decide +kernel
theorem dX7_worths_75 : decode cX7_worths 75 = .ok (.invokestatic 88, 3) := by decide +kernel
theorem dX7_worths_78 : decode cX7_worths 78 = .ok (.istore 5, 2) := by decide +kernel
theorem dX7_worths_80 : decode cX7_worths 80 = .ok (.iinc 6 1, 3) := by decide +kernel
theorem dX7_worths_83 : decode cX7_worths 83 = .ok (.goto (-43), 3) := by decide +kernel
theorem dX7_worths_86 : decode cX7_worths 86 = .ok (.iconst 1, 1) := by decide +kernel
theorem dX7_worths_87 : decode cX7_worths 87 = .ok (.istore 6, 2) := by decide +kernel
theorem dX7_worths_89 : decode cX7_worths 89 = .ok (.iload 6, 2) := by decide +kernel
theorem dX7_worths_91 : decode cX7_worths 91 = .ok (.aload_n 0, 1) := by decide +kernel
theorem dX7_worths_92 : decode cX7_worths 92 = .ok (.getfield 21, 3) := by decide +kernel
theorem dX7_worths_95 : decode cX7_worths 95 = .ok (.iadd, 1) := by decide +kernel
theorem dX7_worths_96 : decode cX7_worths 96 = .ok (.iload 4, 2) := by decide +kernel
theorem dX7_worths_98 : decode cX7_worths 98 = .ok (.if_icmp .ge 37, 3) := by decide +kernel
theorem dX7_worths_101 : decode cX7_worths 101 = .ok (.iload 5, 2) := by decide +kernel
theorem dX7_worths_103 : decode cX7_worths 103 = .ok (.aload_n 2, 1) := by decide +kernel
theorem dX7_worths_104 : decode cX7_worths 104 = .ok (.iload_n 3, 1) := by decide +kernel
theorem dX7_worths_105 : decode cX7_worths 105 = .ok (.aaload, 1) := by decide +kernel
theorem dX7_worths_106 : decode cX7_worths 106 = .ok (.iload 6, 2) := by decide +kernel
theorem dX7_worths_108 : decode cX7_worths 108 = .ok (.iaload, 1) := by decide +kernel
theorem dX7_worths_109 : decode cX7_worths 109 = .ok (.aload_n 2, 1) := by decide +kernel
theorem dX7_worths_110 : decode cX7_worths 110 = .ok (.iload_n 3, 1) := by decide +kernel
theorem dX7_worths_111 : decode cX7_worths 111 = .ok (.aaload, 1) := by decide +kernel
theorem dX7_worths_112 : decode cX7_worths 112 = .ok (.iload 4, 2) := by decide +kernel
theorem dX7_worths_114 : decode cX7_worths 114 = .ok (.iload 6, 2) := by decide +kernel
theorem dX7_worths_116 : decode cX7_worths 116 = .ok (.isub, 1) := by decide +kernel
theorem dX7_worths_117 : decode cX7_worths 117 = .ok (.aload_n 0, 1) := by decide +kernel
theorem dX7_worths_118 : decode cX7_worths 118 = .ok (.getfield 21, 3) := by decide +kernel
theorem dX7_worths_121 : decode cX7_worths 121 = .ok (.isub, 1) := by decide +kernel
theorem dX7_worths_122 : decode cX7_worths 122 = .ok (.iaload, 1) := by decide +kernel
theorem dX7_worths_123 : decode cX7_worths 123 = .ok (.iadd, 1) := by decide +kernel
theorem dX7_worths_124 : decode cX7_worths 124 = .ok (.invokestatic 88, 3) := by decide +kernel
theorem dX7_worths_127 : decode cX7_worths 127 = .ok (.istore 5, 2) := by decide +kernel
theorem dX7_worths_129 : decode cX7_worths 129 = .ok (.iinc 6 1, 3) := by decide +kernel
theorem dX7_worths_132 : decode cX7_worths 132 = .ok (.goto (-43), 3) := by decide +kernel
theorem dX7_worths_135 : decode cX7_worths 135 = .ok (.aload_n 2, 1) := by decide +kernel
theorem dX7_worths_136 : decode cX7_worths 136 = .ok (.iload_n 3, 1) := by decide +kernel
theorem dX7_worths_137 : decode cX7_worths 137 = .ok (.aaload, 1) := by decide +kernel
theorem dX7_worths_138 : decode cX7_worths 138 = .ok (.iload 4, 2) := by decide +kernel
theorem dX7_worths_140 : decode cX7_worths 140 = .ok (.iload 5, 2) := by decide +kernel
theorem dX7_worths_142 : decode cX7_worths 142 = .ok (.iastore, 1) := by decide +kernel
theorem dX7_worths_143 : decode cX7_worths 143 = .ok (.iinc 4 1, 3) := by decide +kernel
theorem dX7_worths_146 : decode cX7_worths 146 = .ok (.goto (-126), 3) := by decide +kernel
theorem dX7_worths_149 : decode cX7_worths 149 = .ok (.iinc 3 1, 3) := by decide +kernel
theorem dX7_worths_152 : decode cX7_worths 152 = .ok (.goto (-141), 3) := by decide +kernel
theorem dX7_worths_155 : decode cX7_worths 155 = .ok (.aload_n 2, 1) := by decide +kernel
theorem dX7_worths_156 : decode cX7_worths 156 = .ok (.areturn, 1) := by decide +kernel
set_option maxRecDepth 20000 in
theorem ggX7_bestCut_X7_hasPrice : GoodIn wsX7_bestCut wsX7_hasPrice := goodIn_r _ [6, 7, 8, 9, 10, 11, 12, 13, 14, 15, 16, 17, 18, 19, 20, 21, 22, 23, 24, 25, 26, 27, 28, 29, 30, 31, 32, 33, 34, 35, 36, 37, 38, 39, 40, 41, 42, 43, 44, 45, 46, 47, 48, 49, 50, 51, 52, 53, 54, 55, 56, 57, 58, 59, 60, 61, 62, 63, 64, 65, 66, 67, 68, 69, 70] (by decide +kernel) (by decide +kernel)
set_option maxRecDepth 20000 in
theorem gX7_bestCut_X7_hasPrice : GoodIn wsX7_bestCut (wsV RX7 142 RX7 yX7_hasPrice wsX7_hasPrice) := goodIn_app (goodIn_of _ (by decide +kernel)) ggX7_bestCut_X7_hasPrice
theorem dX7_bestCut_0 : decode cX7_bestCut 0 = .ok (.aload_n 1, 1) := by decide +kernel
theorem dX7_bestCut_1 : decode cX7_bestCut 1 = .ok (.iload_n 2, 1) := by decide +kernel
theorem dX7_bestCut_2 : decode cX7_bestCut 2 = .ok (.aaload, 1) := by decide +kernel
theorem dX7_bestCut_3 : decode cX7_bestCut 3 = .ok (.iload_n 3, 1) := by decide +kernel
theorem dX7_bestCut_4 : decode cX7_bestCut 4 = .ok (.iaload, 1) := by decide +kernel
theorem dX7_bestCut_5 : decode cX7_bestCut 5 = .ok (.istore 5, 2) := by decide +kernel
theorem dX7_bestCut_7 : decode cX7_bestCut 7 = .ok (.iload 5, 2) := by decide +kernel
theorem dX7_bestCut_9 : decode cX7_bestCut 9 = .ok (.ifCond .eq 17, 3) := by decide +kernel
theorem dX7_bestCut_12 : decode cX7_bestCut 12 = .ok (.aload_n 0, 1) := by decide +kernel
theorem dX7_bestCut_13 : decode cX7_bestCut 13 = .ok (.iload_n 2, 1) := by decide +kernel
theorem dX7_bestCut_14 : decode cX7_bestCut 14 = .ok (.iload_n 3, 1) := by decide +kernel
theorem dX7_bestCut_15 : decode cX7_bestCut 15 = .ok (.iload 4, 2) := by decide +kernel
theorem dX7_bestCut_17 : decode cX7_bestCut 17 = .ok (.iload 5, 2) := by decide +kernel
theorem dX7_bestCut_19 : decode cX7_bestCut 19 = .ok (.invokevirtual 142, 3) := by decide +kernel
theorem dX7_bestCut_22 : decode cX7_bestCut 22 = .ok (.iconst (-1), 1) := by decide +kernel
theorem dX7_bestCut_23 : decode cX7_bestCut 23 = .ok (.if_icmp .eq 5, 3) := by decide +kernel
theorem dX7_bestCut_26 : decode cX7_bestCut 26 = .ok (.iconst (-1), 1) := by decide +kernel
theorem dX7_bestCut_27 : decode cX7_bestCut 27 = .ok (.ireturn, 1) := by decide +kernel
theorem dX7_bestCut_28 : decode cX7_bestCut 28 = .ok (.iconst 1, 1) := by decide +kernel
theorem dX7_bestCut_29 : decode cX7_bestCut 29 = .ok (.istore 6, 2) := by decide +kernel
theorem dX7_bestCut_31 : decode cX7_bestCut 31 = .ok (.iload 6, 2) := by decide +kernel
theorem dX7_bestCut_33 : decode cX7_bestCut 33 = .ok (.aload_n 0, 1) := by decide +kernel
theorem dX7_bestCut_34 : decode cX7_bestCut 34 = .ok (.getfield 21, 3) := by decide +kernel
theorem dX7_bestCut_37 : decode cX7_bestCut 37 = .ok (.iadd, 1) := by decide +kernel
theorem dX7_bestCut_38 : decode cX7_bestCut 38 = .ok (.iload_n 2, 1) := by decide +kernel
theorem dX7_bestCut_39 : decode cX7_bestCut 39 = .ok (.if_icmp .ge 37, 3) := by decide +kernel
theorem dX7_bestCut_42 : decode cX7_bestCut 42 = .ok (.aload_n 1, 1) := by decide +kernel
theorem dX7_bestCut_43 : decode cX7_bestCut 43 = .ok (.iload 6, 2) := by decide +kernel
theorem dX7_bestCut_45 : decode cX7_bestCut 45 = .ok (.aaload, 1) := by decide +kernel
theorem dX7_bestCut_46 : decode cX7_bestCut 46 = .ok (.iload_n 3, 1) := by decide +kernel
theorem dX7_bestCut_47 : decode cX7_bestCut 47 = .ok (.iaload, 1) := by decide +kernel
theorem dX7_bestCut_48 : decode cX7_bestCut 48 = .ok (.aload_n 1, 1) := by decide +kernel
theorem dX7_bestCut_49 : decode cX7_bestCut 49 = .ok (.iload_n 2, 1) := by decide +kernel
theorem dX7_bestCut_50 : decode cX7_bestCut 50 = .ok (.iload 6, 2) := by decide +kernel
theorem dX7_bestCut_52 : decode cX7_bestCut 52 = .ok (.isub, 1) := by decide +kernel
theorem dX7_bestCut_53 : decode cX7_bestCut 53 = .ok (.aload_n 0, 1) := by decide +kernel
theorem dX7_bestCut_54 : decode cX7_bestCut 54 = .ok (.getfield 21, 3) := by decide +kernel
theorem dX7_bestCut_57 : decode cX7_bestCut 57 = .ok (.isub, 1) := by decide +kernel
theorem dX7_bestCut_58 : decode cX7_bestCut 58 = .ok (.aaload, 1) := by decide +kernel
theorem dX7_bestCut_59 : decode cX7_bestCut 59 = .ok (.iload_n 3, 1) := by decide +kernel
theorem dX7_bestCut_60 : decode cX7_bestCut 60 = .ok (.iaload, 1) := by decide +kernel
theorem dX7_bestCut_61 : decode cX7_bestCut 61 = .ok (.iadd, 1) := by decide +kernel
theorem dX7_bestCut_62 : decode cX7_bestCut 62 = .ok (.iload 5, 2) := by decide +kernel
theorem dX7_bestCut_64 : decode cX7_bestCut 64 = .ok (.if_icmp .ne 6, 3) := by decide +kernel
theorem dX7_bestCut_67 : decode cX7_bestCut 67 = .ok (.iload 6, 2) := by decide +kernel
theorem dX7_bestCut_69 : decode cX7_bestCut 69 = .ok (.ireturn, 1) := by decide +kernel
theorem dX7_bestCut_70 : decode cX7_bestCut 70 = .ok (.iinc 6 1, 3) := by decide +kernel
theorem dX7_bestCut_73 : decode cX7_bestCut 73 = .ok (.goto (-42), 3) := by decide +kernel
theorem dX7_bestCut_76 : decode cX7_bestCut 76 = .ok (.iconst 1, 1) := by decide +kernel
theorem dX7_bestCut_77 : decode cX7_bestCut 77 = .ok (.istore 6, 2) := by decide +kernel
theorem dX7_bestCut_79 : decode cX7_bestCut 79 = .ok (.iload 6, 2) := by decide +kernel
theorem dX7_bestCut_81 : decode cX7_bestCut 81 = .ok (.aload_n 0, 1) := by decide +kernel
theorem dX7_bestCut_82 : decode cX7_bestCut 82 = .ok (.getfield 21, 3) := by decide +kernel
theorem dX7_bestCut_85 : decode cX7_bestCut 85 = .ok (.iadd, 1) := by decide +kernel
theorem dX7_bestCut_86 : decode cX7_bestCut 86 = .ok (.iload_n 3, 1) := by decide +kernel
theorem dX7_bestCut_87 : decode cX7_bestCut 87 = .ok (.if_icmp .ge 40, 3) := by decide +kernel
theorem dX7_bestCut_90 : decode cX7_bestCut 90 = .ok (.aload_n 1, 1) := by decide +kernel
theorem dX7_bestCut_91 : decode cX7_bestCut 91 = .ok (.iload_n 2, 1) := by decide +kernel
theorem dX7_bestCut_92 : decode cX7_bestCut 92 = .ok (.aaload, 1) := by decide +kernel
theorem dX7_bestCut_93 : decode cX7_bestCut 93 = .ok (.iload 6, 2) := by decide +kernel
theorem dX7_bestCut_95 : decode cX7_bestCut 95 = .ok (.iaload, 1) := by decide +kernel
theorem dX7_bestCut_96 : decode cX7_bestCut 96 = .ok (.aload_n 1, 1) := by decide +kernel
theorem dX7_bestCut_97 : decode cX7_bestCut 97 = .ok (.iload_n 2, 1) := by decide +kernel
theorem dX7_bestCut_98 : decode cX7_bestCut 98 = .ok (.aaload, 1) := by decide +kernel
theorem dX7_bestCut_99 : decode cX7_bestCut 99 = .ok (.iload_n 3, 1) := by decide +kernel
theorem dX7_bestCut_100 : decode cX7_bestCut 100 = .ok (.iload 6, 2) := by decide +kernel
theorem dX7_bestCut_102 : decode cX7_bestCut 102 = .ok (.isub, 1) := by decide +kernel
theorem dX7_bestCut_103 : decode cX7_bestCut 103 = .ok (.aload_n 0, 1) := by decide +kernel
theorem dX7_bestCut_104 : decode cX7_bestCut 104 = .ok (.getfield 21, 3) := by decide +kernel
theorem dX7_bestCut_107 : decode cX7_bestCut 107 = .ok (.isub, 1) := by decide +kernel
theorem dX7_bestCut_108 : decode cX7_bestCut 108 = .ok (.iaload, 1) := by decide +kernel
theorem dX7_bestCut_109 : decode cX7_bestCut 109 = .ok (.iadd, 1) := by decide +kernel
theorem dX7_bestCut_110 : decode cX7_bestCut 110 = .ok (.iload 5, 2) := by decide +kernel
theorem dX7_bestCut_112 : decode cX7_bestCut 112 = .ok (.if_icmp .ne 9, 3) := by decide +kernel
theorem dX7_bestCut_115 : decode cX7_bestCut 115 = .ok (.bipush 100, 2) := by decide +kernel
theorem dX7_bestCut_117 : decode cX7_bestCut 117 = .ok (.iload 6, 2) := by decide +kernel
theorem dX7_bestCut_119 : decode cX7_bestCut 119 = .ok (.iadd, 1) := by decide +kernel
theorem dX7_bestCut_120 : decode cX7_bestCut 120 = .ok (.ireturn, 1) := by decide +kernel
theorem dX7_bestCut_121 : decode cX7_bestCut 121 = .ok (.iinc 6 1, 3) := by decide +kernel
theorem dX7_bestCut_124 : decode cX7_bestCut 124 = .ok (.goto (-45), 3) := by decide +kernel
theorem dX7_bestCut_127 : decode cX7_bestCut 127 = .ok (.iconst (-1), 1) := by decide +kernel
theorem dX7_bestCut_128 : decode cX7_bestCut 128 = .ok (.ireturn, 1) := by decide +kernel
set_option maxRecDepth 20000 in
theorem ggX7_hasPrice_Jx4a65c_size_8abf5 : GoodIn wsX7_hasPrice wsJx4a65c_size_8abf5 := goodIn_r _ [8, 9, 62, 63, 64] (by decide +kernel) (by decide +kernel)
set_option maxRecDepth 20000 in
theorem gX7_hasPrice_Jx4a65c_size_8abf5 : GoodIn wsX7_hasPrice (wsV RX7 26 RJx4a65c yJx4a65c_size_8abf5 wsJx4a65c_size_8abf5) := goodIn_app (goodIn_of _ (by decide +kernel)) ggX7_hasPrice_Jx4a65c_size_8abf5
set_option maxRecDepth 20000 in
theorem ggX7_hasPrice_Jx4a65c_get_915e3 : GoodIn wsX7_hasPrice wsJx4a65c_get_915e3 := goodIn_r _ [13, 9, 14, 15, 16, 17, 18, 19, 20, 21, 22, 23, 24, 7, 25, 26, 62, 63, 64] (by decide +kernel) (by decide +kernel)
set_option maxRecDepth 20000 in
theorem gX7_hasPrice_Jx4a65c_get_915e3 : GoodIn wsX7_hasPrice (wsV RX7 30 RJx4a65c yJx4a65c_get_915e3 wsJx4a65c_get_915e3) := goodIn_app (goodIn_of _ (by decide +kernel)) ggX7_hasPrice_Jx4a65c_get_915e3
set_option maxRecDepth 20000 in
theorem ggX7_hasPrice_X5_lies_ : GoodIn wsX7_hasPrice wsX5_lies_ := goodIn_r _ [31, 32, 33, 34, 30, 35, 36, 37, 38, 39, 40, 41, 42, 43, 44, 45, 46, 47, 48, 49, 50, 54, 55, 56, 57, 58, 59, 60, 61] (by decide +kernel) (by decide +kernel)
set_option maxRecDepth 20000 in
theorem gX7_hasPrice_X5_lies_ : GoodIn wsX7_hasPrice (wsV RX7 132 RX5 yX5_lies_ wsX5_lies_) := goodIn_app (goodIn_of _ (by decide +kernel)) ggX7_hasPrice_X5_lies_
theorem dX7_hasPrice_0 : decode cX7_hasPrice 0 = .ok (.iconst 0, 1) := by decide +kernel
theorem dX7_hasPrice_1 : decode cX7_hasPrice 1 = .ok (.istore 5, 2) := by decide +kernel
theorem dX7_hasPrice_3 : decode cX7_hasPrice 3 = .ok (.iload 5, 2) := by decide +kernel
theorem dX7_hasPrice_5 : decode cX7_hasPrice 5 = .ok (.aload_n 0, 1) := by decide +kernel
theorem dX7_hasPrice_6 : decode cX7_hasPrice 6 = .ok (.getfield 18, 3) := by decide +kernel
theorem dX7_hasPrice_9 : decode cX7_hasPrice 9 = .ok (.invokevirtual 26, 3) := by decide +kernel
theorem dX7_hasPrice_12 : decode cX7_hasPrice 12 = .ok (.if_icmp .ge 53, 3) := by decide +kernel
theorem dX7_hasPrice_15 : decode cX7_hasPrice 15 = .ok (.aload_n 0, 1) := by decide +kernel
theorem dX7_hasPrice_16 : decode cX7_hasPrice 16 = .ok (.getfield 18, 3) := by decide +kernel
theorem dX7_hasPrice_19 : decode cX7_hasPrice 19 = .ok (.iload 5, 2) := by decide +kernel
theorem dX7_hasPrice_21 : decode cX7_hasPrice 21 = .ok (.invokevirtual 30, 3) := by decide +kernel
theorem dX7_hasPrice_24 : decode cX7_hasPrice 24 = .ok (.checkcast 44, 3) := by decide +kernel
theorem dX7_hasPrice_27 : decode cX7_hasPrice 27 = .ok (.getfield 85, 3) := by decide +kernel
theorem dX7_hasPrice_30 : decode cX7_hasPrice 30 = .ok (.iload 4, 2) := by decide +kernel
theorem dX7_hasPrice_32 : decode cX7_hasPrice 32 = .ok (.if_icmp .ne 27, 3) := by decide +kernel
theorem dX7_hasPrice_35 : decode cX7_hasPrice 35 = .ok (.aload_n 0, 1) := by decide +kernel
theorem dX7_hasPrice_36 : decode cX7_hasPrice 36 = .ok (.getfield 18, 3) := by decide +kernel
theorem dX7_hasPrice_39 : decode cX7_hasPrice 39 = .ok (.iload 5, 2) := by decide +kernel
theorem dX7_hasPrice_41 : decode cX7_hasPrice 41 = .ok (.invokevirtual 30, 3) := by decide +kernel
theorem dX7_hasPrice_44 : decode cX7_hasPrice 44 = .ok (.checkcast 44, 3) := by decide +kernel
theorem dX7_hasPrice_47 : decode cX7_hasPrice 47 = .ok (.iload_n 1, 1) := by decide +kernel
theorem dX7_hasPrice_48 : decode cX7_hasPrice 48 = .ok (.iload_n 2, 1) := by decide +kernel
theorem dX7_hasPrice_49 : decode cX7_hasPrice 49 = .ok (.iload_n 3, 1) := by decide +kernel
theorem dX7_hasPrice_50 : decode cX7_hasPrice 50 = .ok (.invokevirtual 132, 3) := by decide +kernel
theorem dX7_hasPrice_53 : decode cX7_hasPrice 53 = .ok (.ifCond .eq 6, 3) := by decide +kernel
theorem dX7_hasPrice_56 : decode cX7_hasPrice 56 = .ok (.iload 5, 2) := by decide +kernel
theorem dX7_hasPrice_58 : decode cX7_hasPrice 58 = .ok (.ireturn, 1) := by decide +kernel
theorem dX7_hasPrice_59 : decode cX7_hasPrice 59 = .ok (.iinc 5 1, 3) := by decide +kernel
theorem dX7_hasPrice_62 : decode cX7_hasPrice 62 = .ok (.goto (-59), 3) := by decide +kernel
theorem dX7_hasPrice_65 : decode cX7_hasPrice 65 = .ok (.iconst (-1), 1) := by decide +kernel
theorem dX7_hasPrice_66 : decode cX7_hasPrice 66 = .ok (.ireturn, 1) := by decide +kernel
set_option maxRecDepth 20000 in
theorem ggX7_column_X7_bestCut : GoodIn wsX7_column wsX7_bestCut := goodIn_r _ [6, 1, 7, 8, 9, 5, 10, 11, 12, 13, 14, 15, 16, 17, 18, 19, 20, 21, 22, 23, 24, 25, 26, 27, 28, 29, 30, 31, 32, 33, 34, 35, 36, 37, 38, 39, 40, 41, 42, 43, 44, 45, 46, 47, 48, 49, 50, 51, 52, 53, 54, 55, 56, 57, 58, 59, 60, 64, 65, 66, 67, 68, 69, 70, 71, 72, 73, 74, 75, 76, 77] (by decide +kernel) (by decide +kernel)
set_option maxRecDepth 20000 in
theorem gX7_column_X7_bestCut : GoodIn wsX7_column (wsV RX7 146 RX7 yX7_bestCut wsX7_bestCut) := goodIn_app (goodIn_of _ (by decide +kernel)) ggX7_column_X7_bestCut
set_option maxRecDepth 20000 in
theorem ggX7_column_X7_hasPrice : GoodIn wsX7_column wsX7_hasPrice := goodIn_r _ [10, 11, 12, 13, 14, 15, 16, 17, 18, 19, 20, 21, 22, 23, 24, 25, 26, 27, 28, 29, 30, 31, 32, 33, 34, 35, 36, 37, 38, 39, 40, 41, 42, 43, 44, 45, 46, 47, 48, 49, 50, 51, 52, 53, 54, 55, 56, 57, 58, 59, 60, 64, 65, 66, 67, 68, 69, 70, 71, 72, 73, 74, 75, 76, 77] (by decide +kernel) (by decide +kernel)
set_option maxRecDepth 20000 in
theorem gX7_column_X7_hasPrice : GoodIn wsX7_column (wsV RX7 142 RX7 yX7_hasPrice wsX7_hasPrice) := goodIn_app (goodIn_of _ (by decide +kernel)) ggX7_column_X7_hasPrice
set_option maxRecDepth 20000 in
theorem ggX7_column_X7_column : GoodIn wsX7_column wsX7_column := goodIn_r _ [0, 1, 2, 3, 4, 5, 6, 7, 8, 9, 10, 11, 12, 13, 14, 15, 16, 17, 18, 19, 20, 21, 22, 23, 24, 25, 26, 27, 28, 29, 30, 31, 32, 33, 34, 35, 36, 37, 38, 39, 40, 41, 42, 43, 44, 45, 46, 47, 48, 49, 50, 51, 52, 53, 54, 55, 56, 57, 58, 59, 60, 61, 62, 63, 64, 65, 66, 67, 68, 69, 70, 71, 72, 73, 74, 75, 76, 77] (by decide +kernel) (by decide +kernel)
set_option maxRecDepth 20000 in
theorem gX7_column_X7_column : GoodIn wsX7_column (wsV RX7 150 RX7 yX7_column wsX7_column) := goodIn_app (goodIn_of _ (by decide +kernel)) ggX7_column_X7_column
theorem dX7_column_0 : decode cX7_column 0 = .ok (.aload_n 1, 1) := by decide +kernel
theorem dX7_column_1 : decode cX7_column 1 = .ok (.iload_n 2, 1) := by decide +kernel
theorem dX7_column_2 : decode cX7_column 2 = .ok (.aaload, 1) := by decide +kernel
theorem dX7_column_3 : decode cX7_column 3 = .ok (.iload_n 3, 1) := by decide +kernel
theorem dX7_column_4 : decode cX7_column 4 = .ok (.iaload, 1) := by decide +kernel
theorem dX7_column_5 : decode cX7_column 5 = .ok (.istore 6, 2) := by decide +kernel
theorem dX7_column_7 : decode cX7_column 7 = .ok (.iload 6, 2) := by decide +kernel
theorem dX7_column_9 : decode cX7_column 9 = .ok (.ifCond .ne 5, 3) := by decide +kernel
theorem dX7_column_12 : decode cX7_column 12 = .ok (.iconst 0, 1) := by decide +kernel
theorem dX7_column_13 : decode cX7_column 13 = .ok (.ireturn, 1) := by decide +kernel
theorem dX7_column_14 : decode cX7_column 14 = .ok (.aload_n 0, 1) := by decide +kernel
theorem dX7_column_15 : decode cX7_column 15 = .ok (.aload_n 1, 1) := by decide +kernel
theorem dX7_column_16 : decode cX7_column 16 = .ok (.iload_n 2, 1) := by decide +kernel
theorem dX7_column_17 : decode cX7_column 17 = .ok (.iload_n 3, 1) := by decide +kernel
theorem dX7_column_18 : decode cX7_column 18 = .ok (.iload 4, 2) := by decide +kernel
theorem dX7_column_20 : decode cX7_column 20 = .ok (.invokevirtual 146, 3) := by decide +kernel
theorem dX7_column_23 : decode cX7_column 23 = .ok (.istore 7, 2) := by decide +kernel
theorem dX7_column_25 : decode cX7_column 25 = .ok (.iload 7, 2) := by decide +kernel
theorem dX7_column_27 : decode cX7_column 27 = .ok (.iconst (-1), 1) := by decide +kernel
theorem dX7_column_28 : decode cX7_column 28 = .ok (.if_icmp .ne 24, 3) := by decide +kernel
theorem dX7_column_31 : decode cX7_column 31 = .ok (.aload_n 0, 1) := by decide +kernel
theorem dX7_column_32 : decode cX7_column 32 = .ok (.iload_n 2, 1) := by decide +kernel
theorem dX7_column_33 : decode cX7_column 33 = .ok (.iload_n 3, 1) := by decide +kernel
theorem dX7_column_34 : decode cX7_column 34 = .ok (.iload 4, 2) := by decide +kernel
theorem dX7_column_36 : decode cX7_column 36 = .ok (.iload 6, 2) := by decide +kernel
theorem dX7_column_38 : decode cX7_column 38 = .ok (.invokevirtual 142, 3) := by decide +kernel
theorem dX7_column_41 : decode cX7_column 41 = .ok (.iload 5, 2) := by decide +kernel
theorem dX7_column_43 : decode cX7_column 43 = .ok (.if_icmp .ne 7, 3) := by decide +kernel
theorem dX7_column_46 : decode cX7_column 46 = .ok (.iconst 1, 1) := by decide +kernel
theorem dX7_column_47 : decode cX7_column 47 = .ok (.goto 4, 3) := by decide +kernel
theorem dX7_column_50 : decode cX7_column 50 = .ok (.iconst 0, 1) := by decide +kernel
theorem dX7_column_51 : decode cX7_column 51 = .ok (.ireturn, 1) := by decide +kernel
theorem dX7_column_52 : decode cX7_column 52 = .ok (.iload 7, 2) := by decide +kernel
theorem dX7_column_54 : decode cX7_column 54 = .ok (.bipush 100, 2) := by decide +kernel
theorem dX7_column_56 : decode cX7_column 56 = .ok (.if_icmp .ge 36, 3) := by decide +kernel
theorem dX7_column_59 : decode cX7_column 59 = .ok (.aload_n 0, 1) := by decide +kernel
theorem dX7_column_60 : decode cX7_column 60 = .ok (.aload_n 1, 1) := by decide +kernel
theorem dX7_column_61 : decode cX7_column 61 = .ok (.iload 7, 2) := by decide +kernel
theorem dX7_column_63 : decode cX7_column 63 = .ok (.iload_n 3, 1) := by decide +kernel
theorem dX7_column_64 : decode cX7_column 64 = .ok (.iload 4, 2) := by decide +kernel
theorem dX7_column_66 : decode cX7_column 66 = .ok (.iload 5, 2) := by decide +kernel
theorem dX7_column_68 : decode cX7_column 68 = .ok (.invokevirtual 150, 3) := by decide +kernel
theorem dX7_column_71 : decode cX7_column 71 = .ok (.aload_n 0, 1) := by decide +kernel
theorem dX7_column_72 : decode cX7_column 72 = .ok (.aload_n 1, 1) := by decide +kernel
theorem dX7_column_73 : decode cX7_column 73 = .ok (.iload_n 2, 1) := by decide +kernel
theorem dX7_column_74 : decode cX7_column 74 = .ok (.iload 7, 2) := by decide +kernel
theorem dX7_column_76 : decode cX7_column 76 = .ok (.isub, 1) := by decide +kernel
theorem dX7_column_77 : decode cX7_column 77 = .ok (.aload_n 0, 1) := by decide +kernel
theorem dX7_column_78 : decode cX7_column 78 = .ok (.getfield 21, 3) := by decide +kernel
theorem dX7_column_81 : decode cX7_column 81 = .ok (.isub, 1) := by decide +kernel
theorem dX7_column_82 : decode cX7_column 82 = .ok (.iload_n 3, 1) := by decide +kernel
theorem dX7_column_83 : decode cX7_column 83 = .ok (.iload 4, 2) := by decide +kernel
theorem dX7_column_85 : decode cX7_column 85 = .ok (.iload 5, 2) := by decide +kernel
theorem dX7_column_87 : decode cX7_column 87 = .ok (.invokevirtual 150, 3) := by decide +kernel
theorem dX7_column_90 : decode cX7_column 90 = .ok (.iadd, 1) := by decide +kernel
theorem dX7_column_91 : decode cX7_column 91 = .ok (.ireturn, 1) := by decide +kernel
theorem dX7_column_92 : decode cX7_column 92 = .ok (.aload_n 0, 1) := by decide +kernel
theorem dX7_column_93 : decode cX7_column 93 = .ok (.aload_n 1, 1) := by decide +kernel
theorem dX7_column_94 : decode cX7_column 94 = .ok (.iload_n 2, 1) := by decide +kernel
theorem dX7_column_95 : decode cX7_column 95 = .ok (.iload 7, 2) := by decide +kernel
theorem dX7_column_97 : decode cX7_column 97 = .ok (.bipush 100, 2) := by decide +kernel
theorem dX7_column_99 : decode cX7_column 99 = .ok (.isub, 1) := by decide +kernel
theorem dX7_column_100 : decode cX7_column 100 = .ok (.iload 4, 2) := by decide +kernel
theorem dX7_column_102 : decode cX7_column 102 = .ok (.iload 5, 2) := by decide +kernel
theorem dX7_column_104 : decode cX7_column 104 = .ok (.invokevirtual 150, 3) := by decide +kernel
theorem dX7_column_107 : decode cX7_column 107 = .ok (.aload_n 0, 1) := by decide +kernel
theorem dX7_column_108 : decode cX7_column 108 = .ok (.aload_n 1, 1) := by decide +kernel
theorem dX7_column_109 : decode cX7_column 109 = .ok (.iload_n 2, 1) := by decide +kernel
theorem dX7_column_110 : decode cX7_column 110 = .ok (.iload_n 3, 1) := by decide +kernel
theorem dX7_column_111 : decode cX7_column 111 = .ok (.iload 7, 2) := by decide +kernel
theorem dX7_column_113 : decode cX7_column 113 = .ok (.bipush 100, 2) := by decide +kernel
theorem dX7_column_115 : decode cX7_column 115 = .ok (.isub, 1) := by decide +kernel
theorem dX7_column_116 : decode cX7_column 116 = .ok (.isub, 1) := by decide +kernel
theorem dX7_column_117 : decode cX7_column 117 = .ok (.aload_n 0, 1) := by decide +kernel
theorem dX7_column_118 : decode cX7_column 118 = .ok (.getfield 21, 3) := by decide +kernel
theorem dX7_column_121 : decode cX7_column 121 = .ok (.isub, 1) := by decide +kernel
theorem dX7_column_122 : decode cX7_column 122 = .ok (.iload 4, 2) := by decide +kernel
theorem dX7_column_124 : decode cX7_column 124 = .ok (.iload 5, 2) := by decide +kernel
theorem dX7_column_126 : decode cX7_column 126 = .ok (.invokevirtual 150, 3) := by decide +kernel
theorem dX7_column_129 : decode cX7_column 129 = .ok (.iadd, 1) := by decide +kernel
theorem dX7_column_130 : decode cX7_column 130 = .ok (.ireturn, 1) := by decide +kernel
set_option maxRecDepth 20000 in
theorem ggX7_worthThere_X7_worths : GoodIn wsX7_worthThere wsX7_worths := goodIn_r _ [11, 1, 12, 13, 14, 15, 16, 17, 18, 19, 20, 10, 21, 22, 23, 24, 25, 26, 27, 28, 29, 30, 31, 32, 33, 34, 35, 36, 37, 38, 39, 40, 41, 42, 43, 44, 45, 46, 47, 48, 49, 50, 51, 52, 53, 54, 55, 56, 57, 58, 59, 60, 61, 62, 63, 64, 65, 66, 67, 68, 69, 70, 71, 78, 79, 80, 87, 88, 89, 90, 91, 92, 93, 94, 95, 96, 97] (by decide +kernel) (by decide +kernel)
set_option maxRecDepth 20000 in
theorem gX7_worthThere_X7_worths : GoodIn wsX7_worthThere (wsV RX7 154 RX7 yX7_worths wsX7_worths) := goodIn_app (goodIn_of _ (by decide +kernel)) ggX7_worthThere_X7_worths
set_option maxRecDepth 20000 in
theorem ggX7_worthThere_Jx4a65c_size_8abf5 : GoodIn wsX7_worthThere wsJx4a65c_size_8abf5 := goodIn_r _ [29, 30, 95, 96, 97] (by decide +kernel) (by decide +kernel)
set_option maxRecDepth 20000 in
theorem gX7_worthThere_Jx4a65c_size_8abf5 : GoodIn wsX7_worthThere (wsV RX7 26 RJx4a65c yJx4a65c_size_8abf5 wsJx4a65c_size_8abf5) := goodIn_app (goodIn_of _ (by decide +kernel)) ggX7_worthThere_Jx4a65c_size_8abf5
set_option maxRecDepth 20000 in
theorem ggX7_worthThere_Jx4a65c_get_915e3 : GoodIn wsX7_worthThere wsJx4a65c_get_915e3 := goodIn_r _ [34, 30, 35, 36, 37, 38, 39, 40, 41, 42, 43, 44, 45, 28, 46, 47, 95, 96, 97] (by decide +kernel) (by decide +kernel)
set_option maxRecDepth 20000 in
theorem gX7_worthThere_Jx4a65c_get_915e3 : GoodIn wsX7_worthThere (wsV RX7 30 RJx4a65c yJx4a65c_get_915e3 wsJx4a65c_get_915e3) := goodIn_app (goodIn_of _ (by decide +kernel)) ggX7_worthThere_Jx4a65c_get_915e3
set_option maxRecDepth 20000 in
theorem ggX7_worthThere_X6_isThere : GoodIn wsX7_worthThere wsX6_isThere := goodIn_r _ [76, 77, 81, 82, 83, 84, 85, 86] (by decide +kernel) (by decide +kernel)
set_option maxRecDepth 20000 in
theorem gX7_worthThere_X6_isThere : GoodIn wsX7_worthThere (wsV RX7 103 RX6 yX6_isThere wsX6_isThere) := goodIn_app (goodIn_of _ (by decide +kernel)) ggX7_worthThere_X6_isThere
theorem dX7_worthThere_0 : decode cX7_worthThere 0 = .ok (.iconst 2, 1) := by decide +kernel
theorem dX7_worthThere_1 : decode cX7_worthThere 1 = .ok (.anewarray 136, 3) := by decide +kernel
theorem dX7_worthThere_4 : decode cX7_worthThere 4 = .ok (.dup, 1) := by decide +kernel
theorem dX7_worthThere_5 : decode cX7_worthThere 5 = .ok (.iconst 0, 1) := by decide +kernel
theorem dX7_worthThere_6 : decode cX7_worthThere 6 = .ok (.aload_n 0, 1) := by decide +kernel
theorem dX7_worthThere_7 : decode cX7_worthThere 7 = .ok (.iconst 0, 1) := by decide +kernel
theorem dX7_worthThere_8 : decode cX7_worthThere 8 = .ok (.invokevirtual 154, 3) := by decide +kernel
theorem dX7_worthThere_11 : decode cX7_worthThere 11 = .ok (.aastore, 1) := by decide +kernel
theorem dX7_worthThere_12 : decode cX7_worthThere 12 = .ok (.dup, 1) := by decide +kernel
theorem dX7_worthThere_13 : decode cX7_worthThere 13 = .ok (.iconst 1, 1) := by decide +kernel
theorem dX7_worthThere_14 : decode cX7_worthThere 14 = .ok (.aload_n 0, 1) := by decide +kernel
theorem dX7_worthThere_15 : decode cX7_worthThere 15 = .ok (.iconst 1, 1) := by decide +kernel
theorem dX7_worthThere_16 : decode cX7_worthThere 16 = .ok (.invokevirtual 154, 3) := by decide +kernel
theorem dX7_worthThere_19 : decode cX7_worthThere 19 = .ok (.aastore, 1) := by decide +kernel
theorem dX7_worthThere_20 : decode cX7_worthThere 20 = .ok (.astore_n 1, 1) := by decide +kernel
theorem dX7_worthThere_21 : decode cX7_worthThere 21 = .ok (.iconst 0, 1) := by decide +kernel
theorem dX7_worthThere_22 : decode cX7_worthThere 22 = .ok (.istore_n 2, 1) := by decide +kernel
theorem dX7_worthThere_23 : decode cX7_worthThere 23 = .ok (.iconst 0, 1) := by decide +kernel
theorem dX7_worthThere_24 : decode cX7_worthThere 24 = .ok (.istore_n 3, 1) := by decide +kernel
theorem dX7_worthThere_25 : decode cX7_worthThere 25 = .ok (.iload_n 3, 1) := by decide +kernel
theorem dX7_worthThere_26 : decode cX7_worthThere 26 = .ok (.aload_n 0, 1) := by decide +kernel
theorem dX7_worthThere_27 : decode cX7_worthThere 27 = .ok (.getfield 12, 3) := by decide +kernel
theorem dX7_worthThere_30 : decode cX7_worthThere 30 = .ok (.invokevirtual 26, 3) := by decide +kernel
theorem dX7_worthThere_33 : decode cX7_worthThere 33 = .ok (.if_icmp .ge 56, 3) := by decide +kernel
theorem dX7_worthThere_36 : decode cX7_worthThere 36 = .ok (.aload_n 0, 1) := by decide +kernel
theorem dX7_worthThere_37 : decode cX7_worthThere 37 = .ok (.getfield 12, 3) := by decide +kernel
theorem dX7_worthThere_40 : decode cX7_worthThere 40 = .ok (.iload_n 3, 1) := by decide +kernel
theorem dX7_worthThere_41 : decode cX7_worthThere 41 = .ok (.invokevirtual 30, 3) := by decide +kernel
theorem dX7_worthThere_44 : decode cX7_worthThere 44 = .ok (.checkcast 34, 3) := by decide +kernel
theorem dX7_worthThere_47 : decode cX7_worthThere 47 = .ok (.astore 4, 2) := by decide +kernel
theorem dX7_worthThere_49 : decode cX7_worthThere 49 = .ok (.iload_n 2, 1) := by decide +kernel
theorem dX7_worthThere_50 : decode cX7_worthThere 50 = .ok (.aload 4, 2) := by decide +kernel
theorem dX7_worthThere_52 : decode cX7_worthThere 52 = .ok (.invokevirtual 103, 3) := by decide +kernel
theorem dX7_worthThere_55 : decode cX7_worthThere 55 = .ok (.ifCond .eq 25, 3) := by decide +kernel
theorem dX7_worthThere_58 : decode cX7_worthThere 58 = .ok (.aload_n 1, 1) := by decide +kernel
theorem dX7_worthThere_59 : decode cX7_worthThere 59 = .ok (.aload 4, 2) := by decide +kernel
theorem dX7_worthThere_61 : decode cX7_worthThere 61 = .ok (.getfield 55, 3) := by decide +kernel
theorem dX7_worthThere_64 : decode cX7_worthThere 64 = .ok (.aaload, 1) := by decide +kernel
theorem dX7_worthThere_65 : decode cX7_worthThere 65 = .ok (.aload 4, 2) := by decide +kernel
theorem dX7_worthThere_67 : decode cX7_worthThere 67 = .ok (.getfield 49, 3) := by decide +kernel
theorem dX7_worthThere_70 : decode cX7_worthThere 70 = .ok (.aaload, 1) := by decide +kernel
theorem dX7_worthThere_71 : decode cX7_worthThere 71 = .ok (.aload 4, 2) := by decide +kernel
theorem dX7_worthThere_73 : decode cX7_worthThere 73 = .ok (.getfield 52, 3) := by decide +kernel
theorem dX7_worthThere_76 : decode cX7_worthThere 76 = .ok (.iaload, 1) := by decide +kernel
theorem dX7_worthThere_77 : decode cX7_worthThere 77 = .ok (.goto 4, 3) := by decide +kernel
theorem dX7_worthThere_80 : decode cX7_worthThere 80 = .ok (.iconst 0, 1) := by decide +kernel
theorem dX7_worthThere_81 : decode cX7_worthThere 81 = .ok (.iadd, 1) := by decide +kernel
theorem dX7_worthThere_82 : decode cX7_worthThere 82 = .ok (.istore_n 2, 1) := by decide +kernel
theorem dX7_worthThere_83 : decode cX7_worthThere 83 = .ok (.iinc 3 1, 3) := by decide +kernel
theorem dX7_worthThere_86 : decode cX7_worthThere 86 = .ok (.goto (-61), 3) := by decide +kernel
theorem dX7_worthThere_89 : decode cX7_worthThere 89 = .ok (.iload_n 2, 1) := by decide +kernel
theorem dX7_worthThere_90 : decode cX7_worthThere 90 = .ok (.ireturn, 1) := by decide +kernel
