theorem dX0_init_0 : decode cX0_init 0 = .ok (.aload_n 0, 1) := by decide +kernel
theorem dX0_init_1 : decode cX0_init 1 = .ok (.invokespecial 3, 3) := by decide +kernel
theorem dX0_init_4 : decode cX0_init 4 = .ok (.return_, 1) := by decide +kernel
theorem dX0_begin_0 : decode cX0_begin 0 = .ok (.aload_n 0, 1) := by decide +kernel
theorem dX0_begin_1 : decode cX0_begin 1 = .ok (.iload_n 1, 1) := by decide +kernel
theorem dX0_begin_2 : decode cX0_begin 2 = .ok (.putfield 9, 3) := by decide +kernel
theorem dX0_begin_5 : decode cX0_begin 5 = .ok (.aload_n 0, 1) := by decide +kernel
theorem dX0_begin_6 : decode cX0_begin 6 = .ok (.iload_n 2, 1) := by decide +kernel
theorem dX0_begin_7 : decode cX0_begin 7 = .ok (.putfield 15, 3) := by decide +kernel
theorem dX0_begin_10 : decode cX0_begin 10 = .ok (.aload_n 0, 1) := by decide +kernel
theorem dX0_begin_11 : decode cX0_begin 11 = .ok (.iload_n 3, 1) := by decide +kernel
theorem dX0_begin_12 : decode cX0_begin 12 = .ok (.putfield 18, 3) := by decide +kernel
theorem dX0_begin_15 : decode cX0_begin 15 = .ok (.return_, 1) := by decide +kernel
set_option maxRecDepth 20000 in
theorem ggX0_copyFrom_X0_begin : GoodIn wsX0_copyFrom wsX0_begin := goodIn_r _ [13, 1, 2, 3, 14, 15, 16, 17, 18, 19, 20, 21] (by decide +kernel) (by decide +kernel)
set_option maxRecDepth 20000 in
theorem gX0_copyFrom_X0_begin : GoodIn wsX0_copyFrom (wsV RX0 21 RX0 yX0_begin wsX0_begin) := goodIn_app (goodIn_of _ (by decide +kernel)) ggX0_copyFrom_X0_begin
theorem dX0_copyFrom_0 : decode cX0_copyFrom 0 = .ok (.aload_n 0, 1) := by decide +kernel
theorem dX0_copyFrom_1 : decode cX0_copyFrom 1 = .ok (.aload_n 1, 1) := by decide +kernel
theorem dX0_copyFrom_2 : decode cX0_copyFrom 2 = .ok (.getfield 9, 3) := by decide +kernel
theorem dX0_copyFrom_5 : decode cX0_copyFrom 5 = .ok (.aload_n 1, 1) := by decide +kernel
theorem dX0_copyFrom_6 : decode cX0_copyFrom 6 = .ok (.getfield 15, 3) := by decide +kernel
theorem dX0_copyFrom_9 : decode cX0_copyFrom 9 = .ok (.aload_n 1, 1) := by decide +kernel
theorem dX0_copyFrom_10 : decode cX0_copyFrom 10 = .ok (.getfield 18, 3) := by decide +kernel
theorem dX0_copyFrom_13 : decode cX0_copyFrom 13 = .ok (.invokevirtual 21, 3) := by decide +kernel
theorem dX0_copyFrom_16 : decode cX0_copyFrom 16 = .ok (.aload_n 0, 1) := by decide +kernel
theorem dX0_copyFrom_17 : decode cX0_copyFrom 17 = .ok (.aload_n 1, 1) := by decide +kernel
theorem dX0_copyFrom_18 : decode cX0_copyFrom 18 = .ok (.getfield 25, 3) := by decide +kernel
theorem dX0_copyFrom_21 : decode cX0_copyFrom 21 = .ok (.putfield 25, 3) := by decide +kernel
theorem dX0_copyFrom_24 : decode cX0_copyFrom 24 = .ok (.aload_n 0, 1) := by decide +kernel
theorem dX0_copyFrom_25 : decode cX0_copyFrom 25 = .ok (.aload_n 1, 1) := by decide +kernel
theorem dX0_copyFrom_26 : decode cX0_copyFrom 26 = .ok (.getfield 28, 3) := by decide +kernel
theorem dX0_copyFrom_29 : decode cX0_copyFrom 29 = .ok (.putfield 28, 3) := by decide +kernel
theorem dX0_copyFrom_32 : decode cX0_copyFrom 32 = .ok (.aload_n 0, 1) := by decide +kernel
theorem dX0_copyFrom_33 : decode cX0_copyFrom 33 = .ok (.aload_n 1, 1) := by decide +kernel
theorem dX0_copyFrom_34 : decode cX0_copyFrom 34 = .ok (.getfield 31, 3) := by decide +kernel
theorem dX0_copyFrom_37 : decode cX0_copyFrom 37 = .ok (.putfield 31, 3) := by decide +kernel
theorem dX0_copyFrom_40 : decode cX0_copyFrom 40 = .ok (.aload_n 0, 1) := by decide +kernel
theorem dX0_copyFrom_41 : decode cX0_copyFrom 41 = .ok (.aload_n 1, 1) := by decide +kernel
theorem dX0_copyFrom_42 : decode cX0_copyFrom 42 = .ok (.getfield 34, 3) := by decide +kernel
theorem dX0_copyFrom_45 : decode cX0_copyFrom 45 = .ok (.putfield 34, 3) := by decide +kernel
theorem dX0_copyFrom_48 : decode cX0_copyFrom 48 = .ok (.aload_n 0, 1) := by decide +kernel
theorem dX0_copyFrom_49 : decode cX0_copyFrom 49 = .ok (.aload_n 1, 1) := by decide +kernel
theorem dX0_copyFrom_50 : decode cX0_copyFrom 50 = .ok (.getfield 37, 3) := by decide +kernel
theorem dX0_copyFrom_53 : decode cX0_copyFrom 53 = .ok (.putfield 37, 3) := by decide +kernel
theorem dX0_copyFrom_56 : decode cX0_copyFrom 56 = .ok (.return_, 1) := by decide +kernel
theorem dX0_wideIn_0 : decode cX0_wideIn 0 = .ok (.iload_n 1, 1) := by decide +kernel
theorem dX0_wideIn_1 : decode cX0_wideIn 1 = .ok (.ifCond .ne 10, 3) := by decide +kernel
theorem dX0_wideIn_4 : decode cX0_wideIn 4 = .ok (.aload_n 0, 1) := by decide +kernel
theorem dX0_wideIn_5 : decode cX0_wideIn 5 = .ok (.getfield 9, 3) := by decide +kernel
theorem dX0_wideIn_8 : decode cX0_wideIn 8 = .ok (.goto 7, 3) := by decide +kernel
theorem dX0_wideIn_11 : decode cX0_wideIn 11 = .ok (.aload_n 0, 1) := by decide +kernel
theorem dX0_wideIn_12 : decode cX0_wideIn 12 = .ok (.getfield 15, 3) := by decide +kernel
theorem dX0_wideIn_15 : decode cX0_wideIn 15 = .ok (.ireturn, 1) := by decide +kernel
theorem dX0_highIn_0 : decode cX0_highIn 0 = .ok (.iload_n 1, 1) := by decide +kernel
theorem dX0_highIn_1 : decode cX0_highIn 1 = .ok (.ifCond .ne 10, 3) := by decide +kernel
theorem dX0_highIn_4 : decode cX0_highIn 4 = .ok (.aload_n 0, 1) := by decide +kernel
theorem dX0_highIn_5 : decode cX0_highIn 5 = .ok (.getfield 15, 3) := by decide +kernel
theorem dX0_highIn_8 : decode cX0_highIn 8 = .ok (.goto 7, 3) := by decide +kernel
theorem dX0_highIn_11 : decode cX0_highIn 11 = .ok (.aload_n 0, 1) := by decide +kernel
theorem dX0_highIn_12 : decode cX0_highIn 12 = .ok (.getfield 9, 3) := by decide +kernel
theorem dX0_highIn_15 : decode cX0_highIn 15 = .ok (.ireturn, 1) := by decide +kernel
theorem dX0_goesInto_0 : decode cX0_goesInto 0 = .ok (.iload_n 1, 1) := by decide +kernel
theorem dX0_goesInto_1 : decode cX0_goesInto 1 = .ok (.iload 4, 2) := by decide +kernel
theorem dX0_goesInto_3 : decode cX0_goesInto 3 = .ok (.if_icmp .ne 7, 3) := by decide +kernel
theorem dX0_goesInto_6 : decode cX0_goesInto 6 = .ok (.iconst 1, 1) := by decide +kernel
theorem dX0_goesInto_7 : decode cX0_goesInto 7 = .ok (.goto 4, 3) := by decide +kernel
theorem dX0_goesInto_10 : decode cX0_goesInto 10 = .ok (.iconst 0, 1) := by decide +kernel
theorem dX0_goesInto_11 : decode cX0_goesInto 11 = .ok (.istore 5, 2) := by decide +kernel
theorem dX0_goesInto_13 : decode cX0_goesInto 13 = .ok (.aload_n 0, 1) := by decide +kernel
theorem dX0_goesInto_14 : decode cX0_goesInto 14 = .ok (.getfield 25, 3) := by decide +kernel
theorem dX0_goesInto_17 : decode cX0_goesInto 17 = .ok (.ifCond .eq 21, 3) := by decide +kernel
theorem dX0_goesInto_20 : decode cX0_goesInto 20 = .ok (.aload_n 0, 1) := by decide +kernel
theorem dX0_goesInto_21 : decode cX0_goesInto 21 = .ok (.getfield 25, 3) := by decide +kernel
theorem dX0_goesInto_24 : decode cX0_goesInto 24 = .ok (.iconst 1, 1) := by decide +kernel
theorem dX0_goesInto_25 : decode cX0_goesInto 25 = .ok (.if_icmp .ne 7, 3) := by decide +kernel
theorem dX0_goesInto_28 : decode cX0_goesInto 28 = .ok (.iconst 1, 1) := by decide +kernel
theorem dX0_goesInto_29 : decode cX0_goesInto 29 = .ok (.goto 4, 3) := by decide +kernel
theorem dX0_goesInto_32 : decode cX0_goesInto 32 = .ok (.iconst 0, 1) := by decide +kernel
theorem dX0_goesInto_33 : decode cX0_goesInto 33 = .ok (.iload 5, 2) := by decide +kernel
theorem dX0_goesInto_35 : decode cX0_goesInto 35 = .ok (.if_icmp .ne 7, 3) := by decide +kernel
theorem dX0_goesInto_38 : decode cX0_goesInto 38 = .ok (.iconst 1, 1) := by decide +kernel
theorem dX0_goesInto_39 : decode cX0_goesInto 39 = .ok (.goto 4, 3) := by decide +kernel
theorem dX0_goesInto_42 : decode cX0_goesInto 42 = .ok (.iconst 0, 1) := by decide +kernel
theorem dX0_goesInto_43 : decode cX0_goesInto 43 = .ok (.istore 6, 2) := by decide +kernel
theorem dX0_goesInto_45 : decode cX0_goesInto 45 = .ok (.iload_n 1, 1) := by decide +kernel
theorem dX0_goesInto_46 : decode cX0_goesInto 46 = .ok (.ifCond .ne 30, 3) := by decide +kernel
theorem dX0_goesInto_49 : decode cX0_goesInto 49 = .ok (.iload 6, 2) := by decide +kernel
theorem dX0_goesInto_51 : decode cX0_goesInto 51 = .ok (.ifCond .eq 23, 3) := by decide +kernel
theorem dX0_goesInto_54 : decode cX0_goesInto 54 = .ok (.aload_n 0, 1) := by decide +kernel
theorem dX0_goesInto_55 : decode cX0_goesInto 55 = .ok (.getfield 9, 3) := by decide +kernel
theorem dX0_goesInto_58 : decode cX0_goesInto 58 = .ok (.iload_n 2, 1) := by decide +kernel
theorem dX0_goesInto_59 : decode cX0_goesInto 59 = .ok (.if_icmp .gt 15, 3) := by decide +kernel
theorem dX0_goesInto_62 : decode cX0_goesInto 62 = .ok (.aload_n 0, 1) := by decide +kernel
theorem dX0_goesInto_63 : decode cX0_goesInto 63 = .ok (.getfield 15, 3) := by decide +kernel
theorem dX0_goesInto_66 : decode cX0_goesInto 66 = .ok (.iload_n 3, 1) := by decide +kernel
theorem dX0_goesInto_67 : decode cX0_goesInto 67 = .ok (.if_icmp .gt 7, 3) := by decide +kernel
theorem dX0_goesInto_70 : decode cX0_goesInto 70 = .ok (.iconst 1, 1) := by decide +kernel
theorem dX0_goesInto_71 : decode cX0_goesInto 71 = .ok (.goto 4, 3) := by decide +kernel
theorem dX0_goesInto_74 : decode cX0_goesInto 74 = .ok (.iconst 0, 1) := by decide +kernel
theorem dX0_goesInto_75 : decode cX0_goesInto 75 = .ok (.ireturn, 1) := by decide +kernel
theorem dX0_goesInto_76 : decode cX0_goesInto 76 = .ok (.iload 6, 2) := by decide +kernel
theorem dX0_goesInto_78 : decode cX0_goesInto 78 = .ok (.ifCond .eq 23, 3) := by decide +kernel
theorem dX0_goesInto_81 : decode cX0_goesInto 81 = .ok (.aload_n 0, 1) := by decide +kernel
theorem dX0_goesInto_82 : decode cX0_goesInto 82 = .ok (.getfield 15, 3) := by decide +kernel
theorem dX0_goesInto_85 : decode cX0_goesInto 85 = .ok (.iload_n 2, 1) := by decide +kernel
theorem dX0_goesInto_86 : decode cX0_goesInto 86 = .ok (.if_icmp .gt 15, 3) := by decide +kernel
theorem dX0_goesInto_89 : decode cX0_goesInto 89 = .ok (.aload_n 0, 1) := by decide +kernel
theorem dX0_goesInto_90 : decode cX0_goesInto 90 = .ok (.getfield 9, 3) := by decide +kernel
theorem dX0_goesInto_93 : decode cX0_goesInto 93 = .ok (.iload_n 3, 1) := by decide +kernel
theorem dX0_goesInto_94 : decode cX0_goesInto 94 = .ok (.if_icmp .gt 7, 3) := by decide +kernel
theorem dX0_goesInto_97 : decode cX0_goesInto 97 = .ok (.iconst 1, 1) := by decide +kernel
theorem dX0_goesInto_98 : decode cX0_goesInto 98 = .ok (.goto 4, 3) := by decide +kernel
theorem dX0_goesInto_101 : decode cX0_goesInto 101 = .ok (.iconst 0, 1) := by decide +kernel
theorem dX0_goesInto_102 : decode cX0_goesInto 102 = .ok (.ireturn, 1) := by decide +kernel
set_option maxRecDepth 20000 in
theorem ggX0_goesInto__X0_goesInto : GoodIn wsX0_goesInto_ wsX0_goesInto := goodIn_r _ [5, 6, 7, 8, 9, 10, 11, 12, 13, 14, 15, 16] (by decide +kernel) (by decide +kernel)
set_option maxRecDepth 20000 in
theorem gX0_goesInto__X0_goesInto : GoodIn wsX0_goesInto_ (wsV RX0 40 RX0 yX0_goesInto wsX0_goesInto) := goodIn_app (goodIn_of _ (by decide +kernel)) ggX0_goesInto__X0_goesInto
theorem dX0_goesInto__0 : decode cX0_goesInto_ 0 = .ok (.aload_n 0, 1) := by decide +kernel
theorem dX0_goesInto__1 : decode cX0_goesInto_ 1 = .ok (.iconst 0, 1) := by decide +kernel
theorem dX0_goesInto__2 : decode cX0_goesInto_ 2 = .ok (.iload_n 1, 1) := by decide +kernel
theorem dX0_goesInto__3 : decode cX0_goesInto_ 3 = .ok (.iload_n 2, 1) := by decide +kernel
theorem dX0_goesInto__4 : decode cX0_goesInto_ 4 = .ok (.iload_n 3, 1) := by decide +kernel
theorem dX0_goesInto__5 : decode cX0_goesInto_ 5 = .ok (.invokevirtual 40, 3) := by decide +kernel
theorem dX0_goesInto__8 : decode cX0_goesInto_ 8 = .ok (.ifCond .ne 14, 3) := by decide +kernel
theorem dX0_goesInto__11 : decode cX0_goesInto_ 11 = .ok (.aload_n 0, 1) := by decide +kernel
theorem dX0_goesInto__12 : decode cX0_goesInto_ 12 = .ok (.iconst 1, 1) := by decide +kernel
theorem dX0_goesInto__13 : decode cX0_goesInto_ 13 = .ok (.iload_n 1, 1) := by decide +kernel
theorem dX0_goesInto__14 : decode cX0_goesInto_ 14 = .ok (.iload_n 2, 1) := by decide +kernel
theorem dX0_goesInto__15 : decode cX0_goesInto_ 15 = .ok (.iload_n 3, 1) := by decide +kernel
theorem dX0_goesInto__16 : decode cX0_goesInto_ 16 = .ok (.invokevirtual 40, 3) := by decide +kernel
theorem dX0_goesInto__19 : decode cX0_goesInto_ 19 = .ok (.ifCond .eq 7, 3) := by decide +kernel
theorem dX0_goesInto__22 : decode cX0_goesInto_ 22 = .ok (.iconst 1, 1) := by decide +kernel
theorem dX0_goesInto__23 : decode cX0_goesInto_ 23 = .ok (.goto 4, 3) := by decide +kernel
theorem dX0_goesInto__26 : decode cX0_goesInto_ 26 = .ok (.iconst 0, 1) := by decide +kernel
theorem dX0_goesInto__27 : decode cX0_goesInto_ 27 = .ok (.ireturn, 1) := by decide +kernel
theorem dX0_sell_0 : decode cX0_sell 0 = .ok (.aload_n 0, 1) := by decide +kernel
theorem dX0_sell_1 : decode cX0_sell 1 = .ok (.getfield 31, 3) := by decide +kernel
theorem dX0_sell_4 : decode cX0_sell 4 = .ok (.ifCond .le 10, 3) := by decide +kernel
theorem dX0_sell_7 : decode cX0_sell 7 = .ok (.aload_n 0, 1) := by decide +kernel
theorem dX0_sell_8 : decode cX0_sell 8 = .ok (.getfield 18, 3) := by decide +kernel
theorem dX0_sell_11 : decode cX0_sell 11 = .ok (.goto 9, 3) := by decide +kernel
theorem dX0_sell_14 : decode cX0_sell 14 = .ok (.aload_n 0, 1) := by decide +kernel
theorem dX0_sell_15 : decode cX0_sell 15 = .ok (.getfield 18, 3) := by decide +kernel
theorem dX0_sell_18 : decode cX0_sell 18 = .ok (.iconst 4, 1) := by decide +kernel
theorem dX0_sell_19 : decode cX0_sell 19 = .ok (.idiv, 1) := by decide +kernel
theorem dX0_sell_20 : decode cX0_sell 20 = .ok (.istore_n 1, 1) := by decide +kernel
theorem dX0_sell_21 : decode cX0_sell 21 = .ok (.aload_n 0, 1) := by decide +kernel
theorem dX0_sell_22 : decode cX0_sell 22 = .ok (.iconst 0, 1) := by decide +kernel
theorem dX0_sell_23 : decode cX0_sell 23 = .ok (.aload_n 0, 1) := by decide +kernel
theorem dX0_sell_24 : decode cX0_sell 24 = .ok (.getfield 31, 3) := by decide +kernel
theorem dX0_sell_27 : decode cX0_sell 27 = .ok (.iconst 1, 1) := by decide +kernel
theorem dX0_sell_28 : decode cX0_sell 28 = .ok (.isub, 1) := by decide +kernel
theorem dX0_sell_29 : decode cX0_sell 29 = .ok (.invokestatic 44, 3) := by decide +kernel
theorem dX0_sell_32 : decode cX0_sell 32 = .ok (.putfield 31, 3) := by decide +kernel
theorem dX0_sell_35 : decode cX0_sell 35 = .ok (.aload_n 0, 1) := by decide +kernel
theorem dX0_sell_36 : decode cX0_sell 36 = .ok (.dup, 1) := by decide +kernel
theorem dX0_sell_37 : decode cX0_sell 37 = .ok (.getfield 34, 3) := by decide +kernel
theorem dX0_sell_40 : decode cX0_sell 40 = .ok (.iconst 1, 1) := by decide +kernel
theorem dX0_sell_41 : decode cX0_sell 41 = .ok (.iadd, 1) := by decide +kernel
theorem dX0_sell_42 : decode cX0_sell 42 = .ok (.putfield 34, 3) := by decide +kernel
theorem dX0_sell_45 : decode cX0_sell 45 = .ok (.aload_n 0, 1) := by decide +kernel
theorem dX0_sell_46 : decode cX0_sell 46 = .ok (.dup, 1) := by decide +kernel
theorem dX0_sell_47 : decode cX0_sell 47 = .ok (.getfield 37, 3) := by decide +kernel
theorem dX0_sell_50 : decode cX0_sell 50 = .ok (.iload_n 1, 1) := by decide +kernel
theorem dX0_sell_51 : decode cX0_sell 51 = .ok (.iadd, 1) := by decide +kernel
theorem dX0_sell_52 : decode cX0_sell 52 = .ok (.putfield 37, 3) := by decide +kernel
theorem dX0_sell_55 : decode cX0_sell 55 = .ok (.aload_n 0, 1) := by decide +kernel
theorem dX0_sell_56 : decode cX0_sell 56 = .ok (.iconst 1, 1) := by decide +kernel
theorem dX0_sell_57 : decode cX0_sell 57 = .ok (.aload_n 0, 1) := by decide +kernel
theorem dX0_sell_58 : decode cX0_sell 58 = .ok (.getfield 18, 3) := by decide +kernel
theorem dX0_sell_61 : decode cX0_sell 61 = .ok (.bipush 9, 2) := by decide +kernel
theorem dX0_sell_63 : decode cX0_sell 63 = .ok (.imul, 1) := by decide +kernel
theorem dX0_sell_64 : decode cX0_sell 64 = .ok (.bipush 10, 2) := by decide +kernel
theorem dX0_sell_66 : decode cX0_sell 66 = .ok (.idiv, 1) := by decide +kernel
theorem dX0_sell_67 : decode cX0_sell 67 = .ok (.invokestatic 44, 3) := by decide +kernel
theorem dX0_sell_70 : decode cX0_sell 70 = .ok (.putfield 18, 3) := by decide +kernel
theorem dX0_sell_73 : decode cX0_sell 73 = .ok (.iload_n 1, 1) := by decide +kernel
theorem dX0_sell_74 : decode cX0_sell 74 = .ok (.ireturn, 1) := by decide +kernel
theorem dX0_becomeDearer_0 : decode cX0_becomeDearer 0 = .ok (.aload_n 0, 1) := by decide +kernel
theorem dX0_becomeDearer_1 : decode cX0_becomeDearer 1 = .ok (.sipush 999, 3) := by decide +kernel
theorem dX0_becomeDearer_4 : decode cX0_becomeDearer 4 = .ok (.aload_n 0, 1) := by decide +kernel
theorem dX0_becomeDearer_5 : decode cX0_becomeDearer 5 = .ok (.getfield 18, 3) := by decide +kernel
theorem dX0_becomeDearer_8 : decode cX0_becomeDearer 8 = .ok (.iconst 1, 1) := by decide +kernel
theorem dX0_becomeDearer_9 : decode cX0_becomeDearer 9 = .ok (.iadd, 1) := by decide +kernel
theorem dX0_becomeDearer_10 : decode cX0_becomeDearer 10 = .ok (.invokestatic 50, 3) := by decide +kernel
theorem dX0_becomeDearer_13 : decode cX0_becomeDearer 13 = .ok (.putfield 18, 3) := by decide +kernel
theorem dX0_becomeDearer_16 : decode cX0_becomeDearer 16 = .ok (.return_, 1) := by decide +kernel
theorem dX1_init_0 : decode cX1_init 0 = .ok (.aload_n 0, 1) := by decide +kernel
theorem dX1_init_1 : decode cX1_init 1 = .ok (.invokespecial 3, 3) := by decide +kernel
theorem dX1_init_4 : decode cX1_init 4 = .ok (.aload_n 0, 1) := by decide +kernel
theorem dX1_init_5 : decode cX1_init 5 = .ok (.sipush 625, 3) := by decide +kernel
theorem dX1_init_8 : decode cX1_init 8 = .ok (.newarray .int, 2) := by decide +kernel
theorem dX1_init_10 : decode cX1_init 10 = .ok (.putfield 9, 3) := by decide +kernel
theorem dX1_init_13 : decode cX1_init 13 = .ok (.aload_n 0, 1) := by decide +kernel
theorem dX1_init_14 : decode cX1_init 14 = .ok (.sipush 625, 3) := by decide +kernel
theorem dX1_init_17 : decode cX1_init 17 = .ok (.newarray .int, 2) := by decide +kernel
theorem dX1_init_19 : decode cX1_init 19 = .ok (.putfield 15, 3) := by decide +kernel
theorem dX1_init_22 : decode cX1_init 22 = .ok (.aload_n 0, 1) := by decide +kernel
theorem dX1_init_23 : decode cX1_init 23 = .ok (.sipush 625, 3) := by decide +kernel
theorem dX1_init_26 : decode cX1_init 26 = .ok (.newarray .int, 2) := by decide +kernel
theorem dX1_init_28 : decode cX1_init 28 = .ok (.putfield 18, 3) := by decide +kernel
theorem dX1_init_31 : decode cX1_init 31 = .ok (.aload_n 0, 1) := by decide +kernel
theorem dX1_init_32 : decode cX1_init 32 = .ok (.sipush 625, 3) := by decide +kernel
theorem dX1_init_35 : decode cX1_init 35 = .ok (.newarray .int, 2) := by decide +kernel
theorem dX1_init_37 : decode cX1_init 37 = .ok (.putfield 21, 3) := by decide +kernel
theorem dX1_init_40 : decode cX1_init 40 = .ok (.return_, 1) := by decide +kernel
set_option maxRecDepth 20000 in
theorem ggX1_measure_X3_dearestStone : GoodIn wsX1_measure wsX3_dearestStone := goodIn_r _ [6, 7, 8, 9, 10, 5, 11, 12, 13, 14, 15, 16, 17, 18, 19, 20, 21, 22, 23, 24, 44, 45, 46, 47, 48, 54, 55, 56, 57, 58, 59, 60, 61] (by decide +kernel) (by decide +kernel)
set_option maxRecDepth 20000 in
theorem gX1_measure_X3_dearestStone : GoodIn wsX1_measure (wsV RX1 31 RX3 yX3_dearestStone wsX3_dearestStone) := goodIn_app (goodIn_of _ (by decide +kernel)) ggX1_measure_X3_dearestStone
set_option maxRecDepth 20000 in
theorem ggX1_measure_X3_kindOrNull : GoodIn wsX1_measure wsX3_kindOrNull := goodIn_r _ [11, 7, 12, 44, 45, 46, 47, 48] (by decide +kernel) (by decide +kernel)
set_option maxRecDepth 20000 in
theorem gX1_measure_X3_kindOrNull : GoodIn wsX1_measure (wsV RX1 35 RX3 yX3_kindOrNull wsX3_kindOrNull) := goodIn_app (goodIn_of _ (by decide +kernel)) ggX1_measure_X3_kindOrNull
set_option maxRecDepth 20000 in
theorem ggX1_measure_X1_measurePiece : GoodIn wsX1_measure wsX1_measurePiece := goodIn_r _ [30, 1, 31, 32, 33, 34, 35, 36, 29, 37, 38, 39, 40, 41, 42, 43, 49, 50, 51, 52, 53] (by decide +kernel) (by decide +kernel)
set_option maxRecDepth 20000 in
theorem gX1_measure_X1_measurePiece : GoodIn wsX1_measure (wsV RX1 44 RX1 yX1_measurePiece wsX1_measurePiece) := goodIn_app (goodIn_of _ (by decide +kernel)) ggX1_measure_X1_measurePiece
theorem dX1_measure_0 : decode cX1_measure 0 = .ok (.aload_n 0, 1) := by decide +kernel
theorem dX1_measure_1 : decode cX1_measure 1 = .ok (.aload_n 1, 1) := by decide +kernel
theorem dX1_measure_2 : decode cX1_measure 2 = .ok (.getfield 24, 3) := by decide +kernel
theorem dX1_measure_5 : decode cX1_measure 5 = .ok (.putfield 30, 3) := by decide +kernel
theorem dX1_measure_8 : decode cX1_measure 8 = .ok (.iconst 1, 1) := by decide +kernel
theorem dX1_measure_9 : decode cX1_measure 9 = .ok (.istore 5, 2) := by decide +kernel
theorem dX1_measure_11 : decode cX1_measure 11 = .ok (.iload 5, 2) := by decide +kernel
theorem dX1_measure_13 : decode cX1_measure 13 = .ok (.iload_n 2, 1) := by decide +kernel
theorem dX1_measure_14 : decode cX1_measure 14 = .ok (.if_icmp .gt 82, 3) := by decide +kernel
theorem dX1_measure_17 : decode cX1_measure 17 = .ok (.iload 5, 2) := by decide +kernel
theorem dX1_measure_19 : decode cX1_measure 19 = .ok (.bipush 24, 2) := by decide +kernel
theorem dX1_measure_21 : decode cX1_measure 21 = .ok (.if_icmp .gt 75, 3) := by decide +kernel
theorem dX1_measure_24 : decode cX1_measure 24 = .ok (.iconst 1, 1) := by decide +kernel
theorem dX1_measure_25 : decode cX1_measure 25 = .ok (.istore 6, 2) := by decide +kernel
theorem dX1_measure_27 : decode cX1_measure 27 = .ok (.iload 6, 2) := by decide +kernel
theorem dX1_measure_29 : decode cX1_measure 29 = .ok (.iload_n 3, 1) := by decide +kernel
theorem dX1_measure_30 : decode cX1_measure 30 = .ok (.if_icmp .gt 60, 3) := by decide +kernel
theorem dX1_measure_33 : decode cX1_measure 33 = .ok (.iload 6, 2) := by decide +kernel
theorem dX1_measure_35 : decode cX1_measure 35 = .ok (.bipush 24, 2) := by decide +kernel
theorem dX1_measure_37 : decode cX1_measure 37 = .ok (.if_icmp .gt 53, 3) := by decide +kernel
theorem dX1_measure_40 : decode cX1_measure 40 = .ok (.aload_n 1, 1) := by decide +kernel
theorem dX1_measure_41 : decode cX1_measure 41 = .ok (.iload 5, 2) := by decide +kernel
theorem dX1_measure_43 : decode cX1_measure 43 = .ok (.iload 6, 2) := by decide +kernel
theorem dX1_measure_45 : decode cX1_measure 45 = .ok (.iload 4, 2) := by decide +kernel
theorem dX1_measure_47 : decode cX1_measure 47 = .ok (.invokevirtual 31, 3) := by decide +kernel
theorem dX1_measure_50 : decode cX1_measure 50 = .ok (.istore 7, 2) := by decide +kernel
theorem dX1_measure_52 : decode cX1_measure 52 = .ok (.aload_n 1, 1) := by decide +kernel
theorem dX1_measure_53 : decode cX1_measure 53 = .ok (.iload 7, 2) := by decide +kernel
theorem dX1_measure_55 : decode cX1_measure 55 = .ok (.invokevirtual 35, 3) := by decide +kernel
theorem dX1_measure_58 : decode cX1_measure 58 = .ok (.astore 8, 2) := by decide +kernel
theorem dX1_measure_60 : decode cX1_measure 60 = .ok (.aload_n 0, 1) := by decide +kernel
theorem dX1_measure_61 : decode cX1_measure 61 = .ok (.iload 5, 2) := by decide +kernel
theorem dX1_measure_63 : decode cX1_measure 63 = .ok (.iload 6, 2) := by decide +kernel
theorem dX1_measure_65 : decode cX1_measure 65 = .ok (.iload 7, 2) := by decide +kernel
theorem dX1_measure_67 : decode cX1_measure 67 = .ok (.aload 8, 2) := by decide +kernel
theorem dX1_measure_69 : decode cX1_measure 69 = .ok (.ifnonnull 7, 3) := by decide +kernel
theorem dX1_measure_72 : decode cX1_measure 72 = .ok (.iconst 0, 1) := by decide +kernel
theorem dX1_measure_73 : decode cX1_measure 73 = .ok (.goto 8, 3) := by decide +kernel
theorem dX1_measure_76 : decode cX1_measure 76 = .ok (.aload 8, 2) := by decide +kernel
theorem dX1_measure_78 : decode cX1_measure 78 = .ok (.getfield 39, 3) := by decide +kernel
theorem dX1_measure_81 : decode cX1_measure 81 = .ok (.invokevirtual 44, 3) := by decide +kernel
theorem dX1_measure_84 : decode cX1_measure 84 = .ok (.iinc 6 1, 3) := by decide +kernel
theorem dX1_measure_87 : decode cX1_measure 87 = .ok (.goto (-60), 3) := by decide +kernel
theorem dX1_measure_90 : decode cX1_measure 90 = .ok (.iinc 5 1, 3) := by decide +kernel
theorem dX1_measure_93 : decode cX1_measure 93 = .ok (.goto (-82), 3) := by decide +kernel
theorem dX1_measure_96 : decode cX1_measure 96 = .ok (.return_, 1) := by decide +kernel
set_option maxRecDepth 20000 in
theorem ggX1_measurePiece_X1_worthOf : GoodIn wsX1_measurePiece wsX1_worthOf := goodIn_r _ [9, 2, 10, 11, 8, 12, 16, 17, 18, 19, 20] (by decide +kernel) (by decide +kernel)
set_option maxRecDepth 20000 in
theorem gX1_measurePiece_X1_worthOf : GoodIn wsX1_measurePiece (wsV RX1 48 RX1 yX1_worthOf wsX1_worthOf) := goodIn_app (goodIn_of _ (by decide +kernel)) ggX1_measurePiece_X1_worthOf
set_option maxRecDepth 20000 in
theorem ggX1_measurePiece_X1_write : GoodIn wsX1_measurePiece wsX1_write := goodIn_r _ [15] (by decide +kernel) (by decide +kernel)
set_option maxRecDepth 20000 in
theorem gX1_measurePiece_X1_write : GoodIn wsX1_measurePiece (va_wsS RX1 52 yX1_write wsX1_write) := goodIn_app (goodIn_of _ (by decide +kernel)) ggX1_measurePiece_X1_write
theorem dX1_measurePiece_0 : decode cX1_measurePiece 0 = .ok (.iload 4, 2) := by decide +kernel
theorem dX1_measurePiece_2 : decode cX1_measurePiece 2 = .ok (.istore 5, 2) := by decide +kernel
theorem dX1_measurePiece_4 : decode cX1_measurePiece 4 = .ok (.iconst (-1), 1) := by decide +kernel
theorem dX1_measurePiece_5 : decode cX1_measurePiece 5 = .ok (.istore 6, 2) := by decide +kernel
theorem dX1_measurePiece_7 : decode cX1_measurePiece 7 = .ok (.iload_n 1, 1) := by decide +kernel
theorem dX1_measurePiece_8 : decode cX1_measurePiece 8 = .ok (.aload_n 0, 1) := by decide +kernel
theorem dX1_measurePiece_9 : decode cX1_measurePiece 9 = .ok (.getfield 30, 3) := by decide +kernel
theorem dX1_measurePiece_12 : decode cX1_measurePiece 12 = .ok (.isub, 1) := by decide +kernel
theorem dX1_measurePiece_13 : decode cX1_measurePiece 13 = .ok (.iconst 2, 1) := by decide +kernel
theorem dX1_measurePiece_14 : decode cX1_measurePiece 14 = .ok (.idiv, 1) := by decide +kernel
theorem dX1_measurePiece_15 : decode cX1_measurePiece 15 = .ok (.istore 7, 2) := by decide +kernel
theorem dX1_measurePiece_17 : decode cX1_measurePiece 17 = .ok (.iload_n 2, 1) := by decide +kernel
theorem dX1_measurePiece_18 : decode cX1_measurePiece 18 = .ok (.aload_n 0, 1) := by decide +kernel
theorem dX1_measurePiece_19 : decode cX1_measurePiece 19 = .ok (.getfield 30, 3) := by decide +kernel
theorem dX1_measurePiece_22 : decode cX1_measurePiece 22 = .ok (.isub, 1) := by decide +kernel
theorem dX1_measurePiece_23 : decode cX1_measurePiece 23 = .ok (.iconst 2, 1) := by decide +kernel
theorem dX1_measurePiece_24 : decode cX1_measurePiece 24 = .ok (.idiv, 1) := by decide +kernel
theorem dX1_measurePiece_25 : decode cX1_measurePiece 25 = .ok (.istore 8, 2) := by decide +kernel
theorem dX1_measurePiece_27 : decode cX1_measurePiece 27 = .ok (.iconst 1, 1) := by decide +kernel
theorem dX1_measurePiece_28 : decode cX1_measurePiece 28 = .ok (.istore 9, 2) := by decide +kernel
theorem dX1_measurePiece_30 : decode cX1_measurePiece 30 = .ok (.iload 9, 2) := by decide +kernel
theorem dX1_measurePiece_32 : decode cX1_measurePiece 32 = .ok (.iload 7, 2) := by decide +kernel
theorem dX1_measurePiece_34 : decode cX1_measurePiece 34 = .ok (.if_icmp .gt 48, 3) := by decide +kernel
theorem dX1_measurePiece_37 : decode cX1_measurePiece 37 = .ok (.aload_n 0, 1) := by decide +kernel
theorem dX1_measurePiece_38 : decode cX1_measurePiece 38 = .ok (.iload 9, 2) := by decide +kernel
theorem dX1_measurePiece_40 : decode cX1_measurePiece 40 = .ok (.iload_n 2, 1) := by decide +kernel
theorem dX1_measurePiece_41 : decode cX1_measurePiece 41 = .ok (.invokevirtual 48, 3) := by decide +kernel
theorem dX1_measurePiece_44 : decode cX1_measurePiece 44 = .ok (.aload_n 0, 1) := by decide +kernel
theorem dX1_measurePiece_45 : decode cX1_measurePiece 45 = .ok (.iload_n 1, 1) := by decide +kernel
theorem dX1_measurePiece_46 : decode cX1_measurePiece 46 = .ok (.aload_n 0, 1) := by decide +kernel
theorem dX1_measurePiece_47 : decode cX1_measurePiece 47 = .ok (.getfield 30, 3) := by decide +kernel
theorem dX1_measurePiece_50 : decode cX1_measurePiece 50 = .ok (.isub, 1) := by decide +kernel
theorem dX1_measurePiece_51 : decode cX1_measurePiece 51 = .ok (.iload 9, 2) := by decide +kernel
theorem dX1_measurePiece_53 : decode cX1_measurePiece 53 = .ok (.isub, 1) := by decide +kernel
theorem dX1_measurePiece_54 : decode cX1_measurePiece 54 = .ok (.iload_n 2, 1) := by decide +kernel
theorem dX1_measurePiece_55 : decode cX1_measurePiece 55 = .ok (.invokevirtual 48, 3) := by decide +kernel
theorem dX1_measurePiece_58 : decode cX1_measurePiece 58 = .ok (.iadd, 1) := by decide +kernel
theorem dX1_measurePiece_59 : decode cX1_measurePiece 59 = .ok (.istore 10, 2) := by decide +kernel
theorem dX1_measurePiece_61 : decode cX1_measurePiece 61 = .ok (.iload 10, 2) := by decide +kernel
theorem dX1_measurePiece_63 : decode cX1_measurePiece 63 = .ok (.iload 5, 2) := by decide +kernel
theorem dX1_measurePiece_65 : decode cX1_measurePiece 65 = .ok (.if_icmp .le 11, 3) := by decide +kernel
theorem dX1_measurePiece_68 : decode cX1_measurePiece 68 = .ok (.iload 10, 2) := by decide +kernel
theorem dX1_measurePiece_70 : decode cX1_measurePiece 70 = .ok (.istore 5, 2) := by decide +kernel
theorem dX1_measurePiece_72 : decode cX1_measurePiece 72 = .ok (.iload 9, 2) := by decide +kernel
theorem dX1_measurePiece_74 : decode cX1_measurePiece 74 = .ok (.istore 6, 2) := by decide +kernel
theorem dX1_measurePiece_76 : decode cX1_measurePiece 76 = .ok (.iinc 9 1, 3) := by decide +kernel
theorem dX1_measurePiece_79 : decode cX1_measurePiece 79 = .ok (.goto (-49), 3) := by decide +kernel
theorem dX1_measurePiece_82 : decode cX1_measurePiece 82 = .ok (.iconst 1, 1) := by decide +kernel
theorem dX1_measurePiece_83 : decode cX1_measurePiece 83 = .ok (.istore 9, 2) := by decide +kernel
theorem dX1_measurePiece_85 : decode cX1_measurePiece 85 = .ok (.iload 9, 2) := by decide +kernel
theorem dX1_measurePiece_87 : decode cX1_measurePiece 87 = .ok (.iload 8, 2) := by decide +kernel
theorem dX1_measurePiece_89 : decode cX1_measurePiece 89 = .ok (.if_icmp .gt 51, 3) := by decide +kernel
theorem dX1_measurePiece_92 : decode cX1_measurePiece 92 = .ok (.aload_n 0, 1) := by decide +kernel
theorem dX1_measurePiece_93 : decode cX1_measurePiece 93 = .ok (.iload_n 1, 1) := by decide +kernel
theorem dX1_measurePiece_94 : decode cX1_measurePiece 94 = .ok (.iload 9, 2) := by decide +kernel
theorem dX1_measurePiece_96 : decode cX1_measurePiece 96 = .ok (.invokevirtual 48, 3) := by decide +kernel
theorem dX1_measurePiece_99 : decode cX1_measurePiece 99 = .ok (.aload_n 0, 1) := by decide +kernel
theorem dX1_measurePiece_100 : decode cX1_measurePiece 100 = .ok (.iload_n 1, 1) := by decide +kernel
theorem dX1_measurePiece_101 : decode cX1_measurePiece 101 = .ok (.iload_n 2, 1) := by decide +kernel
theorem dX1_measurePiece_102 : decode cX1_measurePiece 102 = .ok (.aload_n 0, 1) := by decide +kernel
theorem dX1_measurePiece_103 : decode cX1_measurePiece 103 = .ok (.getfield 30, 3) := by decide +kernel
theorem dX1_measurePiece_106 : decode cX1_measurePiece 106 = .ok (.isub, 1) := by decide +kernel
theorem dX1_measurePiece_107 : decode cX1_measurePiece 107 = .ok (.iload 9, 2) := by decide +kernel
theorem dX1_measurePiece_109 : decode cX1_measurePiece 109 = .ok (.isub, 1) := by decide +kernel
theorem dX1_measurePiece_110 : decode cX1_measurePiece 110 = .ok (.invokevirtual 48, 3) := by decide +kernel
theorem dX1_measurePiece_113 : decode cX1_measurePiece 113 = .ok (.iadd, 1) := by decide +kernel
theorem dX1_measurePiece_114 : decode cX1_measurePiece 114 = .ok (.istore 10, 2) := by decide +kernel
theorem dX1_measurePiece_116 : decode cX1_measurePiece 116 = .ok (.iload 10, 2) := by decide +kernel
theorem dX1_measurePiece_118 : decode cX1_measurePiece 118 = .ok (.iload 5, 2) := by decide +kernel
theorem dX1_measurePiece_120 : decode cX1_measurePiece 120 = .ok (.if_icmp .le 14, 3) := by decide +kernel
theorem dX1_measurePiece_123 : decode cX1_measurePiece 123 = .ok (.iload 10, 2) := by decide +kernel
theorem dX1_measurePiece_125 : decode cX1_measurePiece 125 = .ok (.istore 5, 2) := by decide +kernel
theorem dX1_measurePiece_127 : decode cX1_measurePiece 127 = .ok (.bipush 100, 2) := by decide +kernel
theorem dX1_measurePiece_129 : decode cX1_measurePiece 129 = .ok (.iload 9, 2) := by decide +kernel
theorem dX1_measurePiece_131 : decode cX1_measurePiece 131 = .ok (.iadd, 1) := by decide +kernel
theorem dX1_measurePiece_132 : decode cX1_measurePiece 132 = .ok (.istore 6, 2) := by decide +kernel
theorem dX1_measurePiece_134 : decode cX1_measurePiece 134 = .ok (.iinc 9 1, 3) := by decide +kernel
theorem dX1_measurePiece_137 : decode cX1_measurePiece 137 = .ok (.goto (-52), 3) := by decide +kernel
theorem dX1_measurePiece_140 : decode cX1_measurePiece 140 = .ok (.aload_n 0, 1) := by decide +kernel
theorem dX1_measurePiece_141 : decode cX1_measurePiece 141 = .ok (.getfield 9, 3) := by decide +kernel
theorem dX1_measurePiece_144 : decode cX1_measurePiece 144 = .ok (.iload_n 1, 1) := by decide +kernel
theorem dX1_measurePiece_145 : decode cX1_measurePiece 145 = .ok (.iload_n 2, 1) := by decide +kernel
theorem dX1_measurePiece_146 : decode cX1_measurePiece 146 = .ok (.iload 5, 2) := by decide +kernel
theorem dX1_measurePiece_148 : decode cX1_measurePiece 148 = .ok (.invokestatic 52, 3) := by decide +kernel
theorem dX1_measurePiece_151 : decode cX1_measurePiece 151 = .ok (.aload_n 0, 1) := by decide +kernel
theorem dX1_measurePiece_152 : decode cX1_measurePiece 152 = .ok (.getfield 15, 3) := by decide +kernel
theorem dX1_measurePiece_155 : decode cX1_measurePiece 155 = .ok (.iload_n 1, 1) := by decide +kernel
theorem dX1_measurePiece_156 : decode cX1_measurePiece 156 = .ok (.iload_n 2, 1) := by decide +kernel
theorem dX1_measurePiece_157 : decode cX1_measurePiece 157 = .ok (.iload 6, 2) := by decide +kernel
theorem dX1_measurePiece_159 : decode cX1_measurePiece 159 = .ok (.invokestatic 52, 3) := by decide +kernel
theorem dX1_measurePiece_162 : decode cX1_measurePiece 162 = .ok (.aload_n 0, 1) := by decide +kernel
theorem dX1_measurePiece_163 : decode cX1_measurePiece 163 = .ok (.getfield 18, 3) := by decide +kernel
theorem dX1_measurePiece_166 : decode cX1_measurePiece 166 = .ok (.iload_n 1, 1) := by decide +kernel
theorem dX1_measurePiece_167 : decode cX1_measurePiece 167 = .ok (.iload_n 2, 1) := by decide +kernel
theorem dX1_measurePiece_168 : decode cX1_measurePiece 168 = .ok (.iload 6, 2) := by decide +kernel
theorem dX1_measurePiece_170 : decode cX1_measurePiece 170 = .ok (.iconst (-1), 1) := by decide +kernel
theorem dX1_measurePiece_171 : decode cX1_measurePiece 171 = .ok (.if_icmp .ne 7, 3) := by decide +kernel
theorem dX1_measurePiece_174 : decode cX1_measurePiece 174 = .ok (.iload_n 3, 1) := by decide +kernel
theorem dX1_measurePiece_175 : decode cX1_measurePiece 175 = .ok (.goto 4, 3) := by decide +kernel
theorem dX1_measurePiece_178 : decode cX1_measurePiece 178 = .ok (.iconst (-1), 1) := by decide +kernel
theorem dX1_measurePiece_179 : decode cX1_measurePiece 179 = .ok (.invokestatic 52, 3) := by decide +kernel
theorem dX1_measurePiece_182 : decode cX1_measurePiece 182 = .ok (.return_, 1) := by decide +kernel
set_option maxRecDepth 20000 in
theorem ggX1_worthOf_X1_read : GoodIn wsX1_worthOf wsX1_read := goodIn_r _ [5] (by decide +kernel) (by decide +kernel)
set_option maxRecDepth 20000 in
theorem gX1_worthOf_X1_read : GoodIn wsX1_worthOf (va_wsS RX1 56 yX1_read wsX1_read) := goodIn_app (goodIn_of _ (by decide +kernel)) ggX1_worthOf_X1_read
theorem dX1_worthOf_0 : decode cX1_worthOf 0 = .ok (.aload_n 0, 1) := by decide +kernel
theorem dX1_worthOf_1 : decode cX1_worthOf 1 = .ok (.getfield 9, 3) := by decide +kernel
theorem dX1_worthOf_4 : decode cX1_worthOf 4 = .ok (.iload_n 1, 1) := by decide +kernel
theorem dX1_worthOf_5 : decode cX1_worthOf 5 = .ok (.iload_n 2, 1) := by decide +kernel
theorem dX1_worthOf_6 : decode cX1_worthOf 6 = .ok (.invokestatic 56, 3) := by decide +kernel
theorem dX1_worthOf_9 : decode cX1_worthOf 9 = .ok (.ireturn, 1) := by decide +kernel
set_option maxRecDepth 20000 in
theorem ggX1_cutOf_X1_read : GoodIn wsX1_cutOf wsX1_read := goodIn_r _ [5] (by decide +kernel) (by decide +kernel)
set_option maxRecDepth 20000 in
theorem gX1_cutOf_X1_read : GoodIn wsX1_cutOf (va_wsS RX1 56 yX1_read wsX1_read) := goodIn_app (goodIn_of _ (by decide +kernel)) ggX1_cutOf_X1_read
theorem dX1_cutOf_0 : decode cX1_cutOf 0 = .ok (.aload_n 0, 1) := by decide +kernel
theorem dX1_cutOf_1 : decode cX1_cutOf 1 = .ok (.getfield 15, 3) := by decide +kernel
theorem dX1_cutOf_4 : decode cX1_cutOf 4 = .ok (.iload_n 1, 1) := by decide +kernel
theorem dX1_cutOf_5 : decode cX1_cutOf 5 = .ok (.iload_n 2, 1) := by decide +kernel
theorem dX1_cutOf_6 : decode cX1_cutOf 6 = .ok (.invokestatic 56, 3) := by decide +kernel
theorem dX1_cutOf_9 : decode cX1_cutOf 9 = .ok (.ireturn, 1) := by decide +kernel
set_option maxRecDepth 20000 in
theorem ggX1_countStones_X1_countInPiece : GoodIn wsX1_countStones wsX1_countInPiece := goodIn_r _ [6, 7, 1, 8, 9, 10, 11, 5, 12, 13, 14, 15, 16, 20, 21, 22, 23, 24] (by decide +kernel) (by decide +kernel)
set_option maxRecDepth 20000 in
theorem gX1_countStones_X1_countInPiece : GoodIn wsX1_countStones (wsV RX1 60 RX1 yX1_countInPiece wsX1_countInPiece) := goodIn_app (goodIn_of _ (by decide +kernel)) ggX1_countStones_X1_countInPiece
set_option maxRecDepth 20000 in
theorem ggX1_countStones_X1_write : GoodIn wsX1_countStones wsX1_write := goodIn_r _ [19] (by decide +kernel) (by decide +kernel)
set_option maxRecDepth 20000 in
theorem gX1_countStones_X1_write : GoodIn wsX1_countStones (va_wsS RX1 52 yX1_write wsX1_write) := goodIn_app (goodIn_of _ (by decide +kernel)) ggX1_countStones_X1_write
set_option maxRecDepth 20000 in
theorem ggX1_countStones_X1_read : GoodIn wsX1_countStones wsX1_read := goodIn_r _ [16] (by decide +kernel) (by decide +kernel)
set_option maxRecDepth 20000 in
theorem gX1_countStones_X1_read : GoodIn wsX1_countStones (va_wsS RX1 56 yX1_read wsX1_read) := goodIn_app (goodIn_of _ (by decide +kernel)) ggX1_countStones_X1_read
theorem dX1_countStones_0 : decode cX1_countStones 0 = .ok (.iconst 1, 1) := by decide +kernel
theorem dX1_countStones_1 : decode cX1_countStones 1 = .ok (.istore 4, 2) := by decide +kernel
theorem dX1_countStones_3 : decode cX1_countStones 3 = .ok (.iload 4, 2) := by decide +kernel
theorem dX1_countStones_5 : decode cX1_countStones 5 = .ok (.iload_n 1, 1) := by decide +kernel
theorem dX1_countStones_6 : decode cX1_countStones 6 = .ok (.if_icmp .gt 58, 3) := by decide +kernel
theorem dX1_countStones_9 : decode cX1_countStones 9 = .ok (.iload 4, 2) := by decide +kernel
theorem dX1_countStones_11 : decode cX1_countStones 11 = .ok (.bipush 24, 2) := by decide +kernel
theorem dX1_countStones_13 : decode cX1_countStones 13 = .ok (.if_icmp .gt 51, 3) := by decide +kernel
theorem dX1_countStones_16 : decode cX1_countStones 16 = .ok (.iconst 1, 1) := by decide +kernel
theorem dX1_countStones_17 : decode cX1_countStones 17 = .ok (.istore 5, 2) := by decide +kernel
theorem dX1_countStones_19 : decode cX1_countStones 19 = .ok (.iload 5, 2) := by decide +kernel
theorem dX1_countStones_21 : decode cX1_countStones 21 = .ok (.iload_n 2, 1) := by decide +kernel
theorem dX1_countStones_22 : decode cX1_countStones 22 = .ok (.if_icmp .gt 36, 3) := by decide +kernel
theorem dX1_countStones_25 : decode cX1_countStones 25 = .ok (.iload 5, 2) := by decide +kernel
theorem dX1_countStones_27 : decode cX1_countStones 27 = .ok (.bipush 24, 2) := by decide +kernel
theorem dX1_countStones_29 : decode cX1_countStones 29 = .ok (.if_icmp .gt 29, 3) := by decide +kernel
theorem dX1_countStones_32 : decode cX1_countStones 32 = .ok (.aload_n 0, 1) := by decide +kernel
theorem dX1_countStones_33 : decode cX1_countStones 33 = .ok (.getfield 21, 3) := by decide +kernel
theorem dX1_countStones_36 : decode cX1_countStones 36 = .ok (.iload 4, 2) := by decide +kernel
theorem dX1_countStones_38 : decode cX1_countStones 38 = .ok (.iload 5, 2) := by decide +kernel
theorem dX1_countStones_40 : decode cX1_countStones 40 = .ok (.aload_n 0, 1) := by decide +kernel
theorem dX1_countStones_41 : decode cX1_countStones 41 = .ok (.iload 4, 2) := by decide +kernel
theorem dX1_countStones_43 : decode cX1_countStones 43 = .ok (.iload 5, 2) := by decide +kernel
theorem dX1_countStones_45 : decode cX1_countStones 45 = .ok (.iload_n 3, 1) := by decide +kernel
theorem dX1_countStones_46 : decode cX1_countStones 46 = .ok (.invokevirtual 60, 3) := by decide +kernel
theorem dX1_countStones_49 : decode cX1_countStones 49 = .ok (.invokestatic 52, 3) := by decide +kernel
theorem dX1_countStones_52 : decode cX1_countStones 52 = .ok (.iinc 5 1, 3) := by decide +kernel
theorem dX1_countStones_55 : decode cX1_countStones 55 = .ok (.goto (-36), 3) := by decide +kernel
theorem dX1_countStones_58 : decode cX1_countStones 58 = .ok (.iinc 4 1, 3) := by decide +kernel
theorem dX1_countStones_61 : decode cX1_countStones 61 = .ok (.goto (-58), 3) := by decide +kernel
theorem dX1_countStones_64 : decode cX1_countStones 64 = .ok (.aload_n 0, 1) := by decide +kernel
theorem dX1_countStones_65 : decode cX1_countStones 65 = .ok (.getfield 21, 3) := by decide +kernel
theorem dX1_countStones_68 : decode cX1_countStones 68 = .ok (.iload_n 1, 1) := by decide +kernel
theorem dX1_countStones_69 : decode cX1_countStones 69 = .ok (.iload_n 2, 1) := by decide +kernel
theorem dX1_countStones_70 : decode cX1_countStones 70 = .ok (.invokestatic 56, 3) := by decide +kernel
theorem dX1_countStones_73 : decode cX1_countStones 73 = .ok (.ireturn, 1) := by decide +kernel
set_option maxRecDepth 20000 in
theorem ggX1_countInPiece_X1_cutOf : GoodIn wsX1_countInPiece wsX1_cutOf := goodIn_r _ [8, 9, 10, 11, 7, 12, 13, 14, 15, 16, 17] (by decide +kernel) (by decide +kernel)
set_option maxRecDepth 20000 in
theorem gX1_countInPiece_X1_cutOf : GoodIn wsX1_countInPiece (wsV RX1 63 RX1 yX1_cutOf wsX1_cutOf) := goodIn_app (goodIn_of _ (by decide +kernel)) ggX1_countInPiece_X1_cutOf
set_option maxRecDepth 20000 in
theorem ggX1_countInPiece_X1_read : GoodIn wsX1_countInPiece wsX1_read := goodIn_r _ [12] (by decide +kernel) (by decide +kernel)
set_option maxRecDepth 20000 in
theorem gX1_countInPiece_X1_read : GoodIn wsX1_countInPiece (va_wsS RX1 56 yX1_read wsX1_read) := goodIn_app (goodIn_of _ (by decide +kernel)) ggX1_countInPiece_X1_read
theorem dX1_countInPiece_0 : decode cX1_countInPiece 0 = .ok (.aload_n 0, 1) := by decide +kernel
theorem dX1_countInPiece_1 : decode cX1_countInPiece 1 = .ok (.iload_n 1, 1) := by decide +kernel
theorem dX1_countInPiece_2 : decode cX1_countInPiece 2 = .ok (.iload_n 2, 1) := by decide +kernel
theorem dX1_countInPiece_3 : decode cX1_countInPiece 3 = .ok (.invokevirtual 63, 3) := by decide +kernel
theorem dX1_countInPiece_6 : decode cX1_countInPiece 6 = .ok (.istore 4, 2) := by decide +kernel
theorem dX1_countInPiece_8 : decode cX1_countInPiece 8 = .ok (.iload 4, 2) := by decide +kernel
theorem dX1_countInPiece_10 : decode cX1_countInPiece 10 = .ok (.iconst (-1), 1) := by decide +kernel
theorem dX1_countInPiece_11 : decode cX1_countInPiece 11 = .ok (.if_icmp .ne 22, 3) := by decide +kernel
theorem dX1_countInPiece_14 : decode cX1_countInPiece 14 = .ok (.aload_n 0, 1) := by decide +kernel
theorem dX1_countInPiece_15 : decode cX1_countInPiece 15 = .ok (.getfield 18, 3) := by decide +kernel
theorem dX1_countInPiece_18 : decode cX1_countInPiece 18 = .ok (.iload_n 1, 1) := by decide +kernel
theorem dX1_countInPiece_19 : decode cX1_countInPiece 19 = .ok (.iload_n 2, 1) := by decide +kernel
theorem dX1_countInPiece_20 : decode cX1_countInPiece 20 = .ok (.invokestatic 56, 3) := by decide +kernel
theorem dX1_countInPiece_23 : decode cX1_countInPiece 23 = .ok (.iload_n 3, 1) := by decide +kernel
theorem dX1_countInPiece_24 : decode cX1_countInPiece 24 = .ok (.if_icmp .ne 7, 3) := by decide +kernel
theorem dX1_countInPiece_27 : decode cX1_countInPiece 27 = .ok (.iconst 1, 1) := by decide +kernel
theorem dX1_countInPiece_28 : decode cX1_countInPiece 28 = .ok (.goto 4, 3) := by decide +kernel
theorem dX1_countInPiece_31 : decode cX1_countInPiece 31 = .ok (.iconst 0, 1) := by decide +kernel
theorem dX1_countInPiece_32 : decode cX1_countInPiece 32 = .ok (.ireturn, 1) := by decide +kernel
theorem dX1_countInPiece_33 : decode cX1_countInPiece 33 = .ok (.iload 4, 2) := by decide +kernel
theorem dX1_countInPiece_35 : decode cX1_countInPiece 35 = .ok (.bipush 100, 2) := by decide +kernel
theorem dX1_countInPiece_37 : decode cX1_countInPiece 37 = .ok (.if_icmp .ge 32, 3) := by decide +kernel
theorem dX1_countInPiece_40 : decode cX1_countInPiece 40 = .ok (.aload_n 0, 1) := by decide +kernel
theorem dX1_countInPiece_41 : decode cX1_countInPiece 41 = .ok (.getfield 21, 3) := by decide +kernel
theorem dX1_countInPiece_44 : decode cX1_countInPiece 44 = .ok (.iload 4, 2) := by decide +kernel
theorem dX1_countInPiece_46 : decode cX1_countInPiece 46 = .ok (.iload_n 2, 1) := by decide +kernel
theorem dX1_countInPiece_47 : decode cX1_countInPiece 47 = .ok (.invokestatic 56, 3) := by decide +kernel
theorem dX1_countInPiece_50 : decode cX1_countInPiece 50 = .ok (.aload_n 0, 1) := by decide +kernel
theorem dX1_countInPiece_51 : decode cX1_countInPiece 51 = .ok (.getfield 21, 3) := by decide +kernel
theorem dX1_countInPiece_54 : decode cX1_countInPiece 54 = .ok (.iload_n 1, 1) := by decide +kernel
theorem dX1_countInPiece_55 : decode cX1_countInPiece 55 = .ok (.aload_n 0, 1) := by decide +kernel
theorem dX1_countInPiece_56 : decode cX1_countInPiece 56 = .ok (.getfield 30, 3) := by decide +kernel
theorem dX1_countInPiece_59 : decode cX1_countInPiece 59 = .ok (.isub, 1) := by decide +kernel
theorem dX1_countInPiece_60 : decode cX1_countInPiece 60 = .ok (.iload 4, 2) := by decide +kernel
theorem dX1_countInPiece_62 : decode cX1_countInPiece 62 = .ok (.isub, 1) := by decide +kernel
theorem dX1_countInPiece_63 : decode cX1_countInPiece 63 = .ok (.iload_n 2, 1) := by decide +kernel
theorem dX1_countInPiece_64 : decode cX1_countInPiece 64 = .ok (.invokestatic 56, 3) := by decide +kernel
theorem dX1_countInPiece_67 : decode cX1_countInPiece 67 = .ok (.iadd, 1) := by decide +kernel
theorem dX1_countInPiece_68 : decode cX1_countInPiece 68 = .ok (.ireturn, 1) := by decide +kernel
theorem dX1_countInPiece_69 : decode cX1_countInPiece 69 = .ok (.iload 4, 2) := by decide +kernel
theorem dX1_countInPiece_71 : decode cX1_countInPiece 71 = .ok (.bipush 100, 2) := by decide +kernel
theorem dX1_countInPiece_73 : decode cX1_countInPiece 73 = .ok (.isub, 1) := by decide +kernel
theorem dX1_countInPiece_74 : decode cX1_countInPiece 74 = .ok (.istore 5, 2) := by decide +kernel
theorem dX1_countInPiece_76 : decode cX1_countInPiece 76 = .ok (.aload_n 0, 1) := by decide +kernel
theorem dX1_countInPiece_77 : decode cX1_countInPiece 77 = .ok (.getfield 21, 3) := by decide +kernel
theorem dX1_countInPiece_80 : decode cX1_countInPiece 80 = .ok (.iload_n 1, 1) := by decide +kernel
theorem dX1_countInPiece_81 : decode cX1_countInPiece 81 = .ok (.iload 5, 2) := by decide +kernel
theorem dX1_countInPiece_83 : decode cX1_countInPiece 83 = .ok (.invokestatic 56, 3) := by decide +kernel
theorem dX1_countInPiece_86 : decode cX1_countInPiece 86 = .ok (.aload_n 0, 1) := by decide +kernel
theorem dX1_countInPiece_87 : decode cX1_countInPiece 87 = .ok (.getfield 21, 3) := by decide +kernel
theorem dX1_countInPiece_90 : decode cX1_countInPiece 90 = .ok (.iload_n 1, 1) := by decide +kernel
theorem dX1_countInPiece_91 : decode cX1_countInPiece 91 = .ok (.iload_n 2, 1) := by decide +kernel
theorem dX1_countInPiece_92 : decode cX1_countInPiece 92 = .ok (.aload_n 0, 1) := by decide +kernel
theorem dX1_countInPiece_93 : decode cX1_countInPiece 93 = .ok (.getfield 30, 3) := by decide +kernel
theorem dX1_countInPiece_96 : decode cX1_countInPiece 96 = .ok (.isub, 1) := by decide +kernel
theorem dX1_countInPiece_97 : decode cX1_countInPiece 97 = .ok (.iload 5, 2) := by decide +kernel
theorem dX1_countInPiece_99 : decode cX1_countInPiece 99 = .ok (.isub, 1) := by decide +kernel
theorem dX1_countInPiece_100 : decode cX1_countInPiece 100 = .ok (.invokestatic 56, 3) := by decide +kernel
theorem dX1_countInPiece_103 : decode cX1_countInPiece 103 = .ok (.iadd, 1) := by decide +kernel
theorem dX1_countInPiece_104 : decode cX1_countInPiece 104 = .ok (.ireturn, 1) := by decide +kernel
theorem dX1_read_0 : decode cX1_read 0 = .ok (.iload_n 1, 1) := by decide +kernel
theorem dX1_read_1 : decode cX1_read 1 = .ok (.bipush 25, 2) := by decide +kernel
theorem dX1_read_3 : decode cX1_read 3 = .ok (.imul, 1) := by decide +kernel
theorem dX1_read_4 : decode cX1_read 4 = .ok (.iload_n 2, 1) := by decide +kernel
theorem dX1_read_5 : decode cX1_read 5 = .ok (.iadd, 1) := by decide +kernel
theorem dX1_read_6 : decode cX1_read 6 = .ok (.istore_n 3, 1) := by decide +kernel
theorem dX1_read_7 : decode cX1_read 7 = .ok (.iload_n 3, 1) := by decide +kernel
theorem dX1_read_8 : decode cX1_read 8 = .ok (.ifCond .lt 15, 3) := by decide +kernel
theorem dX1_read_11 : decode cX1_read 11 = .ok (.iload_n 3, 1) := by decide +kernel
theorem dX1_read_12 : decode cX1_read 12 = .ok (.aload_n 0, 1) := by decide +kernel
theorem dX1_read_13 : decode cX1_read 13 = .ok (.arraylength, 1) := by decide +kernel
theorem dX1_read_14 : decode cX1_read 14 = .ok (.if_icmp .ge 9, 3) := by decide +kernel
theorem dX1_read_17 : decode cX1_read 17 = .ok (.aload_n 0, 1) := by decide +kernel
theorem dX1_read_18 : decode cX1_read 18 = .ok (.iload_n 3, 1) := by decide +kernel
theorem dX1_read_19 : decode cX1_read 19 = .ok (.iaload, 1) := by decide +kernel
theorem dX1_read_20 : decode cX1_read 20 = .ok (.goto 4, 3) := by decide +kernel
theorem dX1_read_23 : decode cX1_read 23 = .ok (.iconst 0, 1) := by decide +kernel
theorem dX1_read_24 : decode cX1_read 24 = .ok (.ireturn, 1) := by decide +kernel
theorem dX1_write_0 : decode cX1_write 0 = .ok (.iload_n 1, 1) := by decide +kernel
theorem dX1_write_1 : decode cX1_write 1 = .ok (.bipush 25, 2) := by decide +kernel
theorem dX1_write_3 : decode cX1_write 3 = .ok (.imul, 1) := by decide +kernel
theorem dX1_write_4 : decode cX1_write 4 = .ok (.iload_n 2, 1) := by decide +kernel
theorem dX1_write_5 : decode cX1_write 5 = .ok (.iadd, 1) := by decide +kernel
theorem dX1_write_6 : decode cX1_write 6 = .ok (.istore 4, 2) := by decide +kernel
theorem dX1_write_8 : decode cX1_write 8 = .ok (.iload 4, 2) := by decide +kernel
theorem dX1_write_10 : decode cX1_write 10 = .ok (.ifCond .lt 15, 3) := by decide +kernel
theorem dX1_write_13 : decode cX1_write 13 = .ok (.iload 4, 2) := by decide +kernel
theorem dX1_write_15 : decode cX1_write 15 = .ok (.aload_n 0, 1) := by decide +kernel
theorem dX1_write_16 : decode cX1_write 16 = .ok (.arraylength, 1) := by decide +kernel
theorem dX1_write_17 : decode cX1_write 17 = .ok (.if_icmp .ge 8, 3) := by decide +kernel
theorem dX1_write_20 : decode cX1_write 20 = .ok (.aload_n 0, 1) := by decide +kernel
theorem dX1_write_21 : decode cX1_write 21 = .ok (.iload 4, 2) := by decide +kernel
theorem dX1_write_23 : decode cX1_write 23 = .ok (.iload_n 3, 1) := by decide +kernel
theorem dX1_write_24 : decode cX1_write 24 = .ok (.iastore, 1) := by decide +kernel
theorem dX1_write_25 : decode cX1_write 25 = .ok (.return_, 1) := by decide +kernel
theorem dX2_init_0 : decode cX2_init 0 = .ok (.aload_n 0, 1) := by decide +kernel
theorem dX2_init_1 : decode cX2_init 1 = .ok (.invokespecial 3, 3) := by decide +kernel
theorem dX2_init_4 : decode cX2_init 4 = .ok (.aload_n 0, 1) := by decide +kernel
theorem dX2_init_5 : decode cX2_init 5 = .ok (.bipush 6, 2) := by decide +kernel
theorem dX2_init_7 : decode cX2_init 7 = .ok (.newarray .int, 2) := by decide +kernel
theorem dX2_init_9 : decode cX2_init 9 = .ok (.putfield 9, 3) := by decide +kernel
theorem dX2_init_12 : decode cX2_init 12 = .ok (.return_, 1) := by decide +kernel
theorem dX2_begin_0 : decode cX2_begin 0 = .ok (.aload_n 0, 1) := by decide +kernel
theorem dX2_begin_1 : decode cX2_begin 1 = .ok (.iload_n 1, 1) := by decide +kernel
theorem dX2_begin_2 : decode cX2_begin 2 = .ok (.putfield 15, 3) := by decide +kernel
theorem dX2_begin_5 : decode cX2_begin 5 = .ok (.aload_n 0, 1) := by decide +kernel
theorem dX2_begin_6 : decode cX2_begin 6 = .ok (.iload_n 2, 1) := by decide +kernel
theorem dX2_begin_7 : decode cX2_begin 7 = .ok (.putfield 19, 3) := by decide +kernel
theorem dX2_begin_10 : decode cX2_begin 10 = .ok (.aload_n 0, 1) := by decide +kernel
theorem dX2_begin_11 : decode cX2_begin 11 = .ok (.iload_n 3, 1) := by decide +kernel
theorem dX2_begin_12 : decode cX2_begin 12 = .ok (.putfield 22, 3) := by decide +kernel
theorem dX2_begin_15 : decode cX2_begin 15 = .ok (.aload_n 0, 1) := by decide +kernel
theorem dX2_begin_16 : decode cX2_begin 16 = .ok (.iload 4, 2) := by decide +kernel
theorem dX2_begin_18 : decode cX2_begin 18 = .ok (.putfield 25, 3) := by decide +kernel
theorem dX2_begin_21 : decode cX2_begin 21 = .ok (.aload_n 0, 1) := by decide +kernel
theorem dX2_begin_22 : decode cX2_begin 22 = .ok (.iconst 0, 1) := by decide +kernel
theorem dX2_begin_23 : decode cX2_begin 23 = .ok (.putfield 28, 3) := by decide +kernel
theorem dX2_begin_26 : decode cX2_begin 26 = .ok (.aload_n 0, 1) := by decide +kernel
theorem dX2_begin_27 : decode cX2_begin 27 = .ok (.iconst 0, 1) := by decide +kernel
theorem dX2_begin_28 : decode cX2_begin 28 = .ok (.putfield 31, 3) := by decide +kernel
theorem dX2_begin_31 : decode cX2_begin 31 = .ok (.return_, 1) := by decide +kernel
set_option maxRecDepth 20000 in
theorem ggX2_copyFrom_X2_begin : GoodIn wsX2_copyFrom wsX2_begin := goodIn_r _ [10, 1, 2, 3, 4, 5, 11, 21, 22, 23, 24, 25, 26, 27] (by decide +kernel) (by decide +kernel)
set_option maxRecDepth 20000 in
theorem gX2_copyFrom_X2_begin : GoodIn wsX2_copyFrom (wsV RX2 34 RX2 yX2_begin wsX2_begin) := goodIn_app (goodIn_of _ (by decide +kernel)) ggX2_copyFrom_X2_begin
set_option maxRecDepth 20000 in
theorem ggX2_copyFrom_X2_passFlaws : GoodIn wsX2_copyFrom wsX2_passFlaws := goodIn_r _ [15, 11, 16, 1, 2, 17, 18, 19, 9, 20, 21, 22, 23, 24, 25, 26, 27] (by decide +kernel) (by decide +kernel)
set_option maxRecDepth 20000 in
theorem gX2_copyFrom_X2_passFlaws : GoodIn wsX2_copyFrom (wsV RX2 38 RX2 yX2_passFlaws wsX2_passFlaws) := goodIn_app (goodIn_of _ (by decide +kernel)) ggX2_copyFrom_X2_passFlaws
theorem dX2_copyFrom_0 : decode cX2_copyFrom 0 = .ok (.aload_n 0, 1) := by decide +kernel
theorem dX2_copyFrom_1 : decode cX2_copyFrom 1 = .ok (.aload_n 1, 1) := by decide +kernel
theorem dX2_copyFrom_2 : decode cX2_copyFrom 2 = .ok (.getfield 15, 3) := by decide +kernel
theorem dX2_copyFrom_5 : decode cX2_copyFrom 5 = .ok (.aload_n 1, 1) := by decide +kernel
theorem dX2_copyFrom_6 : decode cX2_copyFrom 6 = .ok (.getfield 19, 3) := by decide +kernel
theorem dX2_copyFrom_9 : decode cX2_copyFrom 9 = .ok (.aload_n 1, 1) := by decide +kernel
theorem dX2_copyFrom_10 : decode cX2_copyFrom 10 = .ok (.getfield 22, 3) := by decide +kernel
theorem dX2_copyFrom_13 : decode cX2_copyFrom 13 = .ok (.aload_n 1, 1) := by decide +kernel
theorem dX2_copyFrom_14 : decode cX2_copyFrom 14 = .ok (.getfield 25, 3) := by decide +kernel
theorem dX2_copyFrom_17 : decode cX2_copyFrom 17 = .ok (.invokevirtual 34, 3) := by decide +kernel
theorem dX2_copyFrom_20 : decode cX2_copyFrom 20 = .ok (.aload_n 0, 1) := by decide +kernel
theorem dX2_copyFrom_21 : decode cX2_copyFrom 21 = .ok (.aload_n 1, 1) := by decide +kernel
theorem dX2_copyFrom_22 : decode cX2_copyFrom 22 = .ok (.getfield 28, 3) := by decide +kernel
theorem dX2_copyFrom_25 : decode cX2_copyFrom 25 = .ok (.putfield 28, 3) := by decide +kernel
theorem dX2_copyFrom_28 : decode cX2_copyFrom 28 = .ok (.aload_n 1, 1) := by decide +kernel
theorem dX2_copyFrom_29 : decode cX2_copyFrom 29 = .ok (.aload_n 0, 1) := by decide +kernel
theorem dX2_copyFrom_30 : decode cX2_copyFrom 30 = .ok (.iconst 0, 1) := by decide +kernel
theorem dX2_copyFrom_31 : decode cX2_copyFrom 31 = .ok (.iconst 0, 1) := by decide +kernel
theorem dX2_copyFrom_32 : decode cX2_copyFrom 32 = .ok (.invokevirtual 38, 3) := by decide +kernel
theorem dX2_copyFrom_35 : decode cX2_copyFrom 35 = .ok (.return_, 1) := by decide +kernel
theorem dX2_area_0 : decode cX2_area 0 = .ok (.aload_n 0, 1) := by decide +kernel
theorem dX2_area_1 : decode cX2_area 1 = .ok (.getfield 15, 3) := by decide +kernel
theorem dX2_area_4 : decode cX2_area 4 = .ok (.aload_n 0, 1) := by decide +kernel
theorem dX2_area_5 : decode cX2_area 5 = .ok (.getfield 19, 3) := by decide +kernel
theorem dX2_area_8 : decode cX2_area 8 = .ok (.imul, 1) := by decide +kernel
theorem dX2_area_9 : decode cX2_area 9 = .ok (.ireturn, 1) := by decide +kernel
theorem dX2_along_0 : decode cX2_along 0 = .ok (.iload_n 1, 1) := by decide +kernel
theorem dX2_along_1 : decode cX2_along 1 = .ok (.ifCond .eq 10, 3) := by decide +kernel
theorem dX2_along_4 : decode cX2_along 4 = .ok (.aload_n 0, 1) := by decide +kernel
theorem dX2_along_5 : decode cX2_along 5 = .ok (.getfield 15, 3) := by decide +kernel
theorem dX2_along_8 : decode cX2_along 8 = .ok (.goto 7, 3) := by decide +kernel
theorem dX2_along_11 : decode cX2_along 11 = .ok (.aload_n 0, 1) := by decide +kernel
theorem dX2_along_12 : decode cX2_along 12 = .ok (.getfield 19, 3) := by decide +kernel
theorem dX2_along_15 : decode cX2_along 15 = .ok (.ireturn, 1) := by decide +kernel
theorem dX2_addFlaw_0 : decode cX2_addFlaw 0 = .ok (.aload_n 0, 1) := by decide +kernel
theorem dX2_addFlaw_1 : decode cX2_addFlaw 1 = .ok (.getfield 31, 3) := by decide +kernel
theorem dX2_addFlaw_4 : decode cX2_addFlaw 4 = .ok (.ifCond .lt 40, 3) := by decide +kernel
theorem dX2_addFlaw_7 : decode cX2_addFlaw 7 = .ok (.aload_n 0, 1) := by decide +kernel
theorem dX2_addFlaw_8 : decode cX2_addFlaw 8 = .ok (.getfield 31, 3) := by decide +kernel
theorem dX2_addFlaw_11 : decode cX2_addFlaw 11 = .ok (.aload_n 0, 1) := by decide +kernel
theorem dX2_addFlaw_12 : decode cX2_addFlaw 12 = .ok (.getfield 9, 3) := by decide +kernel
theorem dX2_addFlaw_15 : decode cX2_addFlaw 15 = .ok (.arraylength, 1) := by decide +kernel
theorem dX2_addFlaw_16 : decode cX2_addFlaw 16 = .ok (.if_icmp .ge 28, 3) := by decide +kernel
theorem dX2_addFlaw_19 : decode cX2_addFlaw 19 = .ok (.aload_n 0, 1) := by decide +kernel
theorem dX2_addFlaw_20 : decode cX2_addFlaw 20 = .ok (.getfield 9, 3) := by decide +kernel
theorem dX2_addFlaw_23 : decode cX2_addFlaw 23 = .ok (.aload_n 0, 1) := by decide +kernel
theorem dX2_addFlaw_24 : decode cX2_addFlaw 24 = .ok (.getfield 31, 3) := by decide +kernel
theorem dX2_addFlaw_27 : decode cX2_addFlaw 27 = .ok (.iload_n 1, 1) := by decide +kernel
theorem dX2_addFlaw_28 : decode cX2_addFlaw 28 = .ok (.bipush 24, 2) := by decide +kernel
theorem dX2_addFlaw_30 : decode cX2_addFlaw 30 = .ok (.imul, 1) := by decide +kernel
theorem dX2_addFlaw_31 : decode cX2_addFlaw 31 = .ok (.iload_n 2, 1) := by decide +kernel
theorem dX2_addFlaw_32 : decode cX2_addFlaw 32 = .ok (.iadd, 1) := by decide +kernel
theorem dX2_addFlaw_33 : decode cX2_addFlaw 33 = .ok (.iastore, 1) := by decide +kernel
theorem dX2_addFlaw_34 : decode cX2_addFlaw 34 = .ok (.aload_n 0, 1) := by decide +kernel
theorem dX2_addFlaw_35 : decode cX2_addFlaw 35 = .ok (.dup, 1) := by decide +kernel
theorem dX2_addFlaw_36 : decode cX2_addFlaw 36 = .ok (.getfield 31, 3) := by decide +kernel
theorem dX2_addFlaw_39 : decode cX2_addFlaw 39 = .ok (.iconst 1, 1) := by decide +kernel
theorem dX2_addFlaw_40 : decode cX2_addFlaw 40 = .ok (.iadd, 1) := by decide +kernel
theorem dX2_addFlaw_41 : decode cX2_addFlaw 41 = .ok (.putfield 31, 3) := by decide +kernel
theorem dX2_addFlaw_44 : decode cX2_addFlaw 44 = .ok (.return_, 1) := by decide +kernel
set_option maxRecDepth 20000 in
theorem ggX2_passFlaws_X2_addFlaw : GoodIn wsX2_passFlaws wsX2_addFlaw := goodIn_r _ [9, 1, 2, 10, 11, 12, 13, 14, 15, 16] (by decide +kernel) (by decide +kernel)
set_option maxRecDepth 20000 in
theorem gX2_passFlaws_X2_addFlaw : GoodIn wsX2_passFlaws (wsV RX2 42 RX2 yX2_addFlaw wsX2_addFlaw) := goodIn_app (goodIn_of _ (by decide +kernel)) ggX2_passFlaws_X2_addFlaw
theorem dX2_passFlaws_0 : decode cX2_passFlaws 0 = .ok (.iconst 0, 1) := by decide +kernel
theorem dX2_passFlaws_1 : decode cX2_passFlaws 1 = .ok (.istore 4, 2) := by decide +kernel
theorem dX2_passFlaws_3 : decode cX2_passFlaws 3 = .ok (.iload 4, 2) := by decide +kernel
theorem dX2_passFlaws_5 : decode cX2_passFlaws 5 = .ok (.aload_n 0, 1) := by decide +kernel
theorem dX2_passFlaws_6 : decode cX2_passFlaws 6 = .ok (.getfield 31, 3) := by decide +kernel
theorem dX2_passFlaws_9 : decode cX2_passFlaws 9 = .ok (.if_icmp .ge 83, 3) := by decide +kernel
theorem dX2_passFlaws_12 : decode cX2_passFlaws 12 = .ok (.iload 4, 2) := by decide +kernel
theorem dX2_passFlaws_14 : decode cX2_passFlaws 14 = .ok (.aload_n 0, 1) := by decide +kernel
theorem dX2_passFlaws_15 : decode cX2_passFlaws 15 = .ok (.getfield 9, 3) := by decide +kernel
theorem dX2_passFlaws_18 : decode cX2_passFlaws 18 = .ok (.arraylength, 1) := by decide +kernel
theorem dX2_passFlaws_19 : decode cX2_passFlaws 19 = .ok (.if_icmp .ge 73, 3) := by decide +kernel
theorem dX2_passFlaws_22 : decode cX2_passFlaws 22 = .ok (.aload_n 0, 1) := by decide +kernel
theorem dX2_passFlaws_23 : decode cX2_passFlaws 23 = .ok (.getfield 9, 3) := by decide +kernel
theorem dX2_passFlaws_26 : decode cX2_passFlaws 26 = .ok (.iload 4, 2) := by decide +kernel
theorem dX2_passFlaws_28 : decode cX2_passFlaws 28 = .ok (.iaload, 1) := by decide +kernel
theorem dX2_passFlaws_29 : decode cX2_passFlaws 29 = .ok (.bipush 24, 2) := by decide +kernel
theorem dX2_passFlaws_31 : decode cX2_passFlaws 31 = .ok (.idiv, 1) := by decide +kernel
theorem dX2_passFlaws_32 : decode cX2_passFlaws 32 = .ok (.iload_n 2, 1) := by decide +kernel
theorem dX2_passFlaws_33 : decode cX2_passFlaws 33 = .ok (.isub, 1) := by decide +kernel
theorem dX2_passFlaws_34 : decode cX2_passFlaws 34 = .ok (.istore 5, 2) := by decide +kernel
theorem dX2_passFlaws_36 : decode cX2_passFlaws 36 = .ok (.aload_n 0, 1) := by decide +kernel
theorem dX2_passFlaws_37 : decode cX2_passFlaws 37 = .ok (.getfield 9, 3) := by decide +kernel
theorem dX2_passFlaws_40 : decode cX2_passFlaws 40 = .ok (.iload 4, 2) := by decide +kernel
theorem dX2_passFlaws_42 : decode cX2_passFlaws 42 = .ok (.iaload, 1) := by decide +kernel
theorem dX2_passFlaws_43 : decode cX2_passFlaws 43 = .ok (.bipush 24, 2) := by decide +kernel
theorem dX2_passFlaws_45 : decode cX2_passFlaws 45 = .ok (.irem, 1) := by decide +kernel
theorem dX2_passFlaws_46 : decode cX2_passFlaws 46 = .ok (.iload_n 3, 1) := by decide +kernel
theorem dX2_passFlaws_47 : decode cX2_passFlaws 47 = .ok (.isub, 1) := by decide +kernel
theorem dX2_passFlaws_48 : decode cX2_passFlaws 48 = .ok (.istore 6, 2) := by decide +kernel
theorem dX2_passFlaws_50 : decode cX2_passFlaws 50 = .ok (.iload 5, 2) := by decide +kernel
theorem dX2_passFlaws_52 : decode cX2_passFlaws 52 = .ok (.ifCond .lt 34, 3) := by decide +kernel
theorem dX2_passFlaws_55 : decode cX2_passFlaws 55 = .ok (.iload 5, 2) := by decide +kernel
theorem dX2_passFlaws_57 : decode cX2_passFlaws 57 = .ok (.aload_n 1, 1) := by decide +kernel
theorem dX2_passFlaws_58 : decode cX2_passFlaws 58 = .ok (.getfield 15, 3) := by decide +kernel
theorem dX2_passFlaws_61 : decode cX2_passFlaws 61 = .ok (.if_icmp .ge 25, 3) := by decide +kernel
theorem dX2_passFlaws_64 : decode cX2_passFlaws 64 = .ok (.iload 6, 2) := by decide +kernel
theorem dX2_passFlaws_66 : decode cX2_passFlaws 66 = .ok (.ifCond .lt 20, 3) := by decide +kernel
theorem dX2_passFlaws_69 : decode cX2_passFlaws 69 = .ok (.iload 6, 2) := by decide +kernel
theorem dX2_passFlaws_71 : decode cX2_passFlaws 71 = .ok (.aload_n 1, 1) := by decide +kernel
theorem dX2_passFlaws_72 : decode cX2_passFlaws 72 = .ok (.getfield 19, 3) := by decide +kernel
theorem dX2_passFlaws_75 : decode cX2_passFlaws 75 = .ok (.if_icmp .ge 11, 3) := by decide +kernel
theorem dX2_passFlaws_78 : decode cX2_passFlaws 78 = .ok (.aload_n 1, 1) := by decide +kernel
theorem dX2_passFlaws_79 : decode cX2_passFlaws 79 = .ok (.iload 5, 2) := by decide +kernel
theorem dX2_passFlaws_81 : decode cX2_passFlaws 81 = .ok (.iload 6, 2) := by decide +kernel
theorem dX2_passFlaws_83 : decode cX2_passFlaws 83 = .ok (.invokevirtual 42, 3) := by decide +kernel
theorem dX2_passFlaws_86 : decode cX2_passFlaws 86 = .ok (.iinc 4 1, 3) := by decide +kernel
theorem dX2_passFlaws_89 : decode cX2_passFlaws 89 = .ok (.goto (-86), 3) := by decide +kernel
theorem dX2_passFlaws_92 : decode cX2_passFlaws 92 = .ok (.return_, 1) := by decide +kernel
theorem dX2_countFlaws_0 : decode cX2_countFlaws 0 = .ok (.iconst 0, 1) := by decide +kernel
theorem dX2_countFlaws_1 : decode cX2_countFlaws 1 = .ok (.istore 5, 2) := by decide +kernel
theorem dX2_countFlaws_3 : decode cX2_countFlaws 3 = .ok (.iconst 0, 1) := by decide +kernel
theorem dX2_countFlaws_4 : decode cX2_countFlaws 4 = .ok (.istore 6, 2) := by decide +kernel
theorem dX2_countFlaws_6 : decode cX2_countFlaws 6 = .ok (.iload 6, 2) := by decide +kernel
theorem dX2_countFlaws_8 : decode cX2_countFlaws 8 = .ok (.aload_n 0, 1) := by decide +kernel
theorem dX2_countFlaws_9 : decode cX2_countFlaws 9 = .ok (.getfield 31, 3) := by decide +kernel
theorem dX2_countFlaws_12 : decode cX2_countFlaws 12 = .ok (.if_icmp .ge 71, 3) := by decide +kernel
theorem dX2_countFlaws_15 : decode cX2_countFlaws 15 = .ok (.iload 6, 2) := by decide +kernel
theorem dX2_countFlaws_17 : decode cX2_countFlaws 17 = .ok (.aload_n 0, 1) := by decide +kernel
theorem dX2_countFlaws_18 : decode cX2_countFlaws 18 = .ok (.getfield 9, 3) := by decide +kernel
theorem dX2_countFlaws_21 : decode cX2_countFlaws 21 = .ok (.arraylength, 1) := by decide +kernel
theorem dX2_countFlaws_22 : decode cX2_countFlaws 22 = .ok (.if_icmp .ge 61, 3) := by decide +kernel
theorem dX2_countFlaws_25 : decode cX2_countFlaws 25 = .ok (.aload_n 0, 1) := by decide +kernel
theorem dX2_countFlaws_26 : decode cX2_countFlaws 26 = .ok (.getfield 9, 3) := by decide +kernel
theorem dX2_countFlaws_29 : decode cX2_countFlaws 29 = .ok (.iload 6, 2) := by decide +kernel
theorem dX2_countFlaws_31 : decode cX2_countFlaws 31 = .ok (.iaload, 1) := by decide +kernel
theorem dX2_countFlaws_32 : decode cX2_countFlaws 32 = .ok (.bipush 24, 2) := by decide +kernel
theorem dX2_countFlaws_34 : decode cX2_countFlaws 34 = .ok (.idiv, 1) := by decide +kernel
theorem dX2_countFlaws_35 : decode cX2_countFlaws 35 = .ok (.istore 7, 2) := by decide +kernel
theorem dX2_countFlaws_37 : decode cX2_countFlaws 37 = .ok (.aload_n 0, 1) := by decide +kernel
theorem dX2_countFlaws_38 : decode cX2_countFlaws 38 = .ok (.getfield 9, 3) := by decide +kernel
theorem dX2_countFlaws_41 : decode cX2_countFlaws 41 = .ok (.iload 6, 2) := by decide +kernel
theorem dX2_countFlaws_43 : decode cX2_countFlaws 43 = .ok (.iaload, 1) := by decide +kernel
theorem dX2_countFlaws_44 : decode cX2_countFlaws 44 = .ok (.bipush 24, 2) := by decide +kernel
theorem dX2_countFlaws_46 : decode cX2_countFlaws 46 = .ok (.irem, 1) := by decide +kernel
theorem dX2_countFlaws_47 : decode cX2_countFlaws 47 = .ok (.istore 8, 2) := by decide +kernel
theorem dX2_countFlaws_49 : decode cX2_countFlaws 49 = .ok (.iload 7, 2) := by decide +kernel
theorem dX2_countFlaws_51 : decode cX2_countFlaws 51 = .ok (.iload_n 1, 1) := by decide +kernel
theorem dX2_countFlaws_52 : decode cX2_countFlaws 52 = .ok (.if_icmp .lt 25, 3) := by decide +kernel
theorem dX2_countFlaws_55 : decode cX2_countFlaws 55 = .ok (.iload 7, 2) := by decide +kernel
theorem dX2_countFlaws_57 : decode cX2_countFlaws 57 = .ok (.iload_n 3, 1) := by decide +kernel
theorem dX2_countFlaws_58 : decode cX2_countFlaws 58 = .ok (.if_icmp .ge 19, 3) := by decide +kernel
theorem dX2_countFlaws_61 : decode cX2_countFlaws 61 = .ok (.iload 8, 2) := by decide +kernel
theorem dX2_countFlaws_63 : decode cX2_countFlaws 63 = .ok (.iload_n 2, 1) := by decide +kernel
theorem dX2_countFlaws_64 : decode cX2_countFlaws 64 = .ok (.if_icmp .lt 13, 3) := by decide +kernel
theorem dX2_countFlaws_67 : decode cX2_countFlaws 67 = .ok (.iload 8, 2) := by decide +kernel
theorem dX2_countFlaws_69 : decode cX2_countFlaws 69 = .ok (.iload 4, 2) := by decide +kernel
theorem dX2_countFlaws_71 : decode cX2_countFlaws 71 = .ok (.if_icmp .ge 6, 3) := by decide +kernel
theorem dX2_countFlaws_74 : decode cX2_countFlaws 74 = .ok (.iinc 5 1, 3) := by decide +kernel
theorem dX2_countFlaws_77 : decode cX2_countFlaws 77 = .ok (.iinc 6 1, 3) := by decide +kernel
theorem dX2_countFlaws_80 : decode cX2_countFlaws 80 = .ok (.goto (-74), 3) := by decide +kernel
theorem dX2_countFlaws_83 : decode cX2_countFlaws 83 = .ok (.iload 5, 2) := by decide +kernel
theorem dX2_countFlaws_85 : decode cX2_countFlaws 85 = .ok (.ireturn, 1) := by decide +kernel
set_option maxRecDepth 20000 in
theorem ggX2_firstManner_X0_goesInto : GoodIn wsX2_firstManner wsX0_goesInto := goodIn_r _ [9, 10, 11, 12, 35, 36, 37, 38, 39, 40, 41, 42] (by decide +kernel) (by decide +kernel)
set_option maxRecDepth 20000 in
theorem gX2_firstManner_X0_goesInto : GoodIn wsX2_firstManner (wsV RX2 46 RX0 yX0_goesInto wsX0_goesInto) := goodIn_app (goodIn_of _ (by decide +kernel)) ggX2_firstManner_X0_goesInto
set_option maxRecDepth 20000 in
theorem ggX2_firstManner_X0_wideIn : GoodIn wsX2_firstManner wsX0_wideIn := goodIn_r _ [16, 11, 12, 35, 36, 37, 38, 39, 40, 41, 42] (by decide +kernel) (by decide +kernel)
set_option maxRecDepth 20000 in
theorem gX2_firstManner_X0_wideIn : GoodIn wsX2_firstManner (wsV RX2 52 RX0 yX0_wideIn wsX0_wideIn) := goodIn_app (goodIn_of _ (by decide +kernel)) ggX2_firstManner_X0_wideIn
set_option maxRecDepth 20000 in
theorem ggX2_firstManner_X0_highIn : GoodIn wsX2_firstManner wsX0_highIn := goodIn_r _ [20, 12, 11, 35, 36, 37, 38, 39, 40, 41, 42] (by decide +kernel) (by decide +kernel)
set_option maxRecDepth 20000 in
theorem gX2_firstManner_X0_highIn : GoodIn wsX2_firstManner (wsV RX2 56 RX0 yX0_highIn wsX0_highIn) := goodIn_app (goodIn_of _ (by decide +kernel)) ggX2_firstManner_X0_highIn
set_option maxRecDepth 20000 in
theorem ggX2_firstManner_X2_countFlaws : GoodIn wsX2_firstManner wsX2_countFlaws := goodIn_r _ [25, 26, 27, 28, 29, 30, 31, 32, 33, 34] (by decide +kernel) (by decide +kernel)
set_option maxRecDepth 20000 in
theorem gX2_firstManner_X2_countFlaws : GoodIn wsX2_firstManner (wsV RX2 59 RX2 yX2_countFlaws wsX2_countFlaws) := goodIn_app (goodIn_of _ (by decide +kernel)) ggX2_firstManner_X2_countFlaws
theorem dX2_firstManner_0 : decode cX2_firstManner 0 = .ok (.iconst 0, 1) := by decide +kernel
theorem dX2_firstManner_1 : decode cX2_firstManner 1 = .ok (.istore_n 2, 1) := by decide +kernel
theorem dX2_firstManner_2 : decode cX2_firstManner 2 = .ok (.iload_n 2, 1) := by decide +kernel
theorem dX2_firstManner_3 : decode cX2_firstManner 3 = .ok (.iconst 2, 1) := by decide +kernel
theorem dX2_firstManner_4 : decode cX2_firstManner 4 = .ok (.if_icmp .ge 61, 3) := by decide +kernel
theorem dX2_firstManner_7 : decode cX2_firstManner 7 = .ok (.aload_n 0, 1) := by decide +kernel
theorem dX2_firstManner_8 : decode cX2_firstManner 8 = .ok (.getfield 28, 3) := by decide +kernel
theorem dX2_firstManner_11 : decode cX2_firstManner 11 = .ok (.ifCond .ne 54, 3) := by decide +kernel
theorem dX2_firstManner_14 : decode cX2_firstManner 14 = .ok (.aload_n 1, 1) := by decide +kernel
theorem dX2_firstManner_15 : decode cX2_firstManner 15 = .ok (.iload_n 2, 1) := by decide +kernel
theorem dX2_firstManner_16 : decode cX2_firstManner 16 = .ok (.aload_n 0, 1) := by decide +kernel
theorem dX2_firstManner_17 : decode cX2_firstManner 17 = .ok (.getfield 15, 3) := by decide +kernel
theorem dX2_firstManner_20 : decode cX2_firstManner 20 = .ok (.aload_n 0, 1) := by decide +kernel
theorem dX2_firstManner_21 : decode cX2_firstManner 21 = .ok (.getfield 19, 3) := by decide +kernel
theorem dX2_firstManner_24 : decode cX2_firstManner 24 = .ok (.aload_n 0, 1) := by decide +kernel
theorem dX2_firstManner_25 : decode cX2_firstManner 25 = .ok (.getfield 22, 3) := by decide +kernel
theorem dX2_firstManner_28 : decode cX2_firstManner 28 = .ok (.invokevirtual 46, 3) := by decide +kernel
theorem dX2_firstManner_31 : decode cX2_firstManner 31 = .ok (.ifCond .eq 28, 3) := by decide +kernel
theorem dX2_firstManner_34 : decode cX2_firstManner 34 = .ok (.aload_n 0, 1) := by decide +kernel
theorem dX2_firstManner_35 : decode cX2_firstManner 35 = .ok (.iconst 0, 1) := by decide +kernel
theorem dX2_firstManner_36 : decode cX2_firstManner 36 = .ok (.iconst 0, 1) := by decide +kernel
theorem dX2_firstManner_37 : decode cX2_firstManner 37 = .ok (.aload_n 1, 1) := by decide +kernel
theorem dX2_firstManner_38 : decode cX2_firstManner 38 = .ok (.iload_n 2, 1) := by decide +kernel
theorem dX2_firstManner_39 : decode cX2_firstManner 39 = .ok (.invokevirtual 52, 3) := by decide +kernel
theorem dX2_firstManner_42 : decode cX2_firstManner 42 = .ok (.aload_n 1, 1) := by decide +kernel
theorem dX2_firstManner_43 : decode cX2_firstManner 43 = .ok (.iload_n 2, 1) := by decide +kernel
theorem dX2_firstManner_44 : decode cX2_firstManner 44 = .ok (.invokevirtual 56, 3) := by decide +kernel
theorem dX2_firstManner_47 : decode cX2_firstManner 47 = .ok (.invokevirtual 59, 3) := by decide +kernel
theorem dX2_firstManner_50 : decode cX2_firstManner 50 = .ok (.aload_n 1, 1) := by decide +kernel
theorem dX2_firstManner_51 : decode cX2_firstManner 51 = .ok (.getfield 63, 3) := by decide +kernel
theorem dX2_firstManner_54 : decode cX2_firstManner 54 = .ok (.if_icmp .gt 5, 3) := by decide +kernel
theorem dX2_firstManner_57 : decode cX2_firstManner 57 = .ok (.iload_n 2, 1) := by decide +kernel
theorem dX2_firstManner_58 : decode cX2_firstManner 58 = .ok (.ireturn, 1) := by decide +kernel
theorem dX2_firstManner_59 : decode cX2_firstManner 59 = .ok (.iinc 2 1, 3) := by decide +kernel
theorem dX2_firstManner_62 : decode cX2_firstManner 62 = .ok (.goto (-60), 3) := by decide +kernel
theorem dX2_firstManner_65 : decode cX2_firstManner 65 = .ok (.iconst (-1), 1) := by decide +kernel
theorem dX2_firstManner_66 : decode cX2_firstManner 66 = .ok (.ireturn, 1) := by decide +kernel
set_option maxRecDepth 20000 in
theorem ggX3_init_X2_init : GoodIn wsX3_init wsX2_init := goodIn_r _ [14, 15, 2, 3, 16, 17, 26, 27, 28, 29, 30, 31, 32] (by decide +kernel) (by decide +kernel)
set_option maxRecDepth 20000 in
theorem gX3_init_X2_init_n27 : GoodIn wsX3_init (wsX2_init) := ggX3_init_X2_init
set_option maxRecDepth 20000 in
theorem ggX3_init_X0_init : GoodIn wsX3_init wsX0_init := goodIn_r _ [19, 20, 2, 3] (by decide +kernel) (by decide +kernel)
set_option maxRecDepth 20000 in
theorem gX3_init_X0_init_n28 : GoodIn wsX3_init (wsX0_init) := ggX3_init_X0_init
theorem dX3_init_0 : decode cX3_init 0 = .ok (.aload_n 0, 1) := by decide +kernel
theorem dX3_init_1 : decode cX3_init 1 = .ok (.invokespecial 3, 3) := by decide +kernel
theorem dX3_init_4 : decode cX3_init 4 = .ok (.aload_n 0, 1) := by decide +kernel
theorem dX3_init_5 : decode cX3_init 5 = .ok (.bipush 44, 2) := by decide +kernel
theorem dX3_init_7 : decode cX3_init 7 = .ok (.anewarray 9, 3) := by decide +kernel
theorem dX3_init_10 : decode cX3_init 10 = .ok (.putfield 11, 3) := by decide +kernel
theorem dX3_init_13 : decode cX3_init 13 = .ok (.aload_n 0, 1) := by decide +kernel
theorem dX3_init_14 : decode cX3_init 14 = .ok (.bipush 6, 2) := by decide +kernel
theorem dX3_init_16 : decode cX3_init 16 = .ok (.anewarray 17, 3) := by decide +kernel
theorem dX3_init_19 : decode cX3_init 19 = .ok (.putfield 19, 3) := by decide +kernel
theorem dX3_init_22 : decode cX3_init 22 = .ok (.aload_n 0, 1) := by decide +kernel
theorem dX3_init_23 : decode cX3_init 23 = .ok (.iconst 1, 1) := by decide +kernel
theorem dX3_init_24 : decode cX3_init 24 = .ok (.putfield 23, 3) := by decide +kernel
theorem dX3_init_27 : decode cX3_init 27 = .ok (.iconst 0, 1) := by decide +kernel
theorem dX3_init_28 : decode cX3_init 28 = .ok (.istore_n 1, 1) := by decide +kernel
theorem dX3_init_29 : decode cX3_init 29 = .ok (.iload_n 1, 1) := by decide +kernel
theorem dX3_init_30 : decode cX3_init 30 = .ok (.aload_n 0, 1) := by decide +kernel
theorem dX3_init_31 : decode cX3_init 31 = .ok (.getfield 11, 3) := by decide +kernel
theorem dX3_init_34 : decode cX3_init 34 = .ok (.arraylength, 1) := by decide +kernel
theorem dX3_init_35 : decode cX3_init 35 = .ok (.if_icmp .ge 22, 3) := by decide +kernel
theorem dX3_init_38 : decode cX3_init 38 = .ok (.aload_n 0, 1) := by decide +kernel
theorem dX3_init_39 : decode cX3_init 39 = .ok (.getfield 11, 3) := by decide +kernel
theorem dX3_init_42 : decode cX3_init 42 = .ok (.iload_n 1, 1) := by decide +kernel
theorem dX3_init_43 : decode cX3_init 43 = .ok (.new 9, 3) := by decide +kernel
theorem dX3_init_46 : decode cX3_init 46 = .ok (.dup, 1) := by decide +kernel
theorem dX3_init_47 : decode cX3_init 47 = .ok (.invokespecial 27, 3) := by decide +kernel
theorem dX3_init_50 : decode cX3_init 50 = .ok (.aastore, 1) := by decide +kernel
theorem dX3_init_51 : decode cX3_init 51 = .ok (.iinc 1 1, 3) := by decide +kernel
theorem dX3_init_54 : decode cX3_init 54 = .ok (.goto (-25), 3) := by decide +kernel
theorem dX3_init_57 : decode cX3_init 57 = .ok (.iconst 0, 1) := by decide +kernel
theorem dX3_init_58 : decode cX3_init 58 = .ok (.istore_n 1, 1) := by decide +kernel
theorem dX3_init_59 : decode cX3_init 59 = .ok (.iload_n 1, 1) := by decide +kernel
theorem dX3_init_60 : decode cX3_init 60 = .ok (.aload_n 0, 1) := by decide +kernel
theorem dX3_init_61 : decode cX3_init 61 = .ok (.getfield 19, 3) := by decide +kernel
theorem dX3_init_64 : decode cX3_init 64 = .ok (.arraylength, 1) := by decide +kernel
theorem dX3_init_65 : decode cX3_init 65 = .ok (.if_icmp .ge 22, 3) := by decide +kernel
theorem dX3_init_68 : decode cX3_init 68 = .ok (.aload_n 0, 1) := by decide +kernel
theorem dX3_init_69 : decode cX3_init 69 = .ok (.getfield 19, 3) := by decide +kernel
theorem dX3_init_72 : decode cX3_init 72 = .ok (.iload_n 1, 1) := by decide +kernel
theorem dX3_init_73 : decode cX3_init 73 = .ok (.new 17, 3) := by decide +kernel
theorem dX3_init_76 : decode cX3_init 76 = .ok (.dup, 1) := by decide +kernel
theorem dX3_init_77 : decode cX3_init 77 = .ok (.invokespecial 28, 3) := by decide +kernel
theorem dX3_init_80 : decode cX3_init 80 = .ok (.aastore, 1) := by decide +kernel
theorem dX3_init_81 : decode cX3_init 81 = .ok (.iinc 1 1, 3) := by decide +kernel
theorem dX3_init_84 : decode cX3_init 84 = .ok (.goto (-25), 3) := by decide +kernel
theorem dX3_init_87 : decode cX3_init 87 = .ok (.return_, 1) := by decide +kernel
set_option maxRecDepth 20000 in
theorem ggX3_copyFrom_X3_slabOrNull : GoodIn wsX3_copyFrom wsX3_slabOrNull := goodIn_r _ [8, 2, 9, 56, 57, 58, 59, 60] (by decide +kernel) (by decide +kernel)
set_option maxRecDepth 20000 in
theorem gX3_copyFrom_X3_slabOrNull : GoodIn wsX3_copyFrom (wsV RX3 35 RX3 yX3_slabOrNull wsX3_slabOrNull) := goodIn_app (goodIn_of _ (by decide +kernel)) ggX3_copyFrom_X3_slabOrNull
set_option maxRecDepth 20000 in
theorem ggX3_copyFrom_X2_copyFrom : GoodIn wsX3_copyFrom wsX2_copyFrom := goodIn_r _ [14, 15, 16, 17, 18, 19, 20, 21, 22, 13, 23, 24, 25, 26, 27, 28, 29, 30, 31, 32, 33, 61, 62, 63, 64, 65, 66, 67] (by decide +kernel) (by decide +kernel)
set_option maxRecDepth 20000 in
theorem gX3_copyFrom_X2_copyFrom : GoodIn wsX3_copyFrom (wsV RX3 39 RX2 yX2_copyFrom wsX2_copyFrom) := goodIn_app (goodIn_of _ (by decide +kernel)) ggX3_copyFrom_X2_copyFrom
set_option maxRecDepth 20000 in
theorem ggX3_copyFrom_X3_kindOrNull : GoodIn wsX3_copyFrom wsX3_kindOrNull := goodIn_r _ [37, 3, 38, 56, 57, 58, 59, 60] (by decide +kernel) (by decide +kernel)
set_option maxRecDepth 20000 in
theorem gX3_copyFrom_X3_kindOrNull : GoodIn wsX3_copyFrom (wsV RX3 43 RX3 yX3_kindOrNull wsX3_kindOrNull) := goodIn_app (goodIn_of _ (by decide +kernel)) ggX3_copyFrom_X3_kindOrNull
set_option maxRecDepth 20000 in
theorem ggX3_copyFrom_X0_copyFrom : GoodIn wsX3_copyFrom wsX0_copyFrom := goodIn_r _ [43, 44, 45, 46, 47, 48, 49, 50, 51, 52, 53, 54, 42, 55, 68, 69, 70, 71, 72, 73, 74, 75] (by decide +kernel) (by decide +kernel)
set_option maxRecDepth 20000 in
theorem gX3_copyFrom_X0_copyFrom : GoodIn wsX3_copyFrom (wsV RX3 47 RX0 yX0_copyFrom wsX0_copyFrom) := goodIn_app (goodIn_of _ (by decide +kernel)) ggX3_copyFrom_X0_copyFrom
theorem dX3_copyFrom_0 : decode cX3_copyFrom 0 = .ok (.aload_n 0, 1) := by decide +kernel
theorem dX3_copyFrom_1 : decode cX3_copyFrom 1 = .ok (.aload_n 1, 1) := by decide +kernel
theorem dX3_copyFrom_2 : decode cX3_copyFrom 2 = .ok (.getfield 23, 3) := by decide +kernel
theorem dX3_copyFrom_5 : decode cX3_copyFrom 5 = .ok (.putfield 23, 3) := by decide +kernel
theorem dX3_copyFrom_8 : decode cX3_copyFrom 8 = .ok (.aload_n 0, 1) := by decide +kernel
theorem dX3_copyFrom_9 : decode cX3_copyFrom 9 = .ok (.aload_n 1, 1) := by decide +kernel
theorem dX3_copyFrom_10 : decode cX3_copyFrom 10 = .ok (.getfield 29, 3) := by decide +kernel
theorem dX3_copyFrom_13 : decode cX3_copyFrom 13 = .ok (.putfield 29, 3) := by decide +kernel
theorem dX3_copyFrom_16 : decode cX3_copyFrom 16 = .ok (.aload_n 0, 1) := by decide +kernel
theorem dX3_copyFrom_17 : decode cX3_copyFrom 17 = .ok (.aload_n 1, 1) := by decide +kernel
theorem dX3_copyFrom_18 : decode cX3_copyFrom 18 = .ok (.getfield 32, 3) := by decide +kernel
theorem dX3_copyFrom_21 : decode cX3_copyFrom 21 = .ok (.putfield 32, 3) := by decide +kernel
theorem dX3_copyFrom_24 : decode cX3_copyFrom 24 = .ok (.iconst 0, 1) := by decide +kernel
theorem dX3_copyFrom_25 : decode cX3_copyFrom 25 = .ok (.istore_n 2, 1) := by decide +kernel
theorem dX3_copyFrom_26 : decode cX3_copyFrom 26 = .ok (.iload_n 2, 1) := by decide +kernel
theorem dX3_copyFrom_27 : decode cX3_copyFrom 27 = .ok (.aload_n 0, 1) := by decide +kernel
theorem dX3_copyFrom_28 : decode cX3_copyFrom 28 = .ok (.getfield 29, 3) := by decide +kernel
theorem dX3_copyFrom_31 : decode cX3_copyFrom 31 = .ok (.if_icmp .ge 37, 3) := by decide +kernel
theorem dX3_copyFrom_34 : decode cX3_copyFrom 34 = .ok (.aload_n 1, 1) := by decide +kernel
theorem dX3_copyFrom_35 : decode cX3_copyFrom 35 = .ok (.iload_n 2, 1) := by decide +kernel
theorem dX3_copyFrom_36 : decode cX3_copyFrom 36 = .ok (.invokevirtual 35, 3) := by decide +kernel
theorem dX3_copyFrom_39 : decode cX3_copyFrom 39 = .ok (.astore_n 3, 1) := by decide +kernel
theorem dX3_copyFrom_40 : decode cX3_copyFrom 40 = .ok (.aload_n 0, 1) := by decide +kernel
theorem dX3_copyFrom_41 : decode cX3_copyFrom 41 = .ok (.iload_n 2, 1) := by decide +kernel
theorem dX3_copyFrom_42 : decode cX3_copyFrom 42 = .ok (.invokevirtual 35, 3) := by decide +kernel
theorem dX3_copyFrom_45 : decode cX3_copyFrom 45 = .ok (.astore 4, 2) := by decide +kernel
theorem dX3_copyFrom_47 : decode cX3_copyFrom 47 = .ok (.aload_n 3, 1) := by decide +kernel
theorem dX3_copyFrom_48 : decode cX3_copyFrom 48 = .ok (.ifnull 14, 3) := by decide +kernel
theorem dX3_copyFrom_51 : decode cX3_copyFrom 51 = .ok (.aload 4, 2) := by decide +kernel
theorem dX3_copyFrom_53 : decode cX3_copyFrom 53 = .ok (.ifnull 9, 3) := by decide +kernel
theorem dX3_copyFrom_56 : decode cX3_copyFrom 56 = .ok (.aload 4, 2) := by decide +kernel
theorem dX3_copyFrom_58 : decode cX3_copyFrom 58 = .ok (.aload_n 3, 1) := by decide +kernel
theorem dX3_copyFrom_59 : decode cX3_copyFrom 59 = .ok (.invokevirtual 39, 3) := by decide +kernel
theorem dX3_copyFrom_62 : decode cX3_copyFrom 62 = .ok (.iinc 2 1, 3) := by decide +kernel
theorem dX3_copyFrom_65 : decode cX3_copyFrom 65 = .ok (.goto (-39), 3) := by decide +kernel
theorem dX3_copyFrom_68 : decode cX3_copyFrom 68 = .ok (.iconst 0, 1) := by decide +kernel
theorem dX3_copyFrom_69 : decode cX3_copyFrom 69 = .ok (.istore_n 2, 1) := by decide +kernel
theorem dX3_copyFrom_70 : decode cX3_copyFrom 70 = .ok (.iload_n 2, 1) := by decide +kernel
theorem dX3_copyFrom_71 : decode cX3_copyFrom 71 = .ok (.aload_n 0, 1) := by decide +kernel
theorem dX3_copyFrom_72 : decode cX3_copyFrom 72 = .ok (.getfield 32, 3) := by decide +kernel
theorem dX3_copyFrom_75 : decode cX3_copyFrom 75 = .ok (.if_icmp .ge 37, 3) := by decide +kernel
theorem dX3_copyFrom_78 : decode cX3_copyFrom 78 = .ok (.aload_n 1, 1) := by decide +kernel
theorem dX3_copyFrom_79 : decode cX3_copyFrom 79 = .ok (.iload_n 2, 1) := by decide +kernel
theorem dX3_copyFrom_80 : decode cX3_copyFrom 80 = .ok (.invokevirtual 43, 3) := by decide +kernel
theorem dX3_copyFrom_83 : decode cX3_copyFrom 83 = .ok (.astore_n 3, 1) := by decide +kernel
theorem dX3_copyFrom_84 : decode cX3_copyFrom 84 = .ok (.aload_n 0, 1) := by decide +kernel
theorem dX3_copyFrom_85 : decode cX3_copyFrom 85 = .ok (.iload_n 2, 1) := by decide +kernel
theorem dX3_copyFrom_86 : decode cX3_copyFrom 86 = .ok (.invokevirtual 43, 3) := by decide +kernel
theorem dX3_copyFrom_89 : decode cX3_copyFrom 89 = .ok (.astore 4, 2) := by decide +kernel
theorem dX3_copyFrom_91 : decode cX3_copyFrom 91 = .ok (.aload_n 3, 1) := by decide +kernel
theorem dX3_copyFrom_92 : decode cX3_copyFrom 92 = .ok (.ifnull 14, 3) := by decide +kernel
theorem dX3_copyFrom_95 : decode cX3_copyFrom 95 = .ok (.aload 4, 2) := by decide +kernel
theorem dX3_copyFrom_97 : decode cX3_copyFrom 97 = .ok (.ifnull 9, 3) := by decide +kernel
theorem dX3_copyFrom_100 : decode cX3_copyFrom 100 = .ok (.aload 4, 2) := by decide +kernel
theorem dX3_copyFrom_102 : decode cX3_copyFrom 102 = .ok (.aload_n 3, 1) := by decide +kernel
theorem dX3_copyFrom_103 : decode cX3_copyFrom 103 = .ok (.invokevirtual 47, 3) := by decide +kernel
theorem dX3_copyFrom_106 : decode cX3_copyFrom 106 = .ok (.iinc 2 1, 3) := by decide +kernel
theorem dX3_copyFrom_109 : decode cX3_copyFrom 109 = .ok (.goto (-39), 3) := by decide +kernel
theorem dX3_copyFrom_112 : decode cX3_copyFrom 112 = .ok (.return_, 1) := by decide +kernel
theorem dX3_slabOrNull_0 : decode cX3_slabOrNull 0 = .ok (.iload_n 1, 1) := by decide +kernel
theorem dX3_slabOrNull_1 : decode cX3_slabOrNull 1 = .ok (.ifCond .lt 29, 3) := by decide +kernel
theorem dX3_slabOrNull_4 : decode cX3_slabOrNull 4 = .ok (.iload_n 1, 1) := by decide +kernel
theorem dX3_slabOrNull_5 : decode cX3_slabOrNull 5 = .ok (.aload_n 0, 1) := by decide +kernel
theorem dX3_slabOrNull_6 : decode cX3_slabOrNull 6 = .ok (.getfield 29, 3) := by decide +kernel
theorem dX3_slabOrNull_9 : decode cX3_slabOrNull 9 = .ok (.if_icmp .ge 21, 3) := by decide +kernel
theorem dX3_slabOrNull_12 : decode cX3_slabOrNull 12 = .ok (.iload_n 1, 1) := by decide +kernel
theorem dX3_slabOrNull_13 : decode cX3_slabOrNull 13 = .ok (.aload_n 0, 1) := by decide +kernel
theorem dX3_slabOrNull_14 : decode cX3_slabOrNull 14 = .ok (.getfield 11, 3) := by decide +kernel
theorem dX3_slabOrNull_17 : decode cX3_slabOrNull 17 = .ok (.arraylength, 1) := by decide +kernel
theorem dX3_slabOrNull_18 : decode cX3_slabOrNull 18 = .ok (.if_icmp .ge 12, 3) := by decide +kernel
theorem dX3_slabOrNull_21 : decode cX3_slabOrNull 21 = .ok (.aload_n 0, 1) := by decide +kernel
theorem dX3_slabOrNull_22 : decode cX3_slabOrNull 22 = .ok (.getfield 11, 3) := by decide +kernel
theorem dX3_slabOrNull_25 : decode cX3_slabOrNull 25 = .ok (.iload_n 1, 1) := by decide +kernel
theorem dX3_slabOrNull_26 : decode cX3_slabOrNull 26 = .ok (.aaload, 1) := by decide +kernel
theorem dX3_slabOrNull_27 : decode cX3_slabOrNull 27 = .ok (.goto 4, 3) := by decide +kernel
theorem dX3_slabOrNull_30 : decode cX3_slabOrNull 30 = .ok (.aconst_null, 1) := by decide +kernel
theorem dX3_slabOrNull_31 : decode cX3_slabOrNull 31 = .ok (.areturn, 1) := by decide +kernel
theorem dX3_kindOrNull_0 : decode cX3_kindOrNull 0 = .ok (.iload_n 1, 1) := by decide +kernel
theorem dX3_kindOrNull_1 : decode cX3_kindOrNull 1 = .ok (.ifCond .lt 29, 3) := by decide +kernel
theorem dX3_kindOrNull_4 : decode cX3_kindOrNull 4 = .ok (.iload_n 1, 1) := by decide +kernel
theorem dX3_kindOrNull_5 : decode cX3_kindOrNull 5 = .ok (.aload_n 0, 1) := by decide +kernel
theorem dX3_kindOrNull_6 : decode cX3_kindOrNull 6 = .ok (.getfield 32, 3) := by decide +kernel
theorem dX3_kindOrNull_9 : decode cX3_kindOrNull 9 = .ok (.if_icmp .ge 21, 3) := by decide +kernel
theorem dX3_kindOrNull_12 : decode cX3_kindOrNull 12 = .ok (.iload_n 1, 1) := by decide +kernel
theorem dX3_kindOrNull_13 : decode cX3_kindOrNull 13 = .ok (.aload_n 0, 1) := by decide +kernel
theorem dX3_kindOrNull_14 : decode cX3_kindOrNull 14 = .ok (.getfield 19, 3) := by decide +kernel
theorem dX3_kindOrNull_17 : decode cX3_kindOrNull 17 = .ok (.arraylength, 1) := by decide +kernel
theorem dX3_kindOrNull_18 : decode cX3_kindOrNull 18 = .ok (.if_icmp .ge 12, 3) := by decide +kernel
theorem dX3_kindOrNull_21 : decode cX3_kindOrNull 21 = .ok (.aload_n 0, 1) := by decide +kernel
theorem dX3_kindOrNull_22 : decode cX3_kindOrNull 22 = .ok (.getfield 19, 3) := by decide +kernel
theorem dX3_kindOrNull_25 : decode cX3_kindOrNull 25 = .ok (.iload_n 1, 1) := by decide +kernel
theorem dX3_kindOrNull_26 : decode cX3_kindOrNull 26 = .ok (.aaload, 1) := by decide +kernel
theorem dX3_kindOrNull_27 : decode cX3_kindOrNull 27 = .ok (.goto 4, 3) := by decide +kernel
theorem dX3_kindOrNull_30 : decode cX3_kindOrNull 30 = .ok (.aconst_null, 1) := by decide +kernel
theorem dX3_kindOrNull_31 : decode cX3_kindOrNull 31 = .ok (.areturn, 1) := by decide +kernel
set_option maxRecDepth 20000 in
theorem ggX3_addSlab_X3_slabOrNull : GoodIn wsX3_addSlab wsX3_slabOrNull := goodIn_r _ [7, 1, 2, 19, 20, 21, 22, 23] (by decide +kernel) (by decide +kernel)
set_option maxRecDepth 20000 in
theorem gX3_addSlab_X3_slabOrNull : GoodIn wsX3_addSlab (wsV RX3 35 RX3 yX3_slabOrNull wsX3_slabOrNull) := goodIn_app (goodIn_of _ (by decide +kernel)) ggX3_addSlab_X3_slabOrNull
set_option maxRecDepth 20000 in
theorem ggX3_addSlab_X2_begin : GoodIn wsX3_addSlab wsX2_begin := goodIn_r _ [12, 13, 14, 15, 16, 17, 18, 24, 25, 26, 27, 28, 29, 30] (by decide +kernel) (by decide +kernel)
set_option maxRecDepth 20000 in
theorem gX3_addSlab_X2_begin : GoodIn wsX3_addSlab (wsV RX3 50 RX2 yX2_begin wsX2_begin) := goodIn_app (goodIn_of _ (by decide +kernel)) ggX3_addSlab_X2_begin
theorem dX3_addSlab_0 : decode cX3_addSlab 0 = .ok (.aload_n 0, 1) := by decide +kernel
theorem dX3_addSlab_1 : decode cX3_addSlab 1 = .ok (.getfield 29, 3) := by decide +kernel
theorem dX3_addSlab_4 : decode cX3_addSlab 4 = .ok (.aload_n 0, 1) := by decide +kernel
theorem dX3_addSlab_5 : decode cX3_addSlab 5 = .ok (.getfield 11, 3) := by decide +kernel
theorem dX3_addSlab_8 : decode cX3_addSlab 8 = .ok (.arraylength, 1) := by decide +kernel
theorem dX3_addSlab_9 : decode cX3_addSlab 9 = .ok (.if_icmp .lt 5, 3) := by decide +kernel
theorem dX3_addSlab_12 : decode cX3_addSlab 12 = .ok (.aconst_null, 1) := by decide +kernel
theorem dX3_addSlab_13 : decode cX3_addSlab 13 = .ok (.areturn, 1) := by decide +kernel
theorem dX3_addSlab_14 : decode cX3_addSlab 14 = .ok (.aload_n 0, 1) := by decide +kernel
theorem dX3_addSlab_15 : decode cX3_addSlab 15 = .ok (.dup, 1) := by decide +kernel
theorem dX3_addSlab_16 : decode cX3_addSlab 16 = .ok (.getfield 29, 3) := by decide +kernel
theorem dX3_addSlab_19 : decode cX3_addSlab 19 = .ok (.iconst 1, 1) := by decide +kernel
theorem dX3_addSlab_20 : decode cX3_addSlab 20 = .ok (.iadd, 1) := by decide +kernel
theorem dX3_addSlab_21 : decode cX3_addSlab 21 = .ok (.putfield 29, 3) := by decide +kernel
theorem dX3_addSlab_24 : decode cX3_addSlab 24 = .ok (.aload_n 0, 1) := by decide +kernel
theorem dX3_addSlab_25 : decode cX3_addSlab 25 = .ok (.aload_n 0, 1) := by decide +kernel
theorem dX3_addSlab_26 : decode cX3_addSlab 26 = .ok (.getfield 29, 3) := by decide +kernel
theorem dX3_addSlab_29 : decode cX3_addSlab 29 = .ok (.iconst 1, 1) := by decide +kernel
theorem dX3_addSlab_30 : decode cX3_addSlab 30 = .ok (.isub, 1) := by decide +kernel
theorem dX3_addSlab_31 : decode cX3_addSlab 31 = .ok (.invokevirtual 35, 3) := by decide +kernel
theorem dX3_addSlab_34 : decode cX3_addSlab 34 = .ok (.astore 5, 2) := by decide +kernel
theorem dX3_addSlab_36 : decode cX3_addSlab 36 = .ok (.aload 5, 2) := by decide +kernel
theorem dX3_addSlab_38 : decode cX3_addSlab 38 = .ok (.ifnull 13, 3) := by decide +kernel
theorem dX3_addSlab_41 : decode cX3_addSlab 41 = .ok (.aload 5, 2) := by decide +kernel
theorem dX3_addSlab_43 : decode cX3_addSlab 43 = .ok (.iload_n 1, 1) := by decide +kernel
theorem dX3_addSlab_44 : decode cX3_addSlab 44 = .ok (.iload_n 2, 1) := by decide +kernel
theorem dX3_addSlab_45 : decode cX3_addSlab 45 = .ok (.iload_n 3, 1) := by decide +kernel
theorem dX3_addSlab_46 : decode cX3_addSlab 46 = .ok (.iload 4, 2) := by decide +kernel
theorem dX3_addSlab_48 : decode cX3_addSlab 48 = .ok (.invokevirtual 50, 3) := by decide +kernel
theorem dX3_addSlab_51 : decode cX3_addSlab 51 = .ok (.aload 5, 2) := by decide +kernel
theorem dX3_addSlab_53 : decode cX3_addSlab 53 = .ok (.areturn, 1) := by decide +kernel
set_option maxRecDepth 20000 in
theorem ggX3_addKind_X3_kindOrNull : GoodIn wsX3_addKind wsX3_kindOrNull := goodIn_r _ [7, 1, 2, 16, 17, 18, 19, 20] (by decide +kernel) (by decide +kernel)
set_option maxRecDepth 20000 in
theorem gX3_addKind_X3_kindOrNull : GoodIn wsX3_addKind (wsV RX3 43 RX3 yX3_kindOrNull wsX3_kindOrNull) := goodIn_app (goodIn_of _ (by decide +kernel)) ggX3_addKind_X3_kindOrNull
set_option maxRecDepth 20000 in
theorem ggX3_addKind_X0_begin : GoodIn wsX3_addKind wsX0_begin := goodIn_r _ [12, 13, 14, 15, 21, 22, 23, 24, 25, 26, 27, 28] (by decide +kernel) (by decide +kernel)
set_option maxRecDepth 20000 in
theorem gX3_addKind_X0_begin : GoodIn wsX3_addKind (wsV RX3 54 RX0 yX0_begin wsX0_begin) := goodIn_app (goodIn_of _ (by decide +kernel)) ggX3_addKind_X0_begin
theorem dX3_addKind_0 : decode cX3_addKind 0 = .ok (.aload_n 0, 1) := by decide +kernel
theorem dX3_addKind_1 : decode cX3_addKind 1 = .ok (.getfield 32, 3) := by decide +kernel
theorem dX3_addKind_4 : decode cX3_addKind 4 = .ok (.aload_n 0, 1) := by decide +kernel
theorem dX3_addKind_5 : decode cX3_addKind 5 = .ok (.getfield 19, 3) := by decide +kernel
theorem dX3_addKind_8 : decode cX3_addKind 8 = .ok (.arraylength, 1) := by decide +kernel
theorem dX3_addKind_9 : decode cX3_addKind 9 = .ok (.if_icmp .lt 4, 3) := by decide +kernel
theorem dX3_addKind_12 : decode cX3_addKind 12 = .ok (.return_, 1) := by decide +kernel
theorem dX3_addKind_13 : decode cX3_addKind 13 = .ok (.aload_n 0, 1) := by decide +kernel
theorem dX3_addKind_14 : decode cX3_addKind 14 = .ok (.dup, 1) := by decide +kernel
theorem dX3_addKind_15 : decode cX3_addKind 15 = .ok (.getfield 32, 3) := by decide +kernel
theorem dX3_addKind_18 : decode cX3_addKind 18 = .ok (.iconst 1, 1) := by decide +kernel
theorem dX3_addKind_19 : decode cX3_addKind 19 = .ok (.iadd, 1) := by decide +kernel
theorem dX3_addKind_20 : decode cX3_addKind 20 = .ok (.putfield 32, 3) := by decide +kernel
theorem dX3_addKind_23 : decode cX3_addKind 23 = .ok (.aload_n 0, 1) := by decide +kernel
theorem dX3_addKind_24 : decode cX3_addKind 24 = .ok (.aload_n 0, 1) := by decide +kernel
theorem dX3_addKind_25 : decode cX3_addKind 25 = .ok (.getfield 32, 3) := by decide +kernel
theorem dX3_addKind_28 : decode cX3_addKind 28 = .ok (.iconst 1, 1) := by decide +kernel
theorem dX3_addKind_29 : decode cX3_addKind 29 = .ok (.isub, 1) := by decide +kernel
theorem dX3_addKind_30 : decode cX3_addKind 30 = .ok (.invokevirtual 43, 3) := by decide +kernel
theorem dX3_addKind_33 : decode cX3_addKind 33 = .ok (.astore 4, 2) := by decide +kernel
theorem dX3_addKind_35 : decode cX3_addKind 35 = .ok (.aload 4, 2) := by decide +kernel
theorem dX3_addKind_37 : decode cX3_addKind 37 = .ok (.ifnull 11, 3) := by decide +kernel
theorem dX3_addKind_40 : decode cX3_addKind 40 = .ok (.aload 4, 2) := by decide +kernel
theorem dX3_addKind_42 : decode cX3_addKind 42 = .ok (.iload_n 1, 1) := by decide +kernel
theorem dX3_addKind_43 : decode cX3_addKind 43 = .ok (.iload_n 2, 1) := by decide +kernel
theorem dX3_addKind_44 : decode cX3_addKind 44 = .ok (.iload_n 3, 1) := by decide +kernel
theorem dX3_addKind_45 : decode cX3_addKind 45 = .ok (.invokevirtual 54, 3) := by decide +kernel
theorem dX3_addKind_48 : decode cX3_addKind 48 = .ok (.return_, 1) := by decide +kernel
set_option maxRecDepth 20000 in
theorem ggX3_setPrice_X3_kindOrNull : GoodIn wsX3_setPrice wsX3_kindOrNull := goodIn_r _ [5, 6, 7, 16, 17, 18, 19, 20] (by decide +kernel) (by decide +kernel)
set_option maxRecDepth 20000 in
theorem gX3_setPrice_X3_kindOrNull : GoodIn wsX3_setPrice (wsV RX3 43 RX3 yX3_kindOrNull wsX3_kindOrNull) := goodIn_app (goodIn_of _ (by decide +kernel)) ggX3_setPrice_X3_kindOrNull
theorem dX3_setPrice_0 : decode cX3_setPrice 0 = .ok (.aload_n 0, 1) := by decide +kernel
theorem dX3_setPrice_1 : decode cX3_setPrice 1 = .ok (.iload_n 1, 1) := by decide +kernel
theorem dX3_setPrice_2 : decode cX3_setPrice 2 = .ok (.invokevirtual 43, 3) := by decide +kernel
theorem dX3_setPrice_5 : decode cX3_setPrice 5 = .ok (.astore_n 3, 1) := by decide +kernel
theorem dX3_setPrice_6 : decode cX3_setPrice 6 = .ok (.aload_n 3, 1) := by decide +kernel
theorem dX3_setPrice_7 : decode cX3_setPrice 7 = .ok (.ifnull 8, 3) := by decide +kernel
theorem dX3_setPrice_10 : decode cX3_setPrice 10 = .ok (.aload_n 3, 1) := by decide +kernel
theorem dX3_setPrice_11 : decode cX3_setPrice 11 = .ok (.iload_n 2, 1) := by decide +kernel
theorem dX3_setPrice_12 : decode cX3_setPrice 12 = .ok (.putfield 57, 3) := by decide +kernel
theorem dX3_setPrice_15 : decode cX3_setPrice 15 = .ok (.return_, 1) := by decide +kernel
set_option maxRecDepth 20000 in
theorem ggX3_canCut_X2_along : GoodIn wsX3_canCut wsX2_along := goodIn_r _ [6, 7, 8, 14, 15, 16, 17, 18, 19, 20] (by decide +kernel) (by decide +kernel)
set_option maxRecDepth 20000 in
theorem gX3_canCut_X2_along : GoodIn wsX3_canCut (wsV RX3 60 RX2 yX2_along wsX2_along) := goodIn_app (goodIn_of _ (by decide +kernel)) ggX3_canCut_X2_along
theorem dX3_canCut_0 : decode cX3_canCut 0 = .ok (.iload_n 3, 1) := by decide +kernel
theorem dX3_canCut_1 : decode cX3_canCut 1 = .ok (.iconst 1, 1) := by decide +kernel
theorem dX3_canCut_2 : decode cX3_canCut 2 = .ok (.if_icmp .lt 23, 3) := by decide +kernel
theorem dX3_canCut_5 : decode cX3_canCut 5 = .ok (.aload_n 1, 1) := by decide +kernel
theorem dX3_canCut_6 : decode cX3_canCut 6 = .ok (.iload_n 2, 1) := by decide +kernel
theorem dX3_canCut_7 : decode cX3_canCut 7 = .ok (.invokevirtual 60, 3) := by decide +kernel
theorem dX3_canCut_10 : decode cX3_canCut 10 = .ok (.iload_n 3, 1) := by decide +kernel
theorem dX3_canCut_11 : decode cX3_canCut 11 = .ok (.isub, 1) := by decide +kernel
theorem dX3_canCut_12 : decode cX3_canCut 12 = .ok (.aload_n 0, 1) := by decide +kernel
theorem dX3_canCut_13 : decode cX3_canCut 13 = .ok (.getfield 23, 3) := by decide +kernel
theorem dX3_canCut_16 : decode cX3_canCut 16 = .ok (.isub, 1) := by decide +kernel
theorem dX3_canCut_17 : decode cX3_canCut 17 = .ok (.iconst 1, 1) := by decide +kernel
theorem dX3_canCut_18 : decode cX3_canCut 18 = .ok (.if_icmp .lt 7, 3) := by decide +kernel
theorem dX3_canCut_21 : decode cX3_canCut 21 = .ok (.iconst 1, 1) := by decide +kernel
theorem dX3_canCut_22 : decode cX3_canCut 22 = .ok (.goto 4, 3) := by decide +kernel
theorem dX3_canCut_25 : decode cX3_canCut 25 = .ok (.iconst 0, 1) := by decide +kernel
theorem dX3_canCut_26 : decode cX3_canCut 26 = .ok (.ireturn, 1) := by decide +kernel
theorem dX3_hasRoomForStone_0 : decode cX3_hasRoomForStone 0 = .ok (.aload_n 0, 1) := by decide +kernel
theorem dX3_hasRoomForStone_1 : decode cX3_hasRoomForStone 1 = .ok (.getfield 29, 3) := by decide +kernel
theorem dX3_hasRoomForStone_4 : decode cX3_hasRoomForStone 4 = .ok (.bipush 36, 2) := by decide +kernel
theorem dX3_hasRoomForStone_6 : decode cX3_hasRoomForStone 6 = .ok (.if_icmp .gt 7, 3) := by decide +kernel
theorem dX3_hasRoomForStone_9 : decode cX3_hasRoomForStone 9 = .ok (.iconst 1, 1) := by decide +kernel
theorem dX3_hasRoomForStone_10 : decode cX3_hasRoomForStone 10 = .ok (.goto 4, 3) := by decide +kernel
theorem dX3_hasRoomForStone_13 : decode cX3_hasRoomForStone 13 = .ok (.iconst 0, 1) := by decide +kernel
theorem dX3_hasRoomForStone_14 : decode cX3_hasRoomForStone 14 = .ok (.ireturn, 1) := by decide +kernel
set_option maxRecDepth 20000 in
theorem ggX3_cutSlab_X3_slabOrNull : GoodIn wsX3_cutSlab wsX3_slabOrNull := goodIn_r _ [7, 1, 8, 41, 42, 43, 44, 45] (by decide +kernel) (by decide +kernel)
set_option maxRecDepth 20000 in
theorem gX3_cutSlab_X3_slabOrNull : GoodIn wsX3_cutSlab (wsV RX3 35 RX3 yX3_slabOrNull wsX3_slabOrNull) := goodIn_app (goodIn_of _ (by decide +kernel)) ggX3_cutSlab_X3_slabOrNull
set_option maxRecDepth 20000 in
theorem ggX3_cutSlab_X3_canCut : GoodIn wsX3_cutSlab wsX3_canCut := goodIn_r _ [12, 2, 13, 14, 15, 16, 17, 18, 19, 41, 42, 43, 44, 45, 46, 47, 48, 49, 50, 51, 52] (by decide +kernel) (by decide +kernel)
set_option maxRecDepth 20000 in
theorem gX3_cutSlab_X3_canCut : GoodIn wsX3_cutSlab (wsV RX3 64 RX3 yX3_canCut wsX3_canCut) := goodIn_app (goodIn_of _ (by decide +kernel)) ggX3_cutSlab_X3_canCut
set_option maxRecDepth 20000 in
theorem ggX3_cutSlab_X3_addSlab : GoodIn wsX3_cutSlab wsX3_addSlab := goodIn_r _ [23, 1, 8, 3, 4, 5, 6, 7, 24, 25, 26, 16, 27, 18, 19, 28, 29, 30, 31, 41, 42, 43, 44, 45, 46, 47, 48, 49, 50, 51, 52] (by decide +kernel) (by decide +kernel)
set_option maxRecDepth 20000 in
theorem gX3_cutSlab_X3_addSlab : GoodIn wsX3_cutSlab (wsV RX3 74 RX3 yX3_addSlab wsX3_addSlab) := goodIn_app (goodIn_of _ (by decide +kernel)) ggX3_cutSlab_X3_addSlab
set_option maxRecDepth 20000 in
theorem ggX3_cutSlab_X2_passFlaws : GoodIn wsX3_cutSlab wsX2_passFlaws := goodIn_r _ [35, 31, 36, 18, 19, 37, 38, 39, 16, 40, 46, 47, 48, 49, 50, 51, 52] (by decide +kernel) (by decide +kernel)
set_option maxRecDepth 20000 in
theorem gX3_cutSlab_X2_passFlaws : GoodIn wsX3_cutSlab (wsV RX3 84 RX2 yX2_passFlaws wsX2_passFlaws) := goodIn_app (goodIn_of _ (by decide +kernel)) ggX3_cutSlab_X2_passFlaws
theorem dX3_cutSlab_0 : decode cX3_cutSlab 0 = .ok (.aload_n 0, 1) := by decide +kernel
theorem dX3_cutSlab_1 : decode cX3_cutSlab 1 = .ok (.iload_n 1, 1) := by decide +kernel
theorem dX3_cutSlab_2 : decode cX3_cutSlab 2 = .ok (.invokevirtual 35, 3) := by decide +kernel
theorem dX3_cutSlab_5 : decode cX3_cutSlab 5 = .ok (.astore 4, 2) := by decide +kernel
theorem dX3_cutSlab_7 : decode cX3_cutSlab 7 = .ok (.aload 4, 2) := by decide +kernel
theorem dX3_cutSlab_9 : decode cX3_cutSlab 9 = .ok (.ifnull 14, 3) := by decide +kernel
theorem dX3_cutSlab_12 : decode cX3_cutSlab 12 = .ok (.aload_n 0, 1) := by decide +kernel
theorem dX3_cutSlab_13 : decode cX3_cutSlab 13 = .ok (.aload 4, 2) := by decide +kernel
theorem dX3_cutSlab_15 : decode cX3_cutSlab 15 = .ok (.iload_n 2, 1) := by decide +kernel
theorem dX3_cutSlab_16 : decode cX3_cutSlab 16 = .ok (.iload_n 3, 1) := by decide +kernel
theorem dX3_cutSlab_17 : decode cX3_cutSlab 17 = .ok (.invokevirtual 64, 3) := by decide +kernel
theorem dX3_cutSlab_20 : decode cX3_cutSlab 20 = .ok (.ifCond .ne 5, 3) := by decide +kernel
theorem dX3_cutSlab_23 : decode cX3_cutSlab 23 = .ok (.iload_n 1, 1) := by decide +kernel
theorem dX3_cutSlab_24 : decode cX3_cutSlab 24 = .ok (.ireturn, 1) := by decide +kernel
theorem dX3_cutSlab_25 : decode cX3_cutSlab 25 = .ok (.aload_n 0, 1) := by decide +kernel
theorem dX3_cutSlab_26 : decode cX3_cutSlab 26 = .ok (.getfield 29, 3) := by decide +kernel
theorem dX3_cutSlab_29 : decode cX3_cutSlab 29 = .ok (.istore 5, 2) := by decide +kernel
theorem dX3_cutSlab_31 : decode cX3_cutSlab 31 = .ok (.iload_n 3, 1) := by decide +kernel
theorem dX3_cutSlab_32 : decode cX3_cutSlab 32 = .ok (.aload_n 0, 1) := by decide +kernel
theorem dX3_cutSlab_33 : decode cX3_cutSlab 33 = .ok (.getfield 23, 3) := by decide +kernel
theorem dX3_cutSlab_36 : decode cX3_cutSlab 36 = .ok (.iadd, 1) := by decide +kernel
theorem dX3_cutSlab_37 : decode cX3_cutSlab 37 = .ok (.istore 6, 2) := by decide +kernel
theorem dX3_cutSlab_39 : decode cX3_cutSlab 39 = .ok (.iload_n 2, 1) := by decide +kernel
theorem dX3_cutSlab_40 : decode cX3_cutSlab 40 = .ok (.ifCond .eq 49, 3) := by decide +kernel
theorem dX3_cutSlab_43 : decode cX3_cutSlab 43 = .ok (.aload_n 0, 1) := by decide +kernel
theorem dX3_cutSlab_44 : decode cX3_cutSlab 44 = .ok (.iload_n 3, 1) := by decide +kernel
theorem dX3_cutSlab_45 : decode cX3_cutSlab 45 = .ok (.aload 4, 2) := by decide +kernel
theorem dX3_cutSlab_47 : decode cX3_cutSlab 47 = .ok (.getfield 68, 3) := by decide +kernel
theorem dX3_cutSlab_50 : decode cX3_cutSlab 50 = .ok (.aload 4, 2) := by decide +kernel
theorem dX3_cutSlab_52 : decode cX3_cutSlab 52 = .ok (.getfield 71, 3) := by decide +kernel
theorem dX3_cutSlab_55 : decode cX3_cutSlab 55 = .ok (.iload_n 1, 1) := by decide +kernel
theorem dX3_cutSlab_56 : decode cX3_cutSlab 56 = .ok (.invokevirtual 74, 3) := by decide +kernel
theorem dX3_cutSlab_59 : decode cX3_cutSlab 59 = .ok (.astore 7, 2) := by decide +kernel
theorem dX3_cutSlab_61 : decode cX3_cutSlab 61 = .ok (.aload_n 0, 1) := by decide +kernel
theorem dX3_cutSlab_62 : decode cX3_cutSlab 62 = .ok (.aload 4, 2) := by decide +kernel
theorem dX3_cutSlab_64 : decode cX3_cutSlab 64 = .ok (.getfield 78, 3) := by decide +kernel
theorem dX3_cutSlab_67 : decode cX3_cutSlab 67 = .ok (.iload 6, 2) := by decide +kernel
theorem dX3_cutSlab_69 : decode cX3_cutSlab 69 = .ok (.isub, 1) := by decide +kernel
theorem dX3_cutSlab_70 : decode cX3_cutSlab 70 = .ok (.aload 4, 2) := by decide +kernel
theorem dX3_cutSlab_72 : decode cX3_cutSlab 72 = .ok (.getfield 68, 3) := by decide +kernel
theorem dX3_cutSlab_75 : decode cX3_cutSlab 75 = .ok (.aload 4, 2) := by decide +kernel
theorem dX3_cutSlab_77 : decode cX3_cutSlab 77 = .ok (.getfield 71, 3) := by decide +kernel
theorem dX3_cutSlab_80 : decode cX3_cutSlab 80 = .ok (.iload_n 1, 1) := by decide +kernel
theorem dX3_cutSlab_81 : decode cX3_cutSlab 81 = .ok (.invokevirtual 74, 3) := by decide +kernel
theorem dX3_cutSlab_84 : decode cX3_cutSlab 84 = .ok (.astore 8, 2) := by decide +kernel
theorem dX3_cutSlab_86 : decode cX3_cutSlab 86 = .ok (.goto 46, 3) := by decide +kernel
theorem dX3_cutSlab_89 : decode cX3_cutSlab 89 = .ok (.aload_n 0, 1) := by decide +kernel
theorem dX3_cutSlab_90 : decode cX3_cutSlab 90 = .ok (.aload 4, 2) := by decide +kernel
theorem dX3_cutSlab_92 : decode cX3_cutSlab 92 = .ok (.getfield 78, 3) := by decide +kernel
theorem dX3_cutSlab_95 : decode cX3_cutSlab 95 = .ok (.iload_n 3, 1) := by decide +kernel
theorem dX3_cutSlab_96 : decode cX3_cutSlab 96 = .ok (.aload 4, 2) := by decide +kernel
theorem dX3_cutSlab_98 : decode cX3_cutSlab 98 = .ok (.getfield 71, 3) := by decide +kernel
theorem dX3_cutSlab_101 : decode cX3_cutSlab 101 = .ok (.iload_n 1, 1) := by decide +kernel
theorem dX3_cutSlab_102 : decode cX3_cutSlab 102 = .ok (.invokevirtual 74, 3) := by decide +kernel
theorem dX3_cutSlab_105 : decode cX3_cutSlab 105 = .ok (.astore 7, 2) := by decide +kernel
theorem dX3_cutSlab_107 : decode cX3_cutSlab 107 = .ok (.aload_n 0, 1) := by decide +kernel
theorem dX3_cutSlab_108 : decode cX3_cutSlab 108 = .ok (.aload 4, 2) := by decide +kernel
theorem dX3_cutSlab_110 : decode cX3_cutSlab 110 = .ok (.getfield 78, 3) := by decide +kernel
theorem dX3_cutSlab_113 : decode cX3_cutSlab 113 = .ok (.aload 4, 2) := by decide +kernel
theorem dX3_cutSlab_115 : decode cX3_cutSlab 115 = .ok (.getfield 68, 3) := by decide +kernel
theorem dX3_cutSlab_118 : decode cX3_cutSlab 118 = .ok (.iload 6, 2) := by decide +kernel
theorem dX3_cutSlab_120 : decode cX3_cutSlab 120 = .ok (.isub, 1) := by decide +kernel
theorem dX3_cutSlab_121 : decode cX3_cutSlab 121 = .ok (.aload 4, 2) := by decide +kernel
theorem dX3_cutSlab_123 : decode cX3_cutSlab 123 = .ok (.getfield 71, 3) := by decide +kernel
theorem dX3_cutSlab_126 : decode cX3_cutSlab 126 = .ok (.iload_n 1, 1) := by decide +kernel
theorem dX3_cutSlab_127 : decode cX3_cutSlab 127 = .ok (.invokevirtual 74, 3) := by decide +kernel
theorem dX3_cutSlab_130 : decode cX3_cutSlab 130 = .ok (.astore 8, 2) := by decide +kernel
theorem dX3_cutSlab_132 : decode cX3_cutSlab 132 = .ok (.aload 4, 2) := by decide +kernel
theorem dX3_cutSlab_134 : decode cX3_cutSlab 134 = .ok (.iconst 1, 1) := by decide +kernel
theorem dX3_cutSlab_135 : decode cX3_cutSlab 135 = .ok (.putfield 81, 3) := by decide +kernel
theorem dX3_cutSlab_138 : decode cX3_cutSlab 138 = .ok (.aload 7, 2) := by decide +kernel
theorem dX3_cutSlab_140 : decode cX3_cutSlab 140 = .ok (.ifnull 44, 3) := by decide +kernel
theorem dX3_cutSlab_143 : decode cX3_cutSlab 143 = .ok (.aload 8, 2) := by decide +kernel
theorem dX3_cutSlab_145 : decode cX3_cutSlab 145 = .ok (.ifnull 39, 3) := by decide +kernel
theorem dX3_cutSlab_148 : decode cX3_cutSlab 148 = .ok (.aload 4, 2) := by decide +kernel
theorem dX3_cutSlab_150 : decode cX3_cutSlab 150 = .ok (.aload 7, 2) := by decide +kernel
theorem dX3_cutSlab_152 : decode cX3_cutSlab 152 = .ok (.iconst 0, 1) := by decide +kernel
theorem dX3_cutSlab_153 : decode cX3_cutSlab 153 = .ok (.iconst 0, 1) := by decide +kernel
theorem dX3_cutSlab_154 : decode cX3_cutSlab 154 = .ok (.invokevirtual 84, 3) := by decide +kernel
theorem dX3_cutSlab_157 : decode cX3_cutSlab 157 = .ok (.aload 4, 2) := by decide +kernel
theorem dX3_cutSlab_159 : decode cX3_cutSlab 159 = .ok (.aload 8, 2) := by decide +kernel
theorem dX3_cutSlab_161 : decode cX3_cutSlab 161 = .ok (.iload_n 2, 1) := by decide +kernel
theorem dX3_cutSlab_162 : decode cX3_cutSlab 162 = .ok (.ifCond .eq 8, 3) := by decide +kernel
theorem dX3_cutSlab_165 : decode cX3_cutSlab 165 = .ok (.iload 6, 2) := by decide +kernel
theorem dX3_cutSlab_167 : decode cX3_cutSlab 167 = .ok (.goto 4, 3) := by decide +kernel
theorem dX3_cutSlab_170 : decode cX3_cutSlab 170 = .ok (.iconst 0, 1) := by decide +kernel
theorem dX3_cutSlab_171 : decode cX3_cutSlab 171 = .ok (.iload_n 2, 1) := by decide +kernel
theorem dX3_cutSlab_172 : decode cX3_cutSlab 172 = .ok (.ifCond .eq 7, 3) := by decide +kernel
theorem dX3_cutSlab_175 : decode cX3_cutSlab 175 = .ok (.iconst 0, 1) := by decide +kernel
theorem dX3_cutSlab_176 : decode cX3_cutSlab 176 = .ok (.goto 5, 3) := by decide +kernel
theorem dX3_cutSlab_179 : decode cX3_cutSlab 179 = .ok (.iload 6, 2) := by decide +kernel
theorem dX3_cutSlab_181 : decode cX3_cutSlab 181 = .ok (.invokevirtual 84, 3) := by decide +kernel
theorem dX3_cutSlab_184 : decode cX3_cutSlab 184 = .ok (.iload 5, 2) := by decide +kernel
theorem dX3_cutSlab_186 : decode cX3_cutSlab 186 = .ok (.ireturn, 1) := by decide +kernel
set_option maxRecDepth 20000 in
theorem ggX3_takeStone_X3_slabOrNull : GoodIn wsX3_takeStone wsX3_slabOrNull := goodIn_r _ [5, 6, 7, 107, 108, 109, 110, 111] (by decide +kernel) (by decide +kernel)
set_option maxRecDepth 20000 in
theorem gX3_takeStone_X3_slabOrNull : GoodIn wsX3_takeStone (wsV RX3 35 RX3 yX3_slabOrNull wsX3_slabOrNull) := goodIn_app (goodIn_of _ (by decide +kernel)) ggX3_takeStone_X3_slabOrNull
set_option maxRecDepth 20000 in
theorem ggX3_takeStone_X3_kindOrNull : GoodIn wsX3_takeStone wsX3_kindOrNull := goodIn_r _ [11, 12, 13, 107, 108, 109, 110, 111] (by decide +kernel) (by decide +kernel)
set_option maxRecDepth 20000 in
theorem gX3_takeStone_X3_kindOrNull : GoodIn wsX3_takeStone (wsV RX3 43 RX3 yX3_kindOrNull wsX3_kindOrNull) := goodIn_app (goodIn_of _ (by decide +kernel)) ggX3_takeStone_X3_kindOrNull
set_option maxRecDepth 20000 in
theorem ggX3_takeStone_X2_firstManner : GoodIn wsX3_takeStone wsX2_firstManner := goodIn_r _ [18, 19, 20, 21, 22, 23, 24, 25, 26, 27, 28, 29, 30, 31, 32, 33, 34, 35, 36, 37, 38, 39, 40, 41, 17, 42, 43, 44, 100, 101, 102, 103, 104, 105, 106, 112, 113, 114, 115, 116, 117, 118, 119] (by decide +kernel) (by decide +kernel)
set_option maxRecDepth 20000 in
theorem gX3_takeStone_X2_firstManner : GoodIn wsX3_takeStone (wsV RX3 88 RX2 yX2_firstManner wsX2_firstManner) := goodIn_app (goodIn_of _ (by decide +kernel)) ggX3_takeStone_X2_firstManner
set_option maxRecDepth 20000 in
theorem ggX3_takeStone_X0_wideIn : GoodIn wsX3_takeStone wsX0_wideIn := goodIn_r _ [34, 29, 30, 112, 113, 114, 115, 116, 117, 118, 119] (by decide +kernel) (by decide +kernel)
set_option maxRecDepth 20000 in
theorem gX3_takeStone_X0_wideIn : GoodIn wsX3_takeStone (wsV RX3 92 RX0 yX0_wideIn wsX0_wideIn) := goodIn_app (goodIn_of _ (by decide +kernel)) ggX3_takeStone_X0_wideIn
set_option maxRecDepth 20000 in
theorem ggX3_takeStone_X3_cutSlab : GoodIn wsX3_takeStone wsX3_cutSlab := goodIn_r _ [49, 6, 50, 1, 2, 3, 4, 5, 7, 51, 52, 53, 54, 55, 56, 57, 17, 58, 20, 21, 59, 60, 61, 62, 63, 64, 65, 66, 22, 67, 19, 43, 68, 69, 70, 71, 44, 72, 73, 74, 75, 107, 108, 109, 110, 111, 100, 101, 102, 103, 104, 105, 106] (by decide +kernel) (by decide +kernel)
set_option maxRecDepth 20000 in
theorem gX3_takeStone_X3_cutSlab : GoodIn wsX3_takeStone (wsV RX3 96 RX3 yX3_cutSlab wsX3_cutSlab) := goodIn_app (goodIn_of _ (by decide +kernel)) ggX3_takeStone_X3_cutSlab
set_option maxRecDepth 20000 in
theorem ggX3_takeStone_X0_highIn : GoodIn wsX3_takeStone wsX0_highIn := goodIn_r _ [38, 30, 29, 112, 113, 114, 115, 116, 117, 118, 119] (by decide +kernel) (by decide +kernel)
set_option maxRecDepth 20000 in
theorem gX3_takeStone_X0_highIn : GoodIn wsX3_takeStone (wsV RX3 100 RX0 yX0_highIn wsX0_highIn) := goodIn_app (goodIn_of _ (by decide +kernel)) ggX3_takeStone_X0_highIn
set_option maxRecDepth 20000 in
theorem ggX3_takeStone_X0_sell : GoodIn wsX3_takeStone wsX0_sell := goodIn_r _ [80, 81, 82, 83, 84, 85, 86, 87, 88, 112, 113, 114, 115, 116, 117, 118, 119] (by decide +kernel) (by decide +kernel)
set_option maxRecDepth 20000 in
theorem gX3_takeStone_X0_sell : GoodIn wsX3_takeStone (wsV RX3 103 RX0 yX0_sell wsX0_sell) := goodIn_app (goodIn_of _ (by decide +kernel)) ggX3_takeStone_X0_sell
set_option maxRecDepth 20000 in
theorem ggX3_takeStone_X3_raiseOthers : GoodIn wsX3_takeStone wsX3_raiseOthers := goodIn_r _ [92, 12, 8, 9, 10, 4, 11, 13, 93, 94, 95, 26, 96, 82, 97, 98, 85, 99, 107, 108, 109, 110, 111, 112, 113, 114, 115, 116, 117, 118, 119] (by decide +kernel) (by decide +kernel)
set_option maxRecDepth 20000 in
theorem gX3_takeStone_X3_raiseOthers : GoodIn wsX3_takeStone (wsV RX3 107 RX3 yX3_raiseOthers wsX3_raiseOthers) := goodIn_app (goodIn_of _ (by decide +kernel)) ggX3_takeStone_X3_raiseOthers
theorem dX3_takeStone_0 : decode cX3_takeStone 0 = .ok (.aload_n 0, 1) := by decide +kernel
theorem dX3_takeStone_1 : decode cX3_takeStone 1 = .ok (.iload_n 1, 1) := by decide +kernel
theorem dX3_takeStone_2 : decode cX3_takeStone 2 = .ok (.invokevirtual 35, 3) := by decide +kernel
theorem dX3_takeStone_5 : decode cX3_takeStone 5 = .ok (.astore_n 3, 1) := by decide +kernel
theorem dX3_takeStone_6 : decode cX3_takeStone 6 = .ok (.aload_n 0, 1) := by decide +kernel
theorem dX3_takeStone_7 : decode cX3_takeStone 7 = .ok (.iload_n 2, 1) := by decide +kernel
theorem dX3_takeStone_8 : decode cX3_takeStone 8 = .ok (.invokevirtual 43, 3) := by decide +kernel
theorem dX3_takeStone_11 : decode cX3_takeStone 11 = .ok (.astore 4, 2) := by decide +kernel
theorem dX3_takeStone_13 : decode cX3_takeStone 13 = .ok (.aload_n 3, 1) := by decide +kernel
theorem dX3_takeStone_14 : decode cX3_takeStone 14 = .ok (.ifnull 8, 3) := by decide +kernel
theorem dX3_takeStone_17 : decode cX3_takeStone 17 = .ok (.aload 4, 2) := by decide +kernel
theorem dX3_takeStone_19 : decode cX3_takeStone 19 = .ok (.ifnonnull 5, 3) := by decide +kernel
theorem dX3_takeStone_22 : decode cX3_takeStone 22 = .ok (.iconst 0, 1) := by decide +kernel
theorem dX3_takeStone_23 : decode cX3_takeStone 23 = .ok (.ireturn, 1) := by decide +kernel
theorem dX3_takeStone_24 : decode cX3_takeStone 24 = .ok (.aload_n 3, 1) := by decide +kernel
theorem dX3_takeStone_25 : decode cX3_takeStone 25 = .ok (.aload 4, 2) := by decide +kernel
theorem dX3_takeStone_27 : decode cX3_takeStone 27 = .ok (.invokevirtual 88, 3) := by decide +kernel
theorem dX3_takeStone_30 : decode cX3_takeStone 30 = .ok (.istore 5, 2) := by decide +kernel
theorem dX3_takeStone_32 : decode cX3_takeStone 32 = .ok (.iload 5, 2) := by decide +kernel
theorem dX3_takeStone_34 : decode cX3_takeStone 34 = .ok (.iconst (-1), 1) := by decide +kernel
theorem dX3_takeStone_35 : decode cX3_takeStone 35 = .ok (.if_icmp .ne 5, 3) := by decide +kernel
theorem dX3_takeStone_38 : decode cX3_takeStone 38 = .ok (.iconst 0, 1) := by decide +kernel
theorem dX3_takeStone_39 : decode cX3_takeStone 39 = .ok (.ireturn, 1) := by decide +kernel
theorem dX3_takeStone_40 : decode cX3_takeStone 40 = .ok (.aload_n 0, 1) := by decide +kernel
theorem dX3_takeStone_41 : decode cX3_takeStone 41 = .ok (.iload_n 1, 1) := by decide +kernel
theorem dX3_takeStone_42 : decode cX3_takeStone 42 = .ok (.iconst 1, 1) := by decide +kernel
theorem dX3_takeStone_43 : decode cX3_takeStone 43 = .ok (.aload 4, 2) := by decide +kernel
theorem dX3_takeStone_45 : decode cX3_takeStone 45 = .ok (.iload 5, 2) := by decide +kernel
theorem dX3_takeStone_47 : decode cX3_takeStone 47 = .ok (.invokevirtual 92, 3) := by decide +kernel
theorem dX3_takeStone_50 : decode cX3_takeStone 50 = .ok (.invokevirtual 96, 3) := by decide +kernel
theorem dX3_takeStone_53 : decode cX3_takeStone 53 = .ok (.istore 6, 2) := by decide +kernel
theorem dX3_takeStone_55 : decode cX3_takeStone 55 = .ok (.aload_n 0, 1) := by decide +kernel
theorem dX3_takeStone_56 : decode cX3_takeStone 56 = .ok (.iload 6, 2) := by decide +kernel
theorem dX3_takeStone_58 : decode cX3_takeStone 58 = .ok (.iconst 0, 1) := by decide +kernel
theorem dX3_takeStone_59 : decode cX3_takeStone 59 = .ok (.aload 4, 2) := by decide +kernel
theorem dX3_takeStone_61 : decode cX3_takeStone 61 = .ok (.iload 5, 2) := by decide +kernel
theorem dX3_takeStone_63 : decode cX3_takeStone 63 = .ok (.invokevirtual 100, 3) := by decide +kernel
theorem dX3_takeStone_66 : decode cX3_takeStone 66 = .ok (.invokevirtual 96, 3) := by decide +kernel
theorem dX3_takeStone_69 : decode cX3_takeStone 69 = .ok (.istore 6, 2) := by decide +kernel
theorem dX3_takeStone_71 : decode cX3_takeStone 71 = .ok (.aload_n 0, 1) := by decide +kernel
theorem dX3_takeStone_72 : decode cX3_takeStone 72 = .ok (.iload 6, 2) := by decide +kernel
theorem dX3_takeStone_74 : decode cX3_takeStone 74 = .ok (.invokevirtual 35, 3) := by decide +kernel
theorem dX3_takeStone_77 : decode cX3_takeStone 77 = .ok (.astore 7, 2) := by decide +kernel
theorem dX3_takeStone_79 : decode cX3_takeStone 79 = .ok (.aload 7, 2) := by decide +kernel
theorem dX3_takeStone_81 : decode cX3_takeStone 81 = .ok (.ifnull 9, 3) := by decide +kernel
theorem dX3_takeStone_84 : decode cX3_takeStone 84 = .ok (.aload 7, 2) := by decide +kernel
theorem dX3_takeStone_86 : decode cX3_takeStone 86 = .ok (.iconst 2, 1) := by decide +kernel
theorem dX3_takeStone_87 : decode cX3_takeStone 87 = .ok (.putfield 81, 3) := by decide +kernel
theorem dX3_takeStone_90 : decode cX3_takeStone 90 = .ok (.aload 4, 2) := by decide +kernel
theorem dX3_takeStone_92 : decode cX3_takeStone 92 = .ok (.invokevirtual 103, 3) := by decide +kernel
theorem dX3_takeStone_95 : decode cX3_takeStone 95 = .ok (.istore 8, 2) := by decide +kernel
theorem dX3_takeStone_97 : decode cX3_takeStone 97 = .ok (.aload_n 0, 1) := by decide +kernel
theorem dX3_takeStone_98 : decode cX3_takeStone 98 = .ok (.iload_n 2, 1) := by decide +kernel
theorem dX3_takeStone_99 : decode cX3_takeStone 99 = .ok (.invokevirtual 107, 3) := by decide +kernel
theorem dX3_takeStone_102 : decode cX3_takeStone 102 = .ok (.iload 8, 2) := by decide +kernel
theorem dX3_takeStone_104 : decode cX3_takeStone 104 = .ok (.ireturn, 1) := by decide +kernel
set_option maxRecDepth 20000 in
theorem ggX3_raiseOthers_X3_kindOrNull : GoodIn wsX3_raiseOthers wsX3_kindOrNull := goodIn_r _ [6, 1, 7, 18, 19, 20, 21, 22] (by decide +kernel) (by decide +kernel)
set_option maxRecDepth 20000 in
theorem gX3_raiseOthers_X3_kindOrNull : GoodIn wsX3_raiseOthers (wsV RX3 43 RX3 yX3_kindOrNull wsX3_kindOrNull) := goodIn_app (goodIn_of _ (by decide +kernel)) ggX3_raiseOthers_X3_kindOrNull
set_option maxRecDepth 20000 in
theorem ggX3_raiseOthers_X0_becomeDearer : GoodIn wsX3_raiseOthers wsX0_becomeDearer := goodIn_r _ [12, 13, 14, 15, 16, 17, 23, 24, 25, 26, 27, 28, 29, 30] (by decide +kernel) (by decide +kernel)
set_option maxRecDepth 20000 in
theorem gX3_raiseOthers_X0_becomeDearer : GoodIn wsX3_raiseOthers (wsV RX3 114 RX0 yX0_becomeDearer wsX0_becomeDearer) := goodIn_app (goodIn_of _ (by decide +kernel)) ggX3_raiseOthers_X0_becomeDearer
theorem dX3_raiseOthers_0 : decode cX3_raiseOthers 0 = .ok (.iconst 0, 1) := by decide +kernel
theorem dX3_raiseOthers_1 : decode cX3_raiseOthers 1 = .ok (.istore_n 2, 1) := by decide +kernel
theorem dX3_raiseOthers_2 : decode cX3_raiseOthers 2 = .ok (.iload_n 2, 1) := by decide +kernel
theorem dX3_raiseOthers_3 : decode cX3_raiseOthers 3 = .ok (.aload_n 0, 1) := by decide +kernel
theorem dX3_raiseOthers_4 : decode cX3_raiseOthers 4 = .ok (.getfield 32, 3) := by decide +kernel
theorem dX3_raiseOthers_7 : decode cX3_raiseOthers 7 = .ok (.if_icmp .ge 35, 3) := by decide +kernel
theorem dX3_raiseOthers_10 : decode cX3_raiseOthers 10 = .ok (.aload_n 0, 1) := by decide +kernel
theorem dX3_raiseOthers_11 : decode cX3_raiseOthers 11 = .ok (.iload_n 2, 1) := by decide +kernel
theorem dX3_raiseOthers_12 : decode cX3_raiseOthers 12 = .ok (.invokevirtual 43, 3) := by decide +kernel
theorem dX3_raiseOthers_15 : decode cX3_raiseOthers 15 = .ok (.astore_n 3, 1) := by decide +kernel
theorem dX3_raiseOthers_16 : decode cX3_raiseOthers 16 = .ok (.aload_n 3, 1) := by decide +kernel
theorem dX3_raiseOthers_17 : decode cX3_raiseOthers 17 = .ok (.ifnull 19, 3) := by decide +kernel
theorem dX3_raiseOthers_20 : decode cX3_raiseOthers 20 = .ok (.iload_n 2, 1) := by decide +kernel
theorem dX3_raiseOthers_21 : decode cX3_raiseOthers 21 = .ok (.iload_n 1, 1) := by decide +kernel
theorem dX3_raiseOthers_22 : decode cX3_raiseOthers 22 = .ok (.if_icmp .eq 14, 3) := by decide +kernel
theorem dX3_raiseOthers_25 : decode cX3_raiseOthers 25 = .ok (.aload_n 3, 1) := by decide +kernel
theorem dX3_raiseOthers_26 : decode cX3_raiseOthers 26 = .ok (.getfield 111, 3) := by decide +kernel
theorem dX3_raiseOthers_29 : decode cX3_raiseOthers 29 = .ok (.ifCond .le 7, 3) := by decide +kernel
theorem dX3_raiseOthers_32 : decode cX3_raiseOthers 32 = .ok (.aload_n 3, 1) := by decide +kernel
theorem dX3_raiseOthers_33 : decode cX3_raiseOthers 33 = .ok (.invokevirtual 114, 3) := by decide +kernel
theorem dX3_raiseOthers_36 : decode cX3_raiseOthers 36 = .ok (.iinc 2 1, 3) := by decide +kernel
theorem dX3_raiseOthers_39 : decode cX3_raiseOthers 39 = .ok (.goto (-37), 3) := by decide +kernel
theorem dX3_raiseOthers_42 : decode cX3_raiseOthers 42 = .ok (.return_, 1) := by decide +kernel
set_option maxRecDepth 20000 in
theorem ggX3_takeByPlan_X3_hasRoomForStone : GoodIn wsX3_takeByPlan wsX3_hasRoomForStone := goodIn_r _ [5, 6, 120, 121, 122, 123, 124] (by decide +kernel) (by decide +kernel)
set_option maxRecDepth 20000 in
theorem gX3_takeByPlan_X3_hasRoomForStone : GoodIn wsX3_takeByPlan (wsV RX3 117 RX3 yX3_hasRoomForStone wsX3_hasRoomForStone) := goodIn_app (goodIn_of _ (by decide +kernel)) ggX3_takeByPlan_X3_hasRoomForStone
set_option maxRecDepth 20000 in
theorem ggX3_takeByPlan_X3_nextPlannedSlab : GoodIn wsX3_takeByPlan wsX3_nextPlannedSlab := goodIn_r _ [10, 6, 11, 12, 13, 4, 14, 15, 16, 17, 18, 19, 20, 21, 22, 23, 24, 25, 26, 27, 28, 29, 30, 31, 32, 33, 34, 35, 36, 37, 38, 39, 40, 41, 42, 43, 44, 45, 46, 47, 48, 49, 50, 51, 52, 53, 54, 55, 56, 57, 58, 59, 60, 120, 121, 122, 123, 124, 125, 126, 127, 128, 129, 130, 131, 132, 133, 134, 135, 136, 137, 138, 139] (by decide +kernel) (by decide +kernel)
set_option maxRecDepth 20000 in
theorem gX3_takeByPlan_X3_nextPlannedSlab : GoodIn wsX3_takeByPlan (wsV RX3 121 RX3 yX3_nextPlannedSlab wsX3_nextPlannedSlab) := goodIn_app (goodIn_of _ (by decide +kernel)) ggX3_takeByPlan_X3_nextPlannedSlab
set_option maxRecDepth 20000 in
theorem ggX3_takeByPlan_X3_dearestWanted : GoodIn wsX3_takeByPlan wsX3_dearestWanted := goodIn_r _ [19, 20, 11, 12, 13, 4, 14, 6, 15, 21, 22, 23, 24, 25, 26, 27, 28, 29, 30, 31, 32, 33, 34, 35, 36, 37, 38, 39, 40, 41, 42, 43, 44, 45, 46, 47, 48, 49, 50, 51, 52, 53, 54, 55, 56, 120, 121, 122, 123, 124, 125, 126, 127, 128, 129, 130, 131, 132, 133, 134, 135, 136, 137, 138, 139] (by decide +kernel) (by decide +kernel)
set_option maxRecDepth 20000 in
theorem gX3_takeByPlan_X3_dearestWanted : GoodIn wsX3_takeByPlan (wsV RX3 124 RX3 yX3_dearestWanted wsX3_dearestWanted) := goodIn_app (goodIn_of _ (by decide +kernel)) ggX3_takeByPlan_X3_dearestWanted
set_option maxRecDepth 20000 in
theorem ggX3_takeByPlan_X3_takeStone : GoodIn wsX3_takeByPlan wsX3_takeStone := goodIn_r _ [64, 11, 12, 13, 4, 14, 6, 15, 21, 22, 23, 24, 20, 25, 26, 27, 28, 29, 30, 31, 32, 33, 34, 35, 36, 37, 38, 39, 40, 41, 42, 43, 44, 45, 46, 47, 48, 49, 50, 51, 52, 53, 54, 55, 56, 65, 66, 67, 68, 69, 70, 71, 72, 73, 74, 75, 76, 77, 78, 79, 80, 81, 82, 83, 84, 85, 86, 87, 88, 89, 90, 91, 92, 93, 94, 95, 96, 97, 98, 99, 100, 101, 102, 103, 104, 105, 106, 107, 108, 109, 110, 111, 112, 113, 114, 115, 116, 117, 118, 119, 133, 134, 135, 136, 137, 138, 139, 120, 121, 122, 123, 124, 125, 126, 127, 128, 129, 130, 131, 132] (by decide +kernel) (by decide +kernel)
set_option maxRecDepth 20000 in
theorem gX3_takeByPlan_X3_takeStone : GoodIn wsX3_takeByPlan (wsV RX3 127 RX3 yX3_takeStone wsX3_takeStone) := goodIn_app (goodIn_of _ (by decide +kernel)) ggX3_takeByPlan_X3_takeStone
theorem dX3_takeByPlan_0 : decode cX3_takeByPlan 0 = .ok (.iconst 0, 1) := by decide +kernel
theorem dX3_takeByPlan_1 : decode cX3_takeByPlan 1 = .ok (.istore_n 2, 1) := by decide +kernel
theorem dX3_takeByPlan_2 : decode cX3_takeByPlan 2 = .ok (.iconst 0, 1) := by decide +kernel
theorem dX3_takeByPlan_3 : decode cX3_takeByPlan 3 = .ok (.istore_n 3, 1) := by decide +kernel
theorem dX3_takeByPlan_4 : decode cX3_takeByPlan 4 = .ok (.iload_n 3, 1) := by decide +kernel
theorem dX3_takeByPlan_5 : decode cX3_takeByPlan 5 = .ok (.iload_n 1, 1) := by decide +kernel
theorem dX3_takeByPlan_6 : decode cX3_takeByPlan 6 = .ok (.if_icmp .ge 47, 3) := by decide +kernel
theorem dX3_takeByPlan_9 : decode cX3_takeByPlan 9 = .ok (.aload_n 0, 1) := by decide +kernel
theorem dX3_takeByPlan_10 : decode cX3_takeByPlan 10 = .ok (.invokevirtual 117, 3) := by decide +kernel
theorem dX3_takeByPlan_13 : decode cX3_takeByPlan 13 = .ok (.ifCond .eq 40, 3) := by decide +kernel
theorem dX3_takeByPlan_16 : decode cX3_takeByPlan 16 = .ok (.aload_n 0, 1) := by decide +kernel
theorem dX3_takeByPlan_17 : decode cX3_takeByPlan 17 = .ok (.invokevirtual 121, 3) := by decide +kernel
theorem dX3_takeByPlan_20 : decode cX3_takeByPlan 20 = .ok (.istore 4, 2) := by decide +kernel
theorem dX3_takeByPlan_22 : decode cX3_takeByPlan 22 = .ok (.iload 4, 2) := by decide +kernel
theorem dX3_takeByPlan_24 : decode cX3_takeByPlan 24 = .ok (.iconst (-1), 1) := by decide +kernel
theorem dX3_takeByPlan_25 : decode cX3_takeByPlan 25 = .ok (.if_icmp .ne 6, 3) := by decide +kernel
theorem dX3_takeByPlan_28 : decode cX3_takeByPlan 28 = .ok (.goto 25, 3) := by decide +kernel
theorem dX3_takeByPlan_31 : decode cX3_takeByPlan 31 = .ok (.aload_n 0, 1) := by decide +kernel
theorem dX3_takeByPlan_32 : decode cX3_takeByPlan 32 = .ok (.iload 4, 2) := by decide +kernel
theorem dX3_takeByPlan_34 : decode cX3_takeByPlan 34 = .ok (.aload_n 0, 1) := by decide +kernel
theorem dX3_takeByPlan_35 : decode cX3_takeByPlan 35 = .ok (.iload 4, 2) := by decide +kernel
theorem dX3_takeByPlan_37 : decode cX3_takeByPlan 37 = .ok (.invokevirtual 124, 3) := by decide +kernel
theorem dX3_takeByPlan_40 : decode cX3_takeByPlan 40 = .ok (.invokevirtual 127, 3) := by decide +kernel
theorem dX3_takeByPlan_43 : decode cX3_takeByPlan 43 = .ok (.pop, 1) := by decide +kernel
theorem dX3_takeByPlan_44 : decode cX3_takeByPlan 44 = .ok (.iinc 2 1, 3) := by decide +kernel
theorem dX3_takeByPlan_47 : decode cX3_takeByPlan 47 = .ok (.iinc 3 1, 3) := by decide +kernel
theorem dX3_takeByPlan_50 : decode cX3_takeByPlan 50 = .ok (.goto (-46), 3) := by decide +kernel
theorem dX3_takeByPlan_53 : decode cX3_takeByPlan 53 = .ok (.iload_n 2, 1) := by decide +kernel
theorem dX3_takeByPlan_54 : decode cX3_takeByPlan 54 = .ok (.ireturn, 1) := by decide +kernel
set_option maxRecDepth 20000 in
theorem ggX3_nextPlannedSlab_X3_slabOrNull : GoodIn wsX3_nextPlannedSlab wsX3_slabOrNull := goodIn_r _ [6, 1, 7, 53, 54, 55, 56, 57] (by decide +kernel) (by decide +kernel)
set_option maxRecDepth 20000 in
theorem gX3_nextPlannedSlab_X3_slabOrNull : GoodIn wsX3_nextPlannedSlab (wsV RX3 35 RX3 yX3_slabOrNull wsX3_slabOrNull) := goodIn_app (goodIn_of _ (by decide +kernel)) ggX3_nextPlannedSlab_X3_slabOrNull
set_option maxRecDepth 20000 in
theorem ggX3_nextPlannedSlab_X3_dearestWanted : GoodIn wsX3_nextPlannedSlab wsX3_dearestWanted := goodIn_r _ [11, 12, 2, 3, 4, 5, 6, 1, 7, 13, 14, 15, 16, 17, 18, 19, 20, 21, 22, 23, 24, 25, 26, 27, 28, 29, 30, 31, 32, 33, 34, 35, 36, 37, 38, 39, 40, 41, 42, 43, 44, 45, 46, 47, 48, 53, 54, 55, 56, 57, 58, 59, 60, 61, 62, 63, 64, 65, 66, 67, 68, 69, 70, 71, 72] (by decide +kernel) (by decide +kernel)
set_option maxRecDepth 20000 in
theorem gX3_nextPlannedSlab_X3_dearestWanted : GoodIn wsX3_nextPlannedSlab (wsV RX3 124 RX3 yX3_dearestWanted wsX3_dearestWanted) := goodIn_app (goodIn_of _ (by decide +kernel)) ggX3_nextPlannedSlab_X3_dearestWanted
set_option maxRecDepth 20000 in
theorem ggX3_nextPlannedSlab_X3_kindOrNull : GoodIn wsX3_nextPlannedSlab wsX3_kindOrNull := goodIn_r _ [16, 12, 17, 53, 54, 55, 56, 57] (by decide +kernel) (by decide +kernel)
set_option maxRecDepth 20000 in
theorem gX3_nextPlannedSlab_X3_kindOrNull : GoodIn wsX3_nextPlannedSlab (wsV RX3 43 RX3 yX3_kindOrNull wsX3_kindOrNull) := goodIn_app (goodIn_of _ (by decide +kernel)) ggX3_nextPlannedSlab_X3_kindOrNull
set_option maxRecDepth 20000 in
theorem ggX3_nextPlannedSlab_X2_area : GoodIn wsX3_nextPlannedSlab wsX2_area := goodIn_r _ [52, 24, 25, 66, 67, 68, 69, 70, 71, 72] (by decide +kernel) (by decide +kernel)
set_option maxRecDepth 20000 in
theorem gX3_nextPlannedSlab_X2_area : GoodIn wsX3_nextPlannedSlab (wsV RX3 131 RX2 yX2_area wsX2_area) := goodIn_app (goodIn_of _ (by decide +kernel)) ggX3_nextPlannedSlab_X2_area
theorem dX3_nextPlannedSlab_0 : decode cX3_nextPlannedSlab 0 = .ok (.iconst (-1), 1) := by decide +kernel
theorem dX3_nextPlannedSlab_1 : decode cX3_nextPlannedSlab 1 = .ok (.istore_n 1, 1) := by decide +kernel
theorem dX3_nextPlannedSlab_2 : decode cX3_nextPlannedSlab 2 = .ok (.iconst 0, 1) := by decide +kernel
theorem dX3_nextPlannedSlab_3 : decode cX3_nextPlannedSlab 3 = .ok (.istore_n 2, 1) := by decide +kernel
theorem dX3_nextPlannedSlab_4 : decode cX3_nextPlannedSlab 4 = .ok (.iconst 0, 1) := by decide +kernel
theorem dX3_nextPlannedSlab_5 : decode cX3_nextPlannedSlab 5 = .ok (.istore_n 3, 1) := by decide +kernel
theorem dX3_nextPlannedSlab_6 : decode cX3_nextPlannedSlab 6 = .ok (.iconst 0, 1) := by decide +kernel
theorem dX3_nextPlannedSlab_7 : decode cX3_nextPlannedSlab 7 = .ok (.istore 4, 2) := by decide +kernel
theorem dX3_nextPlannedSlab_9 : decode cX3_nextPlannedSlab 9 = .ok (.iload 4, 2) := by decide +kernel
theorem dX3_nextPlannedSlab_11 : decode cX3_nextPlannedSlab 11 = .ok (.aload_n 0, 1) := by decide +kernel
theorem dX3_nextPlannedSlab_12 : decode cX3_nextPlannedSlab 12 = .ok (.getfield 29, 3) := by decide +kernel
theorem dX3_nextPlannedSlab_15 : decode cX3_nextPlannedSlab 15 = .ok (.if_icmp .ge 81, 3) := by decide +kernel
theorem dX3_nextPlannedSlab_18 : decode cX3_nextPlannedSlab 18 = .ok (.aload_n 0, 1) := by decide +kernel
theorem dX3_nextPlannedSlab_19 : decode cX3_nextPlannedSlab 19 = .ok (.iload 4, 2) := by decide +kernel
theorem dX3_nextPlannedSlab_21 : decode cX3_nextPlannedSlab 21 = .ok (.invokevirtual 35, 3) := by decide +kernel
theorem dX3_nextPlannedSlab_24 : decode cX3_nextPlannedSlab 24 = .ok (.astore 5, 2) := by decide +kernel
theorem dX3_nextPlannedSlab_26 : decode cX3_nextPlannedSlab 26 = .ok (.aload_n 0, 1) := by decide +kernel
theorem dX3_nextPlannedSlab_27 : decode cX3_nextPlannedSlab 27 = .ok (.aload_n 0, 1) := by decide +kernel
theorem dX3_nextPlannedSlab_28 : decode cX3_nextPlannedSlab 28 = .ok (.iload 4, 2) := by decide +kernel
theorem dX3_nextPlannedSlab_30 : decode cX3_nextPlannedSlab 30 = .ok (.invokevirtual 124, 3) := by decide +kernel
theorem dX3_nextPlannedSlab_33 : decode cX3_nextPlannedSlab 33 = .ok (.invokevirtual 43, 3) := by decide +kernel
theorem dX3_nextPlannedSlab_36 : decode cX3_nextPlannedSlab 36 = .ok (.astore 6, 2) := by decide +kernel
theorem dX3_nextPlannedSlab_38 : decode cX3_nextPlannedSlab 38 = .ok (.aload 5, 2) := by decide +kernel
theorem dX3_nextPlannedSlab_40 : decode cX3_nextPlannedSlab 40 = .ok (.ifnull 50, 3) := by decide +kernel
theorem dX3_nextPlannedSlab_43 : decode cX3_nextPlannedSlab 43 = .ok (.aload 6, 2) := by decide +kernel
theorem dX3_nextPlannedSlab_45 : decode cX3_nextPlannedSlab 45 = .ok (.ifnull 45, 3) := by decide +kernel
theorem dX3_nextPlannedSlab_48 : decode cX3_nextPlannedSlab 48 = .ok (.aload 6, 2) := by decide +kernel
theorem dX3_nextPlannedSlab_50 : decode cX3_nextPlannedSlab 50 = .ok (.getfield 57, 3) := by decide +kernel
theorem dX3_nextPlannedSlab_53 : decode cX3_nextPlannedSlab 53 = .ok (.iload_n 2, 1) := by decide +kernel
theorem dX3_nextPlannedSlab_54 : decode cX3_nextPlannedSlab 54 = .ok (.if_icmp .gt 21, 3) := by decide +kernel
theorem dX3_nextPlannedSlab_57 : decode cX3_nextPlannedSlab 57 = .ok (.aload 6, 2) := by decide +kernel
theorem dX3_nextPlannedSlab_59 : decode cX3_nextPlannedSlab 59 = .ok (.getfield 57, 3) := by decide +kernel
theorem dX3_nextPlannedSlab_62 : decode cX3_nextPlannedSlab 62 = .ok (.iload_n 2, 1) := by decide +kernel
theorem dX3_nextPlannedSlab_63 : decode cX3_nextPlannedSlab 63 = .ok (.if_icmp .ne 27, 3) := by decide +kernel
theorem dX3_nextPlannedSlab_66 : decode cX3_nextPlannedSlab 66 = .ok (.aload 5, 2) := by decide +kernel
theorem dX3_nextPlannedSlab_68 : decode cX3_nextPlannedSlab 68 = .ok (.invokevirtual 131, 3) := by decide +kernel
theorem dX3_nextPlannedSlab_71 : decode cX3_nextPlannedSlab 71 = .ok (.iload_n 3, 1) := by decide +kernel
theorem dX3_nextPlannedSlab_72 : decode cX3_nextPlannedSlab 72 = .ok (.if_icmp .ge 18, 3) := by decide +kernel
theorem dX3_nextPlannedSlab_75 : decode cX3_nextPlannedSlab 75 = .ok (.iload 4, 2) := by decide +kernel
theorem dX3_nextPlannedSlab_77 : decode cX3_nextPlannedSlab 77 = .ok (.istore_n 1, 1) := by decide +kernel
theorem dX3_nextPlannedSlab_78 : decode cX3_nextPlannedSlab 78 = .ok (.aload 6, 2) := by decide +kernel
theorem dX3_nextPlannedSlab_80 : decode cX3_nextPlannedSlab 80 = .ok (.getfield 57, 3) := by decide +kernel
theorem dX3_nextPlannedSlab_83 : decode cX3_nextPlannedSlab 83 = .ok (.istore_n 2, 1) := by decide +kernel
theorem dX3_nextPlannedSlab_84 : decode cX3_nextPlannedSlab 84 = .ok (.aload 5, 2) := by decide +kernel
theorem dX3_nextPlannedSlab_86 : decode cX3_nextPlannedSlab 86 = .ok (.invokevirtual 131, 3) := by decide +kernel
theorem dX3_nextPlannedSlab_89 : decode cX3_nextPlannedSlab 89 = .ok (.istore_n 3, 1) := by decide +kernel
theorem dX3_nextPlannedSlab_90 : decode cX3_nextPlannedSlab 90 = .ok (.iinc 4 1, 3) := by decide +kernel
theorem dX3_nextPlannedSlab_93 : decode cX3_nextPlannedSlab 93 = .ok (.goto (-84), 3) := by decide +kernel
theorem dX3_nextPlannedSlab_96 : decode cX3_nextPlannedSlab 96 = .ok (.iload_n 1, 1) := by decide +kernel
theorem dX3_nextPlannedSlab_97 : decode cX3_nextPlannedSlab 97 = .ok (.ireturn, 1) := by decide +kernel
set_option maxRecDepth 20000 in
theorem ggX3_dearestWanted_X3_slabOrNull : GoodIn wsX3_dearestWanted wsX3_slabOrNull := goodIn_r _ [6, 7, 8, 45, 46, 47, 48, 49] (by decide +kernel) (by decide +kernel)
set_option maxRecDepth 20000 in
theorem gX3_dearestWanted_X3_slabOrNull : GoodIn wsX3_dearestWanted (wsV RX3 35 RX3 yX3_slabOrNull wsX3_slabOrNull) := goodIn_app (goodIn_of _ (by decide +kernel)) ggX3_dearestWanted_X3_slabOrNull
set_option maxRecDepth 20000 in
theorem ggX3_dearestWanted_X3_kindOrNull : GoodIn wsX3_dearestWanted wsX3_kindOrNull := goodIn_r _ [12, 1, 13, 45, 46, 47, 48, 49] (by decide +kernel) (by decide +kernel)
set_option maxRecDepth 20000 in
theorem gX3_dearestWanted_X3_kindOrNull : GoodIn wsX3_dearestWanted (wsV RX3 43 RX3 yX3_kindOrNull wsX3_kindOrNull) := goodIn_app (goodIn_of _ (by decide +kernel)) ggX3_dearestWanted_X3_kindOrNull
set_option maxRecDepth 20000 in
theorem ggX3_dearestWanted_X2_firstManner : GoodIn wsX3_dearestWanted wsX2_firstManner := goodIn_r _ [18, 19, 20, 21, 22, 23, 24, 25, 26, 27, 28, 29, 30, 31, 32, 33, 34, 35, 36, 37, 38, 39, 40, 41, 17, 42, 43, 44, 58, 59, 60, 61, 62, 63, 64, 50, 51, 52, 53, 54, 55, 56, 57] (by decide +kernel) (by decide +kernel)
set_option maxRecDepth 20000 in
theorem gX3_dearestWanted_X2_firstManner : GoodIn wsX3_dearestWanted (wsV RX3 88 RX2 yX2_firstManner wsX2_firstManner) := goodIn_app (goodIn_of _ (by decide +kernel)) ggX3_dearestWanted_X2_firstManner
theorem dX3_dearestWanted_0 : decode cX3_dearestWanted 0 = .ok (.aload_n 0, 1) := by decide +kernel
theorem dX3_dearestWanted_1 : decode cX3_dearestWanted 1 = .ok (.iload_n 1, 1) := by decide +kernel
theorem dX3_dearestWanted_2 : decode cX3_dearestWanted 2 = .ok (.invokevirtual 35, 3) := by decide +kernel
theorem dX3_dearestWanted_5 : decode cX3_dearestWanted 5 = .ok (.astore_n 2, 1) := by decide +kernel
theorem dX3_dearestWanted_6 : decode cX3_dearestWanted 6 = .ok (.iconst (-1), 1) := by decide +kernel
theorem dX3_dearestWanted_7 : decode cX3_dearestWanted 7 = .ok (.istore_n 3, 1) := by decide +kernel
theorem dX3_dearestWanted_8 : decode cX3_dearestWanted 8 = .ok (.iconst 0, 1) := by decide +kernel
theorem dX3_dearestWanted_9 : decode cX3_dearestWanted 9 = .ok (.istore 4, 2) := by decide +kernel
theorem dX3_dearestWanted_11 : decode cX3_dearestWanted 11 = .ok (.iconst 0, 1) := by decide +kernel
theorem dX3_dearestWanted_12 : decode cX3_dearestWanted 12 = .ok (.istore 5, 2) := by decide +kernel
theorem dX3_dearestWanted_14 : decode cX3_dearestWanted 14 = .ok (.iload 5, 2) := by decide +kernel
theorem dX3_dearestWanted_16 : decode cX3_dearestWanted 16 = .ok (.aload_n 0, 1) := by decide +kernel
theorem dX3_dearestWanted_17 : decode cX3_dearestWanted 17 = .ok (.getfield 32, 3) := by decide +kernel
theorem dX3_dearestWanted_20 : decode cX3_dearestWanted 20 = .ok (.if_icmp .ge 64, 3) := by decide +kernel
theorem dX3_dearestWanted_23 : decode cX3_dearestWanted 23 = .ok (.aload_n 0, 1) := by decide +kernel
theorem dX3_dearestWanted_24 : decode cX3_dearestWanted 24 = .ok (.iload 5, 2) := by decide +kernel
theorem dX3_dearestWanted_26 : decode cX3_dearestWanted 26 = .ok (.invokevirtual 43, 3) := by decide +kernel
theorem dX3_dearestWanted_29 : decode cX3_dearestWanted 29 = .ok (.astore 6, 2) := by decide +kernel
theorem dX3_dearestWanted_31 : decode cX3_dearestWanted 31 = .ok (.aload_n 2, 1) := by decide +kernel
theorem dX3_dearestWanted_32 : decode cX3_dearestWanted 32 = .ok (.ifnull 46, 3) := by decide +kernel
theorem dX3_dearestWanted_35 : decode cX3_dearestWanted 35 = .ok (.aload 6, 2) := by decide +kernel
theorem dX3_dearestWanted_37 : decode cX3_dearestWanted 37 = .ok (.ifnull 41, 3) := by decide +kernel
theorem dX3_dearestWanted_40 : decode cX3_dearestWanted 40 = .ok (.aload 6, 2) := by decide +kernel
theorem dX3_dearestWanted_42 : decode cX3_dearestWanted 42 = .ok (.getfield 111, 3) := by decide +kernel
theorem dX3_dearestWanted_45 : decode cX3_dearestWanted 45 = .ok (.ifCond .le 33, 3) := by decide +kernel
theorem dX3_dearestWanted_48 : decode cX3_dearestWanted 48 = .ok (.aload 6, 2) := by decide +kernel
theorem dX3_dearestWanted_50 : decode cX3_dearestWanted 50 = .ok (.getfield 57, 3) := by decide +kernel
theorem dX3_dearestWanted_53 : decode cX3_dearestWanted 53 = .ok (.iload 4, 2) := by decide +kernel
theorem dX3_dearestWanted_55 : decode cX3_dearestWanted 55 = .ok (.if_icmp .le 23, 3) := by decide +kernel
theorem dX3_dearestWanted_58 : decode cX3_dearestWanted 58 = .ok (.aload_n 2, 1) := by decide +kernel
theorem dX3_dearestWanted_59 : decode cX3_dearestWanted 59 = .ok (.aload 6, 2) := by decide +kernel
theorem dX3_dearestWanted_61 : decode cX3_dearestWanted 61 = .ok (.invokevirtual 88, 3) := by decide +kernel
theorem dX3_dearestWanted_64 : decode cX3_dearestWanted 64 = .ok (.iconst (-1), 1) := by decide +kernel
theorem dX3_dearestWanted_65 : decode cX3_dearestWanted 65 = .ok (.if_icmp .eq 13, 3) := by decide +kernel
theorem dX3_dearestWanted_68 : decode cX3_dearestWanted 68 = .ok (.iload 5, 2) := by decide +kernel
theorem dX3_dearestWanted_70 : decode cX3_dearestWanted 70 = .ok (.istore_n 3, 1) := by decide +kernel
theorem dX3_dearestWanted_71 : decode cX3_dearestWanted 71 = .ok (.aload 6, 2) := by decide +kernel
theorem dX3_dearestWanted_73 : decode cX3_dearestWanted 73 = .ok (.getfield 57, 3) := by decide +kernel
theorem dX3_dearestWanted_76 : decode cX3_dearestWanted 76 = .ok (.istore 4, 2) := by decide +kernel
theorem dX3_dearestWanted_78 : decode cX3_dearestWanted 78 = .ok (.iinc 5 1, 3) := by decide +kernel
theorem dX3_dearestWanted_81 : decode cX3_dearestWanted 81 = .ok (.goto (-67), 3) := by decide +kernel
theorem dX3_dearestWanted_84 : decode cX3_dearestWanted 84 = .ok (.iload_n 3, 1) := by decide +kernel
theorem dX3_dearestWanted_85 : decode cX3_dearestWanted 85 = .ok (.ireturn, 1) := by decide +kernel
set_option maxRecDepth 20000 in
theorem ggX3_dearestStone_X3_kindOrNull : GoodIn wsX3_dearestStone wsX3_kindOrNull := goodIn_r _ [6, 1, 7, 20, 21, 22, 23, 24] (by decide +kernel) (by decide +kernel)
set_option maxRecDepth 20000 in
theorem gX3_dearestStone_X3_kindOrNull : GoodIn wsX3_dearestStone (wsV RX3 43 RX3 yX3_kindOrNull wsX3_kindOrNull) := goodIn_app (goodIn_of _ (by decide +kernel)) ggX3_dearestStone_X3_kindOrNull
set_option maxRecDepth 20000 in
theorem ggX3_dearestStone_X0_goesInto_ : GoodIn wsX3_dearestStone wsX0_goesInto_ := goodIn_r _ [12, 13, 14, 15, 11, 16, 17, 18, 19, 25, 26, 27, 28, 29, 30, 31, 32] (by decide +kernel) (by decide +kernel)
set_option maxRecDepth 20000 in
theorem gX3_dearestStone_X0_goesInto_ : GoodIn wsX3_dearestStone (wsV RX3 134 RX0 yX0_goesInto_ wsX0_goesInto_) := goodIn_app (goodIn_of _ (by decide +kernel)) ggX3_dearestStone_X0_goesInto_
theorem dX3_dearestStone_0 : decode cX3_dearestStone 0 = .ok (.iconst (-1), 1) := by decide +kernel
theorem dX3_dearestStone_1 : decode cX3_dearestStone 1 = .ok (.istore 4, 2) := by decide +kernel
theorem dX3_dearestStone_3 : decode cX3_dearestStone 3 = .ok (.iconst 0, 1) := by decide +kernel
theorem dX3_dearestStone_4 : decode cX3_dearestStone 4 = .ok (.istore 5, 2) := by decide +kernel
theorem dX3_dearestStone_6 : decode cX3_dearestStone 6 = .ok (.iconst 0, 1) := by decide +kernel
theorem dX3_dearestStone_7 : decode cX3_dearestStone 7 = .ok (.istore 6, 2) := by decide +kernel
theorem dX3_dearestStone_9 : decode cX3_dearestStone 9 = .ok (.iload 6, 2) := by decide +kernel
theorem dX3_dearestStone_11 : decode cX3_dearestStone 11 = .ok (.aload_n 0, 1) := by decide +kernel
theorem dX3_dearestStone_12 : decode cX3_dearestStone 12 = .ok (.getfield 32, 3) := by decide +kernel
theorem dX3_dearestStone_15 : decode cX3_dearestStone 15 = .ok (.if_icmp .ge 54, 3) := by decide +kernel
theorem dX3_dearestStone_18 : decode cX3_dearestStone 18 = .ok (.aload_n 0, 1) := by decide +kernel
theorem dX3_dearestStone_19 : decode cX3_dearestStone 19 = .ok (.iload 6, 2) := by decide +kernel
theorem dX3_dearestStone_21 : decode cX3_dearestStone 21 = .ok (.invokevirtual 43, 3) := by decide +kernel
theorem dX3_dearestStone_24 : decode cX3_dearestStone 24 = .ok (.astore 7, 2) := by decide +kernel
theorem dX3_dearestStone_26 : decode cX3_dearestStone 26 = .ok (.aload 7, 2) := by decide +kernel
theorem dX3_dearestStone_28 : decode cX3_dearestStone 28 = .ok (.ifnull 35, 3) := by decide +kernel
theorem dX3_dearestStone_31 : decode cX3_dearestStone 31 = .ok (.aload 7, 2) := by decide +kernel
theorem dX3_dearestStone_33 : decode cX3_dearestStone 33 = .ok (.getfield 57, 3) := by decide +kernel
theorem dX3_dearestStone_36 : decode cX3_dearestStone 36 = .ok (.iload 5, 2) := by decide +kernel
theorem dX3_dearestStone_38 : decode cX3_dearestStone 38 = .ok (.if_icmp .le 25, 3) := by decide +kernel
theorem dX3_dearestStone_41 : decode cX3_dearestStone 41 = .ok (.aload 7, 2) := by decide +kernel
theorem dX3_dearestStone_43 : decode cX3_dearestStone 43 = .ok (.iload_n 1, 1) := by decide +kernel
theorem dX3_dearestStone_44 : decode cX3_dearestStone 44 = .ok (.iload_n 2, 1) := by decide +kernel
theorem dX3_dearestStone_45 : decode cX3_dearestStone 45 = .ok (.iload_n 3, 1) := by decide +kernel
theorem dX3_dearestStone_46 : decode cX3_dearestStone 46 = .ok (.invokevirtual 134, 3) := by decide +kernel
theorem dX3_dearestStone_49 : decode cX3_dearestStone 49 = .ok (.ifCond .eq 14, 3) := by decide +kernel
theorem dX3_dearestStone_52 : decode cX3_dearestStone 52 = .ok (.iload 6, 2) := by decide +kernel
theorem dX3_dearestStone_54 : decode cX3_dearestStone 54 = .ok (.istore 4, 2) := by decide +kernel
theorem dX3_dearestStone_56 : decode cX3_dearestStone 56 = .ok (.aload 7, 2) := by decide +kernel
theorem dX3_dearestStone_58 : decode cX3_dearestStone 58 = .ok (.getfield 57, 3) := by decide +kernel
theorem dX3_dearestStone_61 : decode cX3_dearestStone 61 = .ok (.istore 5, 2) := by decide +kernel
theorem dX3_dearestStone_63 : decode cX3_dearestStone 63 = .ok (.iinc 6 1, 3) := by decide +kernel
theorem dX3_dearestStone_66 : decode cX3_dearestStone 66 = .ok (.goto (-57), 3) := by decide +kernel
theorem dX3_dearestStone_69 : decode cX3_dearestStone 69 = .ok (.iload 4, 2) := by decide +kernel
theorem dX3_dearestStone_71 : decode cX3_dearestStone 71 = .ok (.ireturn, 1) := by decide +kernel
set_option maxRecDepth 20000 in
theorem ggX3_longestThere_X3_slabOrNull : GoodIn wsX3_longestThere wsX3_slabOrNull := goodIn_r _ [10, 1, 11, 19, 20, 21, 22, 23] (by decide +kernel) (by decide +kernel)
set_option maxRecDepth 20000 in
theorem gX3_longestThere_X3_slabOrNull : GoodIn wsX3_longestThere (wsV RX3 35 RX3 yX3_slabOrNull wsX3_slabOrNull) := goodIn_app (goodIn_of _ (by decide +kernel)) ggX3_longestThere_X3_slabOrNull
set_option maxRecDepth 20000 in
theorem ggX3_longestThere_X2_along : GoodIn wsX3_longestThere wsX2_along := goodIn_r _ [16, 17, 18, 24, 25, 26, 27, 28, 29, 30] (by decide +kernel) (by decide +kernel)
set_option maxRecDepth 20000 in
theorem gX3_longestThere_X2_along : GoodIn wsX3_longestThere (wsV RX3 60 RX2 yX2_along wsX2_along) := goodIn_app (goodIn_of _ (by decide +kernel)) ggX3_longestThere_X2_along
theorem dX3_longestThere_0 : decode cX3_longestThere 0 = .ok (.iconst 0, 1) := by decide +kernel
theorem dX3_longestThere_1 : decode cX3_longestThere 1 = .ok (.istore_n 3, 1) := by decide +kernel
theorem dX3_longestThere_2 : decode cX3_longestThere 2 = .ok (.iconst 0, 1) := by decide +kernel
theorem dX3_longestThere_3 : decode cX3_longestThere 3 = .ok (.istore 4, 2) := by decide +kernel
theorem dX3_longestThere_5 : decode cX3_longestThere 5 = .ok (.iload 4, 2) := by decide +kernel
theorem dX3_longestThere_7 : decode cX3_longestThere 7 = .ok (.aload_n 0, 1) := by decide +kernel
theorem dX3_longestThere_8 : decode cX3_longestThere 8 = .ok (.getfield 29, 3) := by decide +kernel
theorem dX3_longestThere_11 : decode cX3_longestThere 11 = .ok (.if_icmp .ge 50, 3) := by decide +kernel
theorem dX3_longestThere_14 : decode cX3_longestThere 14 = .ok (.aload_n 0, 1) := by decide +kernel
theorem dX3_longestThere_15 : decode cX3_longestThere 15 = .ok (.iload 4, 2) := by decide +kernel
theorem dX3_longestThere_17 : decode cX3_longestThere 17 = .ok (.invokevirtual 35, 3) := by decide +kernel
theorem dX3_longestThere_20 : decode cX3_longestThere 20 = .ok (.astore 5, 2) := by decide +kernel
theorem dX3_longestThere_22 : decode cX3_longestThere 22 = .ok (.aload 5, 2) := by decide +kernel
theorem dX3_longestThere_24 : decode cX3_longestThere 24 = .ok (.ifnull 31, 3) := by decide +kernel
theorem dX3_longestThere_27 : decode cX3_longestThere 27 = .ok (.aload 5, 2) := by decide +kernel
theorem dX3_longestThere_29 : decode cX3_longestThere 29 = .ok (.getfield 81, 3) := by decide +kernel
theorem dX3_longestThere_32 : decode cX3_longestThere 32 = .ok (.ifCond .ne 23, 3) := by decide +kernel
theorem dX3_longestThere_35 : decode cX3_longestThere 35 = .ok (.aload 5, 2) := by decide +kernel
theorem dX3_longestThere_37 : decode cX3_longestThere 37 = .ok (.getfield 71, 3) := by decide +kernel
theorem dX3_longestThere_40 : decode cX3_longestThere 40 = .ok (.iload_n 1, 1) := by decide +kernel
theorem dX3_longestThere_41 : decode cX3_longestThere 41 = .ok (.if_icmp .ne 14, 3) := by decide +kernel
theorem dX3_longestThere_44 : decode cX3_longestThere 44 = .ok (.iload_n 3, 1) := by decide +kernel
theorem dX3_longestThere_45 : decode cX3_longestThere 45 = .ok (.aload 5, 2) := by decide +kernel
theorem dX3_longestThere_47 : decode cX3_longestThere 47 = .ok (.iload_n 2, 1) := by decide +kernel
theorem dX3_longestThere_48 : decode cX3_longestThere 48 = .ok (.invokevirtual 60, 3) := by decide +kernel
theorem dX3_longestThere_51 : decode cX3_longestThere 51 = .ok (.invokestatic 138, 3) := by decide +kernel
theorem dX3_longestThere_54 : decode cX3_longestThere 54 = .ok (.istore_n 3, 1) := by decide +kernel
theorem dX3_longestThere_55 : decode cX3_longestThere 55 = .ok (.iinc 4 1, 3) := by decide +kernel
theorem dX3_longestThere_58 : decode cX3_longestThere 58 = .ok (.goto (-53), 3) := by decide +kernel
theorem dX3_longestThere_61 : decode cX3_longestThere 61 = .ok (.iload_n 3, 1) := by decide +kernel
theorem dX3_longestThere_62 : decode cX3_longestThere 62 = .ok (.ireturn, 1) := by decide +kernel
set_option maxRecDepth 20000 in
theorem ggX3_countThere_X3_slabOrNull : GoodIn wsX3_countThere wsX3_slabOrNull := goodIn_r _ [6, 1, 7, 8, 9, 10, 11, 12] (by decide +kernel) (by decide +kernel)
set_option maxRecDepth 20000 in
theorem gX3_countThere_X3_slabOrNull : GoodIn wsX3_countThere (wsV RX3 35 RX3 yX3_slabOrNull wsX3_slabOrNull) := goodIn_app (goodIn_of _ (by decide +kernel)) ggX3_countThere_X3_slabOrNull
theorem dX3_countThere_0 : decode cX3_countThere 0 = .ok (.iconst 0, 1) := by decide +kernel
theorem dX3_countThere_1 : decode cX3_countThere 1 = .ok (.istore_n 1, 1) := by decide +kernel
theorem dX3_countThere_2 : decode cX3_countThere 2 = .ok (.iconst 0, 1) := by decide +kernel
theorem dX3_countThere_3 : decode cX3_countThere 3 = .ok (.istore_n 2, 1) := by decide +kernel
theorem dX3_countThere_4 : decode cX3_countThere 4 = .ok (.iload_n 2, 1) := by decide +kernel
theorem dX3_countThere_5 : decode cX3_countThere 5 = .ok (.aload_n 0, 1) := by decide +kernel
theorem dX3_countThere_6 : decode cX3_countThere 6 = .ok (.getfield 29, 3) := by decide +kernel
theorem dX3_countThere_9 : decode cX3_countThere 9 = .ok (.if_icmp .ge 29, 3) := by decide +kernel
theorem dX3_countThere_12 : decode cX3_countThere 12 = .ok (.aload_n 0, 1) := by decide +kernel
theorem dX3_countThere_13 : decode cX3_countThere 13 = .ok (.iload_n 2, 1) := by decide +kernel
theorem dX3_countThere_14 : decode cX3_countThere 14 = .ok (.invokevirtual 35, 3) := by decide +kernel
theorem dX3_countThere_17 : decode cX3_countThere 17 = .ok (.astore_n 3, 1) := by decide +kernel
theorem dX3_countThere_18 : decode cX3_countThere 18 = .ok (.aload_n 3, 1) := by decide +kernel
theorem dX3_countThere_19 : decode cX3_countThere 19 = .ok (.ifnull 13, 3) := by decide +kernel
theorem dX3_countThere_22 : decode cX3_countThere 22 = .ok (.aload_n 3, 1) := by decide +kernel
theorem dX3_countThere_23 : decode cX3_countThere 23 = .ok (.getfield 81, 3) := by decide +kernel
theorem dX3_countThere_26 : decode cX3_countThere 26 = .ok (.ifCond .ne 6, 3) := by decide +kernel
theorem dX3_countThere_29 : decode cX3_countThere 29 = .ok (.iinc 1 1, 3) := by decide +kernel
theorem dX3_countThere_32 : decode cX3_countThere 32 = .ok (.iinc 2 1, 3) := by decide +kernel
theorem dX3_countThere_35 : decode cX3_countThere 35 = .ok (.goto (-31), 3) := by decide +kernel
theorem dX3_countThere_38 : decode cX3_countThere 38 = .ok (.iload_n 1, 1) := by decide +kernel
theorem dX3_countThere_39 : decode cX3_countThere 39 = .ok (.ireturn, 1) := by decide +kernel
set_option maxRecDepth 20000 in
theorem ggX3_areaThere_X3_slabOrNull : GoodIn wsX3_areaThere wsX3_slabOrNull := goodIn_r _ [6, 1, 7, 15, 16, 17, 18, 19] (by decide +kernel) (by decide +kernel)
set_option maxRecDepth 20000 in
theorem gX3_areaThere_X3_slabOrNull : GoodIn wsX3_areaThere (wsV RX3 35 RX3 yX3_slabOrNull wsX3_slabOrNull) := goodIn_app (goodIn_of _ (by decide +kernel)) ggX3_areaThere_X3_slabOrNull
set_option maxRecDepth 20000 in
theorem ggX3_areaThere_X2_area : GoodIn wsX3_areaThere wsX2_area := goodIn_r _ [12, 13, 14, 20, 21, 22, 23, 24, 25, 26] (by decide +kernel) (by decide +kernel)
set_option maxRecDepth 20000 in
theorem gX3_areaThere_X2_area : GoodIn wsX3_areaThere (wsV RX3 131 RX2 yX2_area wsX2_area) := goodIn_app (goodIn_of _ (by decide +kernel)) ggX3_areaThere_X2_area
theorem dX3_areaThere_0 : decode cX3_areaThere 0 = .ok (.iconst 0, 1) := by decide +kernel
theorem dX3_areaThere_1 : decode cX3_areaThere 1 = .ok (.istore_n 1, 1) := by decide +kernel
theorem dX3_areaThere_2 : decode cX3_areaThere 2 = .ok (.iconst 0, 1) := by decide +kernel
theorem dX3_areaThere_3 : decode cX3_areaThere 3 = .ok (.istore_n 2, 1) := by decide +kernel
theorem dX3_areaThere_4 : decode cX3_areaThere 4 = .ok (.iload_n 2, 1) := by decide +kernel
theorem dX3_areaThere_5 : decode cX3_areaThere 5 = .ok (.aload_n 0, 1) := by decide +kernel
theorem dX3_areaThere_6 : decode cX3_areaThere 6 = .ok (.getfield 29, 3) := by decide +kernel
theorem dX3_areaThere_9 : decode cX3_areaThere 9 = .ok (.if_icmp .ge 33, 3) := by decide +kernel
theorem dX3_areaThere_12 : decode cX3_areaThere 12 = .ok (.aload_n 0, 1) := by decide +kernel
theorem dX3_areaThere_13 : decode cX3_areaThere 13 = .ok (.iload_n 2, 1) := by decide +kernel
theorem dX3_areaThere_14 : decode cX3_areaThere 14 = .ok (.invokevirtual 35, 3) := by decide +kernel
theorem dX3_areaThere_17 : decode cX3_areaThere 17 = .ok (.astore_n 3, 1) := by decide +kernel
theorem dX3_areaThere_18 : decode cX3_areaThere 18 = .ok (.aload_n 3, 1) := by decide +kernel
theorem dX3_areaThere_19 : decode cX3_areaThere 19 = .ok (.ifnull 17, 3) := by decide +kernel
theorem dX3_areaThere_22 : decode cX3_areaThere 22 = .ok (.aload_n 3, 1) := by decide +kernel
theorem dX3_areaThere_23 : decode cX3_areaThere 23 = .ok (.getfield 81, 3) := by decide +kernel
theorem dX3_areaThere_26 : decode cX3_areaThere 26 = .ok (.ifCond .ne 10, 3) := by decide +kernel
theorem dX3_areaThere_29 : decode cX3_areaThere 29 = .ok (.iload_n 1, 1) := by decide +kernel
theorem dX3_areaThere_30 : decode cX3_areaThere 30 = .ok (.aload_n 3, 1) := by decide +kernel
theorem dX3_areaThere_31 : decode cX3_areaThere 31 = .ok (.invokevirtual 131, 3) := by decide +kernel
theorem dX3_areaThere_34 : decode cX3_areaThere 34 = .ok (.iadd, 1) := by decide +kernel
theorem dX3_areaThere_35 : decode cX3_areaThere 35 = .ok (.istore_n 1, 1) := by decide +kernel
theorem dX3_areaThere_36 : decode cX3_areaThere 36 = .ok (.iinc 2 1, 3) := by decide +kernel
theorem dX3_areaThere_39 : decode cX3_areaThere 39 = .ok (.goto (-35), 3) := by decide +kernel
theorem dX3_areaThere_42 : decode cX3_areaThere 42 = .ok (.iload_n 1, 1) := by decide +kernel
theorem dX3_areaThere_43 : decode cX3_areaThere 43 = .ok (.ireturn, 1) := by decide +kernel
set_option maxRecDepth 20000 in
theorem ggX3_areaFromNone_X3_slabOrNull : GoodIn wsX3_areaFromNone wsX3_slabOrNull := goodIn_r _ [6, 1, 7, 15, 16, 17, 18, 19] (by decide +kernel) (by decide +kernel)
set_option maxRecDepth 20000 in
theorem gX3_areaFromNone_X3_slabOrNull : GoodIn wsX3_areaFromNone (wsV RX3 35 RX3 yX3_slabOrNull wsX3_slabOrNull) := goodIn_app (goodIn_of _ (by decide +kernel)) ggX3_areaFromNone_X3_slabOrNull
set_option maxRecDepth 20000 in
theorem ggX3_areaFromNone_X2_area : GoodIn wsX3_areaFromNone wsX2_area := goodIn_r _ [12, 13, 14, 20, 21, 22, 23, 24, 25, 26] (by decide +kernel) (by decide +kernel)
set_option maxRecDepth 20000 in
theorem gX3_areaFromNone_X2_area : GoodIn wsX3_areaFromNone (wsV RX3 131 RX2 yX2_area wsX2_area) := goodIn_app (goodIn_of _ (by decide +kernel)) ggX3_areaFromNone_X2_area
theorem dX3_areaFromNone_0 : decode cX3_areaFromNone 0 = .ok (.iconst 0, 1) := by decide +kernel
theorem dX3_areaFromNone_1 : decode cX3_areaFromNone 1 = .ok (.istore_n 1, 1) := by decide +kernel
theorem dX3_areaFromNone_2 : decode cX3_areaFromNone 2 = .ok (.iconst 0, 1) := by decide +kernel
theorem dX3_areaFromNone_3 : decode cX3_areaFromNone 3 = .ok (.istore_n 2, 1) := by decide +kernel
theorem dX3_areaFromNone_4 : decode cX3_areaFromNone 4 = .ok (.iload_n 2, 1) := by decide +kernel
theorem dX3_areaFromNone_5 : decode cX3_areaFromNone 5 = .ok (.aload_n 0, 1) := by decide +kernel
theorem dX3_areaFromNone_6 : decode cX3_areaFromNone 6 = .ok (.getfield 29, 3) := by decide +kernel
theorem dX3_areaFromNone_9 : decode cX3_areaFromNone 9 = .ok (.if_icmp .ge 34, 3) := by decide +kernel
theorem dX3_areaFromNone_12 : decode cX3_areaFromNone 12 = .ok (.aload_n 0, 1) := by decide +kernel
theorem dX3_areaFromNone_13 : decode cX3_areaFromNone 13 = .ok (.iload_n 2, 1) := by decide +kernel
theorem dX3_areaFromNone_14 : decode cX3_areaFromNone 14 = .ok (.invokevirtual 35, 3) := by decide +kernel
theorem dX3_areaFromNone_17 : decode cX3_areaFromNone 17 = .ok (.astore_n 3, 1) := by decide +kernel
theorem dX3_areaFromNone_18 : decode cX3_areaFromNone 18 = .ok (.aload_n 3, 1) := by decide +kernel
theorem dX3_areaFromNone_19 : decode cX3_areaFromNone 19 = .ok (.ifnull 18, 3) := by decide +kernel
theorem dX3_areaFromNone_22 : decode cX3_areaFromNone 22 = .ok (.aload_n 3, 1) := by decide +kernel
theorem dX3_areaFromNone_23 : decode cX3_areaFromNone 23 = .ok (.getfield 143, 3) := by decide +kernel
theorem dX3_areaFromNone_26 : decode cX3_areaFromNone 26 = .ok (.iconst (-1), 1) := by decide +kernel
theorem dX3_areaFromNone_27 : decode cX3_areaFromNone 27 = .ok (.if_icmp .ne 10, 3) := by decide +kernel
theorem dX3_areaFromNone_30 : decode cX3_areaFromNone 30 = .ok (.iload_n 1, 1) := by decide +kernel
theorem dX3_areaFromNone_31 : decode cX3_areaFromNone 31 = .ok (.aload_n 3, 1) := by decide +kernel
theorem dX3_areaFromNone_32 : decode cX3_areaFromNone 32 = .ok (.invokevirtual 131, 3) := by decide +kernel
theorem dX3_areaFromNone_35 : decode cX3_areaFromNone 35 = .ok (.iadd, 1) := by decide +kernel
theorem dX3_areaFromNone_36 : decode cX3_areaFromNone 36 = .ok (.istore_n 1, 1) := by decide +kernel
theorem dX3_areaFromNone_37 : decode cX3_areaFromNone 37 = .ok (.iinc 2 1, 3) := by decide +kernel
theorem dX3_areaFromNone_40 : decode cX3_areaFromNone 40 = .ok (.goto (-36), 3) := by decide +kernel
theorem dX3_areaFromNone_43 : decode cX3_areaFromNone 43 = .ok (.iload_n 1, 1) := by decide +kernel
theorem dX3_areaFromNone_44 : decode cX3_areaFromNone 44 = .ok (.ireturn, 1) := by decide +kernel
set_option maxRecDepth 20000 in
theorem ggX3_waste_X3_areaFromNone : GoodIn wsX3_waste wsX3_areaFromNone := goodIn_r _ [6, 7, 8, 9, 10, 5, 11, 12, 13, 14, 15, 16, 17, 18, 19, 29, 30, 31, 32, 33, 42, 43, 44, 45, 46, 47, 48] (by decide +kernel) (by decide +kernel)
set_option maxRecDepth 20000 in
theorem gX3_waste_X3_areaFromNone : GoodIn wsX3_waste (wsV RX3 146 RX3 yX3_areaFromNone wsX3_areaFromNone) := goodIn_app (goodIn_of _ (by decide +kernel)) ggX3_waste_X3_areaFromNone
set_option maxRecDepth 20000 in
theorem ggX3_waste_X3_areaThere : GoodIn wsX3_waste wsX3_areaThere := goodIn_r _ [23, 7, 8, 9, 10, 5, 11, 12, 13, 14, 15, 16, 17, 18, 19, 29, 30, 31, 32, 33, 42, 43, 44, 45, 46, 47, 48] (by decide +kernel) (by decide +kernel)
set_option maxRecDepth 20000 in
theorem gX3_waste_X3_areaThere : GoodIn wsX3_waste (wsV RX3 149 RX3 yX3_areaThere wsX3_areaThere) := goodIn_app (goodIn_of _ (by decide +kernel)) ggX3_waste_X3_areaThere
set_option maxRecDepth 20000 in
theorem ggX3_waste_X3_kindOrNull : GoodIn wsX3_waste wsX3_kindOrNull := goodIn_r _ [27, 1, 28, 29, 30, 31, 32, 33] (by decide +kernel) (by decide +kernel)
set_option maxRecDepth 20000 in
theorem gX3_waste_X3_kindOrNull : GoodIn wsX3_waste (wsV RX3 43 RX3 yX3_kindOrNull wsX3_kindOrNull) := goodIn_app (goodIn_of _ (by decide +kernel)) ggX3_waste_X3_kindOrNull
theorem dX3_waste_0 : decode cX3_waste 0 = .ok (.aload_n 0, 1) := by decide +kernel
theorem dX3_waste_1 : decode cX3_waste 1 = .ok (.invokevirtual 146, 3) := by decide +kernel
theorem dX3_waste_4 : decode cX3_waste 4 = .ok (.aload_n 0, 1) := by decide +kernel
theorem dX3_waste_5 : decode cX3_waste 5 = .ok (.invokevirtual 149, 3) := by decide +kernel
theorem dX3_waste_8 : decode cX3_waste 8 = .ok (.isub, 1) := by decide +kernel
theorem dX3_waste_9 : decode cX3_waste 9 = .ok (.istore_n 1, 1) := by decide +kernel
theorem dX3_waste_10 : decode cX3_waste 10 = .ok (.iconst 0, 1) := by decide +kernel
theorem dX3_waste_11 : decode cX3_waste 11 = .ok (.istore_n 2, 1) := by decide +kernel
theorem dX3_waste_12 : decode cX3_waste 12 = .ok (.iload_n 2, 1) := by decide +kernel
theorem dX3_waste_13 : decode cX3_waste 13 = .ok (.aload_n 0, 1) := by decide +kernel
theorem dX3_waste_14 : decode cX3_waste 14 = .ok (.getfield 32, 3) := by decide +kernel
theorem dX3_waste_17 : decode cX3_waste 17 = .ok (.if_icmp .ge 36, 3) := by decide +kernel
theorem dX3_waste_20 : decode cX3_waste 20 = .ok (.aload_n 0, 1) := by decide +kernel
theorem dX3_waste_21 : decode cX3_waste 21 = .ok (.iload_n 2, 1) := by decide +kernel
theorem dX3_waste_22 : decode cX3_waste 22 = .ok (.invokevirtual 43, 3) := by decide +kernel
theorem dX3_waste_25 : decode cX3_waste 25 = .ok (.astore_n 3, 1) := by decide +kernel
theorem dX3_waste_26 : decode cX3_waste 26 = .ok (.aload_n 3, 1) := by decide +kernel
theorem dX3_waste_27 : decode cX3_waste 27 = .ok (.ifnull 20, 3) := by decide +kernel
theorem dX3_waste_30 : decode cX3_waste 30 = .ok (.iload_n 1, 1) := by decide +kernel
theorem dX3_waste_31 : decode cX3_waste 31 = .ok (.aload_n 3, 1) := by decide +kernel
theorem dX3_waste_32 : decode cX3_waste 32 = .ok (.getfield 152, 3) := by decide +kernel
theorem dX3_waste_35 : decode cX3_waste 35 = .ok (.aload_n 3, 1) := by decide +kernel
theorem dX3_waste_36 : decode cX3_waste 36 = .ok (.getfield 155, 3) := by decide +kernel
theorem dX3_waste_39 : decode cX3_waste 39 = .ok (.imul, 1) := by decide +kernel
theorem dX3_waste_40 : decode cX3_waste 40 = .ok (.aload_n 3, 1) := by decide +kernel
theorem dX3_waste_41 : decode cX3_waste 41 = .ok (.getfield 158, 3) := by decide +kernel
theorem dX3_waste_44 : decode cX3_waste 44 = .ok (.imul, 1) := by decide +kernel
theorem dX3_waste_45 : decode cX3_waste 45 = .ok (.isub, 1) := by decide +kernel
theorem dX3_waste_46 : decode cX3_waste 46 = .ok (.istore_n 1, 1) := by decide +kernel
theorem dX3_waste_47 : decode cX3_waste 47 = .ok (.iinc 2 1, 3) := by decide +kernel
theorem dX3_waste_50 : decode cX3_waste 50 = .ok (.goto (-38), 3) := by decide +kernel
theorem dX3_waste_53 : decode cX3_waste 53 = .ok (.iload_n 1, 1) := by decide +kernel
theorem dX3_waste_54 : decode cX3_waste 54 = .ok (.ireturn, 1) := by decide +kernel
set_option maxRecDepth 20000 in
theorem ggX3_countTaken_X3_kindOrNull : GoodIn wsX3_countTaken wsX3_kindOrNull := goodIn_r _ [6, 1, 7, 8, 9, 10, 11, 12] (by decide +kernel) (by decide +kernel)
set_option maxRecDepth 20000 in
theorem gX3_countTaken_X3_kindOrNull : GoodIn wsX3_countTaken (wsV RX3 43 RX3 yX3_kindOrNull wsX3_kindOrNull) := goodIn_app (goodIn_of _ (by decide +kernel)) ggX3_countTaken_X3_kindOrNull
theorem dX3_countTaken_0 : decode cX3_countTaken 0 = .ok (.iconst 0, 1) := by decide +kernel
theorem dX3_countTaken_1 : decode cX3_countTaken 1 = .ok (.istore_n 1, 1) := by decide +kernel
theorem dX3_countTaken_2 : decode cX3_countTaken 2 = .ok (.iconst 0, 1) := by decide +kernel
theorem dX3_countTaken_3 : decode cX3_countTaken 3 = .ok (.istore_n 2, 1) := by decide +kernel
theorem dX3_countTaken_4 : decode cX3_countTaken 4 = .ok (.iload_n 2, 1) := by decide +kernel
theorem dX3_countTaken_5 : decode cX3_countTaken 5 = .ok (.aload_n 0, 1) := by decide +kernel
theorem dX3_countTaken_6 : decode cX3_countTaken 6 = .ok (.getfield 32, 3) := by decide +kernel
theorem dX3_countTaken_9 : decode cX3_countTaken 9 = .ok (.if_icmp .ge 30, 3) := by decide +kernel
theorem dX3_countTaken_12 : decode cX3_countTaken 12 = .ok (.aload_n 0, 1) := by decide +kernel
theorem dX3_countTaken_13 : decode cX3_countTaken 13 = .ok (.iload_n 2, 1) := by decide +kernel
theorem dX3_countTaken_14 : decode cX3_countTaken 14 = .ok (.invokevirtual 43, 3) := by decide +kernel
theorem dX3_countTaken_17 : decode cX3_countTaken 17 = .ok (.astore_n 3, 1) := by decide +kernel
theorem dX3_countTaken_18 : decode cX3_countTaken 18 = .ok (.iload_n 1, 1) := by decide +kernel
theorem dX3_countTaken_19 : decode cX3_countTaken 19 = .ok (.aload_n 3, 1) := by decide +kernel
theorem dX3_countTaken_20 : decode cX3_countTaken 20 = .ok (.ifnonnull 7, 3) := by decide +kernel
theorem dX3_countTaken_23 : decode cX3_countTaken 23 = .ok (.iconst 0, 1) := by decide +kernel
theorem dX3_countTaken_24 : decode cX3_countTaken 24 = .ok (.goto 7, 3) := by decide +kernel
theorem dX3_countTaken_27 : decode cX3_countTaken 27 = .ok (.aload_n 3, 1) := by decide +kernel
theorem dX3_countTaken_28 : decode cX3_countTaken 28 = .ok (.getfield 152, 3) := by decide +kernel
theorem dX3_countTaken_31 : decode cX3_countTaken 31 = .ok (.iadd, 1) := by decide +kernel
theorem dX3_countTaken_32 : decode cX3_countTaken 32 = .ok (.istore_n 1, 1) := by decide +kernel
theorem dX3_countTaken_33 : decode cX3_countTaken 33 = .ok (.iinc 2 1, 3) := by decide +kernel
theorem dX3_countTaken_36 : decode cX3_countTaken 36 = .ok (.goto (-32), 3) := by decide +kernel
theorem dX3_countTaken_39 : decode cX3_countTaken 39 = .ok (.iload_n 1, 1) := by decide +kernel
theorem dX3_countTaken_40 : decode cX3_countTaken 40 = .ok (.ireturn, 1) := by decide +kernel
set_option maxRecDepth 20000 in
theorem ggX3_countWanted_X3_kindOrNull : GoodIn wsX3_countWanted wsX3_kindOrNull := goodIn_r _ [6, 1, 7, 8, 9, 10, 11, 12] (by decide +kernel) (by decide +kernel)
set_option maxRecDepth 20000 in
theorem gX3_countWanted_X3_kindOrNull : GoodIn wsX3_countWanted (wsV RX3 43 RX3 yX3_kindOrNull wsX3_kindOrNull) := goodIn_app (goodIn_of _ (by decide +kernel)) ggX3_countWanted_X3_kindOrNull
theorem dX3_countWanted_0 : decode cX3_countWanted 0 = .ok (.iconst 0, 1) := by decide +kernel
theorem dX3_countWanted_1 : decode cX3_countWanted 1 = .ok (.istore_n 1, 1) := by decide +kernel
theorem dX3_countWanted_2 : decode cX3_countWanted 2 = .ok (.iconst 0, 1) := by decide +kernel
theorem dX3_countWanted_3 : decode cX3_countWanted 3 = .ok (.istore_n 2, 1) := by decide +kernel
theorem dX3_countWanted_4 : decode cX3_countWanted 4 = .ok (.iload_n 2, 1) := by decide +kernel
theorem dX3_countWanted_5 : decode cX3_countWanted 5 = .ok (.aload_n 0, 1) := by decide +kernel
theorem dX3_countWanted_6 : decode cX3_countWanted 6 = .ok (.getfield 32, 3) := by decide +kernel
theorem dX3_countWanted_9 : decode cX3_countWanted 9 = .ok (.if_icmp .ge 30, 3) := by decide +kernel
theorem dX3_countWanted_12 : decode cX3_countWanted 12 = .ok (.aload_n 0, 1) := by decide +kernel
theorem dX3_countWanted_13 : decode cX3_countWanted 13 = .ok (.iload_n 2, 1) := by decide +kernel
theorem dX3_countWanted_14 : decode cX3_countWanted 14 = .ok (.invokevirtual 43, 3) := by decide +kernel
theorem dX3_countWanted_17 : decode cX3_countWanted 17 = .ok (.astore_n 3, 1) := by decide +kernel
theorem dX3_countWanted_18 : decode cX3_countWanted 18 = .ok (.iload_n 1, 1) := by decide +kernel
theorem dX3_countWanted_19 : decode cX3_countWanted 19 = .ok (.aload_n 3, 1) := by decide +kernel
theorem dX3_countWanted_20 : decode cX3_countWanted 20 = .ok (.ifnonnull 7, 3) := by decide +kernel
theorem dX3_countWanted_23 : decode cX3_countWanted 23 = .ok (.iconst 0, 1) := by decide +kernel
theorem dX3_countWanted_24 : decode cX3_countWanted 24 = .ok (.goto 7, 3) := by decide +kernel
theorem dX3_countWanted_27 : decode cX3_countWanted 27 = .ok (.aload_n 3, 1) := by decide +kernel
theorem dX3_countWanted_28 : decode cX3_countWanted 28 = .ok (.getfield 111, 3) := by decide +kernel
theorem dX3_countWanted_31 : decode cX3_countWanted 31 = .ok (.iadd, 1) := by decide +kernel
theorem dX3_countWanted_32 : decode cX3_countWanted 32 = .ok (.istore_n 1, 1) := by decide +kernel
theorem dX3_countWanted_33 : decode cX3_countWanted 33 = .ok (.iinc 2 1, 3) := by decide +kernel
theorem dX3_countWanted_36 : decode cX3_countWanted 36 = .ok (.goto (-32), 3) := by decide +kernel
theorem dX3_countWanted_39 : decode cX3_countWanted 39 = .ok (.iload_n 1, 1) := by decide +kernel
theorem dX3_countWanted_40 : decode cX3_countWanted 40 = .ok (.ireturn, 1) := by decide +kernel
set_option maxRecDepth 20000 in
theorem ggX3_sumPaid_X3_kindOrNull : GoodIn wsX3_sumPaid wsX3_kindOrNull := goodIn_r _ [6, 1, 7, 8, 9, 10, 11, 12] (by decide +kernel) (by decide +kernel)
set_option maxRecDepth 20000 in
theorem gX3_sumPaid_X3_kindOrNull : GoodIn wsX3_sumPaid (wsV RX3 43 RX3 yX3_kindOrNull wsX3_kindOrNull) := goodIn_app (goodIn_of _ (by decide +kernel)) ggX3_sumPaid_X3_kindOrNull
theorem dX3_sumPaid_0 : decode cX3_sumPaid 0 = .ok (.iconst 0, 1) := by decide +kernel
theorem dX3_sumPaid_1 : decode cX3_sumPaid 1 = .ok (.istore_n 1, 1) := by decide +kernel
theorem dX3_sumPaid_2 : decode cX3_sumPaid 2 = .ok (.iconst 0, 1) := by decide +kernel
theorem dX3_sumPaid_3 : decode cX3_sumPaid 3 = .ok (.istore_n 2, 1) := by decide +kernel
theorem dX3_sumPaid_4 : decode cX3_sumPaid 4 = .ok (.iload_n 2, 1) := by decide +kernel
theorem dX3_sumPaid_5 : decode cX3_sumPaid 5 = .ok (.aload_n 0, 1) := by decide +kernel
theorem dX3_sumPaid_6 : decode cX3_sumPaid 6 = .ok (.getfield 32, 3) := by decide +kernel
theorem dX3_sumPaid_9 : decode cX3_sumPaid 9 = .ok (.if_icmp .ge 30, 3) := by decide +kernel
theorem dX3_sumPaid_12 : decode cX3_sumPaid 12 = .ok (.aload_n 0, 1) := by decide +kernel
theorem dX3_sumPaid_13 : decode cX3_sumPaid 13 = .ok (.iload_n 2, 1) := by decide +kernel
theorem dX3_sumPaid_14 : decode cX3_sumPaid 14 = .ok (.invokevirtual 43, 3) := by decide +kernel
theorem dX3_sumPaid_17 : decode cX3_sumPaid 17 = .ok (.astore_n 3, 1) := by decide +kernel
theorem dX3_sumPaid_18 : decode cX3_sumPaid 18 = .ok (.iload_n 1, 1) := by decide +kernel
theorem dX3_sumPaid_19 : decode cX3_sumPaid 19 = .ok (.aload_n 3, 1) := by decide +kernel
theorem dX3_sumPaid_20 : decode cX3_sumPaid 20 = .ok (.ifnonnull 7, 3) := by decide +kernel
theorem dX3_sumPaid_23 : decode cX3_sumPaid 23 = .ok (.iconst 0, 1) := by decide +kernel
theorem dX3_sumPaid_24 : decode cX3_sumPaid 24 = .ok (.goto 7, 3) := by decide +kernel
theorem dX3_sumPaid_27 : decode cX3_sumPaid 27 = .ok (.aload_n 3, 1) := by decide +kernel
theorem dX3_sumPaid_28 : decode cX3_sumPaid 28 = .ok (.getfield 161, 3) := by decide +kernel
theorem dX3_sumPaid_31 : decode cX3_sumPaid 31 = .ok (.iadd, 1) := by decide +kernel
theorem dX3_sumPaid_32 : decode cX3_sumPaid 32 = .ok (.istore_n 1, 1) := by decide +kernel
theorem dX3_sumPaid_33 : decode cX3_sumPaid 33 = .ok (.iinc 2 1, 3) := by decide +kernel
theorem dX3_sumPaid_36 : decode cX3_sumPaid 36 = .ok (.goto (-32), 3) := by decide +kernel
theorem dX3_sumPaid_39 : decode cX3_sumPaid 39 = .ok (.iload_n 1, 1) := by decide +kernel
theorem dX3_sumPaid_40 : decode cX3_sumPaid 40 = .ok (.ireturn, 1) := by decide +kernel
