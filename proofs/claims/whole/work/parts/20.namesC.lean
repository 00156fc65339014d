set_option maxRecDepth 20000 in
theorem ggX0_init_X5_init : GoodIn wsX0_init wsX5_init := goodIn_r _ [12, 13, 2, 3, 14, 15, 16, 17, 18, 19, 20, 21, 22] (by decide +kernel) (by decide +kernel)
set_option maxRecDepth 20000 in
theorem gX0_init_X5_init : GoodIn wsX0_init (wsX5_init) := ggX0_init_X5_init
theorem dX0_init_0 : decode cX0_init 0 = .ok (.aload_n 0, 1) := by decide +kernel
theorem dX0_init_1 : decode cX0_init 1 = .ok (.invokespecial 3, 3) := by decide +kernel
theorem dX0_init_4 : decode cX0_init 4 = .ok (.aload_n 0, 1) := by decide +kernel
theorem dX0_init_5 : decode cX0_init 5 = .ok (.new 9, 3) := by decide +kernel
theorem dX0_init_8 : decode cX0_init 8 = .ok (.dup, 1) := by decide +kernel
theorem dX0_init_9 : decode cX0_init 9 = .ok (.bipush 8, 2) := by decide +kernel
theorem dX0_init_11 : decode cX0_init 11 = .ok (.iconst (-1), 1) := by decide +kernel
theorem dX0_init_12 : decode cX0_init 12 = .ok (.invokespecial 11, 3) := by decide +kernel
theorem dX0_init_15 : decode cX0_init 15 = .ok (.putfield 14, 3) := by decide +kernel
theorem dX0_init_18 : decode cX0_init 18 = .ok (.aload_n 0, 1) := by decide +kernel
theorem dX0_init_19 : decode cX0_init 19 = .ok (.new 9, 3) := by decide +kernel
theorem dX0_init_22 : decode cX0_init 22 = .ok (.dup, 1) := by decide +kernel
theorem dX0_init_23 : decode cX0_init 23 = .ok (.bipush 8, 2) := by decide +kernel
theorem dX0_init_25 : decode cX0_init 25 = .ok (.iconst (-1), 1) := by decide +kernel
theorem dX0_init_26 : decode cX0_init 26 = .ok (.invokespecial 11, 3) := by decide +kernel
theorem dX0_init_29 : decode cX0_init 29 = .ok (.putfield 20, 3) := by decide +kernel
theorem dX0_init_32 : decode cX0_init 32 = .ok (.aload_n 0, 1) := by decide +kernel
theorem dX0_init_33 : decode cX0_init 33 = .ok (.new 9, 3) := by decide +kernel
theorem dX0_init_36 : decode cX0_init 36 = .ok (.dup, 1) := by decide +kernel
theorem dX0_init_37 : decode cX0_init 37 = .ok (.bipush 8, 2) := by decide +kernel
theorem dX0_init_39 : decode cX0_init 39 = .ok (.iconst (-1), 1) := by decide +kernel
theorem dX0_init_40 : decode cX0_init 40 = .ok (.invokespecial 11, 3) := by decide +kernel
theorem dX0_init_43 : decode cX0_init 43 = .ok (.putfield 23, 3) := by decide +kernel
theorem dX0_init_46 : decode cX0_init 46 = .ok (.return_, 1) := by decide +kernel
set_option maxRecDepth 20000 in
theorem ggX0_add_X5_at : GoodIn wsX0_add wsX5_at := goodIn_r _ [8, 9, 10, 18, 19] (by decide +kernel) (by decide +kernel)
set_option maxRecDepth 20000 in
theorem gX0_add_X5_at : GoodIn wsX0_add (wsV RX0 26 RX5 yX5_at wsX5_at) := goodIn_app (goodIn_of _ (by decide +kernel)) ggX0_add_X5_at
set_option maxRecDepth 20000 in
theorem ggX0_add_X5_put : GoodIn wsX0_add wsX5_put := goodIn_r _ [14, 9, 18, 19] (by decide +kernel) (by decide +kernel)
set_option maxRecDepth 20000 in
theorem gX0_add_X5_put : GoodIn wsX0_add (wsV RX0 30 RX5 yX5_put wsX5_put) := goodIn_app (goodIn_of _ (by decide +kernel)) ggX0_add_X5_put
theorem dX0_add_0 : decode cX0_add 0 = .ok (.iload_n 3, 1) := by decide +kernel
theorem dX0_add_1 : decode cX0_add 1 = .ok (.aload_n 0, 1) := by decide +kernel
theorem dX0_add_2 : decode cX0_add 2 = .ok (.getfield 20, 3) := by decide +kernel
theorem dX0_add_5 : decode cX0_add 5 = .ok (.iload_n 1, 1) := by decide +kernel
theorem dX0_add_6 : decode cX0_add 6 = .ok (.invokevirtual 26, 3) := by decide +kernel
theorem dX0_add_9 : decode cX0_add 9 = .ok (.if_icmp .le 31, 3) := by decide +kernel
theorem dX0_add_12 : decode cX0_add 12 = .ok (.aload_n 0, 1) := by decide +kernel
theorem dX0_add_13 : decode cX0_add 13 = .ok (.getfield 14, 3) := by decide +kernel
theorem dX0_add_16 : decode cX0_add 16 = .ok (.iload_n 1, 1) := by decide +kernel
theorem dX0_add_17 : decode cX0_add 17 = .ok (.iload_n 2, 1) := by decide +kernel
theorem dX0_add_18 : decode cX0_add 18 = .ok (.invokevirtual 30, 3) := by decide +kernel
theorem dX0_add_21 : decode cX0_add 21 = .ok (.aload_n 0, 1) := by decide +kernel
theorem dX0_add_22 : decode cX0_add 22 = .ok (.getfield 20, 3) := by decide +kernel
theorem dX0_add_25 : decode cX0_add 25 = .ok (.iload_n 1, 1) := by decide +kernel
theorem dX0_add_26 : decode cX0_add 26 = .ok (.iload_n 3, 1) := by decide +kernel
theorem dX0_add_27 : decode cX0_add 27 = .ok (.invokevirtual 30, 3) := by decide +kernel
theorem dX0_add_30 : decode cX0_add 30 = .ok (.aload_n 0, 1) := by decide +kernel
theorem dX0_add_31 : decode cX0_add 31 = .ok (.getfield 23, 3) := by decide +kernel
theorem dX0_add_34 : decode cX0_add 34 = .ok (.iload_n 1, 1) := by decide +kernel
theorem dX0_add_35 : decode cX0_add 35 = .ok (.iload 4, 2) := by decide +kernel
theorem dX0_add_37 : decode cX0_add 37 = .ok (.invokevirtual 30, 3) := by decide +kernel
theorem dX0_add_40 : decode cX0_add 40 = .ok (.return_, 1) := by decide +kernel
set_option maxRecDepth 20000 in
theorem ggX0_clear_X5_put : GoodIn wsX0_clear wsX5_put := goodIn_r _ [6, 7, 11, 12] (by decide +kernel) (by decide +kernel)
set_option maxRecDepth 20000 in
theorem gX0_clear_X5_put : GoodIn wsX0_clear (wsV RX0 30 RX5 yX5_put wsX5_put) := goodIn_app (goodIn_of _ (by decide +kernel)) ggX0_clear_X5_put
theorem dX0_clear_0 : decode cX0_clear 0 = .ok (.aload_n 0, 1) := by decide +kernel
theorem dX0_clear_1 : decode cX0_clear 1 = .ok (.getfield 20, 3) := by decide +kernel
theorem dX0_clear_4 : decode cX0_clear 4 = .ok (.iload_n 1, 1) := by decide +kernel
theorem dX0_clear_5 : decode cX0_clear 5 = .ok (.iconst (-1), 1) := by decide +kernel
theorem dX0_clear_6 : decode cX0_clear 6 = .ok (.invokevirtual 30, 3) := by decide +kernel
theorem dX0_clear_9 : decode cX0_clear 9 = .ok (.return_, 1) := by decide +kernel
set_option maxRecDepth 20000 in
theorem ggX0_stands_X5_at : GoodIn wsX0_stands wsX5_at := goodIn_r _ [6, 7, 8, 12, 13] (by decide +kernel) (by decide +kernel)
set_option maxRecDepth 20000 in
theorem gX0_stands_X5_at : GoodIn wsX0_stands (wsV RX0 26 RX5 yX5_at wsX5_at) := goodIn_app (goodIn_of _ (by decide +kernel)) ggX0_stands_X5_at
theorem dX0_stands_0 : decode cX0_stands 0 = .ok (.aload_n 0, 1) := by decide +kernel
theorem dX0_stands_1 : decode cX0_stands 1 = .ok (.getfield 20, 3) := by decide +kernel
theorem dX0_stands_4 : decode cX0_stands 4 = .ok (.iload_n 1, 1) := by decide +kernel
theorem dX0_stands_5 : decode cX0_stands 5 = .ok (.invokevirtual 26, 3) := by decide +kernel
theorem dX0_stands_8 : decode cX0_stands 8 = .ok (.iload_n 2, 1) := by decide +kernel
theorem dX0_stands_9 : decode cX0_stands 9 = .ok (.if_icmp .lt 7, 3) := by decide +kernel
theorem dX0_stands_12 : decode cX0_stands 12 = .ok (.iconst 1, 1) := by decide +kernel
theorem dX0_stands_13 : decode cX0_stands 13 = .ok (.goto 4, 3) := by decide +kernel
theorem dX0_stands_16 : decode cX0_stands 16 = .ok (.iconst 0, 1) := by decide +kernel
theorem dX0_stands_17 : decode cX0_stands 17 = .ok (.ireturn, 1) := by decide +kernel
set_option maxRecDepth 20000 in
theorem ggX0_holds_X5_at : GoodIn wsX0_holds wsX5_at := goodIn_r _ [6, 7, 8, 18, 19] (by decide +kernel) (by decide +kernel)
set_option maxRecDepth 20000 in
theorem gX0_holds_X5_at : GoodIn wsX0_holds (wsV RX0 26 RX5 yX5_at wsX5_at) := goodIn_app (goodIn_of _ (by decide +kernel)) ggX0_holds_X5_at
set_option maxRecDepth 20000 in
theorem ggX0_holds_X0_stands : GoodIn wsX0_holds wsX0_stands := goodIn_r _ [13, 14, 2, 3, 4, 5, 6, 7, 8, 15, 16, 17, 18, 19] (by decide +kernel) (by decide +kernel)
set_option maxRecDepth 20000 in
theorem gX0_holds_X0_stands : GoodIn wsX0_holds (wsV RX0 33 RX0 yX0_stands wsX0_stands) := goodIn_app (goodIn_of _ (by decide +kernel)) ggX0_holds_X0_stands
theorem dX0_holds_0 : decode cX0_holds 0 = .ok (.aload_n 0, 1) := by decide +kernel
theorem dX0_holds_1 : decode cX0_holds 1 = .ok (.getfield 14, 3) := by decide +kernel
theorem dX0_holds_4 : decode cX0_holds 4 = .ok (.iload_n 1, 1) := by decide +kernel
theorem dX0_holds_5 : decode cX0_holds 5 = .ok (.invokevirtual 26, 3) := by decide +kernel
theorem dX0_holds_8 : decode cX0_holds 8 = .ok (.iload_n 2, 1) := by decide +kernel
theorem dX0_holds_9 : decode cX0_holds 9 = .ok (.if_icmp .gt 16, 3) := by decide +kernel
theorem dX0_holds_12 : decode cX0_holds 12 = .ok (.aload_n 0, 1) := by decide +kernel
theorem dX0_holds_13 : decode cX0_holds 13 = .ok (.iload_n 1, 1) := by decide +kernel
theorem dX0_holds_14 : decode cX0_holds 14 = .ok (.iload_n 2, 1) := by decide +kernel
theorem dX0_holds_15 : decode cX0_holds 15 = .ok (.invokevirtual 33, 3) := by decide +kernel
theorem dX0_holds_18 : decode cX0_holds 18 = .ok (.ifCond .eq 7, 3) := by decide +kernel
theorem dX0_holds_21 : decode cX0_holds 21 = .ok (.iconst 1, 1) := by decide +kernel
theorem dX0_holds_22 : decode cX0_holds 22 = .ok (.goto 4, 3) := by decide +kernel
theorem dX0_holds_25 : decode cX0_holds 25 = .ok (.iconst 0, 1) := by decide +kernel
theorem dX0_holds_26 : decode cX0_holds 26 = .ok (.ireturn, 1) := by decide +kernel
set_option maxRecDepth 20000 in
theorem ggX1_init_X5_init : GoodIn wsX1_init wsX5_init := goodIn_r _ [15, 16, 2, 3, 17, 18, 19, 20, 21, 22, 23, 24, 25] (by decide +kernel) (by decide +kernel)
set_option maxRecDepth 20000 in
theorem gX1_init_X5_init : GoodIn wsX1_init (wsX5_init) := ggX1_init_X5_init
theorem dX1_init_0 : decode cX1_init 0 = .ok (.aload_n 0, 1) := by decide +kernel
theorem dX1_init_1 : decode cX1_init 1 = .ok (.invokespecial 3, 3) := by decide +kernel
theorem dX1_init_4 : decode cX1_init 4 = .ok (.aload_n 0, 1) := by decide +kernel
theorem dX1_init_5 : decode cX1_init 5 = .ok (.new 9, 3) := by decide +kernel
theorem dX1_init_8 : decode cX1_init 8 = .ok (.dup, 1) := by decide +kernel
theorem dX1_init_9 : decode cX1_init 9 = .ok (.iconst 3, 1) := by decide +kernel
theorem dX1_init_10 : decode cX1_init 10 = .ok (.iconst 0, 1) := by decide +kernel
theorem dX1_init_11 : decode cX1_init 11 = .ok (.invokespecial 11, 3) := by decide +kernel
theorem dX1_init_14 : decode cX1_init 14 = .ok (.putfield 14, 3) := by decide +kernel
theorem dX1_init_17 : decode cX1_init 17 = .ok (.aload_n 0, 1) := by decide +kernel
theorem dX1_init_18 : decode cX1_init 18 = .ok (.iload_n 1, 1) := by decide +kernel
theorem dX1_init_19 : decode cX1_init 19 = .ok (.putfield 20, 3) := by decide +kernel
theorem dX1_init_22 : decode cX1_init 22 = .ok (.aload_n 0, 1) := by decide +kernel
theorem dX1_init_23 : decode cX1_init 23 = .ok (.iload_n 2, 1) := by decide +kernel
theorem dX1_init_24 : decode cX1_init 24 = .ok (.putfield 24, 3) := by decide +kernel
theorem dX1_init_27 : decode cX1_init 27 = .ok (.aload_n 0, 1) := by decide +kernel
theorem dX1_init_28 : decode cX1_init 28 = .ok (.iload_n 3, 1) := by decide +kernel
theorem dX1_init_29 : decode cX1_init 29 = .ok (.putfield 28, 3) := by decide +kernel
theorem dX1_init_32 : decode cX1_init 32 = .ok (.aload_n 0, 1) := by decide +kernel
theorem dX1_init_33 : decode cX1_init 33 = .ok (.iload 4, 2) := by decide +kernel
theorem dX1_init_35 : decode cX1_init 35 = .ok (.putfield 31, 3) := by decide +kernel
theorem dX1_init_38 : decode cX1_init 38 = .ok (.aload_n 0, 1) := by decide +kernel
theorem dX1_init_39 : decode cX1_init 39 = .ok (.iload 5, 2) := by decide +kernel
theorem dX1_init_41 : decode cX1_init 41 = .ok (.putfield 34, 3) := by decide +kernel
theorem dX1_init_44 : decode cX1_init 44 = .ok (.return_, 1) := by decide +kernel
theorem dX1_bit_0 : decode cX1_bit 0 = .ok (.iconst 1, 1) := by decide +kernel
theorem dX1_bit_1 : decode cX1_bit 1 = .ok (.aload_n 0, 1) := by decide +kernel
theorem dX1_bit_2 : decode cX1_bit 2 = .ok (.getfield 20, 3) := by decide +kernel
theorem dX1_bit_5 : decode cX1_bit 5 = .ok (.ishl, 1) := by decide +kernel
theorem dX1_bit_6 : decode cX1_bit 6 = .ok (.ireturn, 1) := by decide +kernel
theorem dX1_waivesFor_0 : decode cX1_waivesFor 0 = .ok (.aload_n 0, 1) := by decide +kernel
theorem dX1_waivesFor_1 : decode cX1_waivesFor 1 = .ok (.getfield 37, 3) := by decide +kernel
theorem dX1_waivesFor_4 : decode cX1_waivesFor 4 = .ok (.iload_n 1, 1) := by decide +kernel
theorem dX1_waivesFor_5 : decode cX1_waivesFor 5 = .ok (.iand, 1) := by decide +kernel
theorem dX1_waivesFor_6 : decode cX1_waivesFor 6 = .ok (.ifCond .eq 7, 3) := by decide +kernel
theorem dX1_waivesFor_9 : decode cX1_waivesFor 9 = .ok (.iconst 1, 1) := by decide +kernel
theorem dX1_waivesFor_10 : decode cX1_waivesFor 10 = .ok (.goto 4, 3) := by decide +kernel
theorem dX1_waivesFor_13 : decode cX1_waivesFor 13 = .ok (.iconst 0, 1) := by decide +kernel
theorem dX1_waivesFor_14 : decode cX1_waivesFor 14 = .ok (.ireturn, 1) := by decide +kernel
set_option maxRecDepth 20000 in
theorem ggX2_init_X5_init : GoodIn wsX2_init wsX5_init := goodIn_r _ [11, 12, 2, 3, 13, 14, 15, 16, 17, 18, 19, 20, 21] (by decide +kernel) (by decide +kernel)
set_option maxRecDepth 20000 in
theorem gX2_init_X5_init : GoodIn wsX2_init (wsX5_init) := ggX2_init_X5_init
theorem dX2_init_0 : decode cX2_init 0 = .ok (.aload_n 0, 1) := by decide +kernel
theorem dX2_init_1 : decode cX2_init 1 = .ok (.invokespecial 3, 3) := by decide +kernel
theorem dX2_init_4 : decode cX2_init 4 = .ok (.aload_n 0, 1) := by decide +kernel
theorem dX2_init_5 : decode cX2_init 5 = .ok (.new 9, 3) := by decide +kernel
theorem dX2_init_8 : decode cX2_init 8 = .ok (.dup, 1) := by decide +kernel
theorem dX2_init_9 : decode cX2_init 9 = .ok (.bipush 8, 2) := by decide +kernel
theorem dX2_init_11 : decode cX2_init 11 = .ok (.iconst (-1), 1) := by decide +kernel
theorem dX2_init_12 : decode cX2_init 12 = .ok (.invokespecial 11, 3) := by decide +kernel
theorem dX2_init_15 : decode cX2_init 15 = .ok (.putfield 14, 3) := by decide +kernel
theorem dX2_init_18 : decode cX2_init 18 = .ok (.aload_n 0, 1) := by decide +kernel
theorem dX2_init_19 : decode cX2_init 19 = .ok (.new 9, 3) := by decide +kernel
theorem dX2_init_22 : decode cX2_init 22 = .ok (.dup, 1) := by decide +kernel
theorem dX2_init_23 : decode cX2_init 23 = .ok (.bipush 8, 2) := by decide +kernel
theorem dX2_init_25 : decode cX2_init 25 = .ok (.iconst (-1), 1) := by decide +kernel
theorem dX2_init_26 : decode cX2_init 26 = .ok (.invokespecial 11, 3) := by decide +kernel
theorem dX2_init_29 : decode cX2_init 29 = .ok (.putfield 20, 3) := by decide +kernel
theorem dX2_init_32 : decode cX2_init 32 = .ok (.return_, 1) := by decide +kernel
set_option maxRecDepth 20000 in
theorem ggX2_isValid_X5_at : GoodIn wsX2_isValid wsX5_at := goodIn_r _ [6, 7, 8, 11, 12] (by decide +kernel) (by decide +kernel)
set_option maxRecDepth 20000 in
theorem gX2_isValid_X5_at : GoodIn wsX2_isValid (wsV RX2 23 RX5 yX5_at wsX5_at) := goodIn_app (goodIn_of _ (by decide +kernel)) ggX2_isValid_X5_at
theorem dX2_isValid_0 : decode cX2_isValid 0 = .ok (.aload_n 0, 1) := by decide +kernel
theorem dX2_isValid_1 : decode cX2_isValid 1 = .ok (.getfield 20, 3) := by decide +kernel
theorem dX2_isValid_4 : decode cX2_isValid 4 = .ok (.iload_n 1, 1) := by decide +kernel
theorem dX2_isValid_5 : decode cX2_isValid 5 = .ok (.invokevirtual 23, 3) := by decide +kernel
theorem dX2_isValid_8 : decode cX2_isValid 8 = .ok (.iload_n 2, 1) := by decide +kernel
theorem dX2_isValid_9 : decode cX2_isValid 9 = .ok (.if_icmp .lt 7, 3) := by decide +kernel
theorem dX2_isValid_12 : decode cX2_isValid 12 = .ok (.iconst 1, 1) := by decide +kernel
theorem dX2_isValid_13 : decode cX2_isValid 13 = .ok (.goto 4, 3) := by decide +kernel
theorem dX2_isValid_16 : decode cX2_isValid 16 = .ok (.iconst 0, 1) := by decide +kernel
theorem dX2_isValid_17 : decode cX2_isValid 17 = .ok (.ireturn, 1) := by decide +kernel
set_option maxRecDepth 20000 in
theorem ggX2_grantOn_X2_isValid : GoodIn wsX2_grantOn wsX2_isValid := goodIn_r _ [11, 2, 12, 13, 14, 15, 16, 17, 18, 23, 24, 25, 26] (by decide +kernel) (by decide +kernel)
set_option maxRecDepth 20000 in
theorem gX2_grantOn_X2_isValid : GoodIn wsX2_grantOn (wsV RX2 27 RX2 yX2_isValid wsX2_isValid) := goodIn_app (goodIn_of _ (by decide +kernel)) ggX2_grantOn_X2_isValid
set_option maxRecDepth 20000 in
theorem ggX2_grantOn_X5_put : GoodIn wsX2_grantOn wsX5_put := goodIn_r _ [22, 17, 25, 26] (by decide +kernel) (by decide +kernel)
set_option maxRecDepth 20000 in
theorem gX2_grantOn_X5_put : GoodIn wsX2_grantOn (wsV RX2 31 RX5 yX5_put wsX5_put) := goodIn_app (goodIn_of _ (by decide +kernel)) ggX2_grantOn_X5_put
set_option maxRecDepth 20000 in
theorem ggX2_grantOn_X5_at : GoodIn wsX2_grantOn wsX5_at := goodIn_r _ [16, 17, 18, 25, 26] (by decide +kernel) (by decide +kernel)
set_option maxRecDepth 20000 in
theorem gX2_grantOn_X5_at : GoodIn wsX2_grantOn (wsV RX2 23 RX5 yX5_at wsX5_at) := goodIn_app (goodIn_of _ (by decide +kernel)) ggX2_grantOn_X5_at
theorem dX2_grantOn_0 : decode cX2_grantOn 0 = .ok (.aload_n 0, 1) := by decide +kernel
theorem dX2_grantOn_1 : decode cX2_grantOn 1 = .ok (.iload_n 1, 1) := by decide +kernel
theorem dX2_grantOn_2 : decode cX2_grantOn 2 = .ok (.iload_n 2, 1) := by decide +kernel
theorem dX2_grantOn_3 : decode cX2_grantOn 3 = .ok (.invokevirtual 27, 3) := by decide +kernel
theorem dX2_grantOn_6 : decode cX2_grantOn 6 = .ok (.ifCond .ne 12, 3) := by decide +kernel
theorem dX2_grantOn_9 : decode cX2_grantOn 9 = .ok (.aload_n 0, 1) := by decide +kernel
theorem dX2_grantOn_10 : decode cX2_grantOn 10 = .ok (.getfield 14, 3) := by decide +kernel
theorem dX2_grantOn_13 : decode cX2_grantOn 13 = .ok (.iload_n 1, 1) := by decide +kernel
theorem dX2_grantOn_14 : decode cX2_grantOn 14 = .ok (.iload_n 2, 1) := by decide +kernel
theorem dX2_grantOn_15 : decode cX2_grantOn 15 = .ok (.invokevirtual 31, 3) := by decide +kernel
theorem dX2_grantOn_18 : decode cX2_grantOn 18 = .ok (.aload_n 0, 1) := by decide +kernel
theorem dX2_grantOn_19 : decode cX2_grantOn 19 = .ok (.getfield 20, 3) := by decide +kernel
theorem dX2_grantOn_22 : decode cX2_grantOn 22 = .ok (.iload_n 1, 1) := by decide +kernel
theorem dX2_grantOn_23 : decode cX2_grantOn 23 = .ok (.aload_n 0, 1) := by decide +kernel
theorem dX2_grantOn_24 : decode cX2_grantOn 24 = .ok (.getfield 20, 3) := by decide +kernel
theorem dX2_grantOn_27 : decode cX2_grantOn 27 = .ok (.iload_n 1, 1) := by decide +kernel
theorem dX2_grantOn_28 : decode cX2_grantOn 28 = .ok (.invokevirtual 23, 3) := by decide +kernel
theorem dX2_grantOn_31 : decode cX2_grantOn 31 = .ok (.iload_n 2, 1) := by decide +kernel
theorem dX2_grantOn_32 : decode cX2_grantOn 32 = .ok (.sipush 360, 3) := by decide +kernel
theorem dX2_grantOn_35 : decode cX2_grantOn 35 = .ok (.iadd, 1) := by decide +kernel
theorem dX2_grantOn_36 : decode cX2_grantOn 36 = .ok (.iconst 1, 1) := by decide +kernel
theorem dX2_grantOn_37 : decode cX2_grantOn 37 = .ok (.isub, 1) := by decide +kernel
theorem dX2_grantOn_38 : decode cX2_grantOn 38 = .ok (.invokestatic 34, 3) := by decide +kernel
theorem dX2_grantOn_41 : decode cX2_grantOn 41 = .ok (.invokevirtual 31, 3) := by decide +kernel
theorem dX2_grantOn_44 : decode cX2_grantOn 44 = .ok (.return_, 1) := by decide +kernel
set_option maxRecDepth 20000 in
theorem ggX2_prolong_X5_at : GoodIn wsX2_prolong wsX5_at := goodIn_r _ [6, 7, 8, 15, 16] (by decide +kernel) (by decide +kernel)
set_option maxRecDepth 20000 in
theorem gX2_prolong_X5_at : GoodIn wsX2_prolong (wsV RX2 23 RX5 yX5_at wsX5_at) := goodIn_app (goodIn_of _ (by decide +kernel)) ggX2_prolong_X5_at
set_option maxRecDepth 20000 in
theorem ggX2_prolong_X5_put : GoodIn wsX2_prolong wsX5_put := goodIn_r _ [12, 7, 15, 16] (by decide +kernel) (by decide +kernel)
set_option maxRecDepth 20000 in
theorem gX2_prolong_X5_put : GoodIn wsX2_prolong (wsV RX2 31 RX5 yX5_put wsX5_put) := goodIn_app (goodIn_of _ (by decide +kernel)) ggX2_prolong_X5_put
theorem dX2_prolong_0 : decode cX2_prolong 0 = .ok (.aload_n 0, 1) := by decide +kernel
theorem dX2_prolong_1 : decode cX2_prolong 1 = .ok (.getfield 20, 3) := by decide +kernel
theorem dX2_prolong_4 : decode cX2_prolong 4 = .ok (.iload_n 1, 1) := by decide +kernel
theorem dX2_prolong_5 : decode cX2_prolong 5 = .ok (.aload_n 0, 1) := by decide +kernel
theorem dX2_prolong_6 : decode cX2_prolong 6 = .ok (.getfield 20, 3) := by decide +kernel
theorem dX2_prolong_9 : decode cX2_prolong 9 = .ok (.iload_n 1, 1) := by decide +kernel
theorem dX2_prolong_10 : decode cX2_prolong 10 = .ok (.invokevirtual 23, 3) := by decide +kernel
theorem dX2_prolong_13 : decode cX2_prolong 13 = .ok (.iload_n 2, 1) := by decide +kernel
theorem dX2_prolong_14 : decode cX2_prolong 14 = .ok (.iadd, 1) := by decide +kernel
theorem dX2_prolong_15 : decode cX2_prolong 15 = .ok (.invokevirtual 31, 3) := by decide +kernel
theorem dX2_prolong_18 : decode cX2_prolong 18 = .ok (.return_, 1) := by decide +kernel
set_option maxRecDepth 20000 in
theorem ggX3_init_X5_init : GoodIn wsX3_init wsX5_init := goodIn_r _ [23, 24, 2, 3, 25, 26, 27, 28, 29, 30, 31, 47, 48] (by decide +kernel) (by decide +kernel)
set_option maxRecDepth 20000 in
theorem gX3_init_X5_init : GoodIn wsX3_init (wsX5_init) := ggX3_init_X5_init
set_option maxRecDepth 20000 in
theorem ggX3_init_X0_init : GoodIn wsX3_init wsX0_init := goodIn_r _ [33, 34, 2, 3, 35, 5, 6, 36, 37, 38, 39, 22, 23, 24, 25, 26, 27, 28, 29, 30, 31, 47, 48, 62, 63, 64] (by decide +kernel) (by decide +kernel)
set_option maxRecDepth 20000 in
theorem gX3_init_X0_init_n25 : GoodIn wsX3_init (wsX0_init) := ggX3_init_X0_init
set_option maxRecDepth 20000 in
theorem ggX3_init_X2_init : GoodIn wsX3_init wsX2_init := goodIn_r _ [41, 42, 2, 3, 43, 5, 6, 44, 45, 46, 22, 23, 24, 25, 26, 27, 28, 29, 30, 31, 47, 48, 65, 66] (by decide +kernel) (by decide +kernel)
set_option maxRecDepth 20000 in
theorem gX3_init_X2_init_n32 : GoodIn wsX3_init (wsX2_init) := ggX3_init_X2_init
theorem dX3_init_0 : decode cX3_init 0 = .ok (.aload_n 0, 1) := by decide +kernel
theorem dX3_init_1 : decode cX3_init 1 = .ok (.invokespecial 3, 3) := by decide +kernel
theorem dX3_init_4 : decode cX3_init 4 = .ok (.aload_n 0, 1) := by decide +kernel
theorem dX3_init_5 : decode cX3_init 5 = .ok (.new 9, 3) := by decide +kernel
theorem dX3_init_8 : decode cX3_init 8 = .ok (.dup, 1) := by decide +kernel
theorem dX3_init_9 : decode cX3_init 9 = .ok (.sipush 3601, 3) := by decide +kernel
theorem dX3_init_12 : decode cX3_init 12 = .ok (.iconst 0, 1) := by decide +kernel
theorem dX3_init_13 : decode cX3_init 13 = .ok (.invokespecial 11, 3) := by decide +kernel
theorem dX3_init_16 : decode cX3_init 16 = .ok (.putfield 14, 3) := by decide +kernel
theorem dX3_init_19 : decode cX3_init 19 = .ok (.aload_n 0, 1) := by decide +kernel
theorem dX3_init_20 : decode cX3_init 20 = .ok (.new 9, 3) := by decide +kernel
theorem dX3_init_23 : decode cX3_init 23 = .ok (.dup, 1) := by decide +kernel
theorem dX3_init_24 : decode cX3_init 24 = .ok (.sipush 3601, 3) := by decide +kernel
theorem dX3_init_27 : decode cX3_init 27 = .ok (.iconst 0, 1) := by decide +kernel
theorem dX3_init_28 : decode cX3_init 28 = .ok (.invokespecial 11, 3) := by decide +kernel
theorem dX3_init_31 : decode cX3_init 31 = .ok (.putfield 20, 3) := by decide +kernel
theorem dX3_init_34 : decode cX3_init 34 = .ok (.aload_n 0, 1) := by decide +kernel
theorem dX3_init_35 : decode cX3_init 35 = .ok (.new 23, 3) := by decide +kernel
theorem dX3_init_38 : decode cX3_init 38 = .ok (.dup, 1) := by decide +kernel
theorem dX3_init_39 : decode cX3_init 39 = .ok (.invokespecial 25, 3) := by decide +kernel
theorem dX3_init_42 : decode cX3_init 42 = .ok (.putfield 26, 3) := by decide +kernel
theorem dX3_init_45 : decode cX3_init 45 = .ok (.aload_n 0, 1) := by decide +kernel
theorem dX3_init_46 : decode cX3_init 46 = .ok (.new 30, 3) := by decide +kernel
theorem dX3_init_49 : decode cX3_init 49 = .ok (.dup, 1) := by decide +kernel
theorem dX3_init_50 : decode cX3_init 50 = .ok (.invokespecial 32, 3) := by decide +kernel
theorem dX3_init_53 : decode cX3_init 53 = .ok (.putfield 33, 3) := by decide +kernel
theorem dX3_init_56 : decode cX3_init 56 = .ok (.aload_n 0, 1) := by decide +kernel
theorem dX3_init_57 : decode cX3_init 57 = .ok (.iload_n 1, 1) := by decide +kernel
theorem dX3_init_58 : decode cX3_init 58 = .ok (.putfield 37, 3) := by decide +kernel
theorem dX3_init_61 : decode cX3_init 61 = .ok (.aload_n 0, 1) := by decide +kernel
theorem dX3_init_62 : decode cX3_init 62 = .ok (.iload_n 2, 1) := by decide +kernel
theorem dX3_init_63 : decode cX3_init 63 = .ok (.putfield 41, 3) := by decide +kernel
theorem dX3_init_66 : decode cX3_init 66 = .ok (.aload_n 0, 1) := by decide +kernel
theorem dX3_init_67 : decode cX3_init 67 = .ok (.iload_n 3, 1) := by decide +kernel
theorem dX3_init_68 : decode cX3_init 68 = .ok (.putfield 44, 3) := by decide +kernel
theorem dX3_init_71 : decode cX3_init 71 = .ok (.aload_n 0, 1) := by decide +kernel
theorem dX3_init_72 : decode cX3_init 72 = .ok (.iload 4, 2) := by decide +kernel
theorem dX3_init_74 : decode cX3_init 74 = .ok (.putfield 47, 3) := by decide +kernel
theorem dX3_init_77 : decode cX3_init 77 = .ok (.return_, 1) := by decide +kernel
set_option maxRecDepth 20000 in
theorem ggX3_isOf_X1_bit : GoodIn wsX3_isOf wsX1_bit := goodIn_r _ [6, 7, 21, 22, 23, 24, 25, 26, 27] (by decide +kernel) (by decide +kernel)
set_option maxRecDepth 20000 in
theorem gX3_isOf_X1_bit : GoodIn wsX3_isOf (wsV RX3 53 RX1 yX1_bit wsX1_bit) := goodIn_app (goodIn_of _ (by decide +kernel)) ggX3_isOf_X1_bit
theorem dX3_isOf_0 : decode cX3_isOf 0 = .ok (.aload_n 0, 1) := by decide +kernel
theorem dX3_isOf_1 : decode cX3_isOf 1 = .ok (.getfield 50, 3) := by decide +kernel
theorem dX3_isOf_4 : decode cX3_isOf 4 = .ok (.aload_n 1, 1) := by decide +kernel
theorem dX3_isOf_5 : decode cX3_isOf 5 = .ok (.invokevirtual 53, 3) := by decide +kernel
theorem dX3_isOf_8 : decode cX3_isOf 8 = .ok (.iand, 1) := by decide +kernel
theorem dX3_isOf_9 : decode cX3_isOf 9 = .ok (.ifCond .eq 7, 3) := by decide +kernel
theorem dX3_isOf_12 : decode cX3_isOf 12 = .ok (.iconst 1, 1) := by decide +kernel
theorem dX3_isOf_13 : decode cX3_isOf 13 = .ok (.goto 4, 3) := by decide +kernel
theorem dX3_isOf_16 : decode cX3_isOf 16 = .ok (.iconst 0, 1) := by decide +kernel
theorem dX3_isOf_17 : decode cX3_isOf 17 = .ok (.ireturn, 1) := by decide +kernel
theorem dX4_init_0 : decode cX4_init 0 = .ok (.aload_n 0, 1) := by decide +kernel
theorem dX4_init_1 : decode cX4_init 1 = .ok (.invokespecial 3, 3) := by decide +kernel
theorem dX4_init_4 : decode cX4_init 4 = .ok (.aload_n 0, 1) := by decide +kernel
theorem dX4_init_5 : decode cX4_init 5 = .ok (.iconst 0, 1) := by decide +kernel
theorem dX4_init_6 : decode cX4_init 6 = .ok (.putfield 9, 3) := by decide +kernel
theorem dX4_init_9 : decode cX4_init 9 = .ok (.aload_n 0, 1) := by decide +kernel
theorem dX4_init_10 : decode cX4_init 10 = .ok (.iload_n 1, 1) := by decide +kernel
theorem dX4_init_11 : decode cX4_init 11 = .ok (.putfield 15, 3) := by decide +kernel
theorem dX4_init_14 : decode cX4_init 14 = .ok (.aload_n 0, 1) := by decide +kernel
theorem dX4_init_15 : decode cX4_init 15 = .ok (.iload_n 2, 1) := by decide +kernel
theorem dX4_init_16 : decode cX4_init 16 = .ok (.putfield 18, 3) := by decide +kernel
theorem dX4_init_19 : decode cX4_init 19 = .ok (.aload_n 0, 1) := by decide +kernel
theorem dX4_init_20 : decode cX4_init 20 = .ok (.iload_n 3, 1) := by decide +kernel
theorem dX4_init_21 : decode cX4_init 21 = .ok (.putfield 21, 3) := by decide +kernel
theorem dX4_init_24 : decode cX4_init 24 = .ok (.aload_n 0, 1) := by decide +kernel
theorem dX4_init_25 : decode cX4_init 25 = .ok (.iload 4, 2) := by decide +kernel
theorem dX4_init_27 : decode cX4_init 27 = .ok (.putfield 24, 3) := by decide +kernel
theorem dX4_init_30 : decode cX4_init 30 = .ok (.aload_n 0, 1) := by decide +kernel
theorem dX4_init_31 : decode cX4_init 31 = .ok (.iload 5, 2) := by decide +kernel
theorem dX4_init_33 : decode cX4_init 33 = .ok (.putfield 27, 3) := by decide +kernel
theorem dX4_init_36 : decode cX4_init 36 = .ok (.return_, 1) := by decide +kernel
theorem dX4_isOpen_0 : decode cX4_isOpen 0 = .ok (.aload_n 0, 1) := by decide +kernel
theorem dX4_isOpen_1 : decode cX4_isOpen 1 = .ok (.getfield 9, 3) := by decide +kernel
theorem dX4_isOpen_4 : decode cX4_isOpen 4 = .ok (.ifCond .eq 19, 3) := by decide +kernel
theorem dX4_isOpen_7 : decode cX4_isOpen 7 = .ok (.aload_n 0, 1) := by decide +kernel
theorem dX4_isOpen_8 : decode cX4_isOpen 8 = .ok (.getfield 9, 3) := by decide +kernel
theorem dX4_isOpen_11 : decode cX4_isOpen 11 = .ok (.iconst 2, 1) := by decide +kernel
theorem dX4_isOpen_12 : decode cX4_isOpen 12 = .ok (.if_icmp .eq 11, 3) := by decide +kernel
theorem dX4_isOpen_15 : decode cX4_isOpen 15 = .ok (.aload_n 0, 1) := by decide +kernel
theorem dX4_isOpen_16 : decode cX4_isOpen 16 = .ok (.getfield 9, 3) := by decide +kernel
theorem dX4_isOpen_19 : decode cX4_isOpen 19 = .ok (.iconst 3, 1) := by decide +kernel
theorem dX4_isOpen_20 : decode cX4_isOpen 20 = .ok (.if_icmp .ne 7, 3) := by decide +kernel
theorem dX4_isOpen_23 : decode cX4_isOpen 23 = .ok (.iconst 1, 1) := by decide +kernel
theorem dX4_isOpen_24 : decode cX4_isOpen 24 = .ok (.goto 4, 3) := by decide +kernel
theorem dX4_isOpen_27 : decode cX4_isOpen 27 = .ok (.iconst 0, 1) := by decide +kernel
theorem dX4_isOpen_28 : decode cX4_isOpen 28 = .ok (.ireturn, 1) := by decide +kernel
theorem dX4_isWaitingFor_0 : decode cX4_isWaitingFor 0 = .ok (.aload_n 0, 1) := by decide +kernel
theorem dX4_isWaitingFor_1 : decode cX4_isWaitingFor 1 = .ok (.getfield 9, 3) := by decide +kernel
theorem dX4_isWaitingFor_4 : decode cX4_isWaitingFor 4 = .ok (.ifCond .ne 23, 3) := by decide +kernel
theorem dX4_isWaitingFor_7 : decode cX4_isWaitingFor 7 = .ok (.aload_n 0, 1) := by decide +kernel
theorem dX4_isWaitingFor_8 : decode cX4_isWaitingFor 8 = .ok (.getfield 21, 3) := by decide +kernel
theorem dX4_isWaitingFor_11 : decode cX4_isWaitingFor 11 = .ok (.iload_n 1, 1) := by decide +kernel
theorem dX4_isWaitingFor_12 : decode cX4_isWaitingFor 12 = .ok (.if_icmp .ne 15, 3) := by decide +kernel
theorem dX4_isWaitingFor_15 : decode cX4_isWaitingFor 15 = .ok (.aload_n 0, 1) := by decide +kernel
theorem dX4_isWaitingFor_16 : decode cX4_isWaitingFor 16 = .ok (.getfield 24, 3) := by decide +kernel
theorem dX4_isWaitingFor_19 : decode cX4_isWaitingFor 19 = .ok (.iload_n 2, 1) := by decide +kernel
theorem dX4_isWaitingFor_20 : decode cX4_isWaitingFor 20 = .ok (.if_icmp .ne 7, 3) := by decide +kernel
theorem dX4_isWaitingFor_23 : decode cX4_isWaitingFor 23 = .ok (.iconst 1, 1) := by decide +kernel
theorem dX4_isWaitingFor_24 : decode cX4_isWaitingFor 24 = .ok (.goto 4, 3) := by decide +kernel
theorem dX4_isWaitingFor_27 : decode cX4_isWaitingFor 27 = .ok (.iconst 0, 1) := by decide +kernel
theorem dX4_isWaitingFor_28 : decode cX4_isWaitingFor 28 = .ok (.ireturn, 1) := by decide +kernel
theorem dX4_isFollowedBy_0 : decode cX4_isFollowedBy 0 = .ok (.aload_n 0, 1) := by decide +kernel
theorem dX4_isFollowedBy_1 : decode cX4_isFollowedBy 1 = .ok (.getfield 30, 3) := by decide +kernel
theorem dX4_isFollowedBy_4 : decode cX4_isFollowedBy 4 = .ok (.iconst 1, 1) := by decide +kernel
theorem dX4_isFollowedBy_5 : decode cX4_isFollowedBy 5 = .ok (.iload_n 1, 1) := by decide +kernel
theorem dX4_isFollowedBy_6 : decode cX4_isFollowedBy 6 = .ok (.ishl, 1) := by decide +kernel
theorem dX4_isFollowedBy_7 : decode cX4_isFollowedBy 7 = .ok (.iand, 1) := by decide +kernel
theorem dX4_isFollowedBy_8 : decode cX4_isFollowedBy 8 = .ok (.ifCond .eq 7, 3) := by decide +kernel
theorem dX4_isFollowedBy_11 : decode cX4_isFollowedBy 11 = .ok (.iconst 1, 1) := by decide +kernel
theorem dX4_isFollowedBy_12 : decode cX4_isFollowedBy 12 = .ok (.goto 4, 3) := by decide +kernel
theorem dX4_isFollowedBy_15 : decode cX4_isFollowedBy 15 = .ok (.iconst 0, 1) := by decide +kernel
theorem dX4_isFollowedBy_16 : decode cX4_isFollowedBy 16 = .ok (.ireturn, 1) := by decide +kernel
set_option maxRecDepth 20000 in
theorem ggX4_countFollowers_J6_bitCount_0f7a4 : GoodIn wsX4_countFollowers wsJ6_bitCount_0f7a4 := goodIn_r _ [5, 6, 7, 8] (by decide +kernel) (by decide +kernel)
set_option maxRecDepth 20000 in
theorem gX4_countFollowers_J6_bitCount_0f7a4 : GoodIn wsX4_countFollowers (va_wsS RX4 33 yJ6_bitCount_0f7a4 wsJ6_bitCount_0f7a4) := goodIn_app (goodIn_of _ (by decide +kernel)) ggX4_countFollowers_J6_bitCount_0f7a4
theorem dX4_countFollowers_0 : decode cX4_countFollowers 0 = .ok (.aload_n 0, 1) := by decide +kernel
theorem dX4_countFollowers_1 : decode cX4_countFollowers 1 = .ok (.getfield 30, 3) := by decide +kernel
theorem dX4_countFollowers_4 : decode cX4_countFollowers 4 = .ok (.invokestatic 33, 3) := by decide +kernel
theorem dX4_countFollowers_7 : decode cX4_countFollowers 7 = .ok (.ireturn, 1) := by decide +kernel
theorem dX4_endIfLate_0 : decode cX4_endIfLate 0 = .ok (.aload_n 0, 1) := by decide +kernel
theorem dX4_endIfLate_1 : decode cX4_endIfLate 1 = .ok (.getfield 9, 3) := by decide +kernel
theorem dX4_endIfLate_4 : decode cX4_endIfLate 4 = .ok (.iconst 2, 1) := by decide +kernel
theorem dX4_endIfLate_5 : decode cX4_endIfLate 5 = .ok (.if_icmp .eq 11, 3) := by decide +kernel
theorem dX4_endIfLate_8 : decode cX4_endIfLate 8 = .ok (.aload_n 0, 1) := by decide +kernel
theorem dX4_endIfLate_9 : decode cX4_endIfLate 9 = .ok (.getfield 9, 3) := by decide +kernel
theorem dX4_endIfLate_12 : decode cX4_endIfLate 12 = .ok (.iconst 3, 1) := by decide +kernel
theorem dX4_endIfLate_13 : decode cX4_endIfLate 13 = .ok (.if_icmp .ne 16, 3) := by decide +kernel
theorem dX4_endIfLate_16 : decode cX4_endIfLate 16 = .ok (.iload_n 1, 1) := by decide +kernel
theorem dX4_endIfLate_17 : decode cX4_endIfLate 17 = .ok (.aload_n 0, 1) := by decide +kernel
theorem dX4_endIfLate_18 : decode cX4_endIfLate 18 = .ok (.getfield 39, 3) := by decide +kernel
theorem dX4_endIfLate_21 : decode cX4_endIfLate 21 = .ok (.if_icmp .le 8, 3) := by decide +kernel
theorem dX4_endIfLate_24 : decode cX4_endIfLate 24 = .ok (.aload_n 0, 1) := by decide +kernel
theorem dX4_endIfLate_25 : decode cX4_endIfLate 25 = .ok (.iconst 4, 1) := by decide +kernel
theorem dX4_endIfLate_26 : decode cX4_endIfLate 26 = .ok (.putfield 9, 3) := by decide +kernel
theorem dX4_endIfLate_29 : decode cX4_endIfLate 29 = .ok (.return_, 1) := by decide +kernel
set_option maxRecDepth 20000 in
theorem ggX5_init_J7_fill_53178 : GoodIn wsX5_init wsJ7_fill_53178 := goodIn_r _ [10] (by decide +kernel) (by decide +kernel)
set_option maxRecDepth 20000 in
theorem gX5_init_J7_fill_53178 : GoodIn wsX5_init (va_wsS RX5 17 yJ7_fill_53178 wsJ7_fill_53178) := goodIn_app (goodIn_of _ (by decide +kernel)) ggX5_init_J7_fill_53178
theorem dX5_init_0 : decode cX5_init 0 = .ok (.aload_n 0, 1) := by decide +kernel
theorem dX5_init_1 : decode cX5_init 1 = .ok (.invokespecial 1, 3) := by decide +kernel
theorem dX5_init_4 : decode cX5_init 4 = .ok (.aload_n 0, 1) := by decide +kernel
theorem dX5_init_5 : decode cX5_init 5 = .ok (.iload_n 1, 1) := by decide +kernel
theorem dX5_init_6 : decode cX5_init 6 = .ok (.ifCond .ge 7, 3) := by decide +kernel
theorem dX5_init_9 : decode cX5_init 9 = .ok (.iconst 0, 1) := by decide +kernel
theorem dX5_init_10 : decode cX5_init 10 = .ok (.goto 4, 3) := by decide +kernel
theorem dX5_init_13 : decode cX5_init 13 = .ok (.iload_n 1, 1) := by decide +kernel
theorem dX5_init_14 : decode cX5_init 14 = .ok (.newarray .int, 2) := by decide +kernel
theorem dX5_init_16 : decode cX5_init 16 = .ok (.putfield 7, 3) := by decide +kernel
theorem dX5_init_19 : decode cX5_init 19 = .ok (.aload_n 0, 1) := by decide +kernel
theorem dX5_init_20 : decode cX5_init 20 = .ok (.iload_n 2, 1) := by decide +kernel
theorem dX5_init_21 : decode cX5_init 21 = .ok (.putfield 13, 3) := by decide +kernel
theorem dX5_init_24 : decode cX5_init 24 = .ok (.iload_n 2, 1) := by decide +kernel
theorem dX5_init_25 : decode cX5_init 25 = .ok (.ifCond .eq 11, 3) := by decide +kernel
theorem dX5_init_28 : decode cX5_init 28 = .ok (.aload_n 0, 1) := by decide +kernel
theorem dX5_init_29 : decode cX5_init 29 = .ok (.getfield 7, 3) := by decide +kernel
theorem dX5_init_32 : decode cX5_init 32 = .ok (.iload_n 2, 1) := by decide +kernel
theorem dX5_init_33 : decode cX5_init 33 = .ok (.invokestatic 17, 3) := by decide +kernel
theorem dX5_init_36 : decode cX5_init 36 = .ok (.return_, 1) := by decide +kernel
theorem dX5_at_0 : decode cX5_at 0 = .ok (.iload_n 1, 1) := by decide +kernel
theorem dX5_at_1 : decode cX5_at 1 = .ok (.ifCond .lt 12, 3) := by decide +kernel
theorem dX5_at_4 : decode cX5_at 4 = .ok (.iload_n 1, 1) := by decide +kernel
theorem dX5_at_5 : decode cX5_at 5 = .ok (.aload_n 0, 1) := by decide +kernel
theorem dX5_at_6 : decode cX5_at 6 = .ok (.getfield 7, 3) := by decide +kernel
theorem dX5_at_9 : decode cX5_at 9 = .ok (.arraylength, 1) := by decide +kernel
theorem dX5_at_10 : decode cX5_at 10 = .ok (.if_icmp .lt 10, 3) := by decide +kernel
theorem dX5_at_13 : decode cX5_at 13 = .ok (.aload_n 0, 1) := by decide +kernel
theorem dX5_at_14 : decode cX5_at 14 = .ok (.getfield 13, 3) := by decide +kernel
theorem dX5_at_17 : decode cX5_at 17 = .ok (.goto 9, 3) := by decide +kernel
theorem dX5_at_20 : decode cX5_at 20 = .ok (.aload_n 0, 1) := by decide +kernel
theorem dX5_at_21 : decode cX5_at 21 = .ok (.getfield 7, 3) := by decide +kernel
theorem dX5_at_24 : decode cX5_at 24 = .ok (.iload_n 1, 1) := by decide +kernel
theorem dX5_at_25 : decode cX5_at 25 = .ok (.iaload, 1) := by decide +kernel
theorem dX5_at_26 : decode cX5_at 26 = .ok (.ireturn, 1) := by decide +kernel
theorem dX5_put_0 : decode cX5_put 0 = .ok (.iload_n 1, 1) := by decide +kernel
theorem dX5_put_1 : decode cX5_put 1 = .ok (.ifCond .lt 19, 3) := by decide +kernel
theorem dX5_put_4 : decode cX5_put 4 = .ok (.iload_n 1, 1) := by decide +kernel
theorem dX5_put_5 : decode cX5_put 5 = .ok (.aload_n 0, 1) := by decide +kernel
theorem dX5_put_6 : decode cX5_put 6 = .ok (.getfield 7, 3) := by decide +kernel
theorem dX5_put_9 : decode cX5_put 9 = .ok (.arraylength, 1) := by decide +kernel
theorem dX5_put_10 : decode cX5_put 10 = .ok (.if_icmp .ge 10, 3) := by decide +kernel
theorem dX5_put_13 : decode cX5_put 13 = .ok (.aload_n 0, 1) := by decide +kernel
theorem dX5_put_14 : decode cX5_put 14 = .ok (.getfield 7, 3) := by decide +kernel
theorem dX5_put_17 : decode cX5_put 17 = .ok (.iload_n 1, 1) := by decide +kernel
theorem dX5_put_18 : decode cX5_put 18 = .ok (.iload_n 2, 1) := by decide +kernel
theorem dX5_put_19 : decode cX5_put 19 = .ok (.iastore, 1) := by decide +kernel
theorem dX5_put_20 : decode cX5_put 20 = .ok (.return_, 1) := by decide +kernel
theorem dX6_init_0 : decode cX6_init 0 = .ok (.aload_n 0, 1) := by decide +kernel
theorem dX6_init_1 : decode cX6_init 1 = .ok (.invokespecial 1, 3) := by decide +kernel
theorem dX6_init_4 : decode cX6_init 4 = .ok (.aload_n 0, 1) := by decide +kernel
theorem dX6_init_5 : decode cX6_init 5 = .ok (.iload_n 1, 1) := by decide +kernel
theorem dX6_init_6 : decode cX6_init 6 = .ok (.putfield 7, 3) := by decide +kernel
theorem dX6_init_9 : decode cX6_init 9 = .ok (.aload_n 0, 1) := by decide +kernel
theorem dX6_init_10 : decode cX6_init 10 = .ok (.iload_n 2, 1) := by decide +kernel
theorem dX6_init_11 : decode cX6_init 11 = .ok (.putfield 13, 3) := by decide +kernel
theorem dX6_init_14 : decode cX6_init 14 = .ok (.aload_n 0, 1) := by decide +kernel
theorem dX6_init_15 : decode cX6_init 15 = .ok (.iload_n 3, 1) := by decide +kernel
theorem dX6_init_16 : decode cX6_init 16 = .ok (.putfield 16, 3) := by decide +kernel
theorem dX6_init_19 : decode cX6_init 19 = .ok (.return_, 1) := by decide +kernel
theorem dX7_init_0 : decode cX7_init 0 = .ok (.aload_n 0, 1) := by decide +kernel
theorem dX7_init_1 : decode cX7_init 1 = .ok (.invokespecial 3, 3) := by decide +kernel
theorem dX7_init_4 : decode cX7_init 4 = .ok (.aload_n 0, 1) := by decide +kernel
theorem dX7_init_5 : decode cX7_init 5 = .ok (.iconst (-1), 1) := by decide +kernel
theorem dX7_init_6 : decode cX7_init 6 = .ok (.putfield 9, 3) := by decide +kernel
theorem dX7_init_9 : decode cX7_init 9 = .ok (.aload_n 0, 1) := by decide +kernel
theorem dX7_init_10 : decode cX7_init 10 = .ok (.iload_n 1, 1) := by decide +kernel
theorem dX7_init_11 : decode cX7_init 11 = .ok (.putfield 15, 3) := by decide +kernel
theorem dX7_init_14 : decode cX7_init 14 = .ok (.aload_n 0, 1) := by decide +kernel
theorem dX7_init_15 : decode cX7_init 15 = .ok (.iload_n 2, 1) := by decide +kernel
theorem dX7_init_16 : decode cX7_init 16 = .ok (.putfield 18, 3) := by decide +kernel
theorem dX7_init_19 : decode cX7_init 19 = .ok (.aload_n 0, 1) := by decide +kernel
theorem dX7_init_20 : decode cX7_init 20 = .ok (.aload_n 3, 1) := by decide +kernel
theorem dX7_init_21 : decode cX7_init 21 = .ok (.putfield 21, 3) := by decide +kernel
theorem dX7_init_24 : decode cX7_init 24 = .ok (.aload_n 0, 1) := by decide +kernel
theorem dX7_init_25 : decode cX7_init 25 = .ok (.iload 4, 2) := by decide +kernel
theorem dX7_init_27 : decode cX7_init 27 = .ok (.putfield 25, 3) := by decide +kernel
theorem dX7_init_30 : decode cX7_init 30 = .ok (.aload_n 0, 1) := by decide +kernel
theorem dX7_init_31 : decode cX7_init 31 = .ok (.iload 5, 2) := by decide +kernel
theorem dX7_init_33 : decode cX7_init 33 = .ok (.putfield 28, 3) := by decide +kernel
theorem dX7_init_36 : decode cX7_init 36 = .ok (.return_, 1) := by decide +kernel
theorem dX7_isFor_0 : decode cX7_isFor 0 = .ok (.aload_n 1, 1) := by decide +kernel
theorem dX7_isFor_1 : decode cX7_isFor 1 = .ok (.aload_n 0, 1) := by decide +kernel
theorem dX7_isFor_2 : decode cX7_isFor 2 = .ok (.getfield 21, 3) := by decide +kernel
theorem dX7_isFor_5 : decode cX7_isFor 5 = .ok (.if_acmp .eq 20, 3) := by decide +kernel
theorem dX7_isFor_8 : decode cX7_isFor 8 = .ok (.aload_n 1, 1) := by decide +kernel
theorem dX7_isFor_9 : decode cX7_isFor 9 = .ok (.getfield 31, 3) := by decide +kernel
theorem dX7_isFor_12 : decode cX7_isFor 12 = .ok (.ifCond .eq 17, 3) := by decide +kernel
theorem dX7_isFor_15 : decode cX7_isFor 15 = .ok (.aload_n 0, 1) := by decide +kernel
theorem dX7_isFor_16 : decode cX7_isFor 16 = .ok (.getfield 21, 3) := by decide +kernel
theorem dX7_isFor_19 : decode cX7_isFor 19 = .ok (.getfield 31, 3) := by decide +kernel
theorem dX7_isFor_22 : decode cX7_isFor 22 = .ok (.ifCond .eq 7, 3) := by decide +kernel
theorem dX7_isFor_25 : decode cX7_isFor 25 = .ok (.iconst 1, 1) := by decide +kernel
theorem dX7_isFor_26 : decode cX7_isFor 26 = .ok (.goto 4, 3) := by decide +kernel
theorem dX7_isFor_29 : decode cX7_isFor 29 = .ok (.iconst 0, 1) := by decide +kernel
theorem dX7_isFor_30 : decode cX7_isFor 30 = .ok (.ireturn, 1) := by decide +kernel
set_option maxRecDepth 20000 in
theorem ggX7_doesFor_X7_isFor : GoodIn wsX7_doesFor wsX7_isFor := goodIn_r _ [9, 10, 11, 12, 13, 14, 15, 16, 17, 18, 19, 20, 21, 22, 23, 24, 25, 26] (by decide +kernel) (by decide +kernel)
set_option maxRecDepth 20000 in
theorem gX7_doesFor_X7_isFor : GoodIn wsX7_doesFor (wsV RX7 37 RX7 yX7_isFor wsX7_isFor) := goodIn_app (goodIn_of _ (by decide +kernel)) ggX7_doesFor_X7_isFor
theorem dX7_doesFor_0 : decode cX7_doesFor 0 = .ok (.aload_n 0, 1) := by decide +kernel
theorem dX7_doesFor_1 : decode cX7_doesFor 1 = .ok (.aload_n 1, 1) := by decide +kernel
theorem dX7_doesFor_2 : decode cX7_doesFor 2 = .ok (.invokevirtual 37, 3) := by decide +kernel
theorem dX7_doesFor_5 : decode cX7_doesFor 5 = .ok (.ifCond .eq 38, 3) := by decide +kernel
theorem dX7_doesFor_8 : decode cX7_doesFor 8 = .ok (.aload_n 0, 1) := by decide +kernel
theorem dX7_doesFor_9 : decode cX7_doesFor 9 = .ok (.getfield 25, 3) := by decide +kernel
theorem dX7_doesFor_12 : decode cX7_doesFor 12 = .ok (.iload_n 2, 1) := by decide +kernel
theorem dX7_doesFor_13 : decode cX7_doesFor 13 = .ok (.if_icmp .gt 30, 3) := by decide +kernel
theorem dX7_doesFor_16 : decode cX7_doesFor 16 = .ok (.iload_n 2, 1) := by decide +kernel
theorem dX7_doesFor_17 : decode cX7_doesFor 17 = .ok (.aload_n 0, 1) := by decide +kernel
theorem dX7_doesFor_18 : decode cX7_doesFor 18 = .ok (.getfield 28, 3) := by decide +kernel
theorem dX7_doesFor_21 : decode cX7_doesFor 21 = .ok (.if_icmp .gt 22, 3) := by decide +kernel
theorem dX7_doesFor_24 : decode cX7_doesFor 24 = .ok (.aload_n 0, 1) := by decide +kernel
theorem dX7_doesFor_25 : decode cX7_doesFor 25 = .ok (.getfield 41, 3) := by decide +kernel
theorem dX7_doesFor_28 : decode cX7_doesFor 28 = .ok (.ifCond .gt 11, 3) := by decide +kernel
theorem dX7_doesFor_31 : decode cX7_doesFor 31 = .ok (.aload_n 0, 1) := by decide +kernel
theorem dX7_doesFor_32 : decode cX7_doesFor 32 = .ok (.getfield 9, 3) := by decide +kernel
theorem dX7_doesFor_35 : decode cX7_doesFor 35 = .ok (.iload_n 2, 1) := by decide +kernel
theorem dX7_doesFor_36 : decode cX7_doesFor 36 = .ok (.if_icmp .ne 7, 3) := by decide +kernel
theorem dX7_doesFor_39 : decode cX7_doesFor 39 = .ok (.iconst 1, 1) := by decide +kernel
theorem dX7_doesFor_40 : decode cX7_doesFor 40 = .ok (.goto 4, 3) := by decide +kernel
theorem dX7_doesFor_43 : decode cX7_doesFor 43 = .ok (.iconst 0, 1) := by decide +kernel
theorem dX7_doesFor_44 : decode cX7_doesFor 44 = .ok (.ireturn, 1) := by decide +kernel
theorem dX7_takeDay_0 : decode cX7_takeDay 0 = .ok (.aload_n 0, 1) := by decide +kernel
theorem dX7_takeDay_1 : decode cX7_takeDay 1 = .ok (.getfield 9, 3) := by decide +kernel
theorem dX7_takeDay_4 : decode cX7_takeDay 4 = .ok (.iload_n 1, 1) := by decide +kernel
theorem dX7_takeDay_5 : decode cX7_takeDay 5 = .ok (.if_icmp .eq 18, 3) := by decide +kernel
theorem dX7_takeDay_8 : decode cX7_takeDay 8 = .ok (.aload_n 0, 1) := by decide +kernel
theorem dX7_takeDay_9 : decode cX7_takeDay 9 = .ok (.iload_n 1, 1) := by decide +kernel
theorem dX7_takeDay_10 : decode cX7_takeDay 10 = .ok (.putfield 9, 3) := by decide +kernel
theorem dX7_takeDay_13 : decode cX7_takeDay 13 = .ok (.aload_n 0, 1) := by decide +kernel
theorem dX7_takeDay_14 : decode cX7_takeDay 14 = .ok (.dup, 1) := by decide +kernel
theorem dX7_takeDay_15 : decode cX7_takeDay 15 = .ok (.getfield 41, 3) := by decide +kernel
theorem dX7_takeDay_18 : decode cX7_takeDay 18 = .ok (.iconst 1, 1) := by decide +kernel
theorem dX7_takeDay_19 : decode cX7_takeDay 19 = .ok (.isub, 1) := by decide +kernel
theorem dX7_takeDay_20 : decode cX7_takeDay 20 = .ok (.putfield 41, 3) := by decide +kernel
theorem dX7_takeDay_23 : decode cX7_takeDay 23 = .ok (.return_, 1) := by decide +kernel
