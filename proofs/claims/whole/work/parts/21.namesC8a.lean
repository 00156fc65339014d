set_option maxRecDepth 20000 in
theorem ggX8_init_Jx4a65c_init_da8c8 : GoodIn wsX8_init wsJx4a65c_init_da8c8 := goodIn_r _ [19, 20, 21, 22, 23, 24, 25, 26, 27, 28, 29, 30, 31, 2, 3, 39, 40, 41] (by decide +kernel) (by decide +kernel)
set_option maxRecDepth 20000 in
theorem gX8_init_Jx4a65c_init_da8c8 : GoodIn wsX8_init (wsJx4a65c_init_da8c8) := ggX8_init_Jx4a65c_init_da8c8
set_option maxRecDepth 20000 in
theorem ggX8_init_X6_init : GoodIn wsX8_init wsX6_init := goodIn_r _ [34, 35, 2, 3, 36, 37, 38, 49, 50, 51] (by decide +kernel) (by decide +kernel)
set_option maxRecDepth 20000 in
theorem gX8_init_X6_init : GoodIn wsX8_init (wsX6_init) := ggX8_init_X6_init
theorem dX8_init_0 : decode cX8_init 0 = .ok (.aload_n 0, 1) := by decide +kernel
theorem dX8_init_1 : decode cX8_init 1 = .ok (.invokespecial 3, 3) := by decide +kernel
theorem dX8_init_4 : decode cX8_init 4 = .ok (.aload_n 0, 1) := by decide +kernel
theorem dX8_init_5 : decode cX8_init 5 = .ok (.new 9, 3) := by decide +kernel
theorem dX8_init_8 : decode cX8_init 8 = .ok (.dup, 1) := by decide +kernel
theorem dX8_init_9 : decode cX8_init 9 = .ok (.invokespecial 11, 3) := by decide +kernel
theorem dX8_init_12 : decode cX8_init 12 = .ok (.putfield 12, 3) := by decide +kernel
theorem dX8_init_15 : decode cX8_init 15 = .ok (.aload_n 0, 1) := by decide +kernel
theorem dX8_init_16 : decode cX8_init 16 = .ok (.new 9, 3) := by decide +kernel
theorem dX8_init_19 : decode cX8_init 19 = .ok (.dup, 1) := by decide +kernel
theorem dX8_init_20 : decode cX8_init 20 = .ok (.invokespecial 11, 3) := by decide +kernel
theorem dX8_init_23 : decode cX8_init 23 = .ok (.putfield 16, 3) := by decide +kernel
theorem dX8_init_26 : decode cX8_init 26 = .ok (.aload_n 0, 1) := by decide +kernel
theorem dX8_init_27 : decode cX8_init 27 = .ok (.new 9, 3) := by decide +kernel
theorem dX8_init_30 : decode cX8_init 30 = .ok (.dup, 1) := by decide +kernel
theorem dX8_init_31 : decode cX8_init 31 = .ok (.invokespecial 11, 3) := by decide +kernel
theorem dX8_init_34 : decode cX8_init 34 = .ok (.putfield 19, 3) := by decide +kernel
theorem dX8_init_37 : decode cX8_init 37 = .ok (.aload_n 0, 1) := by decide +kernel
theorem dX8_init_38 : decode cX8_init 38 = .ok (.new 9, 3) := by decide +kernel
theorem dX8_init_41 : decode cX8_init 41 = .ok (.dup, 1) := by decide +kernel
theorem dX8_init_42 : decode cX8_init 42 = .ok (.invokespecial 11, 3) := by decide +kernel
theorem dX8_init_45 : decode cX8_init 45 = .ok (.putfield 22, 3) := by decide +kernel
theorem dX8_init_48 : decode cX8_init 48 = .ok (.aload_n 0, 1) := by decide +kernel
theorem dX8_init_49 : decode cX8_init 49 = .ok (.new 25, 3) := by decide +kernel
theorem dX8_init_52 : decode cX8_init 52 = .ok (.dup, 1) := by decide +kernel
theorem dX8_init_53 : decode cX8_init 53 = .ok (.iconst 0, 1) := by decide +kernel
theorem dX8_init_54 : decode cX8_init 54 = .ok (.bipush 90, 2) := by decide +kernel
theorem dX8_init_56 : decode cX8_init 56 = .ok (.sipush 180, 3) := by decide +kernel
theorem dX8_init_59 : decode cX8_init 59 = .ok (.invokespecial 27, 3) := by decide +kernel
theorem dX8_init_62 : decode cX8_init 62 = .ok (.putfield 30, 3) := by decide +kernel
theorem dX8_init_65 : decode cX8_init 65 = .ok (.aload_n 0, 1) := by decide +kernel
theorem dX8_init_66 : decode cX8_init 66 = .ok (.new 9, 3) := by decide +kernel
theorem dX8_init_69 : decode cX8_init 69 = .ok (.dup, 1) := by decide +kernel
theorem dX8_init_70 : decode cX8_init 70 = .ok (.invokespecial 11, 3) := by decide +kernel
theorem dX8_init_73 : decode cX8_init 73 = .ok (.putfield 34, 3) := by decide +kernel
theorem dX8_init_76 : decode cX8_init 76 = .ok (.aload_n 0, 1) := by decide +kernel
theorem dX8_init_77 : decode cX8_init 77 = .ok (.iconst 0, 1) := by decide +kernel
theorem dX8_init_78 : decode cX8_init 78 = .ok (.putfield 37, 3) := by decide +kernel
theorem dX8_init_81 : decode cX8_init 81 = .ok (.return_, 1) := by decide +kernel
set_option maxRecDepth 20000 in
theorem ggX8_land_Jx4a65c_size_8abf5 : GoodIn wsX8_land wsJx4a65c_size_8abf5 := goodIn_r _ [14, 15, 109, 110, 111] (by decide +kernel) (by decide +kernel)
set_option maxRecDepth 20000 in
theorem gX8_land_Jx4a65c_size_8abf5 : GoodIn wsX8_land (wsV RX8 48 RJx4a65c yJx4a65c_size_8abf5 wsJx4a65c_size_8abf5) := goodIn_app (goodIn_of _ (by decide +kernel)) ggX8_land_Jx4a65c_size_8abf5
set_option maxRecDepth 20000 in
theorem ggX8_land_X1_init : GoodIn wsX8_land wsX1_init := goodIn_r _ [18, 19, 20, 21, 22, 23, 24, 25, 26, 27, 28, 29, 30, 31, 32, 33, 34, 35, 36, 37, 38, 39, 40, 41, 112, 113, 102, 103, 104, 105, 106, 107, 108] (by decide +kernel) (by decide +kernel)
set_option maxRecDepth 20000 in
theorem gX8_land_X1_init : GoodIn wsX8_land (wsX1_init) := ggX8_land_X1_init
set_option maxRecDepth 20000 in
theorem ggX8_land_Jx4a65c_add_9ea2d : GoodIn wsX8_land wsJx4a65c_add_9ea2d := goodIn_r _ [45, 46, 47, 48, 15, 49, 50, 51, 13, 52, 53, 54, 55, 56, 57, 58, 59, 60, 61, 62, 63, 64, 65, 66, 67, 68, 69, 70, 71, 72, 73, 74, 75, 76, 77, 40, 78, 79, 80, 81, 82, 83, 84, 85, 86, 87, 88, 89, 90, 91, 92, 93, 94, 109, 110, 111] (by decide +kernel) (by decide +kernel)
set_option maxRecDepth 20000 in
theorem gX8_land_Jx4a65c_add_9ea2d : GoodIn wsX8_land (wsV RX8 62 RJx4a65c yJx4a65c_add_9ea2d wsJx4a65c_add_9ea2d) := goodIn_app (goodIn_of _ (by decide +kernel)) ggX8_land_Jx4a65c_add_9ea2d
theorem dX8_land_0 : decode cX8_land 0 = .ok (.iload 4, 2) := by decide +kernel
theorem dX8_land_2 : decode cX8_land 2 = .ok (.ifCond .lt 10, 3) := by decide +kernel
theorem dX8_land_5 : decode cX8_land 5 = .ok (.iload 4, 2) := by decide +kernel
theorem dX8_land_7 : decode cX8_land 7 = .ok (.bipush 30, 2) := by decide +kernel
theorem dX8_land_9 : decode cX8_land 9 = .ok (.if_icmp .le 13, 3) := by decide +kernel
theorem dX8_land_12 : decode cX8_land 12 = .ok (.new 41, 3) := by decide +kernel
theorem dX8_land_15 : decode cX8_land 15 = .ok (.dup, 1) := by decide +kernel
theorem dX8_land_16 : decode cX8_land 16 = .ok (.ldc 43, 2) := by decide +kernel
theorem dX8_land_18 : decode cX8_land 18 = .ok (.invokespecial 45, 3) := by decide +kernel
theorem dX8_land_21 : decode cX8_land 21 = .ok (.athrow, 1) := by decide +kernel
theorem dX8_land_22 : decode cX8_land 22 = .ok (.aload_n 0, 1) := by decide +kernel
theorem dX8_land_23 : decode cX8_land 23 = .ok (.getfield 12, 3) := by decide +kernel
theorem dX8_land_26 : decode cX8_land 26 = .ok (.invokevirtual 48, 3) := by decide +kernel
theorem dX8_land_29 : decode cX8_land 29 = .ok (.bipush 8, 2) := by decide +kernel
theorem dX8_land_31 : decode cX8_land 31 = .ok (.if_icmp .lt 13, 3) := by decide +kernel
theorem dX8_land_34 : decode cX8_land 34 = .ok (.new 52, 3) := by decide +kernel
theorem dX8_land_37 : decode cX8_land 37 = .ok (.dup, 1) := by decide +kernel
theorem dX8_land_38 : decode cX8_land 38 = .ok (.ldc 54, 2) := by decide +kernel
theorem dX8_land_40 : decode cX8_land 40 = .ok (.invokespecial 56, 3) := by decide +kernel
theorem dX8_land_43 : decode cX8_land 43 = .ok (.athrow, 1) := by decide +kernel
theorem dX8_land_44 : decode cX8_land 44 = .ok (.new 57, 3) := by decide +kernel
theorem dX8_land_47 : decode cX8_land 47 = .ok (.dup, 1) := by decide +kernel
theorem dX8_land_48 : decode cX8_land 48 = .ok (.aload_n 0, 1) := by decide +kernel
theorem dX8_land_49 : decode cX8_land 49 = .ok (.getfield 12, 3) := by decide +kernel
theorem dX8_land_52 : decode cX8_land 52 = .ok (.invokevirtual 48, 3) := by decide +kernel
theorem dX8_land_55 : decode cX8_land 55 = .ok (.iload_n 1, 1) := by decide +kernel
theorem dX8_land_56 : decode cX8_land 56 = .ok (.iload_n 2, 1) := by decide +kernel
theorem dX8_land_57 : decode cX8_land 57 = .ok (.iload_n 3, 1) := by decide +kernel
theorem dX8_land_58 : decode cX8_land 58 = .ok (.iload 4, 2) := by decide +kernel
theorem dX8_land_60 : decode cX8_land 60 = .ok (.invokespecial 59, 3) := by decide +kernel
theorem dX8_land_63 : decode cX8_land 63 = .ok (.astore 5, 2) := by decide +kernel
theorem dX8_land_65 : decode cX8_land 65 = .ok (.aload_n 0, 1) := by decide +kernel
theorem dX8_land_66 : decode cX8_land 66 = .ok (.getfield 12, 3) := by decide +kernel
theorem dX8_land_69 : decode cX8_land 69 = .ok (.aload 5, 2) := by decide +kernel
theorem dX8_land_71 : decode cX8_land 71 = .ok (.invokevirtual 62, 3) := by decide +kernel
theorem dX8_land_74 : decode cX8_land 74 = .ok (.pop, 1) := by decide +kernel
theorem dX8_land_75 : decode cX8_land 75 = .ok (.aload 5, 2) := by decide +kernel
theorem dX8_land_77 : decode cX8_land 77 = .ok (.getfield 66, 3) := by decide +kernel
theorem dX8_land_80 : decode cX8_land 80 = .ok (.ireturn, 1) := by decide +kernel
set_option maxRecDepth 20000 in
theorem ggX8_waive_X8_landAt : GoodIn wsX8_waive wsX8_landAt := goodIn_ca (goodIn_r _ [8, 9, 10, 11, 12, 13, 14, 15, 16, 17, 18, 19, 20, 21, 22, 23, 24, 25, 26, 27, 28, 29, 30, 31, 32, 33, 34, 35, 54, 55, 56, 57, 58, 59, 60, 61, 62, 63] (by decide +kernel) (by decide +kernel)) (goodIn_sub (fun _ h => List.mem_cons_of_mem _ (List.mem_append_right _ h)) (by decide +kernel))
set_option maxRecDepth 20000 in
theorem gX8_waive_X8_landAt : GoodIn wsX8_waive (wsV RX8 69 RX8 yX8_landAt wsX8_landAt) := goodIn_app (goodIn_of _ (by decide +kernel)) ggX8_waive_X8_landAt
set_option maxRecDepth 20000 in
theorem ggX8_waive_X1_bit : GoodIn wsX8_waive wsX1_bit := goodIn_r _ [40, 41, 47, 48, 49, 50, 51, 52, 53] (by decide +kernel) (by decide +kernel)
set_option maxRecDepth 20000 in
theorem gX8_waive_X1_bit : GoodIn wsX8_waive (wsV RX8 75 RX1 yX1_bit wsX1_bit) := goodIn_app (goodIn_of _ (by decide +kernel)) ggX8_waive_X1_bit
set_option maxRecDepth 20000 in
theorem ggX8_waive_X1_waivesFor : GoodIn wsX8_waive wsX1_waivesFor := goodIn_r _ [45, 46, 47, 48, 49, 50, 51, 52, 53] (by decide +kernel) (by decide +kernel)
set_option maxRecDepth 20000 in
theorem gX8_waive_X1_waivesFor : GoodIn wsX8_waive (wsV RX8 78 RX1 yX1_waivesFor wsX1_waivesFor) := goodIn_app (goodIn_of _ (by decide +kernel)) ggX8_waive_X1_waivesFor
theorem dX8_waive_0 : decode cX8_waive 0 = .ok (.aload_n 0, 1) := by decide +kernel
theorem dX8_waive_1 : decode cX8_waive 1 = .ok (.iload_n 1, 1) := by decide +kernel
theorem dX8_waive_2 : decode cX8_waive 2 = .ok (.invokevirtual 69, 3) := by decide +kernel
theorem dX8_waive_5 : decode cX8_waive 5 = .ok (.astore 4, 2) := by decide +kernel
theorem dX8_waive_7 : decode cX8_waive 7 = .ok (.aload_n 0, 1) := by decide +kernel
theorem dX8_waive_8 : decode cX8_waive 8 = .ok (.iload_n 2, 1) := by decide +kernel
theorem dX8_waive_9 : decode cX8_waive 9 = .ok (.invokevirtual 69, 3) := by decide +kernel
theorem dX8_waive_12 : decode cX8_waive 12 = .ok (.astore 5, 2) := by decide +kernel
theorem dX8_waive_14 : decode cX8_waive 14 = .ok (.iload_n 1, 1) := by decide +kernel
theorem dX8_waive_15 : decode cX8_waive 15 = .ok (.iload_n 2, 1) := by decide +kernel
theorem dX8_waive_16 : decode cX8_waive 16 = .ok (.if_icmp .ne 13, 3) := by decide +kernel
theorem dX8_waive_19 : decode cX8_waive 19 = .ok (.new 41, 3) := by decide +kernel
theorem dX8_waive_22 : decode cX8_waive 22 = .ok (.dup, 1) := by decide +kernel
theorem dX8_waive_23 : decode cX8_waive 23 = .ok (.ldc 73, 2) := by decide +kernel
theorem dX8_waive_25 : decode cX8_waive 25 = .ok (.invokespecial 45, 3) := by decide +kernel
theorem dX8_waive_28 : decode cX8_waive 28 = .ok (.athrow, 1) := by decide +kernel
theorem dX8_waive_29 : decode cX8_waive 29 = .ok (.aload 4, 2) := by decide +kernel
theorem dX8_waive_31 : decode cX8_waive 31 = .ok (.aload 5, 2) := by decide +kernel
theorem dX8_waive_33 : decode cX8_waive 33 = .ok (.invokevirtual 75, 3) := by decide +kernel
theorem dX8_waive_36 : decode cX8_waive 36 = .ok (.invokevirtual 78, 3) := by decide +kernel
theorem dX8_waive_39 : decode cX8_waive 39 = .ok (.istore 6, 2) := by decide +kernel
theorem dX8_waive_41 : decode cX8_waive 41 = .ok (.aload 4, 2) := by decide +kernel
theorem dX8_waive_43 : decode cX8_waive 43 = .ok (.iload_n 3, 1) := by decide +kernel
theorem dX8_waive_44 : decode cX8_waive 44 = .ok (.ifCond .eq 17, 3) := by decide +kernel
theorem dX8_waive_47 : decode cX8_waive 47 = .ok (.aload 4, 2) := by decide +kernel
theorem dX8_waive_49 : decode cX8_waive 49 = .ok (.getfield 82, 3) := by decide +kernel
theorem dX8_waive_52 : decode cX8_waive 52 = .ok (.aload 5, 2) := by decide +kernel
theorem dX8_waive_54 : decode cX8_waive 54 = .ok (.invokevirtual 75, 3) := by decide +kernel
theorem dX8_waive_57 : decode cX8_waive 57 = .ok (.ior, 1) := by decide +kernel
theorem dX8_waive_58 : decode cX8_waive 58 = .ok (.goto 16, 3) := by decide +kernel
theorem dX8_waive_61 : decode cX8_waive 61 = .ok (.aload 4, 2) := by decide +kernel
theorem dX8_waive_63 : decode cX8_waive 63 = .ok (.getfield 82, 3) := by decide +kernel
theorem dX8_waive_66 : decode cX8_waive 66 = .ok (.aload 5, 2) := by decide +kernel
theorem dX8_waive_68 : decode cX8_waive 68 = .ok (.invokevirtual 75, 3) := by decide +kernel
theorem dX8_waive_71 : decode cX8_waive 71 = .ok (.iconst (-1), 1) := by decide +kernel
theorem dX8_waive_72 : decode cX8_waive 72 = .ok (.ixor, 1) := by decide +kernel
theorem dX8_waive_73 : decode cX8_waive 73 = .ok (.iand, 1) := by decide +kernel
theorem dX8_waive_74 : decode cX8_waive 74 = .ok (.putfield 82, 3) := by decide +kernel
theorem dX8_waive_77 : decode cX8_waive 77 = .ok (.iload 6, 2) := by decide +kernel
theorem dX8_waive_79 : decode cX8_waive 79 = .ok (.ireturn, 1) := by decide +kernel
set_option maxRecDepth 20000 in
theorem ggX8_rule_X8_countRules : GoodIn wsX8_rule wsX8_countRules := goodIn_r _ [14, 6, 15, 16, 17, 18, 19, 20, 84, 85, 86, 87, 88, 89, 90, 94, 95, 96] (by decide +kernel) (by decide +kernel)
set_option maxRecDepth 20000 in
theorem gX8_rule_X8_countRules : GoodIn wsX8_rule (wsV RX8 87 RX8 yX8_countRules wsX8_countRules) := goodIn_app (goodIn_of _ (by decide +kernel)) ggX8_rule_X8_countRules
set_option maxRecDepth 20000 in
theorem ggX8_rule_X6_init : GoodIn wsX8_rule wsX6_init := goodIn_r _ [23, 24, 25, 26, 27, 28, 29, 91, 92, 93] (by decide +kernel) (by decide +kernel)
set_option maxRecDepth 20000 in
theorem gX8_rule_X6_init : GoodIn wsX8_rule (wsX6_init) := ggX8_rule_X6_init
set_option maxRecDepth 20000 in
theorem ggX8_rule_Jx4a65c_add_9ea2d : GoodIn wsX8_rule wsJx4a65c_add_9ea2d := goodIn_r _ [33, 34, 35, 36, 20, 37, 38, 39, 18, 40, 41, 42, 43, 44, 45, 46, 47, 48, 49, 50, 51, 52, 53, 54, 55, 56, 57, 58, 59, 60, 61, 62, 63, 64, 65, 66, 67, 68, 69, 70, 71, 72, 73, 74, 75, 76, 77, 78, 79, 80, 81, 82, 83, 94, 95, 96] (by decide +kernel) (by decide +kernel)
set_option maxRecDepth 20000 in
theorem gX8_rule_Jx4a65c_add_9ea2d : GoodIn wsX8_rule (wsV RX8 62 RJx4a65c yJx4a65c_add_9ea2d wsJx4a65c_add_9ea2d) := goodIn_app (goodIn_of _ (by decide +kernel)) ggX8_rule_Jx4a65c_add_9ea2d
theorem dX8_rule_0 : decode cX8_rule 0 = .ok (.iload_n 1, 1) := by decide +kernel
theorem dX8_rule_1 : decode cX8_rule 1 = .ok (.aload_n 0, 1) := by decide +kernel
theorem dX8_rule_2 : decode cX8_rule 2 = .ok (.getfield 37, 3) := by decide +kernel
theorem dX8_rule_5 : decode cX8_rule 5 = .ok (.if_icmp .lt 33, 3) := by decide +kernel
theorem dX8_rule_8 : decode cX8_rule 8 = .ok (.iload_n 1, 1) := by decide +kernel
theorem dX8_rule_9 : decode cX8_rule 9 = .ok (.sipush 3600, 3) := by decide +kernel
theorem dX8_rule_12 : decode cX8_rule 12 = .ok (.if_icmp .gt 26, 3) := by decide +kernel
theorem dX8_rule_15 : decode cX8_rule 15 = .ok (.iload_n 2, 1) := by decide +kernel
theorem dX8_rule_16 : decode cX8_rule 16 = .ok (.ifCond .lt 22, 3) := by decide +kernel
theorem dX8_rule_19 : decode cX8_rule 19 = .ok (.iload_n 2, 1) := by decide +kernel
theorem dX8_rule_20 : decode cX8_rule 20 = .ok (.sipush 180, 3) := by decide +kernel
theorem dX8_rule_23 : decode cX8_rule 23 = .ok (.if_icmp .gt 15, 3) := by decide +kernel
theorem dX8_rule_26 : decode cX8_rule 26 = .ok (.iload_n 3, 1) := by decide +kernel
theorem dX8_rule_27 : decode cX8_rule 27 = .ok (.iconst 1, 1) := by decide +kernel
theorem dX8_rule_28 : decode cX8_rule 28 = .ok (.if_icmp .lt 10, 3) := by decide +kernel
theorem dX8_rule_31 : decode cX8_rule 31 = .ok (.iload_n 3, 1) := by decide +kernel
theorem dX8_rule_32 : decode cX8_rule 32 = .ok (.sipush 360, 3) := by decide +kernel
theorem dX8_rule_35 : decode cX8_rule 35 = .ok (.if_icmp .le 13, 3) := by decide +kernel
theorem dX8_rule_38 : decode cX8_rule 38 = .ok (.new 41, 3) := by decide +kernel
theorem dX8_rule_41 : decode cX8_rule 41 = .ok (.dup, 1) := by decide +kernel
theorem dX8_rule_42 : decode cX8_rule 42 = .ok (.ldc 85, 2) := by decide +kernel
theorem dX8_rule_44 : decode cX8_rule 44 = .ok (.invokespecial 45, 3) := by decide +kernel
theorem dX8_rule_47 : decode cX8_rule 47 = .ok (.athrow, 1) := by decide +kernel
theorem dX8_rule_48 : decode cX8_rule 48 = .ok (.aload_n 0, 1) := by decide +kernel
theorem dX8_rule_49 : decode cX8_rule 49 = .ok (.invokevirtual 87, 3) := by decide +kernel
theorem dX8_rule_52 : decode cX8_rule 52 = .ok (.bipush 10, 2) := by decide +kernel
theorem dX8_rule_54 : decode cX8_rule 54 = .ok (.if_icmp .lt 13, 3) := by decide +kernel
theorem dX8_rule_57 : decode cX8_rule 57 = .ok (.new 52, 3) := by decide +kernel
theorem dX8_rule_60 : decode cX8_rule 60 = .ok (.dup, 1) := by decide +kernel
theorem dX8_rule_61 : decode cX8_rule 61 = .ok (.ldc 90, 2) := by decide +kernel
theorem dX8_rule_63 : decode cX8_rule 63 = .ok (.invokespecial 56, 3) := by decide +kernel
theorem dX8_rule_66 : decode cX8_rule 66 = .ok (.athrow, 1) := by decide +kernel
theorem dX8_rule_67 : decode cX8_rule 67 = .ok (.aload_n 0, 1) := by decide +kernel
theorem dX8_rule_68 : decode cX8_rule 68 = .ok (.getfield 34, 3) := by decide +kernel
theorem dX8_rule_71 : decode cX8_rule 71 = .ok (.new 25, 3) := by decide +kernel
theorem dX8_rule_74 : decode cX8_rule 74 = .ok (.dup, 1) := by decide +kernel
theorem dX8_rule_75 : decode cX8_rule 75 = .ok (.iload_n 1, 1) := by decide +kernel
theorem dX8_rule_76 : decode cX8_rule 76 = .ok (.iload_n 2, 1) := by decide +kernel
theorem dX8_rule_77 : decode cX8_rule 77 = .ok (.iload_n 3, 1) := by decide +kernel
theorem dX8_rule_78 : decode cX8_rule 78 = .ok (.invokespecial 27, 3) := by decide +kernel
theorem dX8_rule_81 : decode cX8_rule 81 = .ok (.invokevirtual 62, 3) := by decide +kernel
theorem dX8_rule_84 : decode cX8_rule 84 = .ok (.pop, 1) := by decide +kernel
theorem dX8_rule_85 : decode cX8_rule 85 = .ok (.aload_n 0, 1) := by decide +kernel
theorem dX8_rule_86 : decode cX8_rule 86 = .ok (.invokevirtual 87, 3) := by decide +kernel
theorem dX8_rule_89 : decode cX8_rule 89 = .ok (.ireturn, 1) := by decide +kernel
set_option maxRecDepth 20000 in
theorem ggX8_person_X8_landAt : GoodIn wsX8_person wsX8_landAt := goodIn_ca (goodIn_r _ [9, 10, 11, 12, 13, 14, 15, 16, 17, 18, 19, 20, 21, 22, 23, 24, 25, 26, 27, 28, 29, 30, 31, 32, 33, 34, 35, 36, 159, 160, 161, 162, 163, 164, 165, 179, 180, 181] (by decide +kernel) (by decide +kernel)) (goodIn_sub (fun _ h => List.mem_cons_of_mem _ (List.mem_append_left _ (List.mem_append_right _ h))) (by decide +kernel))
set_option maxRecDepth 20000 in
theorem gX8_person_X8_landAt : GoodIn wsX8_person (wsV RX8 69 RX8 yX8_landAt wsX8_landAt) := goodIn_app (goodIn_of _ (by decide +kernel)) ggX8_person_X8_landAt
set_option maxRecDepth 20000 in
theorem ggX8_person_X1_bit : GoodIn wsX8_person wsX1_bit := goodIn_r _ [41, 42, 182, 183, 184, 185, 186, 187, 188] (by decide +kernel) (by decide +kernel)
set_option maxRecDepth 20000 in
theorem gX8_person_X1_bit : GoodIn wsX8_person (wsV RX8 75 RX1 yX1_bit wsX1_bit) := goodIn_app (goodIn_of _ (by decide +kernel)) ggX8_person_X1_bit
set_option maxRecDepth 20000 in
theorem ggX8_person_X8_refuseMorePersons : GoodIn wsX8_person wsX8_refuseMorePersons := goodIn_ca (goodIn_r _ [46, 47, 48, 49, 14, 15, 16, 17, 18, 19, 159, 160, 161, 162, 163, 164, 165, 179, 180, 181] (by decide +kernel) (by decide +kernel)) (goodIn_sub (fun _ h => List.mem_cons_of_mem _ (List.mem_append_right _ h)) (by decide +kernel))
set_option maxRecDepth 20000 in
theorem gX8_person_X8_refuseMorePersons : GoodIn wsX8_person (wsV RX8 94 RX8 yX8_refuseMorePersons wsX8_refuseMorePersons) := goodIn_app (goodIn_of _ (by decide +kernel)) ggX8_person_X8_refuseMorePersons
set_option maxRecDepth 20000 in
theorem ggX8_person_X8_addPerson : GoodIn wsX8_person wsX8_addPerson := goodIn_r _ [53, 54, 55, 56, 49, 57, 14, 15, 16, 17, 18, 19, 58, 59, 60, 61, 62, 63, 64, 65, 66, 67, 68, 69, 70, 71, 72, 73, 74, 75, 76, 77, 78, 79, 80, 81, 82, 83, 84, 85, 86, 87, 88, 89, 90, 91, 92, 93, 94, 95, 96, 97, 98, 99, 100, 101, 102, 103, 104, 105, 106, 107, 108, 109, 110, 111, 112, 36, 113, 114, 115, 116, 117, 118, 119, 120, 121, 122, 123, 124, 125, 126, 127, 128, 129, 130, 131, 132, 133, 134, 135, 136, 137, 138, 139, 140, 141, 142, 143, 144, 145, 146, 147, 148, 149, 150, 151, 152, 153, 154, 155, 156, 157, 158, 166, 167, 168, 169, 170, 171, 172, 173, 174, 175, 176, 177, 178, 159, 160, 161, 162, 163, 164, 165, 179, 180, 181, 189, 190, 191, 192, 193, 194, 195] (by decide +kernel) (by decide +kernel)
set_option maxRecDepth 20000 in
theorem gX8_person_X8_addPerson : GoodIn wsX8_person (wsV RX8 97 RX8 yX8_addPerson wsX8_addPerson) := goodIn_app (goodIn_of _ (by decide +kernel)) ggX8_person_X8_addPerson
theorem dX8_person_0 : decode cX8_person 0 = .ok (.iload_n 1, 1) := by decide +kernel
theorem dX8_person_1 : decode cX8_person 1 = .ok (.iconst (-1), 1) := by decide +kernel
theorem dX8_person_2 : decode cX8_person 2 = .ok (.if_icmp .ne 7, 3) := by decide +kernel
theorem dX8_person_5 : decode cX8_person 5 = .ok (.iconst 0, 1) := by decide +kernel
theorem dX8_person_6 : decode cX8_person 6 = .ok (.goto 11, 3) := by decide +kernel
theorem dX8_person_9 : decode cX8_person 9 = .ok (.aload_n 0, 1) := by decide +kernel
theorem dX8_person_10 : decode cX8_person 10 = .ok (.iload_n 1, 1) := by decide +kernel
theorem dX8_person_11 : decode cX8_person 11 = .ok (.invokevirtual 69, 3) := by decide +kernel
theorem dX8_person_14 : decode cX8_person 14 = .ok (.invokevirtual 75, 3) := by decide +kernel
theorem dX8_person_17 : decode cX8_person 17 = .ok (.istore_n 3, 1) := by decide +kernel
theorem dX8_person_18 : decode cX8_person 18 = .ok (.iload_n 2, 1) := by decide +kernel
theorem dX8_person_19 : decode cX8_person 19 = .ok (.ifCond .lt 9, 3) := by decide +kernel
theorem dX8_person_22 : decode cX8_person 22 = .ok (.iload_n 2, 1) := by decide +kernel
theorem dX8_person_23 : decode cX8_person 23 = .ok (.bipush 99, 2) := by decide +kernel
theorem dX8_person_25 : decode cX8_person 25 = .ok (.if_icmp .le 13, 3) := by decide +kernel
theorem dX8_person_28 : decode cX8_person 28 = .ok (.new 41, 3) := by decide +kernel
theorem dX8_person_31 : decode cX8_person 31 = .ok (.dup, 1) := by decide +kernel
theorem dX8_person_32 : decode cX8_person 32 = .ok (.ldc 92, 2) := by decide +kernel
theorem dX8_person_34 : decode cX8_person 34 = .ok (.invokespecial 45, 3) := by decide +kernel
theorem dX8_person_37 : decode cX8_person 37 = .ok (.athrow, 1) := by decide +kernel
theorem dX8_person_38 : decode cX8_person 38 = .ok (.aload_n 0, 1) := by decide +kernel
theorem dX8_person_39 : decode cX8_person 39 = .ok (.invokevirtual 94, 3) := by decide +kernel
theorem dX8_person_42 : decode cX8_person 42 = .ok (.aload_n 0, 1) := by decide +kernel
theorem dX8_person_43 : decode cX8_person 43 = .ok (.aload_n 0, 1) := by decide +kernel
theorem dX8_person_44 : decode cX8_person 44 = .ok (.getfield 37, 3) := by decide +kernel
theorem dX8_person_47 : decode cX8_person 47 = .ok (.iload_n 2, 1) := by decide +kernel
theorem dX8_person_48 : decode cX8_person 48 = .ok (.sipush 360, 3) := by decide +kernel
theorem dX8_person_51 : decode cX8_person 51 = .ok (.imul, 1) := by decide +kernel
theorem dX8_person_52 : decode cX8_person 52 = .ok (.isub, 1) := by decide +kernel
theorem dX8_person_53 : decode cX8_person 53 = .ok (.iload_n 3, 1) := by decide +kernel
theorem dX8_person_54 : decode cX8_person 54 = .ok (.iconst (-1), 1) := by decide +kernel
theorem dX8_person_55 : decode cX8_person 55 = .ok (.iconst (-1), 1) := by decide +kernel
theorem dX8_person_56 : decode cX8_person 56 = .ok (.invokevirtual 97, 3) := by decide +kernel
theorem dX8_person_59 : decode cX8_person 59 = .ok (.getfield 101, 3) := by decide +kernel
theorem dX8_person_62 : decode cX8_person 62 = .ok (.ireturn, 1) := by decide +kernel
set_option maxRecDepth 20000 in
theorem ggX8_birth_X8_personAt : GoodIn wsX8_birth wsX8_personAt := goodIn_ca (goodIn_r _ [12, 13, 14, 15, 16, 17, 18, 19, 20, 21, 22, 23, 24, 25, 26, 27, 28, 29, 30, 31, 32, 33, 34, 35, 36, 37, 38, 39, 269, 270, 271, 272, 273, 274, 275, 276, 277, 278] (by decide +kernel) (by decide +kernel)) (goodIn_sub (fun _ h => List.mem_cons_of_mem _ (List.mem_append_right _ h)) (by decide +kernel))
set_option maxRecDepth 20000 in
theorem gX8_birth_X8_personAt : GoodIn wsX8_birth (wsV RX8 104 RX8 yX8_personAt wsX8_personAt) := goodIn_app (goodIn_of _ (by decide +kernel)) ggX8_birth_X8_personAt
set_option maxRecDepth 20000 in
theorem ggX8_birth_X8_refuseMorePersons : GoodIn wsX8_birth wsX8_refuseMorePersons := goodIn_ca (goodIn_r _ [43, 3, 4, 15, 17, 18, 19, 20, 21, 22, 269, 270, 271, 272, 273, 274, 275, 276, 277, 278] (by decide +kernel) (by decide +kernel)) (goodIn_sub (fun _ h => List.mem_cons_of_mem _ (List.mem_append_left _ (List.mem_append_right _ h))) (by decide +kernel))
set_option maxRecDepth 20000 in
theorem gX8_birth_X8_refuseMorePersons : GoodIn wsX8_birth (wsV RX8 94 RX8 yX8_refuseMorePersons wsX8_refuseMorePersons) := goodIn_app (goodIn_of _ (by decide +kernel)) ggX8_birth_X8_refuseMorePersons
set_option maxRecDepth 20000 in
theorem ggX8_birth_X8_nationsAtBirth : GoodIn wsX8_birth wsX8_nationsAtBirth := goodIn_r _ [47, 48, 49, 50, 51, 52, 17, 18, 19, 20, 21, 22, 23, 24, 25, 26, 27, 28, 29, 30, 31, 32, 33, 34, 35, 36, 37, 38, 39, 53, 54, 55, 56, 57, 58, 59, 60, 61, 11, 62, 63, 64, 6, 65, 66, 67, 68, 69, 70, 71, 72, 73, 74, 75, 76, 77, 78, 79, 80, 81, 82, 83, 84, 256, 257, 258, 259, 260, 261, 262, 263, 264, 265, 266, 267, 268, 269, 270, 271, 272, 273, 274, 275, 279, 280, 281, 282, 283, 284, 285, 276, 277, 278, 286, 287, 288, 289] (by decide +kernel) (by decide +kernel)
set_option maxRecDepth 20000 in
theorem gX8_birth_X8_nationsAtBirth : GoodIn wsX8_birth (wsV RX8 116 RX8 yX8_nationsAtBirth wsX8_nationsAtBirth) := goodIn_app (goodIn_of _ (by decide +kernel)) ggX8_birth_X8_nationsAtBirth
set_option maxRecDepth 20000 in
theorem ggX8_birth_X8_addPerson : GoodIn wsX8_birth wsX8_addPerson := goodIn_r _ [88, 89, 90, 68, 15, 48, 17, 18, 19, 20, 21, 22, 91, 92, 93, 94, 95, 96, 97, 98, 81, 99, 100, 101, 102, 103, 104, 105, 106, 75, 107, 108, 109, 110, 111, 112, 113, 114, 115, 116, 83, 84, 117, 118, 119, 120, 121, 122, 123, 124, 125, 126, 127, 128, 129, 130, 131, 132, 133, 77, 134, 135, 136, 137, 138, 139, 140, 39, 141, 142, 143, 144, 145, 146, 147, 148, 149, 150, 151, 152, 153, 154, 155, 156, 157, 158, 159, 160, 161, 162, 163, 164, 165, 166, 167, 168, 169, 170, 171, 172, 173, 174, 175, 176, 177, 178, 179, 180, 181, 182, 183, 184, 185, 186, 256, 257, 258, 259, 260, 261, 262, 263, 264, 265, 266, 267, 268, 269, 270, 271, 272, 273, 274, 275, 276, 277, 278, 288, 289, 290, 291, 292, 286, 287] (by decide +kernel) (by decide +kernel)
set_option maxRecDepth 20000 in
theorem gX8_birth_X8_addPerson : GoodIn wsX8_birth (wsV RX8 97 RX8 yX8_addPerson wsX8_addPerson) := goodIn_app (goodIn_of _ (by decide +kernel)) ggX8_birth_X8_addPerson
set_option maxRecDepth 20000 in
theorem ggX8_birth_X8_arrive : GoodIn wsX8_birth wsX8_arrive := goodIn_r _ [190, 5, 191, 192, 6, 193, 194, 195, 196, 11, 197, 198, 64, 199, 200, 201, 202, 203, 63, 65, 66, 67, 68, 69, 70, 71, 54, 55, 56, 57, 58, 72, 73, 74, 75, 76, 77, 78, 79, 80, 81, 82, 83, 84, 204, 205, 206, 207, 208, 209, 210, 211, 212, 213, 214, 215, 216, 217, 218, 17, 18, 19, 20, 21, 22, 23, 24, 25, 26, 27, 28, 29, 30, 31, 32, 33, 34, 35, 36, 37, 38, 39, 219, 220, 221, 222, 223, 48, 49, 50, 224, 225, 226, 227, 228, 229, 230, 231, 232, 233, 234, 235, 236, 237, 238, 239, 240, 241, 242, 243, 244, 245, 246, 247, 248, 249, 250, 251, 252, 253, 254, 255, 256, 257, 258, 259, 260, 261, 262, 263, 264, 265, 266, 267, 268, 269, 270, 271, 272, 273, 274, 275, 279, 280, 281, 282, 283, 284, 285, 286, 287, 288, 289, 293, 294, 295, 276, 277, 278, 296, 297, 298, 299, 300, 301, 302, 303] (by decide +kernel) (by decide +kernel)
set_option maxRecDepth 20000 in
theorem gX8_birth_X8_arrive : GoodIn wsX8_birth (wsV RX8 120 RX8 yX8_arrive wsX8_arrive) := goodIn_app (goodIn_of _ (by decide +kernel)) ggX8_birth_X8_arrive
theorem dX8_birth_0 : decode cX8_birth 0 = .ok (.aload_n 0, 1) := by decide +kernel
theorem dX8_birth_1 : decode cX8_birth 1 = .ok (.iload_n 1, 1) := by decide +kernel
theorem dX8_birth_2 : decode cX8_birth 2 = .ok (.invokevirtual 104, 3) := by decide +kernel
theorem dX8_birth_5 : decode cX8_birth 5 = .ok (.astore_n 3, 1) := by decide +kernel
theorem dX8_birth_6 : decode cX8_birth 6 = .ok (.iload_n 2, 1) := by decide +kernel
theorem dX8_birth_7 : decode cX8_birth 7 = .ok (.iconst (-1), 1) := by decide +kernel
theorem dX8_birth_8 : decode cX8_birth 8 = .ok (.if_icmp .ne 7, 3) := by decide +kernel
theorem dX8_birth_11 : decode cX8_birth 11 = .ok (.aconst_null, 1) := by decide +kernel
theorem dX8_birth_12 : decode cX8_birth 12 = .ok (.goto 8, 3) := by decide +kernel
theorem dX8_birth_15 : decode cX8_birth 15 = .ok (.aload_n 0, 1) := by decide +kernel
theorem dX8_birth_16 : decode cX8_birth 16 = .ok (.iload_n 2, 1) := by decide +kernel
theorem dX8_birth_17 : decode cX8_birth 17 = .ok (.invokevirtual 104, 3) := by decide +kernel
theorem dX8_birth_20 : decode cX8_birth 20 = .ok (.astore 4, 2) := by decide +kernel
theorem dX8_birth_22 : decode cX8_birth 22 = .ok (.iload_n 1, 1) := by decide +kernel
theorem dX8_birth_23 : decode cX8_birth 23 = .ok (.iload_n 2, 1) := by decide +kernel
theorem dX8_birth_24 : decode cX8_birth 24 = .ok (.if_icmp .ne 13, 3) := by decide +kernel
theorem dX8_birth_27 : decode cX8_birth 27 = .ok (.new 41, 3) := by decide +kernel
theorem dX8_birth_30 : decode cX8_birth 30 = .ok (.dup, 1) := by decide +kernel
theorem dX8_birth_31 : decode cX8_birth 31 = .ok (.ldc 108, 2) := by decide +kernel
theorem dX8_birth_33 : decode cX8_birth 33 = .ok (.invokespecial 45, 3) := by decide +kernel
theorem dX8_birth_36 : decode cX8_birth 36 = .ok (.athrow, 1) := by decide +kernel
theorem dX8_birth_37 : decode cX8_birth 37 = .ok (.aload_n 3, 1) := by decide +kernel
theorem dX8_birth_38 : decode cX8_birth 38 = .ok (.getfield 110, 3) := by decide +kernel
theorem dX8_birth_41 : decode cX8_birth 41 = .ok (.astore 5, 2) := by decide +kernel
theorem dX8_birth_43 : decode cX8_birth 43 = .ok (.aload 5, 2) := by decide +kernel
theorem dX8_birth_45 : decode cX8_birth 45 = .ok (.ifnonnull 13, 3) := by decide +kernel
theorem dX8_birth_48 : decode cX8_birth 48 = .ok (.new 52, 3) := by decide +kernel
theorem dX8_birth_51 : decode cX8_birth 51 = .ok (.dup, 1) := by decide +kernel
theorem dX8_birth_52 : decode cX8_birth 52 = .ok (.ldc 114, 2) := by decide +kernel
theorem dX8_birth_54 : decode cX8_birth 54 = .ok (.invokespecial 56, 3) := by decide +kernel
theorem dX8_birth_57 : decode cX8_birth 57 = .ok (.athrow, 1) := by decide +kernel
theorem dX8_birth_58 : decode cX8_birth 58 = .ok (.aload_n 0, 1) := by decide +kernel
theorem dX8_birth_59 : decode cX8_birth 59 = .ok (.invokevirtual 94, 3) := by decide +kernel
theorem dX8_birth_62 : decode cX8_birth 62 = .ok (.aload_n 0, 1) := by decide +kernel
theorem dX8_birth_63 : decode cX8_birth 63 = .ok (.aload_n 0, 1) := by decide +kernel
theorem dX8_birth_64 : decode cX8_birth 64 = .ok (.getfield 37, 3) := by decide +kernel
theorem dX8_birth_67 : decode cX8_birth 67 = .ok (.aload_n 0, 1) := by decide +kernel
theorem dX8_birth_68 : decode cX8_birth 68 = .ok (.aload_n 3, 1) := by decide +kernel
theorem dX8_birth_69 : decode cX8_birth 69 = .ok (.aload 4, 2) := by decide +kernel
theorem dX8_birth_71 : decode cX8_birth 71 = .ok (.aload 5, 2) := by decide +kernel
theorem dX8_birth_73 : decode cX8_birth 73 = .ok (.invokevirtual 116, 3) := by decide +kernel
theorem dX8_birth_76 : decode cX8_birth 76 = .ok (.iload_n 1, 1) := by decide +kernel
theorem dX8_birth_77 : decode cX8_birth 77 = .ok (.iload_n 2, 1) := by decide +kernel
theorem dX8_birth_78 : decode cX8_birth 78 = .ok (.invokevirtual 97, 3) := by decide +kernel
theorem dX8_birth_81 : decode cX8_birth 81 = .ok (.astore 6, 2) := by decide +kernel
theorem dX8_birth_83 : decode cX8_birth 83 = .ok (.aload_n 0, 1) := by decide +kernel
theorem dX8_birth_84 : decode cX8_birth 84 = .ok (.aload 6, 2) := by decide +kernel
theorem dX8_birth_86 : decode cX8_birth 86 = .ok (.aload 5, 2) := by decide +kernel
theorem dX8_birth_88 : decode cX8_birth 88 = .ok (.aconst_null, 1) := by decide +kernel
theorem dX8_birth_89 : decode cX8_birth 89 = .ok (.iconst 0, 1) := by decide +kernel
theorem dX8_birth_90 : decode cX8_birth 90 = .ok (.invokevirtual 120, 3) := by decide +kernel
theorem dX8_birth_93 : decode cX8_birth 93 = .ok (.aload 6, 2) := by decide +kernel
theorem dX8_birth_95 : decode cX8_birth 95 = .ok (.getfield 101, 3) := by decide +kernel
theorem dX8_birth_98 : decode cX8_birth 98 = .ok (.ireturn, 1) := by decide +kernel
set_option maxRecDepth 20000 in
theorem ggX8_nation_X8_personAt : GoodIn wsX8_nation wsX8_personAt := goodIn_ca (goodIn_r _ [6, 7, 8, 9, 10, 11, 12, 13, 14, 15, 16, 17, 18, 19, 20, 21, 22, 23, 24, 25, 26, 27, 28, 29, 30, 31, 32, 33, 59, 60, 61, 62, 63, 64, 65, 66, 67, 68] (by decide +kernel) (by decide +kernel)) (goodIn_sub (fun _ h => List.mem_cons_of_mem _ (List.mem_append_right _ h)) (by decide +kernel))
set_option maxRecDepth 20000 in
theorem gX8_nation_X8_personAt : GoodIn wsX8_nation (wsV RX8 104 RX8 yX8_personAt wsX8_personAt) := goodIn_app (goodIn_of _ (by decide +kernel)) ggX8_nation_X8_personAt
set_option maxRecDepth 20000 in
theorem ggX8_nation_X8_landAt : GoodIn wsX8_nation wsX8_landAt := goodIn_ca (goodIn_r _ [37, 7, 8, 38, 39, 11, 12, 13, 14, 15, 16, 17, 18, 19, 20, 21, 22, 23, 24, 25, 26, 27, 28, 29, 30, 31, 32, 33, 59, 60, 61, 62, 63, 64, 65, 66, 67, 68] (by decide +kernel) (by decide +kernel)) (goodIn_sub (fun _ h => List.mem_cons_of_mem _ (List.mem_append_right _ h)) (by decide +kernel))
set_option maxRecDepth 20000 in
theorem gX8_nation_X8_landAt : GoodIn wsX8_nation (wsV RX8 69 RX8 yX8_landAt wsX8_landAt) := goodIn_app (goodIn_of _ (by decide +kernel)) ggX8_nation_X8_landAt
set_option maxRecDepth 20000 in
theorem ggX8_nation_X1_bit : GoodIn wsX8_nation wsX1_bit := goodIn_r _ [44, 45, 69, 70, 71, 72, 73, 74, 75] (by decide +kernel) (by decide +kernel)
set_option maxRecDepth 20000 in
theorem gX8_nation_X1_bit : GoodIn wsX8_nation (wsV RX8 75 RX1 yX1_bit wsX1_bit) := goodIn_app (goodIn_of _ (by decide +kernel)) ggX8_nation_X1_bit
theorem dX8_nation_0 : decode cX8_nation 0 = .ok (.aload_n 0, 1) := by decide +kernel
theorem dX8_nation_1 : decode cX8_nation 1 = .ok (.iload_n 1, 1) := by decide +kernel
theorem dX8_nation_2 : decode cX8_nation 2 = .ok (.invokevirtual 104, 3) := by decide +kernel
theorem dX8_nation_5 : decode cX8_nation 5 = .ok (.astore 4, 2) := by decide +kernel
theorem dX8_nation_7 : decode cX8_nation 7 = .ok (.aload_n 0, 1) := by decide +kernel
theorem dX8_nation_8 : decode cX8_nation 8 = .ok (.iload_n 2, 1) := by decide +kernel
theorem dX8_nation_9 : decode cX8_nation 9 = .ok (.invokevirtual 69, 3) := by decide +kernel
theorem dX8_nation_12 : decode cX8_nation 12 = .ok (.invokevirtual 75, 3) := by decide +kernel
theorem dX8_nation_15 : decode cX8_nation 15 = .ok (.istore 5, 2) := by decide +kernel
theorem dX8_nation_17 : decode cX8_nation 17 = .ok (.aload 4, 2) := by decide +kernel
theorem dX8_nation_19 : decode cX8_nation 19 = .ok (.iload_n 3, 1) := by decide +kernel
theorem dX8_nation_20 : decode cX8_nation 20 = .ok (.ifCond .eq 14, 3) := by decide +kernel
theorem dX8_nation_23 : decode cX8_nation 23 = .ok (.aload 4, 2) := by decide +kernel
theorem dX8_nation_25 : decode cX8_nation 25 = .ok (.getfield 124, 3) := by decide +kernel
theorem dX8_nation_28 : decode cX8_nation 28 = .ok (.iload 5, 2) := by decide +kernel
theorem dX8_nation_30 : decode cX8_nation 30 = .ok (.ior, 1) := by decide +kernel
theorem dX8_nation_31 : decode cX8_nation 31 = .ok (.goto 13, 3) := by decide +kernel
theorem dX8_nation_34 : decode cX8_nation 34 = .ok (.aload 4, 2) := by decide +kernel
theorem dX8_nation_36 : decode cX8_nation 36 = .ok (.getfield 124, 3) := by decide +kernel
theorem dX8_nation_39 : decode cX8_nation 39 = .ok (.iload 5, 2) := by decide +kernel
theorem dX8_nation_41 : decode cX8_nation 41 = .ok (.iconst (-1), 1) := by decide +kernel
theorem dX8_nation_42 : decode cX8_nation 42 = .ok (.ixor, 1) := by decide +kernel
theorem dX8_nation_43 : decode cX8_nation 43 = .ok (.iand, 1) := by decide +kernel
theorem dX8_nation_44 : decode cX8_nation 44 = .ok (.putfield 124, 3) := by decide +kernel
theorem dX8_nation_47 : decode cX8_nation 47 = .ok (.aload 4, 2) := by decide +kernel
theorem dX8_nation_49 : decode cX8_nation 49 = .ok (.getfield 124, 3) := by decide +kernel
theorem dX8_nation_52 : decode cX8_nation 52 = .ok (.ireturn, 1) := by decide +kernel
set_option maxRecDepth 20000 in
theorem ggX8_visa_X8_personAt : GoodIn wsX8_visa wsX8_personAt := goodIn_ca (goodIn_r _ [18, 19, 20, 21, 22, 23, 24, 25, 26, 27, 28, 29, 30, 31, 32, 33, 34, 35, 36, 37, 38, 39, 40, 41, 42, 43, 44, 45, 117, 118, 119, 120, 121, 122, 123, 145, 146, 147] (by decide +kernel) (by decide +kernel)) (goodIn_sub (fun _ h => List.mem_cons_of_mem _ (List.mem_append_right _ h)) (by decide +kernel))
set_option maxRecDepth 20000 in
theorem gX8_visa_X8_personAt : GoodIn wsX8_visa (wsV RX8 104 RX8 yX8_personAt wsX8_personAt) := goodIn_app (goodIn_of _ (by decide +kernel)) ggX8_visa_X8_personAt
set_option maxRecDepth 20000 in
theorem ggX8_visa_X8_landAt : GoodIn wsX8_visa wsX8_landAt := goodIn_ca (goodIn_r _ [49, 19, 20, 50, 51, 23, 24, 25, 26, 27, 28, 29, 30, 31, 32, 33, 34, 35, 36, 37, 38, 39, 40, 41, 42, 43, 44, 45, 117, 118, 119, 120, 121, 122, 123, 145, 146, 147] (by decide +kernel) (by decide +kernel)) (goodIn_sub (fun _ h => List.mem_cons_of_mem _ (List.mem_append_right _ h)) (by decide +kernel))
set_option maxRecDepth 20000 in
theorem gX8_visa_X8_landAt : GoodIn wsX8_visa (wsV RX8 69 RX8 yX8_landAt wsX8_landAt) := goodIn_app (goodIn_of _ (by decide +kernel)) ggX8_visa_X8_landAt
set_option maxRecDepth 20000 in
theorem ggX8_visa_Jx4a65c_size_8abf5 : GoodIn wsX8_visa wsJx4a65c_size_8abf5 := goodIn_r _ [27, 28, 145, 146, 147] (by decide +kernel) (by decide +kernel)
set_option maxRecDepth 20000 in
theorem gX8_visa_Jx4a65c_size_8abf5 : GoodIn wsX8_visa (wsV RX8 48 RJx4a65c yJx4a65c_size_8abf5 wsJx4a65c_size_8abf5) := goodIn_app (goodIn_of _ (by decide +kernel)) ggX8_visa_Jx4a65c_size_8abf5
set_option maxRecDepth 20000 in
theorem ggX8_visa_X7_init : GoodIn wsX8_visa wsX7_init := goodIn_r _ [54, 55, 56, 57, 58, 59, 60, 61, 62, 63, 124, 125, 126, 127, 128, 129, 130, 131] (by decide +kernel) (by decide +kernel)
set_option maxRecDepth 20000 in
theorem gX8_visa_X7_init : GoodIn wsX8_visa (wsX7_init) := ggX8_visa_X7_init
set_option maxRecDepth 20000 in
theorem ggX8_visa_Jx4a65c_add_9ea2d : GoodIn wsX8_visa wsJx4a65c_add_9ea2d := goodIn_r _ [67, 68, 69, 45, 28, 70, 71, 72, 26, 73, 74, 75, 76, 77, 78, 79, 80, 81, 82, 83, 84, 85, 86, 87, 88, 89, 90, 91, 92, 93, 94, 95, 96, 97, 98, 99, 100, 101, 102, 103, 104, 105, 106, 107, 108, 109, 110, 111, 112, 113, 114, 115, 116, 145, 146, 147] (by decide +kernel) (by decide +kernel)
set_option maxRecDepth 20000 in
theorem gX8_visa_Jx4a65c_add_9ea2d : GoodIn wsX8_visa (wsV RX8 62 RJx4a65c yJx4a65c_add_9ea2d wsJx4a65c_add_9ea2d) := goodIn_app (goodIn_of _ (by decide +kernel)) ggX8_visa_Jx4a65c_add_9ea2d
theorem dX8_visa_0 : decode cX8_visa 0 = .ok (.aload_n 0, 1) := by decide +kernel
theorem dX8_visa_1 : decode cX8_visa 1 = .ok (.iload_n 1, 1) := by decide +kernel
theorem dX8_visa_2 : decode cX8_visa 2 = .ok (.invokevirtual 104, 3) := by decide +kernel
theorem dX8_visa_5 : decode cX8_visa 5 = .ok (.astore 7, 2) := by decide +kernel
theorem dX8_visa_7 : decode cX8_visa 7 = .ok (.aload_n 0, 1) := by decide +kernel
theorem dX8_visa_8 : decode cX8_visa 8 = .ok (.iload_n 2, 1) := by decide +kernel
theorem dX8_visa_9 : decode cX8_visa 9 = .ok (.invokevirtual 69, 3) := by decide +kernel
theorem dX8_visa_12 : decode cX8_visa 12 = .ok (.astore 8, 2) := by decide +kernel
theorem dX8_visa_14 : decode cX8_visa 14 = .ok (.iload_n 3, 1) := by decide +kernel
theorem dX8_visa_15 : decode cX8_visa 15 = .ok (.aload_n 0, 1) := by decide +kernel
theorem dX8_visa_16 : decode cX8_visa 16 = .ok (.getfield 37, 3) := by decide +kernel
theorem dX8_visa_19 : decode cX8_visa 19 = .ok (.if_icmp .lt 24, 3) := by decide +kernel
theorem dX8_visa_22 : decode cX8_visa 22 = .ok (.iload_n 3, 1) := by decide +kernel
theorem dX8_visa_23 : decode cX8_visa 23 = .ok (.sipush 3600, 3) := by decide +kernel
theorem dX8_visa_26 : decode cX8_visa 26 = .ok (.if_icmp .gt 17, 3) := by decide +kernel
theorem dX8_visa_29 : decode cX8_visa 29 = .ok (.iload 4, 2) := by decide +kernel
theorem dX8_visa_31 : decode cX8_visa 31 = .ok (.iload_n 3, 1) := by decide +kernel
theorem dX8_visa_32 : decode cX8_visa 32 = .ok (.if_icmp .lt 11, 3) := by decide +kernel
theorem dX8_visa_35 : decode cX8_visa 35 = .ok (.iload 4, 2) := by decide +kernel
theorem dX8_visa_37 : decode cX8_visa 37 = .ok (.sipush 3600, 3) := by decide +kernel
theorem dX8_visa_40 : decode cX8_visa 40 = .ok (.if_icmp .le 13, 3) := by decide +kernel
theorem dX8_visa_43 : decode cX8_visa 43 = .ok (.new 41, 3) := by decide +kernel
theorem dX8_visa_46 : decode cX8_visa 46 = .ok (.dup, 1) := by decide +kernel
theorem dX8_visa_47 : decode cX8_visa 47 = .ok (.ldc 127, 2) := by decide +kernel
theorem dX8_visa_49 : decode cX8_visa 49 = .ok (.invokespecial 45, 3) := by decide +kernel
theorem dX8_visa_52 : decode cX8_visa 52 = .ok (.athrow, 1) := by decide +kernel
theorem dX8_visa_53 : decode cX8_visa 53 = .ok (.iload 5, 2) := by decide +kernel
theorem dX8_visa_55 : decode cX8_visa 55 = .ok (.iconst 1, 1) := by decide +kernel
theorem dX8_visa_56 : decode cX8_visa 56 = .ok (.if_icmp .lt 23, 3) := by decide +kernel
theorem dX8_visa_59 : decode cX8_visa 59 = .ok (.iload 5, 2) := by decide +kernel
theorem dX8_visa_61 : decode cX8_visa 61 = .ok (.bipush 9, 2) := by decide +kernel
theorem dX8_visa_63 : decode cX8_visa 63 = .ok (.if_icmp .gt 16, 3) := by decide +kernel
theorem dX8_visa_66 : decode cX8_visa 66 = .ok (.iload 6, 2) := by decide +kernel
theorem dX8_visa_68 : decode cX8_visa 68 = .ok (.iconst 1, 1) := by decide +kernel
theorem dX8_visa_69 : decode cX8_visa 69 = .ok (.if_icmp .lt 10, 3) := by decide +kernel
theorem dX8_visa_72 : decode cX8_visa 72 = .ok (.iload 6, 2) := by decide +kernel
theorem dX8_visa_74 : decode cX8_visa 74 = .ok (.bipush 90, 2) := by decide +kernel
theorem dX8_visa_76 : decode cX8_visa 76 = .ok (.if_icmp .le 13, 3) := by decide +kernel
theorem dX8_visa_79 : decode cX8_visa 79 = .ok (.new 41, 3) := by decide +kernel
theorem dX8_visa_82 : decode cX8_visa 82 = .ok (.dup, 1) := by decide +kernel
theorem dX8_visa_83 : decode cX8_visa 83 = .ok (.ldc 129, 2) := by decide +kernel
theorem dX8_visa_85 : decode cX8_visa 85 = .ok (.invokespecial 45, 3) := by decide +kernel
theorem dX8_visa_88 : decode cX8_visa 88 = .ok (.athrow, 1) := by decide +kernel
theorem dX8_visa_89 : decode cX8_visa 89 = .ok (.aload_n 0, 1) := by decide +kernel
theorem dX8_visa_90 : decode cX8_visa 90 = .ok (.getfield 19, 3) := by decide +kernel
theorem dX8_visa_93 : decode cX8_visa 93 = .ok (.invokevirtual 48, 3) := by decide +kernel
theorem dX8_visa_96 : decode cX8_visa 96 = .ok (.bipush 60, 2) := by decide +kernel
theorem dX8_visa_98 : decode cX8_visa 98 = .ok (.if_icmp .lt 13, 3) := by decide +kernel
theorem dX8_visa_101 : decode cX8_visa 101 = .ok (.new 52, 3) := by decide +kernel
theorem dX8_visa_104 : decode cX8_visa 104 = .ok (.dup, 1) := by decide +kernel
theorem dX8_visa_105 : decode cX8_visa 105 = .ok (.ldc 131, 2) := by decide +kernel
theorem dX8_visa_107 : decode cX8_visa 107 = .ok (.invokespecial 56, 3) := by decide +kernel
theorem dX8_visa_110 : decode cX8_visa 110 = .ok (.athrow, 1) := by decide +kernel
theorem dX8_visa_111 : decode cX8_visa 111 = .ok (.new 133, 3) := by decide +kernel
theorem dX8_visa_114 : decode cX8_visa 114 = .ok (.dup, 1) := by decide +kernel
theorem dX8_visa_115 : decode cX8_visa 115 = .ok (.aload_n 0, 1) := by decide +kernel
theorem dX8_visa_116 : decode cX8_visa 116 = .ok (.getfield 19, 3) := by decide +kernel
theorem dX8_visa_119 : decode cX8_visa 119 = .ok (.invokevirtual 48, 3) := by decide +kernel
theorem dX8_visa_122 : decode cX8_visa 122 = .ok (.aload 7, 2) := by decide +kernel
theorem dX8_visa_124 : decode cX8_visa 124 = .ok (.getfield 101, 3) := by decide +kernel
theorem dX8_visa_127 : decode cX8_visa 127 = .ok (.aload 8, 2) := by decide +kernel
theorem dX8_visa_129 : decode cX8_visa 129 = .ok (.iload_n 3, 1) := by decide +kernel
theorem dX8_visa_130 : decode cX8_visa 130 = .ok (.iload 4, 2) := by decide +kernel
theorem dX8_visa_132 : decode cX8_visa 132 = .ok (.invokespecial 135, 3) := by decide +kernel
theorem dX8_visa_135 : decode cX8_visa 135 = .ok (.astore 9, 2) := by decide +kernel
theorem dX8_visa_137 : decode cX8_visa 137 = .ok (.aload 9, 2) := by decide +kernel
theorem dX8_visa_139 : decode cX8_visa 139 = .ok (.iload 5, 2) := by decide +kernel
theorem dX8_visa_141 : decode cX8_visa 141 = .ok (.putfield 138, 3) := by decide +kernel
theorem dX8_visa_144 : decode cX8_visa 144 = .ok (.aload 9, 2) := by decide +kernel
theorem dX8_visa_146 : decode cX8_visa 146 = .ok (.iload 6, 2) := by decide +kernel
theorem dX8_visa_148 : decode cX8_visa 148 = .ok (.putfield 141, 3) := by decide +kernel
theorem dX8_visa_151 : decode cX8_visa 151 = .ok (.aload_n 0, 1) := by decide +kernel
theorem dX8_visa_152 : decode cX8_visa 152 = .ok (.getfield 19, 3) := by decide +kernel
theorem dX8_visa_155 : decode cX8_visa 155 = .ok (.aload 9, 2) := by decide +kernel
theorem dX8_visa_157 : decode cX8_visa 157 = .ok (.invokevirtual 62, 3) := by decide +kernel
theorem dX8_visa_160 : decode cX8_visa 160 = .ok (.pop, 1) := by decide +kernel
theorem dX8_visa_161 : decode cX8_visa 161 = .ok (.aload 9, 2) := by decide +kernel
theorem dX8_visa_163 : decode cX8_visa 163 = .ok (.getfield 144, 3) := by decide +kernel
theorem dX8_visa_166 : decode cX8_visa 166 = .ok (.ireturn, 1) := by decide +kernel
set_option maxRecDepth 20000 in
theorem ggX8_enter_X8_personAt : GoodIn wsX8_enter wsX8_personAt := goodIn_ca (goodIn_r _ [6, 7, 8, 9, 10, 11, 12, 13, 14, 15, 16, 17, 18, 19, 20, 21, 22, 23, 24, 25, 26, 27, 28, 29, 30, 31, 32, 33, 196, 197, 198, 199, 200, 201, 202, 203, 204, 205] (by decide +kernel) (by decide +kernel)) (goodIn_sub (fun _ h => List.mem_cons_of_mem _ (List.mem_append_left _ (List.mem_append_right _ h))) (by decide +kernel))
set_option maxRecDepth 20000 in
theorem gX8_enter_X8_personAt : GoodIn wsX8_enter (wsV RX8 104 RX8 yX8_personAt wsX8_personAt) := goodIn_app (goodIn_of _ (by decide +kernel)) ggX8_enter_X8_personAt
set_option maxRecDepth 20000 in
theorem ggX8_enter_X8_landAt : GoodIn wsX8_enter wsX8_landAt := goodIn_ca (goodIn_r _ [37, 7, 8, 38, 39, 11, 12, 13, 14, 15, 16, 17, 18, 19, 20, 21, 22, 23, 24, 25, 26, 27, 28, 29, 30, 31, 32, 33, 196, 197, 198, 199, 200, 201, 202, 203, 204, 205] (by decide +kernel) (by decide +kernel)) (goodIn_sub (fun _ h => List.mem_cons_of_mem _ (List.mem_append_left _ (List.mem_append_right _ h))) (by decide +kernel))
set_option maxRecDepth 20000 in
theorem gX8_enter_X8_landAt : GoodIn wsX8_enter (wsV RX8 69 RX8 yX8_landAt wsX8_landAt) := goodIn_app (goodIn_of _ (by decide +kernel)) ggX8_enter_X8_landAt
set_option maxRecDepth 20000 in
theorem ggX8_enter_X8_refuseOneInALand : GoodIn wsX8_enter wsX8_refuseOneInALand := goodIn_ca (goodIn_r _ [43, 44, 45, 46, 206, 207, 208, 209, 210, 211, 212, 213, 214, 215, 216, 217, 218] (by decide +kernel) (by decide +kernel)) (goodIn_sub (fun _ h => List.mem_cons_of_mem _ (List.mem_append_right _ h)) (by decide +kernel))
set_option maxRecDepth 20000 in
theorem gX8_enter_X8_refuseOneInALand : GoodIn wsX8_enter (wsV RX8 145 RX8 yX8_refuseOneInALand wsX8_refuseOneInALand) := goodIn_app (goodIn_of _ (by decide +kernel)) ggX8_enter_X8_refuseOneInALand
set_option maxRecDepth 20000 in
theorem ggX8_enter_X8_whyNot : GoodIn wsX8_enter wsX8_whyNot := goodIn_r _ [50, 51, 52, 53, 54, 5, 55, 56, 57, 58, 59, 60, 61, 62, 63, 64, 65, 66, 67, 68, 69, 70, 71, 72, 73, 74, 75, 76, 77, 78, 79, 80, 81, 82, 83, 84, 85, 86, 38, 87, 39, 11, 12, 13, 14, 15, 16, 88, 89, 90, 91, 92, 93, 94, 95, 96, 97, 98, 99, 17, 18, 19, 20, 21, 22, 23, 24, 25, 26, 27, 28, 29, 30, 31, 32, 33, 100, 101, 102, 103, 104, 105, 106, 107, 108, 109, 110, 111, 112, 113, 114, 115, 116, 117, 118, 119, 120, 121, 122, 123, 124, 125, 126, 127, 128, 129, 1, 130, 131, 132, 133, 134, 135, 136, 137, 138, 139, 140, 141, 142, 143, 144, 145, 146, 147, 148, 149, 150, 151, 152, 153, 154, 155, 156, 157, 158, 159, 196, 197, 198, 199, 200, 201, 202, 206, 207, 208, 209, 210, 211, 212, 213, 214, 215, 216, 217, 218, 219, 220, 221, 222, 223, 224, 225, 226, 227, 228, 229, 203, 204, 205, 230, 231, 232, 188, 189, 190, 191, 192, 193, 194, 195, 233, 234, 235] (by decide +kernel) (by decide +kernel)
set_option maxRecDepth 20000 in
theorem gX8_enter_X8_whyNot : GoodIn wsX8_enter (wsV RX8 149 RX8 yX8_whyNot wsX8_whyNot) := goodIn_app (goodIn_of _ (by decide +kernel)) ggX8_enter_X8_whyNot
set_option maxRecDepth 20000 in
theorem ggX8_enter_X8_needsVisa : GoodIn wsX8_enter wsX8_needsVisa := goodIn_r _ [111, 52, 53, 54, 5, 55, 56, 57, 51, 58, 59, 60, 61, 62, 63, 64, 65, 66, 67, 68, 69, 70, 71, 72, 73, 74, 75, 76, 77, 78, 79, 80, 81, 82, 112, 113, 114, 115, 116, 38, 104, 39, 117, 118, 119, 120, 121, 11, 12, 13, 14, 15, 16, 17, 18, 19, 20, 21, 22, 23, 24, 25, 26, 27, 28, 29, 30, 31, 32, 33, 206, 207, 208, 209, 210, 211, 212, 213, 214, 215, 216, 217, 218, 219, 220, 221, 222, 223, 224, 225, 196, 197, 198, 199, 200, 201, 202, 226, 227, 228, 229, 203, 204, 205] (by decide +kernel) (by decide +kernel)
set_option maxRecDepth 20000 in
theorem gX8_enter_X8_needsVisa : GoodIn wsX8_enter (wsV RX8 153 RX8 yX8_needsVisa wsX8_needsVisa) := goodIn_app (goodIn_of _ (by decide +kernel)) ggX8_enter_X8_needsVisa
set_option maxRecDepth 20000 in
theorem ggX8_enter_X8_lowestVisa : GoodIn wsX8_enter wsX8_lowestVisa := goodIn_r _ [125, 126, 127, 128, 129, 1, 51, 11, 12, 13, 14, 15, 16, 17, 18, 19, 20, 21, 22, 23, 24, 25, 26, 27, 28, 29, 30, 31, 32, 33, 130, 131, 132, 133, 134, 135, 136, 137, 138, 139, 140, 141, 142, 143, 144, 196, 197, 198, 199, 200, 201, 202, 188, 189, 190, 191, 192, 193, 194, 195, 206, 207, 208, 209, 210, 211, 212, 213, 214, 215, 216, 217, 218, 203, 204, 205, 219, 220, 221, 222, 223, 224, 225] (by decide +kernel) (by decide +kernel)
set_option maxRecDepth 20000 in
theorem gX8_enter_X8_lowestVisa : GoodIn wsX8_enter (wsV RX8 157 RX8 yX8_lowestVisa wsX8_lowestVisa) := goodIn_app (goodIn_of _ (by decide +kernel)) ggX8_enter_X8_lowestVisa
set_option maxRecDepth 20000 in
theorem ggX8_enter_X8_arrive : GoodIn wsX8_enter wsX8_arrive := goodIn_r _ [163, 46, 164, 165, 51, 166, 167, 168, 169, 5, 170, 171, 57, 149, 172, 173, 174, 175, 56, 58, 59, 60, 61, 62, 63, 64, 65, 66, 67, 68, 69, 70, 71, 72, 73, 74, 75, 76, 77, 78, 79, 80, 81, 82, 145, 146, 147, 148, 104, 150, 151, 152, 153, 154, 155, 156, 157, 158, 159, 11, 12, 13, 14, 15, 16, 17, 18, 19, 20, 21, 22, 23, 24, 25, 26, 27, 28, 29, 30, 31, 32, 33, 107, 112, 113, 114, 115, 116, 38, 39, 117, 118, 119, 120, 121, 130, 131, 132, 133, 134, 135, 136, 137, 138, 139, 140, 141, 142, 143, 144, 176, 177, 178, 179, 180, 181, 182, 183, 184, 185, 186, 187, 206, 207, 208, 209, 210, 211, 212, 213, 214, 215, 216, 217, 218, 196, 197, 198, 199, 200, 201, 202, 219, 220, 221, 222, 223, 224, 225, 226, 227, 228, 229, 233, 234, 235, 203, 204, 205, 188, 189, 190, 191, 192, 193, 194, 195] (by decide +kernel) (by decide +kernel)
set_option maxRecDepth 20000 in
theorem gX8_enter_X8_arrive : GoodIn wsX8_enter (wsV RX8 120 RX8 yX8_arrive wsX8_arrive) := goodIn_app (goodIn_of _ (by decide +kernel)) ggX8_enter_X8_arrive
theorem dX8_enter_0 : decode cX8_enter 0 = .ok (.aload_n 0, 1) := by decide +kernel
theorem dX8_enter_1 : decode cX8_enter 1 = .ok (.iload_n 1, 1) := by decide +kernel
theorem dX8_enter_2 : decode cX8_enter 2 = .ok (.invokevirtual 104, 3) := by decide +kernel
theorem dX8_enter_5 : decode cX8_enter 5 = .ok (.astore_n 3, 1) := by decide +kernel
theorem dX8_enter_6 : decode cX8_enter 6 = .ok (.aload_n 0, 1) := by decide +kernel
theorem dX8_enter_7 : decode cX8_enter 7 = .ok (.iload_n 2, 1) := by decide +kernel
theorem dX8_enter_8 : decode cX8_enter 8 = .ok (.invokevirtual 69, 3) := by decide +kernel
theorem dX8_enter_11 : decode cX8_enter 11 = .ok (.astore 4, 2) := by decide +kernel
theorem dX8_enter_13 : decode cX8_enter 13 = .ok (.aload_n 0, 1) := by decide +kernel
theorem dX8_enter_14 : decode cX8_enter 14 = .ok (.aload_n 3, 1) := by decide +kernel
theorem dX8_enter_15 : decode cX8_enter 15 = .ok (.invokevirtual 145, 3) := by decide +kernel
theorem dX8_enter_18 : decode cX8_enter 18 = .ok (.aload_n 0, 1) := by decide +kernel
theorem dX8_enter_19 : decode cX8_enter 19 = .ok (.aload_n 3, 1) := by decide +kernel
theorem dX8_enter_20 : decode cX8_enter 20 = .ok (.aload 4, 2) := by decide +kernel
theorem dX8_enter_22 : decode cX8_enter 22 = .ok (.invokevirtual 149, 3) := by decide +kernel
theorem dX8_enter_25 : decode cX8_enter 25 = .ok (.istore 5, 2) := by decide +kernel
theorem dX8_enter_27 : decode cX8_enter 27 = .ok (.iload 5, 2) := by decide +kernel
theorem dX8_enter_29 : decode cX8_enter 29 = .ok (.ifCond .ne 52, 3) := by decide +kernel
theorem dX8_enter_32 : decode cX8_enter 32 = .ok (.aload_n 0, 1) := by decide +kernel
theorem dX8_enter_33 : decode cX8_enter 33 = .ok (.aload_n 3, 1) := by decide +kernel
theorem dX8_enter_34 : decode cX8_enter 34 = .ok (.aload 4, 2) := by decide +kernel
theorem dX8_enter_36 : decode cX8_enter 36 = .ok (.invokevirtual 153, 3) := by decide +kernel
theorem dX8_enter_39 : decode cX8_enter 39 = .ok (.ifCond .eq 13, 3) := by decide +kernel
theorem dX8_enter_42 : decode cX8_enter 42 = .ok (.aload_n 0, 1) := by decide +kernel
theorem dX8_enter_43 : decode cX8_enter 43 = .ok (.aload_n 3, 1) := by decide +kernel
theorem dX8_enter_44 : decode cX8_enter 44 = .ok (.aload 4, 2) := by decide +kernel
theorem dX8_enter_46 : decode cX8_enter 46 = .ok (.invokevirtual 157, 3) := by decide +kernel
theorem dX8_enter_49 : decode cX8_enter 49 = .ok (.goto 4, 3) := by decide +kernel
theorem dX8_enter_52 : decode cX8_enter 52 = .ok (.aconst_null, 1) := by decide +kernel
theorem dX8_enter_53 : decode cX8_enter 53 = .ok (.astore 6, 2) := by decide +kernel
theorem dX8_enter_55 : decode cX8_enter 55 = .ok (.aload 6, 2) := by decide +kernel
theorem dX8_enter_57 : decode cX8_enter 57 = .ok (.ifnull 14, 3) := by decide +kernel
theorem dX8_enter_60 : decode cX8_enter 60 = .ok (.aload 6, 2) := by decide +kernel
theorem dX8_enter_62 : decode cX8_enter 62 = .ok (.dup, 1) := by decide +kernel
theorem dX8_enter_63 : decode cX8_enter 63 = .ok (.getfield 138, 3) := by decide +kernel
theorem dX8_enter_66 : decode cX8_enter 66 = .ok (.iconst 1, 1) := by decide +kernel
theorem dX8_enter_67 : decode cX8_enter 67 = .ok (.isub, 1) := by decide +kernel
theorem dX8_enter_68 : decode cX8_enter 68 = .ok (.putfield 138, 3) := by decide +kernel
theorem dX8_enter_71 : decode cX8_enter 71 = .ok (.aload_n 0, 1) := by decide +kernel
theorem dX8_enter_72 : decode cX8_enter 72 = .ok (.aload_n 3, 1) := by decide +kernel
theorem dX8_enter_73 : decode cX8_enter 73 = .ok (.aload 4, 2) := by decide +kernel
theorem dX8_enter_75 : decode cX8_enter 75 = .ok (.aload 6, 2) := by decide +kernel
theorem dX8_enter_77 : decode cX8_enter 77 = .ok (.iconst 0, 1) := by decide +kernel
theorem dX8_enter_78 : decode cX8_enter 78 = .ok (.invokevirtual 120, 3) := by decide +kernel
theorem dX8_enter_81 : decode cX8_enter 81 = .ok (.iload 5, 2) := by decide +kernel
theorem dX8_enter_83 : decode cX8_enter 83 = .ok (.ireturn, 1) := by decide +kernel
set_option maxRecDepth 20000 in
theorem ggX8_slip_X8_personAt : GoodIn wsX8_slip wsX8_personAt := goodIn_ca (goodIn_r _ [5, 6, 7, 8, 9, 10, 11, 12, 13, 14, 15, 16, 17, 18, 19, 20, 21, 22, 23, 24, 25, 26, 27, 28, 29, 30, 31, 32, 148, 149, 150, 151, 152, 153, 154, 155, 156, 157] (by decide +kernel) (by decide +kernel)) (goodIn_sub (fun _ h => List.mem_cons_of_mem _ (List.mem_append_left _ (List.mem_append_right _ h))) (by decide +kernel))
set_option maxRecDepth 20000 in
theorem gX8_slip_X8_personAt : GoodIn wsX8_slip (wsV RX8 104 RX8 yX8_personAt wsX8_personAt) := goodIn_app (goodIn_of _ (by decide +kernel)) ggX8_slip_X8_personAt
set_option maxRecDepth 20000 in
theorem ggX8_slip_X8_landAt : GoodIn wsX8_slip wsX8_landAt := goodIn_ca (goodIn_r _ [36, 6, 7, 37, 38, 10, 11, 12, 13, 14, 15, 16, 17, 18, 19, 20, 21, 22, 23, 24, 25, 26, 27, 28, 29, 30, 31, 32, 148, 149, 150, 151, 152, 153, 154, 155, 156, 157] (by decide +kernel) (by decide +kernel)) (goodIn_sub (fun _ h => List.mem_cons_of_mem _ (List.mem_append_left _ (List.mem_append_right _ h))) (by decide +kernel))
set_option maxRecDepth 20000 in
theorem gX8_slip_X8_landAt : GoodIn wsX8_slip (wsV RX8 69 RX8 yX8_landAt wsX8_landAt) := goodIn_app (goodIn_of _ (by decide +kernel)) ggX8_slip_X8_landAt
set_option maxRecDepth 20000 in
theorem ggX8_slip_X8_refuseOneInALand : GoodIn wsX8_slip wsX8_refuseOneInALand := goodIn_ca (goodIn_r _ [42, 43, 44, 45, 158, 159, 160, 161, 162, 163, 164, 165, 166, 167, 168, 169, 170] (by decide +kernel) (by decide +kernel)) (goodIn_sub (fun _ h => List.mem_cons_of_mem _ (List.mem_append_right _ h)) (by decide +kernel))
set_option maxRecDepth 20000 in
theorem gX8_slip_X8_refuseOneInALand : GoodIn wsX8_slip (wsV RX8 145 RX8 yX8_refuseOneInALand wsX8_refuseOneInALand) := goodIn_app (goodIn_of _ (by decide +kernel)) ggX8_slip_X8_refuseOneInALand
set_option maxRecDepth 20000 in
theorem ggX8_slip_X8_arrive : GoodIn wsX8_slip wsX8_arrive := goodIn_r _ [49, 45, 50, 51, 52, 53, 54, 55, 56, 4, 57, 58, 59, 60, 61, 62, 63, 64, 65, 66, 67, 68, 69, 70, 71, 72, 73, 74, 75, 76, 77, 78, 79, 80, 81, 82, 83, 84, 85, 86, 87, 88, 89, 90, 91, 92, 93, 94, 95, 96, 97, 98, 99, 100, 101, 102, 103, 104, 105, 10, 11, 12, 13, 14, 15, 16, 17, 18, 19, 20, 21, 22, 23, 24, 25, 26, 27, 28, 29, 30, 31, 32, 106, 107, 108, 109, 110, 111, 37, 38, 112, 113, 114, 115, 116, 117, 118, 119, 120, 121, 122, 123, 124, 125, 126, 127, 128, 129, 130, 131, 132, 133, 134, 135, 136, 137, 138, 139, 140, 141, 142, 143, 158, 159, 160, 161, 162, 163, 164, 165, 166, 167, 168, 169, 170, 148, 149, 150, 151, 152, 153, 154, 171, 172, 173, 174, 175, 176, 177, 178, 179, 180, 181, 182, 183, 184, 155, 156, 157, 185, 186, 187, 188, 189, 190, 191, 192] (by decide +kernel) (by decide +kernel)
set_option maxRecDepth 20000 in
theorem gX8_slip_X8_arrive : GoodIn wsX8_slip (wsV RX8 120 RX8 yX8_arrive wsX8_arrive) := goodIn_app (goodIn_of _ (by decide +kernel)) ggX8_slip_X8_arrive
set_option maxRecDepth 20000 in
theorem ggX8_slip_X8_statusToday : GoodIn wsX8_slip wsX8_statusToday := goodIn_r _ [147, 45, 58, 52, 106, 85, 86, 87, 88, 89, 90, 158, 159, 160, 161, 162, 163, 164, 165, 166, 167, 168, 169, 170, 148, 149, 150, 151, 152, 153, 154, 180, 181] (by decide +kernel) (by decide +kernel)
set_option maxRecDepth 20000 in
theorem gX8_slip_X8_statusToday : GoodIn wsX8_slip (wsV RX8 161 RX8 yX8_statusToday wsX8_statusToday) := goodIn_app (goodIn_of _ (by decide +kernel)) ggX8_slip_X8_statusToday
theorem dX8_slip_0 : decode cX8_slip 0 = .ok (.aload_n 0, 1) := by decide +kernel
theorem dX8_slip_1 : decode cX8_slip 1 = .ok (.iload_n 1, 1) := by decide +kernel
theorem dX8_slip_2 : decode cX8_slip 2 = .ok (.invokevirtual 104, 3) := by decide +kernel
theorem dX8_slip_5 : decode cX8_slip 5 = .ok (.astore_n 3, 1) := by decide +kernel
theorem dX8_slip_6 : decode cX8_slip 6 = .ok (.aload_n 0, 1) := by decide +kernel
theorem dX8_slip_7 : decode cX8_slip 7 = .ok (.iload_n 2, 1) := by decide +kernel
theorem dX8_slip_8 : decode cX8_slip 8 = .ok (.invokevirtual 69, 3) := by decide +kernel
theorem dX8_slip_11 : decode cX8_slip 11 = .ok (.astore 4, 2) := by decide +kernel
theorem dX8_slip_13 : decode cX8_slip 13 = .ok (.aload_n 0, 1) := by decide +kernel
theorem dX8_slip_14 : decode cX8_slip 14 = .ok (.aload_n 3, 1) := by decide +kernel
theorem dX8_slip_15 : decode cX8_slip 15 = .ok (.invokevirtual 145, 3) := by decide +kernel
theorem dX8_slip_18 : decode cX8_slip 18 = .ok (.aload_n 0, 1) := by decide +kernel
theorem dX8_slip_19 : decode cX8_slip 19 = .ok (.aload_n 3, 1) := by decide +kernel
theorem dX8_slip_20 : decode cX8_slip 20 = .ok (.aload 4, 2) := by decide +kernel
theorem dX8_slip_22 : decode cX8_slip 22 = .ok (.aconst_null, 1) := by decide +kernel
theorem dX8_slip_23 : decode cX8_slip 23 = .ok (.iconst 1, 1) := by decide +kernel
theorem dX8_slip_24 : decode cX8_slip 24 = .ok (.invokevirtual 120, 3) := by decide +kernel
theorem dX8_slip_27 : decode cX8_slip 27 = .ok (.aload_n 0, 1) := by decide +kernel
theorem dX8_slip_28 : decode cX8_slip 28 = .ok (.aload_n 3, 1) := by decide +kernel
theorem dX8_slip_29 : decode cX8_slip 29 = .ok (.invokevirtual 161, 3) := by decide +kernel
theorem dX8_slip_32 : decode cX8_slip 32 = .ok (.ireturn, 1) := by decide +kernel
set_option maxRecDepth 20000 in
theorem ggX8_move_X8_personAt : GoodIn wsX8_move wsX8_personAt := goodIn_ca (goodIn_r _ [9, 10, 11, 12, 13, 14, 15, 16, 17, 18, 19, 20, 21, 22, 23, 24, 25, 26, 27, 28, 29, 30, 31, 32, 33, 34, 35, 36, 160, 161, 162, 163, 164, 165, 166, 167, 168, 169] (by decide +kernel) (by decide +kernel)) (goodIn_sub (fun _ h => List.mem_cons_of_mem _ (List.mem_append_right _ h)) (by decide +kernel))
set_option maxRecDepth 20000 in
theorem gX8_move_X8_personAt : GoodIn wsX8_move (wsV RX8 104 RX8 yX8_personAt wsX8_personAt) := goodIn_app (goodIn_of _ (by decide +kernel)) ggX8_move_X8_personAt
set_option maxRecDepth 20000 in
theorem ggX8_move_X8_landAt : GoodIn wsX8_move wsX8_landAt := goodIn_ca (goodIn_r _ [40, 10, 11, 41, 42, 14, 15, 16, 17, 18, 19, 20, 21, 22, 23, 24, 25, 26, 27, 28, 29, 30, 31, 32, 33, 34, 35, 36, 160, 161, 162, 163, 164, 165, 166, 167, 168, 169] (by decide +kernel) (by decide +kernel)) (goodIn_sub (fun _ h => List.mem_cons_of_mem _ (List.mem_append_right _ h)) (by decide +kernel))
set_option maxRecDepth 20000 in
theorem gX8_move_X8_landAt : GoodIn wsX8_move (wsV RX8 69 RX8 yX8_landAt wsX8_landAt) := goodIn_app (goodIn_of _ (by decide +kernel)) ggX8_move_X8_landAt
set_option maxRecDepth 20000 in
theorem ggX8_move_X8_lookAt : GoodIn wsX8_move wsX8_lookAt := goodIn_r _ [46, 3, 47, 48, 49, 50, 51, 52, 53, 54, 8, 55, 56, 57, 58, 59, 60, 61, 62, 63, 64, 65, 66, 67, 68, 69, 70, 71, 72, 73, 74, 75, 76, 77, 78, 79, 80, 81, 82, 83, 84, 85, 86, 87, 4, 88, 89, 90, 91, 92, 93, 94, 95, 96, 97, 14, 15, 16, 17, 18, 19, 20, 21, 22, 23, 24, 25, 26, 27, 28, 29, 30, 31, 32, 33, 34, 35, 36, 98, 99, 100, 101, 102, 103, 41, 42, 104, 105, 106, 107, 108, 109, 110, 111, 112, 113, 114, 115, 116, 117, 118, 119, 120, 121, 122, 123, 124, 125, 126, 127, 128, 129, 130, 131, 132, 133, 134, 135, 140, 141, 142, 143, 144, 145, 146, 147, 148, 149, 150, 151, 152, 160, 161, 162, 163, 164, 165, 166, 153, 154, 155, 156, 157, 158, 159, 170, 171, 172, 173, 174, 175, 176, 167, 168, 169, 177, 178, 179, 180, 181, 182, 183, 184] (by decide +kernel) (by decide +kernel)
set_option maxRecDepth 20000 in
theorem gX8_move_X8_lookAt : GoodIn wsX8_move (wsV RX8 171 RX8 yX8_lookAt wsX8_lookAt) := goodIn_app (goodIn_of _ (by decide +kernel)) ggX8_move_X8_lookAt
set_option maxRecDepth 20000 in
theorem ggX8_move_X8_statusToday : GoodIn wsX8_move wsX8_statusToday := goodIn_r _ [139, 3, 49, 48, 98, 78, 79, 80, 81, 82, 83, 140, 141, 142, 143, 144, 145, 146, 147, 148, 149, 150, 151, 152, 160, 161, 162, 163, 164, 165, 166, 172, 173] (by decide +kernel) (by decide +kernel)
set_option maxRecDepth 20000 in
theorem gX8_move_X8_statusToday : GoodIn wsX8_move (wsV RX8 161 RX8 yX8_statusToday wsX8_statusToday) := goodIn_app (goodIn_of _ (by decide +kernel)) ggX8_move_X8_statusToday
theorem dX8_move_0 : decode cX8_move 0 = .ok (.aload_n 0, 1) := by decide +kernel
theorem dX8_move_1 : decode cX8_move 1 = .ok (.iload_n 1, 1) := by decide +kernel
theorem dX8_move_2 : decode cX8_move 2 = .ok (.invokevirtual 104, 3) := by decide +kernel
theorem dX8_move_5 : decode cX8_move 5 = .ok (.astore_n 3, 1) := by decide +kernel
theorem dX8_move_6 : decode cX8_move 6 = .ok (.aload_n 0, 1) := by decide +kernel
theorem dX8_move_7 : decode cX8_move 7 = .ok (.iload_n 2, 1) := by decide +kernel
theorem dX8_move_8 : decode cX8_move 8 = .ok (.invokevirtual 69, 3) := by decide +kernel
theorem dX8_move_11 : decode cX8_move 11 = .ok (.astore 4, 2) := by decide +kernel
theorem dX8_move_13 : decode cX8_move 13 = .ok (.aload_n 3, 1) := by decide +kernel
theorem dX8_move_14 : decode cX8_move 14 = .ok (.getfield 110, 3) := by decide +kernel
theorem dX8_move_17 : decode cX8_move 17 = .ok (.astore 5, 2) := by decide +kernel
theorem dX8_move_19 : decode cX8_move 19 = .ok (.aload 5, 2) := by decide +kernel
theorem dX8_move_21 : decode cX8_move 21 = .ok (.ifnull 26, 3) := by decide +kernel
theorem dX8_move_24 : decode cX8_move 24 = .ok (.aload 5, 2) := by decide +kernel
theorem dX8_move_26 : decode cX8_move 26 = .ok (.aload 4, 2) := by decide +kernel
theorem dX8_move_28 : decode cX8_move 28 = .ok (.if_acmp .eq 19, 3) := by decide +kernel
theorem dX8_move_31 : decode cX8_move 31 = .ok (.aload 5, 2) := by decide +kernel
theorem dX8_move_33 : decode cX8_move 33 = .ok (.getfield 165, 3) := by decide +kernel
theorem dX8_move_36 : decode cX8_move 36 = .ok (.ifCond .eq 11, 3) := by decide +kernel
theorem dX8_move_39 : decode cX8_move 39 = .ok (.aload 4, 2) := by decide +kernel
theorem dX8_move_41 : decode cX8_move 41 = .ok (.getfield 165, 3) := by decide +kernel
theorem dX8_move_44 : decode cX8_move 44 = .ok (.ifCond .ne 13, 3) := by decide +kernel
theorem dX8_move_47 : decode cX8_move 47 = .ok (.new 52, 3) := by decide +kernel
theorem dX8_move_50 : decode cX8_move 50 = .ok (.dup, 1) := by decide +kernel
theorem dX8_move_51 : decode cX8_move 51 = .ok (.ldc 169, 2) := by decide +kernel
theorem dX8_move_53 : decode cX8_move 53 = .ok (.invokespecial 56, 3) := by decide +kernel
theorem dX8_move_56 : decode cX8_move 56 = .ok (.athrow, 1) := by decide +kernel
theorem dX8_move_57 : decode cX8_move 57 = .ok (.aload_n 3, 1) := by decide +kernel
theorem dX8_move_58 : decode cX8_move 58 = .ok (.aload 4, 2) := by decide +kernel
theorem dX8_move_60 : decode cX8_move 60 = .ok (.putfield 110, 3) := by decide +kernel
theorem dX8_move_63 : decode cX8_move 63 = .ok (.aload_n 0, 1) := by decide +kernel
theorem dX8_move_64 : decode cX8_move 64 = .ok (.aload_n 3, 1) := by decide +kernel
theorem dX8_move_65 : decode cX8_move 65 = .ok (.invokevirtual 171, 3) := by decide +kernel
theorem dX8_move_68 : decode cX8_move 68 = .ok (.aload_n 0, 1) := by decide +kernel
theorem dX8_move_69 : decode cX8_move 69 = .ok (.aload_n 3, 1) := by decide +kernel
theorem dX8_move_70 : decode cX8_move 70 = .ok (.invokevirtual 161, 3) := by decide +kernel
theorem dX8_move_73 : decode cX8_move 73 = .ok (.ireturn, 1) := by decide +kernel
set_option maxRecDepth 20000 in
theorem ggX8_leave_X8_personAt : GoodIn wsX8_leave wsX8_personAt := goodIn_ca (goodIn_r _ [17, 18, 19, 20, 21, 22, 23, 24, 25, 26, 27, 28, 29, 30, 31, 32, 33, 34, 35, 36, 37, 38, 39, 40, 41, 42, 43, 44, 91, 92, 93, 94, 95, 96, 97, 101, 102, 103] (by decide +kernel) (by decide +kernel)) (goodIn_sub (fun _ h => List.mem_cons_of_mem _ (List.mem_append_right _ h)) (by decide +kernel))
set_option maxRecDepth 20000 in
theorem gX8_leave_X8_personAt : GoodIn wsX8_leave (wsV RX8 104 RX8 yX8_personAt wsX8_personAt) := goodIn_app (goodIn_of _ (by decide +kernel)) ggX8_leave_X8_personAt
set_option maxRecDepth 20000 in
theorem ggX8_leave_X8_overstayedDays : GoodIn wsX8_leave wsX8_overstayedDays := goodIn_r _ [48, 49, 11, 50, 51, 52, 53, 54, 55, 56, 57, 71, 72, 73, 74, 75, 76, 77, 78, 79, 80, 81, 82, 83, 91, 92, 93, 94, 95, 96, 97, 104, 105] (by decide +kernel) (by decide +kernel)
set_option maxRecDepth 20000 in
theorem gX8_leave_X8_overstayedDays : GoodIn wsX8_leave (wsV RX8 176 RX8 yX8_overstayedDays wsX8_overstayedDays) := goodIn_app (goodIn_of _ (by decide +kernel)) ggX8_leave_X8_overstayedDays
set_option maxRecDepth 20000 in
theorem ggX8_leave_X0_add : GoodIn wsX8_leave wsX0_add := goodIn_r _ [62, 63, 64, 65, 66, 52, 53, 54, 55, 56, 57, 67, 68, 69, 70, 98, 99, 100, 104, 105] (by decide +kernel) (by decide +kernel)
set_option maxRecDepth 20000 in
theorem gX8_leave_X0_add : GoodIn wsX8_leave (wsV RX8 193 RX0 yX0_add wsX0_add) := goodIn_app (goodIn_of _ (by decide +kernel)) ggX8_leave_X0_add
set_option maxRecDepth 20000 in
theorem ggX8_leave_X5_at : GoodIn wsX8_leave wsX5_at := goodIn_r _ [55, 56, 57, 104, 105] (by decide +kernel) (by decide +kernel)
set_option maxRecDepth 20000 in
theorem gX8_leave_X5_at : GoodIn wsX8_leave (wsV RX8 202 RX5 yX5_at wsX5_at) := goodIn_app (goodIn_of _ (by decide +kernel)) ggX8_leave_X5_at
theorem dX8_leave_0 : decode cX8_leave 0 = .ok (.aload_n 0, 1) := by decide +kernel
theorem dX8_leave_1 : decode cX8_leave 1 = .ok (.iload_n 1, 1) := by decide +kernel
theorem dX8_leave_2 : decode cX8_leave 2 = .ok (.invokevirtual 104, 3) := by decide +kernel
theorem dX8_leave_5 : decode cX8_leave 5 = .ok (.astore_n 2, 1) := by decide +kernel
theorem dX8_leave_6 : decode cX8_leave 6 = .ok (.aload_n 2, 1) := by decide +kernel
theorem dX8_leave_7 : decode cX8_leave 7 = .ok (.getfield 110, 3) := by decide +kernel
theorem dX8_leave_10 : decode cX8_leave 10 = .ok (.astore_n 3, 1) := by decide +kernel
theorem dX8_leave_11 : decode cX8_leave 11 = .ok (.aload_n 3, 1) := by decide +kernel
theorem dX8_leave_12 : decode cX8_leave 12 = .ok (.ifnonnull 13, 3) := by decide +kernel
theorem dX8_leave_15 : decode cX8_leave 15 = .ok (.new 52, 3) := by decide +kernel
theorem dX8_leave_18 : decode cX8_leave 18 = .ok (.dup, 1) := by decide +kernel
theorem dX8_leave_19 : decode cX8_leave 19 = .ok (.ldc 174, 2) := by decide +kernel
theorem dX8_leave_21 : decode cX8_leave 21 = .ok (.invokespecial 56, 3) := by decide +kernel
theorem dX8_leave_24 : decode cX8_leave 24 = .ok (.athrow, 1) := by decide +kernel
theorem dX8_leave_25 : decode cX8_leave 25 = .ok (.sipush 720, 3) := by decide +kernel
theorem dX8_leave_28 : decode cX8_leave 28 = .ok (.bipush 10, 2) := by decide +kernel
theorem dX8_leave_30 : decode cX8_leave 30 = .ok (.aload_n 0, 1) := by decide +kernel
theorem dX8_leave_31 : decode cX8_leave 31 = .ok (.aload_n 2, 1) := by decide +kernel
theorem dX8_leave_32 : decode cX8_leave 32 = .ok (.invokevirtual 176, 3) := by decide +kernel
theorem dX8_leave_35 : decode cX8_leave 35 = .ok (.imul, 1) := by decide +kernel
theorem dX8_leave_36 : decode cX8_leave 36 = .ok (.invokestatic 179, 3) := by decide +kernel
theorem dX8_leave_39 : decode cX8_leave 39 = .ok (.istore 4, 2) := by decide +kernel
theorem dX8_leave_41 : decode cX8_leave 41 = .ok (.aload_n 2, 1) := by decide +kernel
theorem dX8_leave_42 : decode cX8_leave 42 = .ok (.aconst_null, 1) := by decide +kernel
theorem dX8_leave_43 : decode cX8_leave 43 = .ok (.putfield 110, 3) := by decide +kernel
theorem dX8_leave_46 : decode cX8_leave 46 = .ok (.aload_n 2, 1) := by decide +kernel
theorem dX8_leave_47 : decode cX8_leave 47 = .ok (.aconst_null, 1) := by decide +kernel
theorem dX8_leave_48 : decode cX8_leave 48 = .ok (.putfield 185, 3) := by decide +kernel
theorem dX8_leave_51 : decode cX8_leave 51 = .ok (.iload 4, 2) := by decide +kernel
theorem dX8_leave_53 : decode cX8_leave 53 = .ok (.ifCond .ne 5, 3) := by decide +kernel
theorem dX8_leave_56 : decode cX8_leave 56 = .ok (.iconst (-1), 1) := by decide +kernel
theorem dX8_leave_57 : decode cX8_leave 57 = .ok (.ireturn, 1) := by decide +kernel
theorem dX8_leave_58 : decode cX8_leave 58 = .ok (.aload_n 2, 1) := by decide +kernel
theorem dX8_leave_59 : decode cX8_leave 59 = .ok (.getfield 189, 3) := by decide +kernel
theorem dX8_leave_62 : decode cX8_leave 62 = .ok (.aload_n 3, 1) := by decide +kernel
theorem dX8_leave_63 : decode cX8_leave 63 = .ok (.getfield 66, 3) := by decide +kernel
theorem dX8_leave_66 : decode cX8_leave 66 = .ok (.aload_n 0, 1) := by decide +kernel
theorem dX8_leave_67 : decode cX8_leave 67 = .ok (.getfield 37, 3) := by decide +kernel
theorem dX8_leave_70 : decode cX8_leave 70 = .ok (.iconst 1, 1) := by decide +kernel
theorem dX8_leave_71 : decode cX8_leave 71 = .ok (.iadd, 1) := by decide +kernel
theorem dX8_leave_72 : decode cX8_leave 72 = .ok (.aload_n 0, 1) := by decide +kernel
theorem dX8_leave_73 : decode cX8_leave 73 = .ok (.getfield 37, 3) := by decide +kernel
theorem dX8_leave_76 : decode cX8_leave 76 = .ok (.iload 4, 2) := by decide +kernel
theorem dX8_leave_78 : decode cX8_leave 78 = .ok (.iadd, 1) := by decide +kernel
theorem dX8_leave_79 : decode cX8_leave 79 = .ok (.aload_n 0, 1) := by decide +kernel
theorem dX8_leave_80 : decode cX8_leave 80 = .ok (.getfield 37, 3) := by decide +kernel
theorem dX8_leave_83 : decode cX8_leave 83 = .ok (.invokevirtual 193, 3) := by decide +kernel
theorem dX8_leave_86 : decode cX8_leave 86 = .ok (.aload_n 2, 1) := by decide +kernel
theorem dX8_leave_87 : decode cX8_leave 87 = .ok (.getfield 189, 3) := by decide +kernel
theorem dX8_leave_90 : decode cX8_leave 90 = .ok (.getfield 198, 3) := by decide +kernel
theorem dX8_leave_93 : decode cX8_leave 93 = .ok (.aload_n 3, 1) := by decide +kernel
theorem dX8_leave_94 : decode cX8_leave 94 = .ok (.getfield 66, 3) := by decide +kernel
theorem dX8_leave_97 : decode cX8_leave 97 = .ok (.invokevirtual 202, 3) := by decide +kernel
theorem dX8_leave_100 : decode cX8_leave 100 = .ok (.ireturn, 1) := by decide +kernel
set_option maxRecDepth 20000 in
theorem ggX8_ban_X8_landAt : GoodIn wsX8_ban wsX8_landAt := goodIn_ca (goodIn_r _ [11, 12, 13, 14, 15, 16, 17, 18, 19, 20, 21, 22, 23, 24, 25, 26, 27, 28, 29, 30, 31, 32, 33, 34, 35, 36, 37, 38, 85, 86, 87, 88, 89, 90, 91, 95, 96, 97] (by decide +kernel) (by decide +kernel)) (goodIn_sub (fun _ h => List.mem_cons_of_mem _ (List.mem_append_right _ h)) (by decide +kernel))
set_option maxRecDepth 20000 in
theorem gX8_ban_X8_landAt : GoodIn wsX8_ban (wsV RX8 69 RX8 yX8_landAt wsX8_landAt) := goodIn_app (goodIn_of _ (by decide +kernel)) ggX8_ban_X8_landAt
set_option maxRecDepth 20000 in
theorem ggX8_ban_X8_personAt : GoodIn wsX8_ban wsX8_personAt := goodIn_ca (goodIn_r _ [42, 12, 13, 43, 44, 16, 17, 18, 19, 20, 21, 22, 23, 24, 25, 26, 27, 28, 29, 30, 31, 32, 33, 34, 35, 36, 37, 38, 85, 86, 87, 88, 89, 90, 91, 95, 96, 97] (by decide +kernel) (by decide +kernel)) (goodIn_sub (fun _ h => List.mem_cons_of_mem _ (List.mem_append_right _ h)) (by decide +kernel))
set_option maxRecDepth 20000 in
theorem gX8_ban_X8_personAt : GoodIn wsX8_ban (wsV RX8 104 RX8 yX8_personAt wsX8_personAt) := goodIn_app (goodIn_of _ (by decide +kernel)) ggX8_ban_X8_personAt
set_option maxRecDepth 20000 in
theorem ggX8_ban_X0_add : GoodIn wsX8_ban wsX0_add := goodIn_r _ [49, 50, 51, 52, 53, 54, 55, 56, 57, 58, 59, 60, 61, 62, 63, 92, 93, 94, 98, 99] (by decide +kernel) (by decide +kernel)
set_option maxRecDepth 20000 in
theorem gX8_ban_X0_add : GoodIn wsX8_ban (wsV RX8 193 RX0 yX0_add wsX0_add) := goodIn_app (goodIn_of _ (by decide +kernel)) ggX8_ban_X0_add
set_option maxRecDepth 20000 in
theorem ggX8_ban_X5_at : GoodIn wsX8_ban wsX5_at := goodIn_r _ [57, 58, 59, 98, 99] (by decide +kernel) (by decide +kernel)
set_option maxRecDepth 20000 in
theorem gX8_ban_X5_at : GoodIn wsX8_ban (wsV RX8 202 RX5 yX5_at wsX5_at) := goodIn_app (goodIn_of _ (by decide +kernel)) ggX8_ban_X5_at
theorem dX8_ban_0 : decode cX8_ban 0 = .ok (.aload_n 0, 1) := by decide +kernel
theorem dX8_ban_1 : decode cX8_ban 1 = .ok (.iload_n 1, 1) := by decide +kernel
theorem dX8_ban_2 : decode cX8_ban 2 = .ok (.invokevirtual 69, 3) := by decide +kernel
theorem dX8_ban_5 : decode cX8_ban 5 = .ok (.astore 4, 2) := by decide +kernel
theorem dX8_ban_7 : decode cX8_ban 7 = .ok (.aload_n 0, 1) := by decide +kernel
theorem dX8_ban_8 : decode cX8_ban 8 = .ok (.iload_n 2, 1) := by decide +kernel
theorem dX8_ban_9 : decode cX8_ban 9 = .ok (.invokevirtual 104, 3) := by decide +kernel
theorem dX8_ban_12 : decode cX8_ban 12 = .ok (.astore 5, 2) := by decide +kernel
theorem dX8_ban_14 : decode cX8_ban 14 = .ok (.iload_n 3, 1) := by decide +kernel
theorem dX8_ban_15 : decode cX8_ban 15 = .ok (.iconst 1, 1) := by decide +kernel
theorem dX8_ban_16 : decode cX8_ban 16 = .ok (.if_icmp .lt 10, 3) := by decide +kernel
theorem dX8_ban_19 : decode cX8_ban 19 = .ok (.iload_n 3, 1) := by decide +kernel
theorem dX8_ban_20 : decode cX8_ban 20 = .ok (.sipush 720, 3) := by decide +kernel
theorem dX8_ban_23 : decode cX8_ban 23 = .ok (.if_icmp .le 13, 3) := by decide +kernel
theorem dX8_ban_26 : decode cX8_ban 26 = .ok (.new 41, 3) := by decide +kernel
theorem dX8_ban_29 : decode cX8_ban 29 = .ok (.dup, 1) := by decide +kernel
theorem dX8_ban_30 : decode cX8_ban 30 = .ok (.ldc 208, 2) := by decide +kernel
theorem dX8_ban_32 : decode cX8_ban 32 = .ok (.invokespecial 45, 3) := by decide +kernel
theorem dX8_ban_35 : decode cX8_ban 35 = .ok (.athrow, 1) := by decide +kernel
theorem dX8_ban_36 : decode cX8_ban 36 = .ok (.aload 5, 2) := by decide +kernel
theorem dX8_ban_38 : decode cX8_ban 38 = .ok (.getfield 189, 3) := by decide +kernel
theorem dX8_ban_41 : decode cX8_ban 41 = .ok (.aload 4, 2) := by decide +kernel
theorem dX8_ban_43 : decode cX8_ban 43 = .ok (.getfield 66, 3) := by decide +kernel
theorem dX8_ban_46 : decode cX8_ban 46 = .ok (.aload_n 0, 1) := by decide +kernel
theorem dX8_ban_47 : decode cX8_ban 47 = .ok (.getfield 37, 3) := by decide +kernel
theorem dX8_ban_50 : decode cX8_ban 50 = .ok (.aload_n 0, 1) := by decide +kernel
theorem dX8_ban_51 : decode cX8_ban 51 = .ok (.getfield 37, 3) := by decide +kernel
theorem dX8_ban_54 : decode cX8_ban 54 = .ok (.iload_n 3, 1) := by decide +kernel
theorem dX8_ban_55 : decode cX8_ban 55 = .ok (.iadd, 1) := by decide +kernel
theorem dX8_ban_56 : decode cX8_ban 56 = .ok (.iconst 1, 1) := by decide +kernel
theorem dX8_ban_57 : decode cX8_ban 57 = .ok (.isub, 1) := by decide +kernel
theorem dX8_ban_58 : decode cX8_ban 58 = .ok (.aload_n 0, 1) := by decide +kernel
theorem dX8_ban_59 : decode cX8_ban 59 = .ok (.getfield 37, 3) := by decide +kernel
theorem dX8_ban_62 : decode cX8_ban 62 = .ok (.invokevirtual 193, 3) := by decide +kernel
theorem dX8_ban_65 : decode cX8_ban 65 = .ok (.aload 5, 2) := by decide +kernel
theorem dX8_ban_67 : decode cX8_ban 67 = .ok (.getfield 189, 3) := by decide +kernel
theorem dX8_ban_70 : decode cX8_ban 70 = .ok (.getfield 198, 3) := by decide +kernel
theorem dX8_ban_73 : decode cX8_ban 73 = .ok (.aload 4, 2) := by decide +kernel
theorem dX8_ban_75 : decode cX8_ban 75 = .ok (.getfield 66, 3) := by decide +kernel
theorem dX8_ban_78 : decode cX8_ban 78 = .ok (.invokevirtual 202, 3) := by decide +kernel
theorem dX8_ban_81 : decode cX8_ban 81 = .ok (.ireturn, 1) := by decide +kernel
set_option maxRecDepth 20000 in
theorem ggX8_lift_X8_landAt : GoodIn wsX8_lift wsX8_landAt := goodIn_ca (goodIn_r _ [8, 9, 10, 11, 12, 13, 14, 15, 16, 17, 18, 19, 20, 21, 22, 23, 24, 25, 26, 27, 28, 29, 30, 31, 32, 33, 34, 35, 83, 84, 85, 86, 87, 88, 89, 90, 91, 92] (by decide +kernel) (by decide +kernel)) (goodIn_sub (fun _ h => List.mem_cons_of_mem _ (List.mem_append_right _ h)) (by decide +kernel))
set_option maxRecDepth 20000 in
theorem gX8_lift_X8_landAt : GoodIn wsX8_lift (wsV RX8 69 RX8 yX8_landAt wsX8_landAt) := goodIn_app (goodIn_of _ (by decide +kernel)) ggX8_lift_X8_landAt
set_option maxRecDepth 20000 in
theorem ggX8_lift_X8_personAt : GoodIn wsX8_lift wsX8_personAt := goodIn_ca (goodIn_r _ [39, 9, 10, 40, 41, 13, 14, 15, 16, 17, 18, 19, 20, 21, 22, 23, 24, 25, 26, 27, 28, 29, 30, 31, 32, 33, 34, 35, 83, 84, 85, 86, 87, 88, 89, 90, 91, 92] (by decide +kernel) (by decide +kernel)) (goodIn_sub (fun _ h => List.mem_cons_of_mem _ (List.mem_append_right _ h)) (by decide +kernel))
set_option maxRecDepth 20000 in
theorem gX8_lift_X8_personAt : GoodIn wsX8_lift (wsV RX8 104 RX8 yX8_personAt wsX8_personAt) := goodIn_app (goodIn_of _ (by decide +kernel)) ggX8_lift_X8_personAt
set_option maxRecDepth 20000 in
theorem ggX8_lift_X0_stands : GoodIn wsX8_lift wsX0_stands := goodIn_r _ [46, 47, 48, 49, 50, 51, 52, 53, 54, 93, 94, 95, 96, 97] (by decide +kernel) (by decide +kernel)
set_option maxRecDepth 20000 in
theorem gX8_lift_X0_stands : GoodIn wsX8_lift (wsV RX8 210 RX0 yX0_stands wsX0_stands) := goodIn_app (goodIn_of _ (by decide +kernel)) ggX8_lift_X0_stands
set_option maxRecDepth 20000 in
theorem ggX8_lift_X0_clear : GoodIn wsX8_lift wsX0_clear := goodIn_r _ [58, 47, 59, 60, 61, 51, 62, 53, 93, 94, 95, 96, 97] (by decide +kernel) (by decide +kernel)
set_option maxRecDepth 20000 in
theorem gX8_lift_X0_clear : GoodIn wsX8_lift (wsV RX8 214 RX0 yX0_clear wsX0_clear) := goodIn_app (goodIn_of _ (by decide +kernel)) ggX8_lift_X0_clear
theorem dX8_lift_0 : decode cX8_lift 0 = .ok (.aload_n 0, 1) := by decide +kernel
theorem dX8_lift_1 : decode cX8_lift 1 = .ok (.iload_n 1, 1) := by decide +kernel
theorem dX8_lift_2 : decode cX8_lift 2 = .ok (.invokevirtual 69, 3) := by decide +kernel
theorem dX8_lift_5 : decode cX8_lift 5 = .ok (.astore_n 3, 1) := by decide +kernel
theorem dX8_lift_6 : decode cX8_lift 6 = .ok (.aload_n 0, 1) := by decide +kernel
theorem dX8_lift_7 : decode cX8_lift 7 = .ok (.iload_n 2, 1) := by decide +kernel
theorem dX8_lift_8 : decode cX8_lift 8 = .ok (.invokevirtual 104, 3) := by decide +kernel
theorem dX8_lift_11 : decode cX8_lift 11 = .ok (.astore 4, 2) := by decide +kernel
theorem dX8_lift_13 : decode cX8_lift 13 = .ok (.aload 4, 2) := by decide +kernel
theorem dX8_lift_15 : decode cX8_lift 15 = .ok (.getfield 189, 3) := by decide +kernel
theorem dX8_lift_18 : decode cX8_lift 18 = .ok (.aload_n 3, 1) := by decide +kernel
theorem dX8_lift_19 : decode cX8_lift 19 = .ok (.getfield 66, 3) := by decide +kernel
theorem dX8_lift_22 : decode cX8_lift 22 = .ok (.aload_n 0, 1) := by decide +kernel
theorem dX8_lift_23 : decode cX8_lift 23 = .ok (.getfield 37, 3) := by decide +kernel
theorem dX8_lift_26 : decode cX8_lift 26 = .ok (.invokevirtual 210, 3) := by decide +kernel
theorem dX8_lift_29 : decode cX8_lift 29 = .ok (.istore 5, 2) := by decide +kernel
theorem dX8_lift_31 : decode cX8_lift 31 = .ok (.aload 4, 2) := by decide +kernel
theorem dX8_lift_33 : decode cX8_lift 33 = .ok (.getfield 189, 3) := by decide +kernel
theorem dX8_lift_36 : decode cX8_lift 36 = .ok (.aload_n 3, 1) := by decide +kernel
theorem dX8_lift_37 : decode cX8_lift 37 = .ok (.getfield 66, 3) := by decide +kernel
theorem dX8_lift_40 : decode cX8_lift 40 = .ok (.invokevirtual 214, 3) := by decide +kernel
theorem dX8_lift_43 : decode cX8_lift 43 = .ok (.iload 5, 2) := by decide +kernel
theorem dX8_lift_45 : decode cX8_lift 45 = .ok (.ireturn, 1) := by decide +kernel
set_option maxRecDepth 20000 in
theorem ggX8_quota_X8_landAt : GoodIn wsX8_quota wsX8_landAt := goodIn_ca (goodIn_r _ [8, 9, 10, 11, 12, 13, 14, 15, 16, 17, 18, 19, 20, 21, 22, 23, 24, 25, 26, 27, 28, 29, 30, 31, 32, 33, 34, 35, 54, 55, 56, 57, 58, 59, 60, 61, 62, 63] (by decide +kernel) (by decide +kernel)) (goodIn_sub (fun _ h => List.mem_cons_of_mem _ (List.mem_append_right _ h)) (by decide +kernel))
set_option maxRecDepth 20000 in
theorem gX8_quota_X8_landAt : GoodIn wsX8_quota (wsV RX8 69 RX8 yX8_landAt wsX8_landAt) := goodIn_app (goodIn_of _ (by decide +kernel)) ggX8_quota_X8_landAt
set_option maxRecDepth 20000 in
theorem ggX8_quota_X5_at : GoodIn wsX8_quota wsX5_at := goodIn_r _ [40, 41, 42, 64, 65] (by decide +kernel) (by decide +kernel)
set_option maxRecDepth 20000 in
theorem gX8_quota_X5_at : GoodIn wsX8_quota (wsV RX8 202 RX5 yX5_at wsX5_at) := goodIn_app (goodIn_of _ (by decide +kernel)) ggX8_quota_X5_at
set_option maxRecDepth 20000 in
theorem ggX8_quota_X5_put : GoodIn wsX8_quota wsX5_put := goodIn_r _ [46, 41, 64, 65] (by decide +kernel) (by decide +kernel)
set_option maxRecDepth 20000 in
theorem gX8_quota_X5_put : GoodIn wsX8_quota (wsV RX8 223 RX5 yX5_put wsX5_put) := goodIn_app (goodIn_of _ (by decide +kernel)) ggX8_quota_X5_put
theorem dX8_quota_0 : decode cX8_quota 0 = .ok (.aload_n 0, 1) := by decide +kernel
theorem dX8_quota_1 : decode cX8_quota 1 = .ok (.iload_n 1, 1) := by decide +kernel
theorem dX8_quota_2 : decode cX8_quota 2 = .ok (.invokevirtual 69, 3) := by decide +kernel
theorem dX8_quota_5 : decode cX8_quota 5 = .ok (.astore 4, 2) := by decide +kernel
theorem dX8_quota_7 : decode cX8_quota 7 = .ok (.iload_n 2, 1) := by decide +kernel
theorem dX8_quota_8 : decode cX8_quota 8 = .ok (.ifCond .lt 18, 3) := by decide +kernel
theorem dX8_quota_11 : decode cX8_quota 11 = .ok (.iload_n 2, 1) := by decide +kernel
theorem dX8_quota_12 : decode cX8_quota 12 = .ok (.iconst 3, 1) := by decide +kernel
theorem dX8_quota_13 : decode cX8_quota 13 = .ok (.if_icmp .ge 13, 3) := by decide +kernel
theorem dX8_quota_16 : decode cX8_quota 16 = .ok (.iload_n 3, 1) := by decide +kernel
theorem dX8_quota_17 : decode cX8_quota 17 = .ok (.ifCond .lt 9, 3) := by decide +kernel
theorem dX8_quota_20 : decode cX8_quota 20 = .ok (.iload_n 3, 1) := by decide +kernel
theorem dX8_quota_21 : decode cX8_quota 21 = .ok (.bipush 9, 2) := by decide +kernel
theorem dX8_quota_23 : decode cX8_quota 23 = .ok (.if_icmp .le 13, 3) := by decide +kernel
theorem dX8_quota_26 : decode cX8_quota 26 = .ok (.new 41, 3) := by decide +kernel
theorem dX8_quota_29 : decode cX8_quota 29 = .ok (.dup, 1) := by decide +kernel
theorem dX8_quota_30 : decode cX8_quota 30 = .ok (.ldc 218, 2) := by decide +kernel
theorem dX8_quota_32 : decode cX8_quota 32 = .ok (.invokespecial 45, 3) := by decide +kernel
theorem dX8_quota_35 : decode cX8_quota 35 = .ok (.athrow, 1) := by decide +kernel
theorem dX8_quota_36 : decode cX8_quota 36 = .ok (.aload 4, 2) := by decide +kernel
theorem dX8_quota_38 : decode cX8_quota 38 = .ok (.getfield 220, 3) := by decide +kernel
theorem dX8_quota_41 : decode cX8_quota 41 = .ok (.iload_n 2, 1) := by decide +kernel
theorem dX8_quota_42 : decode cX8_quota 42 = .ok (.invokevirtual 202, 3) := by decide +kernel
theorem dX8_quota_45 : decode cX8_quota 45 = .ok (.istore 5, 2) := by decide +kernel
theorem dX8_quota_47 : decode cX8_quota 47 = .ok (.aload 4, 2) := by decide +kernel
theorem dX8_quota_49 : decode cX8_quota 49 = .ok (.getfield 220, 3) := by decide +kernel
theorem dX8_quota_52 : decode cX8_quota 52 = .ok (.iload_n 2, 1) := by decide +kernel
theorem dX8_quota_53 : decode cX8_quota 53 = .ok (.iload_n 3, 1) := by decide +kernel
theorem dX8_quota_54 : decode cX8_quota 54 = .ok (.invokevirtual 223, 3) := by decide +kernel
theorem dX8_quota_57 : decode cX8_quota 57 = .ok (.iload 5, 2) := by decide +kernel
theorem dX8_quota_59 : decode cX8_quota 59 = .ok (.ireturn, 1) := by decide +kernel
set_option maxRecDepth 20000 in
theorem ggX8_ask_X8_personAt : GoodIn wsX8_ask wsX8_personAt := goodIn_ca (goodIn_r _ [17, 18, 19, 20, 21, 22, 23, 24, 25, 26, 27, 28, 29, 30, 31, 32, 33, 34, 35, 36, 37, 38, 39, 40, 41, 42, 43, 44, 139, 140, 141, 142, 143, 144, 145, 174, 175, 176] (by decide +kernel) (by decide +kernel)) (goodIn_sub (fun _ h => List.mem_cons_of_mem _ (List.mem_append_right _ h)) (by decide +kernel))
set_option maxRecDepth 20000 in
theorem gX8_ask_X8_personAt : GoodIn wsX8_ask (wsV RX8 104 RX8 yX8_personAt wsX8_personAt) := goodIn_app (goodIn_of _ (by decide +kernel)) ggX8_ask_X8_personAt
set_option maxRecDepth 20000 in
theorem ggX8_ask_X8_landAt : GoodIn wsX8_ask wsX8_landAt := goodIn_ca (goodIn_r _ [48, 18, 19, 49, 50, 22, 23, 24, 25, 26, 27, 28, 29, 30, 31, 32, 33, 34, 35, 36, 37, 38, 39, 40, 41, 42, 43, 44, 139, 140, 141, 142, 143, 144, 145, 174, 175, 176] (by decide +kernel) (by decide +kernel)) (goodIn_sub (fun _ h => List.mem_cons_of_mem _ (List.mem_append_right _ h)) (by decide +kernel))
set_option maxRecDepth 20000 in
theorem gX8_ask_X8_landAt : GoodIn wsX8_ask (wsV RX8 69 RX8 yX8_landAt wsX8_landAt) := goodIn_app (goodIn_of _ (by decide +kernel)) ggX8_ask_X8_landAt
set_option maxRecDepth 20000 in
theorem ggX8_ask_Jx4a65c_size_8abf5 : GoodIn wsX8_ask wsJx4a65c_size_8abf5 := goodIn_r _ [26, 27, 174, 175, 176] (by decide +kernel) (by decide +kernel)
set_option maxRecDepth 20000 in
theorem gX8_ask_Jx4a65c_size_8abf5 : GoodIn wsX8_ask (wsV RX8 48 RJx4a65c yJx4a65c_size_8abf5 wsJx4a65c_size_8abf5) := goodIn_app (goodIn_of _ (by decide +kernel)) ggX8_ask_Jx4a65c_size_8abf5
set_option maxRecDepth 20000 in
theorem ggX8_ask_X3_isOf : GoodIn wsX8_ask wsX3_isOf := goodIn_r _ [55, 56, 57, 58, 59, 60, 61, 62, 154, 155, 156, 157, 158, 159, 160, 161, 162, 163, 164, 165, 166, 167, 168, 169, 170, 171, 172, 173] (by decide +kernel) (by decide +kernel)
set_option maxRecDepth 20000 in
theorem gX8_ask_X3_isOf : GoodIn wsX8_ask (wsV RX8 229 RX3 yX3_isOf wsX3_isOf) := goodIn_app (goodIn_of _ (by decide +kernel)) ggX8_ask_X3_isOf
set_option maxRecDepth 20000 in
theorem ggX8_ask_X8_hasOpenRequest : GoodIn wsX8_ask wsX8_hasOpenRequest := goodIn_r _ [66, 5, 67, 68, 9, 69, 10, 22, 23, 24, 25, 26, 27, 28, 29, 30, 31, 32, 33, 34, 35, 36, 37, 38, 39, 40, 41, 42, 43, 44, 70, 71, 72, 8, 73, 74, 139, 140, 141, 142, 143, 144, 145, 146, 147, 148, 149, 150, 151, 152, 153, 154, 155, 156, 157, 158, 159, 160, 161, 162, 163, 164, 165, 166, 167, 168, 169, 170, 171, 172, 173, 174, 175, 176] (by decide +kernel) (by decide +kernel)
set_option maxRecDepth 20000 in
theorem gX8_ask_X8_hasOpenRequest : GoodIn wsX8_ask (wsV RX8 233 RX8 yX8_hasOpenRequest wsX8_hasOpenRequest) := goodIn_app (goodIn_of _ (by decide +kernel)) ggX8_ask_X8_hasOpenRequest
set_option maxRecDepth 20000 in
theorem ggX8_ask_X4_init : GoodIn wsX8_ask wsX4_init := goodIn_r _ [77, 78, 79, 80, 74, 81, 82, 83, 84, 85, 146, 147, 148, 149, 150, 151, 152, 153] (by decide +kernel) (by decide +kernel)
set_option maxRecDepth 20000 in
theorem gX8_ask_X4_init : GoodIn wsX8_ask (wsX4_init) := ggX8_ask_X4_init
set_option maxRecDepth 20000 in
theorem ggX8_ask_Jx4a65c_add_9ea2d : GoodIn wsX8_ask wsJx4a65c_add_9ea2d := goodIn_r _ [89, 90, 91, 44, 27, 92, 93, 94, 25, 95, 96, 97, 98, 99, 100, 101, 102, 103, 104, 105, 106, 107, 108, 109, 110, 111, 112, 113, 114, 115, 116, 117, 118, 119, 120, 121, 122, 123, 124, 125, 126, 127, 128, 129, 130, 131, 132, 133, 134, 135, 136, 137, 138, 174, 175, 176] (by decide +kernel) (by decide +kernel)
set_option maxRecDepth 20000 in
theorem gX8_ask_Jx4a65c_add_9ea2d : GoodIn wsX8_ask (wsV RX8 62 RJx4a65c yJx4a65c_add_9ea2d wsJx4a65c_add_9ea2d) := goodIn_app (goodIn_of _ (by decide +kernel)) ggX8_ask_Jx4a65c_add_9ea2d
theorem dX8_ask_0 : decode cX8_ask 0 = .ok (.aload_n 0, 1) := by decide +kernel
theorem dX8_ask_1 : decode cX8_ask 1 = .ok (.iload_n 1, 1) := by decide +kernel
theorem dX8_ask_2 : decode cX8_ask 2 = .ok (.invokevirtual 104, 3) := by decide +kernel
theorem dX8_ask_5 : decode cX8_ask 5 = .ok (.astore 4, 2) := by decide +kernel
theorem dX8_ask_7 : decode cX8_ask 7 = .ok (.aload_n 0, 1) := by decide +kernel
theorem dX8_ask_8 : decode cX8_ask 8 = .ok (.iload_n 2, 1) := by decide +kernel
theorem dX8_ask_9 : decode cX8_ask 9 = .ok (.invokevirtual 69, 3) := by decide +kernel
theorem dX8_ask_12 : decode cX8_ask 12 = .ok (.astore 5, 2) := by decide +kernel
theorem dX8_ask_14 : decode cX8_ask 14 = .ok (.iload_n 3, 1) := by decide +kernel
theorem dX8_ask_15 : decode cX8_ask 15 = .ok (.ifCond .lt 8, 3) := by decide +kernel
theorem dX8_ask_18 : decode cX8_ask 18 = .ok (.iload_n 3, 1) := by decide +kernel
theorem dX8_ask_19 : decode cX8_ask 19 = .ok (.iconst 3, 1) := by decide +kernel
theorem dX8_ask_20 : decode cX8_ask 20 = .ok (.if_icmp .lt 13, 3) := by decide +kernel
theorem dX8_ask_23 : decode cX8_ask 23 = .ok (.new 41, 3) := by decide +kernel
theorem dX8_ask_26 : decode cX8_ask 26 = .ok (.dup, 1) := by decide +kernel
theorem dX8_ask_27 : decode cX8_ask 27 = .ok (.ldc 227, 2) := by decide +kernel
theorem dX8_ask_29 : decode cX8_ask 29 = .ok (.invokespecial 45, 3) := by decide +kernel
theorem dX8_ask_32 : decode cX8_ask 32 = .ok (.athrow, 1) := by decide +kernel
theorem dX8_ask_33 : decode cX8_ask 33 = .ok (.aload_n 0, 1) := by decide +kernel
theorem dX8_ask_34 : decode cX8_ask 34 = .ok (.getfield 22, 3) := by decide +kernel
theorem dX8_ask_37 : decode cX8_ask 37 = .ok (.invokevirtual 48, 3) := by decide +kernel
theorem dX8_ask_40 : decode cX8_ask 40 = .ok (.bipush 40, 2) := by decide +kernel
theorem dX8_ask_42 : decode cX8_ask 42 = .ok (.if_icmp .ge 24, 3) := by decide +kernel
theorem dX8_ask_45 : decode cX8_ask 45 = .ok (.aload 4, 2) := by decide +kernel
theorem dX8_ask_47 : decode cX8_ask 47 = .ok (.aload 5, 2) := by decide +kernel
theorem dX8_ask_49 : decode cX8_ask 49 = .ok (.invokevirtual 229, 3) := by decide +kernel
theorem dX8_ask_52 : decode cX8_ask 52 = .ok (.ifCond .ne 14, 3) := by decide +kernel
theorem dX8_ask_55 : decode cX8_ask 55 = .ok (.aload_n 0, 1) := by decide +kernel
theorem dX8_ask_56 : decode cX8_ask 56 = .ok (.aload 4, 2) := by decide +kernel
theorem dX8_ask_58 : decode cX8_ask 58 = .ok (.aload 5, 2) := by decide +kernel
theorem dX8_ask_60 : decode cX8_ask 60 = .ok (.invokevirtual 233, 3) := by decide +kernel
theorem dX8_ask_63 : decode cX8_ask 63 = .ok (.ifCond .eq 13, 3) := by decide +kernel
theorem dX8_ask_66 : decode cX8_ask 66 = .ok (.new 52, 3) := by decide +kernel
theorem dX8_ask_69 : decode cX8_ask 69 = .ok (.dup, 1) := by decide +kernel
theorem dX8_ask_70 : decode cX8_ask 70 = .ok (.ldc 236, 2) := by decide +kernel
theorem dX8_ask_72 : decode cX8_ask 72 = .ok (.invokespecial 56, 3) := by decide +kernel
theorem dX8_ask_75 : decode cX8_ask 75 = .ok (.athrow, 1) := by decide +kernel
theorem dX8_ask_76 : decode cX8_ask 76 = .ok (.new 238, 3) := by decide +kernel
theorem dX8_ask_79 : decode cX8_ask 79 = .ok (.dup, 1) := by decide +kernel
theorem dX8_ask_80 : decode cX8_ask 80 = .ok (.aload_n 0, 1) := by decide +kernel
theorem dX8_ask_81 : decode cX8_ask 81 = .ok (.getfield 22, 3) := by decide +kernel
theorem dX8_ask_84 : decode cX8_ask 84 = .ok (.invokevirtual 48, 3) := by decide +kernel
theorem dX8_ask_87 : decode cX8_ask 87 = .ok (.aload 4, 2) := by decide +kernel
theorem dX8_ask_89 : decode cX8_ask 89 = .ok (.getfield 101, 3) := by decide +kernel
theorem dX8_ask_92 : decode cX8_ask 92 = .ok (.aload 5, 2) := by decide +kernel
theorem dX8_ask_94 : decode cX8_ask 94 = .ok (.getfield 66, 3) := by decide +kernel
theorem dX8_ask_97 : decode cX8_ask 97 = .ok (.iload_n 3, 1) := by decide +kernel
theorem dX8_ask_98 : decode cX8_ask 98 = .ok (.aload_n 0, 1) := by decide +kernel
theorem dX8_ask_99 : decode cX8_ask 99 = .ok (.getfield 37, 3) := by decide +kernel
theorem dX8_ask_102 : decode cX8_ask 102 = .ok (.invokespecial 240, 3) := by decide +kernel
theorem dX8_ask_105 : decode cX8_ask 105 = .ok (.astore 6, 2) := by decide +kernel
theorem dX8_ask_107 : decode cX8_ask 107 = .ok (.aload_n 0, 1) := by decide +kernel
theorem dX8_ask_108 : decode cX8_ask 108 = .ok (.getfield 22, 3) := by decide +kernel
theorem dX8_ask_111 : decode cX8_ask 111 = .ok (.aload 6, 2) := by decide +kernel
theorem dX8_ask_113 : decode cX8_ask 113 = .ok (.invokevirtual 62, 3) := by decide +kernel
theorem dX8_ask_116 : decode cX8_ask 116 = .ok (.pop, 1) := by decide +kernel
theorem dX8_ask_117 : decode cX8_ask 117 = .ok (.aload 6, 2) := by decide +kernel
theorem dX8_ask_119 : decode cX8_ask 119 = .ok (.getfield 243, 3) := by decide +kernel
theorem dX8_ask_122 : decode cX8_ask 122 = .ok (.ireturn, 1) := by decide +kernel
set_option maxRecDepth 20000 in
theorem ggX8_join_X8_requestAt : GoodIn wsX8_join wsX8_requestAt := goodIn_ca (goodIn_r _ [11, 12, 13, 14, 15, 16, 17, 18, 19, 20, 21, 22, 23, 24, 25, 26, 27, 28, 29, 30, 31, 32, 33, 34, 35, 36, 37, 38, 95, 96, 97, 98, 99, 100, 101, 102, 103, 104] (by decide +kernel) (by decide +kernel)) (goodIn_sub (fun _ h => List.mem_cons_of_mem _ (List.mem_append_right _ h)) (by decide +kernel))
set_option maxRecDepth 20000 in
theorem gX8_join_X8_requestAt : GoodIn wsX8_join (wsV RX8 244 RX8 yX8_requestAt wsX8_requestAt) := goodIn_app (goodIn_of _ (by decide +kernel)) ggX8_join_X8_requestAt
set_option maxRecDepth 20000 in
theorem ggX8_join_X8_personAt : GoodIn wsX8_join wsX8_personAt := goodIn_ca (goodIn_r _ [42, 12, 13, 43, 44, 16, 17, 18, 19, 20, 21, 22, 23, 24, 25, 26, 27, 28, 29, 30, 31, 32, 33, 34, 35, 36, 37, 38, 95, 96, 97, 98, 99, 100, 101, 102, 103, 104] (by decide +kernel) (by decide +kernel)) (goodIn_sub (fun _ h => List.mem_cons_of_mem _ (List.mem_append_right _ h)) (by decide +kernel))
set_option maxRecDepth 20000 in
theorem gX8_join_X8_personAt : GoodIn wsX8_join (wsV RX8 104 RX8 yX8_personAt wsX8_personAt) := goodIn_app (goodIn_of _ (by decide +kernel)) ggX8_join_X8_personAt
set_option maxRecDepth 20000 in
theorem ggX8_join_X8_refuseUnless : GoodIn wsX8_join wsX8_refuseUnless := goodIn_ca (goodIn_r _ [48, 1, 2] (by decide +kernel) (by decide +kernel)) (goodIn_sub (fun _ h => List.mem_cons_of_mem _ (List.mem_append_left _ (List.mem_append_right _ h))) (by decide +kernel))
set_option maxRecDepth 20000 in
theorem gX8_join_X8_refuseUnless : GoodIn wsX8_join (wsV RX8 251 RX8 yX8_refuseUnless wsX8_refuseUnless) := goodIn_app (goodIn_of _ (by decide +kernel)) ggX8_join_X8_refuseUnless
set_option maxRecDepth 20000 in
theorem ggX8_join_X4_isFollowedBy : GoodIn wsX8_join wsX4_isFollowedBy := goodIn_r _ [53, 54, 74, 75, 76, 77, 78, 79, 80, 81] (by decide +kernel) (by decide +kernel)
set_option maxRecDepth 20000 in
theorem gX8_join_X4_isFollowedBy : GoodIn wsX8_join (wsV RX8 258 RX4 yX4_isFollowedBy wsX4_isFollowedBy) := goodIn_app (goodIn_of _ (by decide +kernel)) ggX8_join_X4_isFollowedBy
set_option maxRecDepth 20000 in
theorem ggX8_join_X4_countFollowers : GoodIn wsX8_join wsX4_countFollowers := goodIn_r _ [58, 54, 59, 60, 61, 62, 63, 64, 65, 74, 75, 76, 77, 78, 79, 80, 81] (by decide +kernel) (by decide +kernel)
set_option maxRecDepth 20000 in
theorem gX8_join_X4_countFollowers : GoodIn wsX8_join (wsV RX8 261 RX4 yX4_countFollowers wsX4_countFollowers) := goodIn_app (goodIn_of _ (by decide +kernel)) ggX8_join_X4_countFollowers
set_option maxRecDepth 20000 in
theorem ggX8_join_X8_isTooOldFor : GoodIn wsX8_join wsX8_isTooOldFor := goodIn_r _ [69, 70, 4, 71, 72, 73, 82, 83, 84, 85, 86, 87, 88, 89, 90, 91, 92, 93, 94, 74, 75, 76, 77, 78, 79, 80, 81] (by decide +kernel) (by decide +kernel)
set_option maxRecDepth 20000 in
theorem gX8_join_X8_isTooOldFor : GoodIn wsX8_join (wsV RX8 264 RX8 yX8_isTooOldFor wsX8_isTooOldFor) := goodIn_app (goodIn_of _ (by decide +kernel)) ggX8_join_X8_isTooOldFor
theorem dX8_join_0 : decode cX8_join 0 = .ok (.aload_n 0, 1) := by decide +kernel
theorem dX8_join_1 : decode cX8_join 1 = .ok (.iload_n 1, 1) := by decide +kernel
theorem dX8_join_2 : decode cX8_join 2 = .ok (.invokevirtual 244, 3) := by decide +kernel
theorem dX8_join_5 : decode cX8_join 5 = .ok (.astore_n 3, 1) := by decide +kernel
theorem dX8_join_6 : decode cX8_join 6 = .ok (.aload_n 0, 1) := by decide +kernel
theorem dX8_join_7 : decode cX8_join 7 = .ok (.iload_n 2, 1) := by decide +kernel
theorem dX8_join_8 : decode cX8_join 8 = .ok (.invokevirtual 104, 3) := by decide +kernel
theorem dX8_join_11 : decode cX8_join 11 = .ok (.astore 4, 2) := by decide +kernel
theorem dX8_join_13 : decode cX8_join 13 = .ok (.aload_n 0, 1) := by decide +kernel
theorem dX8_join_14 : decode cX8_join 14 = .ok (.aload_n 3, 1) := by decide +kernel
theorem dX8_join_15 : decode cX8_join 15 = .ok (.getfield 248, 3) := by decide +kernel
theorem dX8_join_18 : decode cX8_join 18 = .ok (.ifCond .ne 7, 3) := by decide +kernel
theorem dX8_join_21 : decode cX8_join 21 = .ok (.iconst 1, 1) := by decide +kernel
theorem dX8_join_22 : decode cX8_join 22 = .ok (.goto 4, 3) := by decide +kernel
theorem dX8_join_25 : decode cX8_join 25 = .ok (.iconst 0, 1) := by decide +kernel
theorem dX8_join_26 : decode cX8_join 26 = .ok (.invokevirtual 251, 3) := by decide +kernel
theorem dX8_join_29 : decode cX8_join 29 = .ok (.aload_n 3, 1) := by decide +kernel
theorem dX8_join_30 : decode cX8_join 30 = .ok (.getfield 255, 3) := by decide +kernel
theorem dX8_join_33 : decode cX8_join 33 = .ok (.aload 4, 2) := by decide +kernel
theorem dX8_join_35 : decode cX8_join 35 = .ok (.getfield 101, 3) := by decide +kernel
theorem dX8_join_38 : decode cX8_join 38 = .ok (.if_icmp .eq 33, 3) := by decide +kernel
theorem dX8_join_41 : decode cX8_join 41 = .ok (.aload_n 3, 1) := by decide +kernel
theorem dX8_join_42 : decode cX8_join 42 = .ok (.aload 4, 2) := by decide +kernel
theorem dX8_join_44 : decode cX8_join 44 = .ok (.getfield 101, 3) := by decide +kernel
theorem dX8_join_47 : decode cX8_join 47 = .ok (.invokevirtual 258, 3) := by decide +kernel
theorem dX8_join_50 : decode cX8_join 50 = .ok (.ifCond .ne 21, 3) := by decide +kernel
theorem dX8_join_53 : decode cX8_join 53 = .ok (.aload_n 3, 1) := by decide +kernel
theorem dX8_join_54 : decode cX8_join 54 = .ok (.invokevirtual 261, 3) := by decide +kernel
theorem dX8_join_57 : decode cX8_join 57 = .ok (.iconst 3, 1) := by decide +kernel
theorem dX8_join_58 : decode cX8_join 58 = .ok (.if_icmp .ge 13, 3) := by decide +kernel
theorem dX8_join_61 : decode cX8_join 61 = .ok (.aload_n 0, 1) := by decide +kernel
theorem dX8_join_62 : decode cX8_join 62 = .ok (.aload_n 3, 1) := by decide +kernel
theorem dX8_join_63 : decode cX8_join 63 = .ok (.aload 4, 2) := by decide +kernel
theorem dX8_join_65 : decode cX8_join 65 = .ok (.invokevirtual 264, 3) := by decide +kernel
theorem dX8_join_68 : decode cX8_join 68 = .ok (.ifCond .eq 14, 3) := by decide +kernel
theorem dX8_join_71 : decode cX8_join 71 = .ok (.new 52, 3) := by decide +kernel
theorem dX8_join_74 : decode cX8_join 74 = .ok (.dup, 1) := by decide +kernel
theorem dX8_join_75 : decode cX8_join 75 = .ok (.ldc_w 268, 3) := by decide +kernel
theorem dX8_join_78 : decode cX8_join 78 = .ok (.invokespecial 56, 3) := by decide +kernel
theorem dX8_join_81 : decode cX8_join 81 = .ok (.athrow, 1) := by decide +kernel
theorem dX8_join_82 : decode cX8_join 82 = .ok (.aload_n 3, 1) := by decide +kernel
theorem dX8_join_83 : decode cX8_join 83 = .ok (.dup, 1) := by decide +kernel
theorem dX8_join_84 : decode cX8_join 84 = .ok (.getfield 270, 3) := by decide +kernel
theorem dX8_join_87 : decode cX8_join 87 = .ok (.iconst 1, 1) := by decide +kernel
theorem dX8_join_88 : decode cX8_join 88 = .ok (.aload 4, 2) := by decide +kernel
theorem dX8_join_90 : decode cX8_join 90 = .ok (.getfield 101, 3) := by decide +kernel
theorem dX8_join_93 : decode cX8_join 93 = .ok (.ishl, 1) := by decide +kernel
theorem dX8_join_94 : decode cX8_join 94 = .ok (.ior, 1) := by decide +kernel
theorem dX8_join_95 : decode cX8_join 95 = .ok (.putfield 270, 3) := by decide +kernel
theorem dX8_join_98 : decode cX8_join 98 = .ok (.aload_n 3, 1) := by decide +kernel
theorem dX8_join_99 : decode cX8_join 99 = .ok (.invokevirtual 261, 3) := by decide +kernel
theorem dX8_join_102 : decode cX8_join 102 = .ok (.ireturn, 1) := by decide +kernel
set_option maxRecDepth 20000 in
theorem ggX8_refuse_X8_requestAt : GoodIn wsX8_refuse wsX8_requestAt := goodIn_ca (goodIn_r _ [8, 9, 10, 11, 12, 13, 14, 15, 16, 17, 18, 19, 20, 21, 22, 23, 24, 25, 26, 27, 28, 29, 30, 31, 32, 33, 34, 35, 50, 51, 52, 53, 54, 55, 56, 57, 58, 59] (by decide +kernel) (by decide +kernel)) (goodIn_sub (fun _ h => List.mem_cons_of_mem _ (List.mem_append_left _ (List.mem_append_right _ h))) (by decide +kernel))
set_option maxRecDepth 20000 in
theorem gX8_refuse_X8_requestAt : GoodIn wsX8_refuse (wsV RX8 244 RX8 yX8_requestAt wsX8_requestAt) := goodIn_app (goodIn_of _ (by decide +kernel)) ggX8_refuse_X8_requestAt
set_option maxRecDepth 20000 in
theorem ggX8_refuse_X8_refuseUnless : GoodIn wsX8_refuse wsX8_refuseUnless := goodIn_ca (goodIn_r _ [39, 40, 41] (by decide +kernel) (by decide +kernel)) (goodIn_sub (fun _ h => List.mem_cons_of_mem _ (List.mem_append_right _ h)) (by decide +kernel))
set_option maxRecDepth 20000 in
theorem gX8_refuse_X8_refuseUnless : GoodIn wsX8_refuse (wsV RX8 251 RX8 yX8_refuseUnless wsX8_refuseUnless) := goodIn_app (goodIn_of _ (by decide +kernel)) ggX8_refuse_X8_refuseUnless
theorem dX8_refuse_0 : decode cX8_refuse 0 = .ok (.aload_n 0, 1) := by decide +kernel
theorem dX8_refuse_1 : decode cX8_refuse 1 = .ok (.iload_n 1, 1) := by decide +kernel
theorem dX8_refuse_2 : decode cX8_refuse 2 = .ok (.invokevirtual 244, 3) := by decide +kernel
theorem dX8_refuse_5 : decode cX8_refuse 5 = .ok (.astore_n 2, 1) := by decide +kernel
theorem dX8_refuse_6 : decode cX8_refuse 6 = .ok (.aload_n 0, 1) := by decide +kernel
theorem dX8_refuse_7 : decode cX8_refuse 7 = .ok (.aload_n 2, 1) := by decide +kernel
theorem dX8_refuse_8 : decode cX8_refuse 8 = .ok (.getfield 248, 3) := by decide +kernel
theorem dX8_refuse_11 : decode cX8_refuse 11 = .ok (.ifCond .ne 7, 3) := by decide +kernel
theorem dX8_refuse_14 : decode cX8_refuse 14 = .ok (.iconst 1, 1) := by decide +kernel
theorem dX8_refuse_15 : decode cX8_refuse 15 = .ok (.goto 4, 3) := by decide +kernel
theorem dX8_refuse_18 : decode cX8_refuse 18 = .ok (.iconst 0, 1) := by decide +kernel
theorem dX8_refuse_19 : decode cX8_refuse 19 = .ok (.invokevirtual 251, 3) := by decide +kernel
theorem dX8_refuse_22 : decode cX8_refuse 22 = .ok (.aload_n 2, 1) := by decide +kernel
theorem dX8_refuse_23 : decode cX8_refuse 23 = .ok (.iconst 2, 1) := by decide +kernel
theorem dX8_refuse_24 : decode cX8_refuse 24 = .ok (.putfield 248, 3) := by decide +kernel
theorem dX8_refuse_27 : decode cX8_refuse 27 = .ok (.aload_n 2, 1) := by decide +kernel
theorem dX8_refuse_28 : decode cX8_refuse 28 = .ok (.aload_n 0, 1) := by decide +kernel
theorem dX8_refuse_29 : decode cX8_refuse 29 = .ok (.getfield 37, 3) := by decide +kernel
theorem dX8_refuse_32 : decode cX8_refuse 32 = .ok (.bipush 30, 2) := by decide +kernel
theorem dX8_refuse_34 : decode cX8_refuse 34 = .ok (.iadd, 1) := by decide +kernel
theorem dX8_refuse_35 : decode cX8_refuse 35 = .ok (.putfield 273, 3) := by decide +kernel
theorem dX8_refuse_38 : decode cX8_refuse 38 = .ok (.aload_n 2, 1) := by decide +kernel
theorem dX8_refuse_39 : decode cX8_refuse 39 = .ok (.getfield 273, 3) := by decide +kernel
theorem dX8_refuse_42 : decode cX8_refuse 42 = .ok (.ireturn, 1) := by decide +kernel
set_option maxRecDepth 20000 in
theorem ggX8_appeal_X8_requestAt : GoodIn wsX8_appeal wsX8_requestAt := goodIn_ca (goodIn_r _ [8, 9, 10, 11, 12, 13, 14, 15, 16, 17, 18, 19, 20, 21, 22, 23, 24, 25, 26, 27, 28, 29, 30, 31, 32, 33, 34, 35, 50, 51, 52, 53, 54, 55, 56, 57, 58, 59] (by decide +kernel) (by decide +kernel)) (goodIn_sub (fun _ h => List.mem_cons_of_mem _ (List.mem_append_left _ (List.mem_append_right _ h))) (by decide +kernel))
set_option maxRecDepth 20000 in
theorem gX8_appeal_X8_requestAt : GoodIn wsX8_appeal (wsV RX8 244 RX8 yX8_requestAt wsX8_requestAt) := goodIn_app (goodIn_of _ (by decide +kernel)) ggX8_appeal_X8_requestAt
set_option maxRecDepth 20000 in
theorem ggX8_appeal_X8_refuseUnless : GoodIn wsX8_appeal wsX8_refuseUnless := goodIn_ca (goodIn_r _ [39, 40, 41] (by decide +kernel) (by decide +kernel)) (goodIn_sub (fun _ h => List.mem_cons_of_mem _ (List.mem_append_right _ h)) (by decide +kernel))
set_option maxRecDepth 20000 in
theorem gX8_appeal_X8_refuseUnless : GoodIn wsX8_appeal (wsV RX8 251 RX8 yX8_refuseUnless wsX8_refuseUnless) := goodIn_app (goodIn_of _ (by decide +kernel)) ggX8_appeal_X8_refuseUnless
theorem dX8_appeal_0 : decode cX8_appeal 0 = .ok (.aload_n 0, 1) := by decide +kernel
theorem dX8_appeal_1 : decode cX8_appeal 1 = .ok (.iload_n 1, 1) := by decide +kernel
theorem dX8_appeal_2 : decode cX8_appeal 2 = .ok (.invokevirtual 244, 3) := by decide +kernel
theorem dX8_appeal_5 : decode cX8_appeal 5 = .ok (.astore_n 2, 1) := by decide +kernel
theorem dX8_appeal_6 : decode cX8_appeal 6 = .ok (.aload_n 0, 1) := by decide +kernel
theorem dX8_appeal_7 : decode cX8_appeal 7 = .ok (.aload_n 2, 1) := by decide +kernel
theorem dX8_appeal_8 : decode cX8_appeal 8 = .ok (.getfield 248, 3) := by decide +kernel
theorem dX8_appeal_11 : decode cX8_appeal 11 = .ok (.iconst 2, 1) := by decide +kernel
theorem dX8_appeal_12 : decode cX8_appeal 12 = .ok (.if_icmp .ne 7, 3) := by decide +kernel
theorem dX8_appeal_15 : decode cX8_appeal 15 = .ok (.iconst 1, 1) := by decide +kernel
theorem dX8_appeal_16 : decode cX8_appeal 16 = .ok (.goto 4, 3) := by decide +kernel
theorem dX8_appeal_19 : decode cX8_appeal 19 = .ok (.iconst 0, 1) := by decide +kernel
theorem dX8_appeal_20 : decode cX8_appeal 20 = .ok (.invokevirtual 251, 3) := by decide +kernel
theorem dX8_appeal_23 : decode cX8_appeal 23 = .ok (.aload_n 2, 1) := by decide +kernel
theorem dX8_appeal_24 : decode cX8_appeal 24 = .ok (.iconst 3, 1) := by decide +kernel
theorem dX8_appeal_25 : decode cX8_appeal 25 = .ok (.putfield 248, 3) := by decide +kernel
theorem dX8_appeal_28 : decode cX8_appeal 28 = .ok (.aload_n 2, 1) := by decide +kernel
theorem dX8_appeal_29 : decode cX8_appeal 29 = .ok (.aload_n 0, 1) := by decide +kernel
theorem dX8_appeal_30 : decode cX8_appeal 30 = .ok (.getfield 37, 3) := by decide +kernel
theorem dX8_appeal_33 : decode cX8_appeal 33 = .ok (.bipush 60, 2) := by decide +kernel
theorem dX8_appeal_35 : decode cX8_appeal 35 = .ok (.iadd, 1) := by decide +kernel
theorem dX8_appeal_36 : decode cX8_appeal 36 = .ok (.putfield 273, 3) := by decide +kernel
theorem dX8_appeal_39 : decode cX8_appeal 39 = .ok (.aload_n 2, 1) := by decide +kernel
theorem dX8_appeal_40 : decode cX8_appeal 40 = .ok (.getfield 273, 3) := by decide +kernel
theorem dX8_appeal_43 : decode cX8_appeal 43 = .ok (.ireturn, 1) := by decide +kernel
set_option maxRecDepth 20000 in
theorem ggX8_judge_X8_requestAt : GoodIn wsX8_judge wsX8_requestAt := goodIn_ca (goodIn_r _ [6, 7, 8, 9, 10, 11, 12, 13, 14, 15, 16, 17, 18, 19, 20, 21, 22, 23, 24, 25, 26, 27, 28, 29, 30, 31, 32, 33, 48, 49, 50, 51, 52, 53, 54, 55, 56, 57] (by decide +kernel) (by decide +kernel)) (goodIn_sub (fun _ h => List.mem_cons_of_mem _ (List.mem_append_left _ (List.mem_append_right _ h))) (by decide +kernel))
set_option maxRecDepth 20000 in
theorem gX8_judge_X8_requestAt : GoodIn wsX8_judge (wsV RX8 244 RX8 yX8_requestAt wsX8_requestAt) := goodIn_app (goodIn_of _ (by decide +kernel)) ggX8_judge_X8_requestAt
set_option maxRecDepth 20000 in
theorem ggX8_judge_X8_refuseUnless : GoodIn wsX8_judge wsX8_refuseUnless := goodIn_ca (goodIn_r _ [37, 38, 39] (by decide +kernel) (by decide +kernel)) (goodIn_sub (fun _ h => List.mem_cons_of_mem _ (List.mem_append_right _ h)) (by decide +kernel))
set_option maxRecDepth 20000 in
theorem gX8_judge_X8_refuseUnless : GoodIn wsX8_judge (wsV RX8 251 RX8 yX8_refuseUnless wsX8_refuseUnless) := goodIn_app (goodIn_of _ (by decide +kernel)) ggX8_judge_X8_refuseUnless
theorem dX8_judge_0 : decode cX8_judge 0 = .ok (.aload_n 0, 1) := by decide +kernel
theorem dX8_judge_1 : decode cX8_judge 1 = .ok (.iload_n 1, 1) := by decide +kernel
theorem dX8_judge_2 : decode cX8_judge 2 = .ok (.invokevirtual 244, 3) := by decide +kernel
theorem dX8_judge_5 : decode cX8_judge 5 = .ok (.astore_n 3, 1) := by decide +kernel
theorem dX8_judge_6 : decode cX8_judge 6 = .ok (.aload_n 0, 1) := by decide +kernel
theorem dX8_judge_7 : decode cX8_judge 7 = .ok (.aload_n 3, 1) := by decide +kernel
theorem dX8_judge_8 : decode cX8_judge 8 = .ok (.getfield 248, 3) := by decide +kernel
theorem dX8_judge_11 : decode cX8_judge 11 = .ok (.iconst 3, 1) := by decide +kernel
theorem dX8_judge_12 : decode cX8_judge 12 = .ok (.if_icmp .ne 7, 3) := by decide +kernel
theorem dX8_judge_15 : decode cX8_judge 15 = .ok (.iconst 1, 1) := by decide +kernel
theorem dX8_judge_16 : decode cX8_judge 16 = .ok (.goto 4, 3) := by decide +kernel
theorem dX8_judge_19 : decode cX8_judge 19 = .ok (.iconst 0, 1) := by decide +kernel
theorem dX8_judge_20 : decode cX8_judge 20 = .ok (.invokevirtual 251, 3) := by decide +kernel
theorem dX8_judge_23 : decode cX8_judge 23 = .ok (.aload_n 3, 1) := by decide +kernel
theorem dX8_judge_24 : decode cX8_judge 24 = .ok (.iload_n 2, 1) := by decide +kernel
theorem dX8_judge_25 : decode cX8_judge 25 = .ok (.ifCond .eq 7, 3) := by decide +kernel
theorem dX8_judge_28 : decode cX8_judge 28 = .ok (.iconst 0, 1) := by decide +kernel
theorem dX8_judge_29 : decode cX8_judge 29 = .ok (.goto 4, 3) := by decide +kernel
theorem dX8_judge_32 : decode cX8_judge 32 = .ok (.iconst 4, 1) := by decide +kernel
theorem dX8_judge_33 : decode cX8_judge 33 = .ok (.putfield 248, 3) := by decide +kernel
theorem dX8_judge_36 : decode cX8_judge 36 = .ok (.aload_n 3, 1) := by decide +kernel
theorem dX8_judge_37 : decode cX8_judge 37 = .ok (.getfield 248, 3) := by decide +kernel
theorem dX8_judge_40 : decode cX8_judge 40 = .ok (.ireturn, 1) := by decide +kernel
set_option maxRecDepth 20000 in
theorem ggX8_withdraw_X8_requestAt : GoodIn wsX8_withdraw wsX8_requestAt := goodIn_ca (goodIn_r _ [8, 9, 10, 11, 12, 13, 14, 15, 16, 17, 18, 19, 20, 21, 22, 23, 24, 25, 26, 27, 28, 29, 30, 31, 32, 33, 34, 35, 50, 51, 52, 53, 54, 55, 56, 57, 58, 59] (by decide +kernel) (by decide +kernel)) (goodIn_sub (fun _ h => List.mem_cons_of_mem _ (List.mem_append_left _ (List.mem_append_right _ h))) (by decide +kernel))
set_option maxRecDepth 20000 in
theorem gX8_withdraw_X8_requestAt : GoodIn wsX8_withdraw (wsV RX8 244 RX8 yX8_requestAt wsX8_requestAt) := goodIn_app (goodIn_of _ (by decide +kernel)) ggX8_withdraw_X8_requestAt
set_option maxRecDepth 20000 in
theorem ggX8_withdraw_X8_refuseUnless : GoodIn wsX8_withdraw wsX8_refuseUnless := goodIn_ca (goodIn_r _ [39, 40, 41] (by decide +kernel) (by decide +kernel)) (goodIn_sub (fun _ h => List.mem_cons_of_mem _ (List.mem_append_right _ h)) (by decide +kernel))
set_option maxRecDepth 20000 in
theorem gX8_withdraw_X8_refuseUnless : GoodIn wsX8_withdraw (wsV RX8 251 RX8 yX8_refuseUnless wsX8_refuseUnless) := goodIn_app (goodIn_of _ (by decide +kernel)) ggX8_withdraw_X8_refuseUnless
theorem dX8_withdraw_0 : decode cX8_withdraw 0 = .ok (.aload_n 0, 1) := by decide +kernel
theorem dX8_withdraw_1 : decode cX8_withdraw 1 = .ok (.iload_n 1, 1) := by decide +kernel
theorem dX8_withdraw_2 : decode cX8_withdraw 2 = .ok (.invokevirtual 244, 3) := by decide +kernel
theorem dX8_withdraw_5 : decode cX8_withdraw 5 = .ok (.astore_n 2, 1) := by decide +kernel
theorem dX8_withdraw_6 : decode cX8_withdraw 6 = .ok (.aload_n 0, 1) := by decide +kernel
theorem dX8_withdraw_7 : decode cX8_withdraw 7 = .ok (.aload_n 2, 1) := by decide +kernel
theorem dX8_withdraw_8 : decode cX8_withdraw 8 = .ok (.getfield 248, 3) := by decide +kernel
theorem dX8_withdraw_11 : decode cX8_withdraw 11 = .ok (.ifCond .ne 7, 3) := by decide +kernel
theorem dX8_withdraw_14 : decode cX8_withdraw 14 = .ok (.iconst 1, 1) := by decide +kernel
theorem dX8_withdraw_15 : decode cX8_withdraw 15 = .ok (.goto 4, 3) := by decide +kernel
theorem dX8_withdraw_18 : decode cX8_withdraw 18 = .ok (.iconst 0, 1) := by decide +kernel
theorem dX8_withdraw_19 : decode cX8_withdraw 19 = .ok (.invokevirtual 251, 3) := by decide +kernel
theorem dX8_withdraw_22 : decode cX8_withdraw 22 = .ok (.aload_n 2, 1) := by decide +kernel
theorem dX8_withdraw_23 : decode cX8_withdraw 23 = .ok (.iconst 4, 1) := by decide +kernel
theorem dX8_withdraw_24 : decode cX8_withdraw 24 = .ok (.putfield 248, 3) := by decide +kernel
theorem dX8_withdraw_27 : decode cX8_withdraw 27 = .ok (.aload_n 0, 1) := by decide +kernel
theorem dX8_withdraw_28 : decode cX8_withdraw 28 = .ok (.getfield 37, 3) := by decide +kernel
theorem dX8_withdraw_31 : decode cX8_withdraw 31 = .ok (.aload_n 2, 1) := by decide +kernel
theorem dX8_withdraw_32 : decode cX8_withdraw 32 = .ok (.getfield 276, 3) := by decide +kernel
theorem dX8_withdraw_35 : decode cX8_withdraw 35 = .ok (.isub, 1) := by decide +kernel
theorem dX8_withdraw_36 : decode cX8_withdraw 36 = .ok (.ireturn, 1) := by decide +kernel
set_option maxRecDepth 20000 in
theorem ggX8_extend_X8_personAt : GoodIn wsX8_extend wsX8_personAt := goodIn_ca (goodIn_r _ [11, 12, 13, 14, 15, 16, 17, 18, 19, 20, 21, 22, 23, 24, 25, 26, 27, 28, 29, 30, 31, 32, 33, 34, 35, 36, 37, 38, 96, 97, 98, 99, 100, 101, 102, 105, 106, 107] (by decide +kernel) (by decide +kernel)) (goodIn_sub (fun _ h => List.mem_cons_of_mem _ (List.mem_append_right _ h)) (by decide +kernel))
set_option maxRecDepth 20000 in
theorem gX8_extend_X8_personAt : GoodIn wsX8_extend (wsV RX8 104 RX8 yX8_personAt wsX8_personAt) := goodIn_app (goodIn_of _ (by decide +kernel)) ggX8_extend_X8_personAt
set_option maxRecDepth 20000 in
theorem ggX8_extend_X8_landAt : GoodIn wsX8_extend wsX8_landAt := goodIn_ca (goodIn_r _ [42, 12, 13, 43, 44, 16, 17, 18, 19, 20, 21, 22, 23, 24, 25, 26, 27, 28, 29, 30, 31, 32, 33, 34, 35, 36, 37, 38, 96, 97, 98, 99, 100, 101, 102, 105, 106, 107] (by decide +kernel) (by decide +kernel)) (goodIn_sub (fun _ h => List.mem_cons_of_mem _ (List.mem_append_right _ h)) (by decide +kernel))
set_option maxRecDepth 20000 in
theorem gX8_extend_X8_landAt : GoodIn wsX8_extend (wsV RX8 69 RX8 yX8_landAt wsX8_landAt) := goodIn_app (goodIn_of _ (by decide +kernel)) ggX8_extend_X8_landAt
set_option maxRecDepth 20000 in
theorem ggX8_extend_X2_isValid : GoodIn wsX8_extend wsX2_isValid := goodIn_r _ [49, 50, 51, 52, 53, 54, 55, 56, 57, 103, 104, 108, 109] (by decide +kernel) (by decide +kernel)
set_option maxRecDepth 20000 in
theorem gX8_extend_X2_isValid : GoodIn wsX8_extend (wsV RX8 283 RX2 yX2_isValid wsX2_isValid) := goodIn_app (goodIn_of _ (by decide +kernel)) ggX8_extend_X2_isValid
set_option maxRecDepth 20000 in
theorem ggX8_extend_X8_wasThereEnough : GoodIn wsX8_extend wsX8_wasThereEnough := goodIn_r _ [61, 5, 62, 63, 64, 65, 66, 4, 67, 52, 53, 54, 55, 56, 57, 96, 97, 98, 99, 100, 101, 102, 76, 77, 78, 79, 80, 81, 82, 83, 84, 85, 86, 87, 88, 89, 90, 91, 92, 93, 94, 95, 108, 109] (by decide +kernel) (by decide +kernel)
set_option maxRecDepth 20000 in
theorem gX8_extend_X8_wasThereEnough : GoodIn wsX8_extend (wsV RX8 288 RX8 yX8_wasThereEnough wsX8_wasThereEnough) := goodIn_app (goodIn_of _ (by decide +kernel)) ggX8_extend_X8_wasThereEnough
set_option maxRecDepth 20000 in
theorem ggX8_extend_X2_prolong : GoodIn wsX8_extend wsX2_prolong := goodIn_r _ [71, 50, 51, 52, 53, 54, 55, 56, 57, 72, 73, 74, 75, 103, 104, 108, 109] (by decide +kernel) (by decide +kernel)
set_option maxRecDepth 20000 in
theorem gX8_extend_X2_prolong : GoodIn wsX8_extend (wsV RX8 293 RX2 yX2_prolong wsX2_prolong) := goodIn_app (goodIn_of _ (by decide +kernel)) ggX8_extend_X2_prolong
set_option maxRecDepth 20000 in
theorem ggX8_extend_X5_at : GoodIn wsX8_extend wsX5_at := goodIn_r _ [55, 56, 57, 108, 109] (by decide +kernel) (by decide +kernel)
set_option maxRecDepth 20000 in
theorem gX8_extend_X5_at : GoodIn wsX8_extend (wsV RX8 202 RX5 yX5_at wsX5_at) := goodIn_app (goodIn_of _ (by decide +kernel)) ggX8_extend_X5_at
theorem dX8_extend_0 : decode cX8_extend 0 = .ok (.aload_n 0, 1) := by decide +kernel
theorem dX8_extend_1 : decode cX8_extend 1 = .ok (.iload_n 1, 1) := by decide +kernel
theorem dX8_extend_2 : decode cX8_extend 2 = .ok (.invokevirtual 104, 3) := by decide +kernel
theorem dX8_extend_5 : decode cX8_extend 5 = .ok (.astore_n 3, 1) := by decide +kernel
theorem dX8_extend_6 : decode cX8_extend 6 = .ok (.aload_n 0, 1) := by decide +kernel
theorem dX8_extend_7 : decode cX8_extend 7 = .ok (.iload_n 2, 1) := by decide +kernel
theorem dX8_extend_8 : decode cX8_extend 8 = .ok (.invokevirtual 69, 3) := by decide +kernel
theorem dX8_extend_11 : decode cX8_extend 11 = .ok (.astore 4, 2) := by decide +kernel
theorem dX8_extend_13 : decode cX8_extend 13 = .ok (.aload_n 3, 1) := by decide +kernel
theorem dX8_extend_14 : decode cX8_extend 14 = .ok (.getfield 279, 3) := by decide +kernel
theorem dX8_extend_17 : decode cX8_extend 17 = .ok (.aload 4, 2) := by decide +kernel
theorem dX8_extend_19 : decode cX8_extend 19 = .ok (.getfield 66, 3) := by decide +kernel
theorem dX8_extend_22 : decode cX8_extend 22 = .ok (.aload_n 0, 1) := by decide +kernel
theorem dX8_extend_23 : decode cX8_extend 23 = .ok (.getfield 37, 3) := by decide +kernel
theorem dX8_extend_26 : decode cX8_extend 26 = .ok (.invokevirtual 283, 3) := by decide +kernel
theorem dX8_extend_29 : decode cX8_extend 29 = .ok (.ifCond .eq 13, 3) := by decide +kernel
theorem dX8_extend_32 : decode cX8_extend 32 = .ok (.aload_n 0, 1) := by decide +kernel
theorem dX8_extend_33 : decode cX8_extend 33 = .ok (.aload_n 3, 1) := by decide +kernel
theorem dX8_extend_34 : decode cX8_extend 34 = .ok (.aload 4, 2) := by decide +kernel
theorem dX8_extend_36 : decode cX8_extend 36 = .ok (.invokevirtual 288, 3) := by decide +kernel
theorem dX8_extend_39 : decode cX8_extend 39 = .ok (.ifCond .ne 14, 3) := by decide +kernel
theorem dX8_extend_42 : decode cX8_extend 42 = .ok (.new 52, 3) := by decide +kernel
theorem dX8_extend_45 : decode cX8_extend 45 = .ok (.dup, 1) := by decide +kernel
theorem dX8_extend_46 : decode cX8_extend 46 = .ok (.ldc_w 291, 3) := by decide +kernel
theorem dX8_extend_49 : decode cX8_extend 49 = .ok (.invokespecial 56, 3) := by decide +kernel
theorem dX8_extend_52 : decode cX8_extend 52 = .ok (.athrow, 1) := by decide +kernel
theorem dX8_extend_53 : decode cX8_extend 53 = .ok (.aload_n 3, 1) := by decide +kernel
theorem dX8_extend_54 : decode cX8_extend 54 = .ok (.getfield 279, 3) := by decide +kernel
theorem dX8_extend_57 : decode cX8_extend 57 = .ok (.aload 4, 2) := by decide +kernel
theorem dX8_extend_59 : decode cX8_extend 59 = .ok (.getfield 66, 3) := by decide +kernel
theorem dX8_extend_62 : decode cX8_extend 62 = .ok (.sipush 360, 3) := by decide +kernel
theorem dX8_extend_65 : decode cX8_extend 65 = .ok (.invokevirtual 293, 3) := by decide +kernel
theorem dX8_extend_68 : decode cX8_extend 68 = .ok (.aload_n 3, 1) := by decide +kernel
theorem dX8_extend_69 : decode cX8_extend 69 = .ok (.getfield 279, 3) := by decide +kernel
theorem dX8_extend_72 : decode cX8_extend 72 = .ok (.getfield 296, 3) := by decide +kernel
theorem dX8_extend_75 : decode cX8_extend 75 = .ok (.aload 4, 2) := by decide +kernel
theorem dX8_extend_77 : decode cX8_extend 77 = .ok (.getfield 66, 3) := by decide +kernel
theorem dX8_extend_80 : decode cX8_extend 80 = .ok (.invokevirtual 202, 3) := by decide +kernel
theorem dX8_extend_83 : decode cX8_extend 83 = .ok (.ireturn, 1) := by decide +kernel
set_option maxRecDepth 20000 in
theorem ggX8_oath_X8_personAt : GoodIn wsX8_oath wsX8_personAt := goodIn_ca (goodIn_r _ [13, 14, 15, 16, 17, 18, 19, 20, 21, 22, 23, 24, 25, 26, 27, 28, 29, 30, 31, 32, 33, 34, 35, 36, 37, 38, 39, 40, 94, 95, 96, 97, 98, 99, 100, 103, 104, 105] (by decide +kernel) (by decide +kernel)) (goodIn_sub (fun _ h => List.mem_cons_of_mem _ (List.mem_append_right _ h)) (by decide +kernel))
set_option maxRecDepth 20000 in
theorem gX8_oath_X8_personAt : GoodIn wsX8_oath (wsV RX8 104 RX8 yX8_personAt wsX8_personAt) := goodIn_app (goodIn_of _ (by decide +kernel)) ggX8_oath_X8_personAt
set_option maxRecDepth 20000 in
theorem ggX8_oath_X8_landAt : GoodIn wsX8_oath wsX8_landAt := goodIn_ca (goodIn_r _ [44, 14, 15, 45, 46, 18, 19, 20, 21, 22, 23, 24, 25, 26, 27, 28, 29, 30, 31, 32, 33, 34, 35, 36, 37, 38, 39, 40, 94, 95, 96, 97, 98, 99, 100, 103, 104, 105] (by decide +kernel) (by decide +kernel)) (goodIn_sub (fun _ h => List.mem_cons_of_mem _ (List.mem_append_right _ h)) (by decide +kernel))
set_option maxRecDepth 20000 in
theorem gX8_oath_X8_landAt : GoodIn wsX8_oath (wsV RX8 69 RX8 yX8_landAt wsX8_landAt) := goodIn_app (goodIn_of _ (by decide +kernel)) ggX8_oath_X8_landAt
set_option maxRecDepth 20000 in
theorem ggX8_oath_X3_isOf : GoodIn wsX8_oath wsX3_isOf := goodIn_r _ [51, 52, 53, 54, 55, 56, 57, 58, 74, 75, 76, 77, 78, 79, 80, 81, 82, 83, 84, 85, 86, 87, 88, 89, 90, 91, 92, 93] (by decide +kernel) (by decide +kernel)
set_option maxRecDepth 20000 in
theorem gX8_oath_X3_isOf : GoodIn wsX8_oath (wsV RX8 229 RX3 yX3_isOf wsX3_isOf) := goodIn_app (goodIn_of _ (by decide +kernel)) ggX8_oath_X3_isOf
set_option maxRecDepth 20000 in
theorem ggX8_oath_X2_isValid : GoodIn wsX8_oath wsX2_isValid := goodIn_r _ [63, 64, 65, 66, 67, 68, 69, 70, 71, 101, 102, 106, 107] (by decide +kernel) (by decide +kernel)
set_option maxRecDepth 20000 in
theorem gX8_oath_X2_isValid : GoodIn wsX8_oath (wsV RX8 283 RX2 yX2_isValid wsX2_isValid) := goodIn_app (goodIn_of _ (by decide +kernel)) ggX8_oath_X2_isValid
set_option maxRecDepth 20000 in
theorem ggX8_oath_X5_at : GoodIn wsX8_oath wsX5_at := goodIn_r _ [69, 70, 71, 106, 107] (by decide +kernel) (by decide +kernel)
set_option maxRecDepth 20000 in
theorem gX8_oath_X5_at : GoodIn wsX8_oath (wsV RX8 202 RX5 yX5_at wsX5_at) := goodIn_app (goodIn_of _ (by decide +kernel)) ggX8_oath_X5_at
set_option maxRecDepth 20000 in
theorem ggX8_oath_X1_bit : GoodIn wsX8_oath wsX1_bit := goodIn_r _ [57, 58, 87, 88, 89, 90, 91, 92, 93] (by decide +kernel) (by decide +kernel)
set_option maxRecDepth 20000 in
theorem gX8_oath_X1_bit : GoodIn wsX8_oath (wsV RX8 75 RX1 yX1_bit wsX1_bit) := goodIn_app (goodIn_of _ (by decide +kernel)) ggX8_oath_X1_bit
theorem dX8_oath_0 : decode cX8_oath 0 = .ok (.aload_n 0, 1) := by decide +kernel
theorem dX8_oath_1 : decode cX8_oath 1 = .ok (.iload_n 1, 1) := by decide +kernel
theorem dX8_oath_2 : decode cX8_oath 2 = .ok (.invokevirtual 104, 3) := by decide +kernel
theorem dX8_oath_5 : decode cX8_oath 5 = .ok (.astore_n 3, 1) := by decide +kernel
theorem dX8_oath_6 : decode cX8_oath 6 = .ok (.aload_n 0, 1) := by decide +kernel
theorem dX8_oath_7 : decode cX8_oath 7 = .ok (.iload_n 2, 1) := by decide +kernel
theorem dX8_oath_8 : decode cX8_oath 8 = .ok (.invokevirtual 69, 3) := by decide +kernel
theorem dX8_oath_11 : decode cX8_oath 11 = .ok (.astore 4, 2) := by decide +kernel
theorem dX8_oath_13 : decode cX8_oath 13 = .ok (.aload_n 3, 1) := by decide +kernel
theorem dX8_oath_14 : decode cX8_oath 14 = .ok (.getfield 110, 3) := by decide +kernel
theorem dX8_oath_17 : decode cX8_oath 17 = .ok (.aload 4, 2) := by decide +kernel
theorem dX8_oath_19 : decode cX8_oath 19 = .ok (.if_acmp .ne 57, 3) := by decide +kernel
theorem dX8_oath_22 : decode cX8_oath 22 = .ok (.aload_n 3, 1) := by decide +kernel
theorem dX8_oath_23 : decode cX8_oath 23 = .ok (.aload 4, 2) := by decide +kernel
theorem dX8_oath_25 : decode cX8_oath 25 = .ok (.invokevirtual 229, 3) := by decide +kernel
theorem dX8_oath_28 : decode cX8_oath 28 = .ok (.ifCond .ne 48, 3) := by decide +kernel
theorem dX8_oath_31 : decode cX8_oath 31 = .ok (.aload_n 3, 1) := by decide +kernel
theorem dX8_oath_32 : decode cX8_oath 32 = .ok (.getfield 279, 3) := by decide +kernel
theorem dX8_oath_35 : decode cX8_oath 35 = .ok (.aload 4, 2) := by decide +kernel
theorem dX8_oath_37 : decode cX8_oath 37 = .ok (.getfield 66, 3) := by decide +kernel
theorem dX8_oath_40 : decode cX8_oath 40 = .ok (.aload_n 0, 1) := by decide +kernel
theorem dX8_oath_41 : decode cX8_oath 41 = .ok (.getfield 37, 3) := by decide +kernel
theorem dX8_oath_44 : decode cX8_oath 44 = .ok (.invokevirtual 283, 3) := by decide +kernel
theorem dX8_oath_47 : decode cX8_oath 47 = .ok (.ifCond .eq 29, 3) := by decide +kernel
theorem dX8_oath_50 : decode cX8_oath 50 = .ok (.aload_n 0, 1) := by decide +kernel
theorem dX8_oath_51 : decode cX8_oath 51 = .ok (.getfield 37, 3) := by decide +kernel
theorem dX8_oath_54 : decode cX8_oath 54 = .ok (.aload_n 3, 1) := by decide +kernel
theorem dX8_oath_55 : decode cX8_oath 55 = .ok (.getfield 279, 3) := by decide +kernel
theorem dX8_oath_58 : decode cX8_oath 58 = .ok (.getfield 297, 3) := by decide +kernel
theorem dX8_oath_61 : decode cX8_oath 61 = .ok (.aload 4, 2) := by decide +kernel
theorem dX8_oath_63 : decode cX8_oath 63 = .ok (.getfield 66, 3) := by decide +kernel
theorem dX8_oath_66 : decode cX8_oath 66 = .ok (.invokevirtual 202, 3) := by decide +kernel
theorem dX8_oath_69 : decode cX8_oath 69 = .ok (.isub, 1) := by decide +kernel
theorem dX8_oath_70 : decode cX8_oath 70 = .ok (.sipush 1080, 3) := by decide +kernel
theorem dX8_oath_73 : decode cX8_oath 73 = .ok (.if_icmp .ge 14, 3) := by decide +kernel
theorem dX8_oath_76 : decode cX8_oath 76 = .ok (.new 52, 3) := by decide +kernel
theorem dX8_oath_79 : decode cX8_oath 79 = .ok (.dup, 1) := by decide +kernel
theorem dX8_oath_80 : decode cX8_oath 80 = .ok (.ldc_w 300, 3) := by decide +kernel
theorem dX8_oath_83 : decode cX8_oath 83 = .ok (.invokespecial 56, 3) := by decide +kernel
theorem dX8_oath_86 : decode cX8_oath 86 = .ok (.athrow, 1) := by decide +kernel
theorem dX8_oath_87 : decode cX8_oath 87 = .ok (.aload_n 3, 1) := by decide +kernel
theorem dX8_oath_88 : decode cX8_oath 88 = .ok (.dup, 1) := by decide +kernel
theorem dX8_oath_89 : decode cX8_oath 89 = .ok (.getfield 124, 3) := by decide +kernel
theorem dX8_oath_92 : decode cX8_oath 92 = .ok (.aload 4, 2) := by decide +kernel
theorem dX8_oath_94 : decode cX8_oath 94 = .ok (.invokevirtual 75, 3) := by decide +kernel
theorem dX8_oath_97 : decode cX8_oath 97 = .ok (.ior, 1) := by decide +kernel
theorem dX8_oath_98 : decode cX8_oath 98 = .ok (.putfield 124, 3) := by decide +kernel
theorem dX8_oath_101 : decode cX8_oath 101 = .ok (.aload_n 3, 1) := by decide +kernel
theorem dX8_oath_102 : decode cX8_oath 102 = .ok (.getfield 124, 3) := by decide +kernel
theorem dX8_oath_105 : decode cX8_oath 105 = .ok (.ireturn, 1) := by decide +kernel
set_option maxRecDepth 20000 in
theorem ggX8_pass_X8_beginDay : GoodIn wsX8_pass wsX8_beginDay := goodIn_r _ [10, 5, 11, 12, 13, 14, 15, 16, 17, 18, 19, 20, 21, 22, 23, 24, 25, 26, 27, 28, 29, 30, 31, 32, 33, 34, 35, 36, 37, 38, 39, 40, 41, 42, 43, 44, 45, 46, 47, 48, 49, 9, 50, 51, 52, 53, 54, 55, 56, 57, 58, 59, 60, 61, 62, 63, 64, 65, 66, 67, 68, 69, 70, 71, 72, 73, 74, 75, 76, 77, 78, 79, 80, 81, 82, 83, 84, 85, 86, 87, 88, 89, 90, 91, 92, 93, 94, 95, 96, 97, 98, 99, 100, 101, 102, 103, 104, 105, 106, 107, 108, 109, 110, 111, 112, 113, 114, 115, 116, 117, 118, 119, 120, 121, 122, 123, 124, 125, 126, 127, 128, 129, 130, 131, 132, 133, 134, 135, 136, 137, 138, 139, 140, 141, 142, 143, 144, 145, 146, 147, 148, 149, 150, 151, 152, 153, 154, 155, 156, 157, 158, 159, 160, 161, 162, 163, 164, 165, 166, 167, 168, 169, 170, 171, 172, 173, 174, 175, 176, 177, 178, 179, 180, 181, 182, 183, 184, 185, 186, 187, 188, 189, 190, 191, 192, 193, 194, 195, 196, 197, 198, 199, 200, 201, 202, 203, 204, 205, 206, 207, 208, 209, 210, 211, 212, 213, 214, 215, 216, 217, 218, 219, 220, 221, 222, 223, 224, 225, 226, 227] (by decide +kernel) (by decide +kernel)
set_option maxRecDepth 20000 in
theorem gX8_pass_X8_beginDay : GoodIn wsX8_pass (wsV RX8 304 RX8 yX8_beginDay wsX8_beginDay) := goodIn_app (goodIn_of _ (by decide +kernel)) ggX8_pass_X8_beginDay
theorem dX8_pass_0 : decode cX8_pass 0 = .ok (.iload_n 1, 1) := by decide +kernel
theorem dX8_pass_1 : decode cX8_pass 1 = .ok (.iconst 1, 1) := by decide +kernel
theorem dX8_pass_2 : decode cX8_pass 2 = .ok (.if_icmp .lt 9, 3) := by decide +kernel
theorem dX8_pass_5 : decode cX8_pass 5 = .ok (.iload_n 1, 1) := by decide +kernel
theorem dX8_pass_6 : decode cX8_pass 6 = .ok (.bipush 100, 2) := by decide +kernel
theorem dX8_pass_8 : decode cX8_pass 8 = .ok (.if_icmp .le 13, 3) := by decide +kernel
theorem dX8_pass_11 : decode cX8_pass 11 = .ok (.new 41, 3) := by decide +kernel
theorem dX8_pass_14 : decode cX8_pass 14 = .ok (.dup, 1) := by decide +kernel
theorem dX8_pass_15 : decode cX8_pass 15 = .ok (.ldc 208, 2) := by decide +kernel
theorem dX8_pass_17 : decode cX8_pass 17 = .ok (.invokespecial 45, 3) := by decide +kernel
theorem dX8_pass_20 : decode cX8_pass 20 = .ok (.athrow, 1) := by decide +kernel
theorem dX8_pass_21 : decode cX8_pass 21 = .ok (.aload_n 0, 1) := by decide +kernel
theorem dX8_pass_22 : decode cX8_pass 22 = .ok (.getfield 37, 3) := by decide +kernel
theorem dX8_pass_25 : decode cX8_pass 25 = .ok (.iload_n 1, 1) := by decide +kernel
theorem dX8_pass_26 : decode cX8_pass 26 = .ok (.iadd, 1) := by decide +kernel
theorem dX8_pass_27 : decode cX8_pass 27 = .ok (.sipush 3600, 3) := by decide +kernel
theorem dX8_pass_30 : decode cX8_pass 30 = .ok (.if_icmp .le 14, 3) := by decide +kernel
theorem dX8_pass_33 : decode cX8_pass 33 = .ok (.new 52, 3) := by decide +kernel
theorem dX8_pass_36 : decode cX8_pass 36 = .ok (.dup, 1) := by decide +kernel
theorem dX8_pass_37 : decode cX8_pass 37 = .ok (.ldc_w 302, 3) := by decide +kernel
theorem dX8_pass_40 : decode cX8_pass 40 = .ok (.invokespecial 56, 3) := by decide +kernel
theorem dX8_pass_43 : decode cX8_pass 43 = .ok (.athrow, 1) := by decide +kernel
theorem dX8_pass_44 : decode cX8_pass 44 = .ok (.iconst 0, 1) := by decide +kernel
theorem dX8_pass_45 : decode cX8_pass 45 = .ok (.istore_n 2, 1) := by decide +kernel
theorem dX8_pass_46 : decode cX8_pass 46 = .ok (.iload_n 2, 1) := by decide +kernel
theorem dX8_pass_47 : decode cX8_pass 47 = .ok (.iload_n 1, 1) := by decide +kernel
theorem dX8_pass_48 : decode cX8_pass 48 = .ok (.if_icmp .ge 13, 3) := by decide +kernel
theorem dX8_pass_51 : decode cX8_pass 51 = .ok (.aload_n 0, 1) := by decide +kernel
theorem dX8_pass_52 : decode cX8_pass 52 = .ok (.invokevirtual 304, 3) := by decide +kernel
theorem dX8_pass_55 : decode cX8_pass 55 = .ok (.iinc 2 1, 3) := by decide +kernel
theorem dX8_pass_58 : decode cX8_pass 58 = .ok (.goto (-12), 3) := by decide +kernel
theorem dX8_pass_61 : decode cX8_pass 61 = .ok (.aload_n 0, 1) := by decide +kernel
theorem dX8_pass_62 : decode cX8_pass 62 = .ok (.getfield 37, 3) := by decide +kernel
theorem dX8_pass_65 : decode cX8_pass 65 = .ok (.ireturn, 1) := by decide +kernel
set_option maxRecDepth 20000 in
theorem ggX8_status_X8_personAt : GoodIn wsX8_status wsX8_personAt := goodIn_ca (goodIn_r _ [5, 6, 7, 8, 9, 10, 11, 12, 13, 14, 15, 16, 17, 18, 19, 20, 21, 22, 23, 24, 25, 26, 27, 28, 29, 30, 31, 32, 47, 48, 49, 50, 51, 52, 53, 54, 55, 56] (by decide +kernel) (by decide +kernel)) (goodIn_sub (fun _ h => List.mem_cons_of_mem _ (List.mem_append_right _ h)) (by decide +kernel))
set_option maxRecDepth 20000 in
theorem gX8_status_X8_personAt : GoodIn wsX8_status (wsV RX8 104 RX8 yX8_personAt wsX8_personAt) := goodIn_app (goodIn_of _ (by decide +kernel)) ggX8_status_X8_personAt
set_option maxRecDepth 20000 in
theorem ggX8_status_X8_statusToday : GoodIn wsX8_status wsX8_statusToday := goodIn_r _ [36, 37, 38, 39, 40, 41, 42, 43, 44, 45, 46, 57, 58, 59, 60, 61, 62, 63, 64, 65, 66, 67, 68, 69, 47, 48, 49, 50, 51, 52, 53, 70, 71] (by decide +kernel) (by decide +kernel)
set_option maxRecDepth 20000 in
theorem gX8_status_X8_statusToday : GoodIn wsX8_status (wsV RX8 161 RX8 yX8_statusToday wsX8_statusToday) := goodIn_app (goodIn_of _ (by decide +kernel)) ggX8_status_X8_statusToday
theorem dX8_status_0 : decode cX8_status 0 = .ok (.aload_n 0, 1) := by decide +kernel
theorem dX8_status_1 : decode cX8_status 1 = .ok (.aload_n 0, 1) := by decide +kernel
theorem dX8_status_2 : decode cX8_status 2 = .ok (.iload_n 1, 1) := by decide +kernel
theorem dX8_status_3 : decode cX8_status 3 = .ok (.invokevirtual 104, 3) := by decide +kernel
theorem dX8_status_6 : decode cX8_status 6 = .ok (.invokevirtual 161, 3) := by decide +kernel
theorem dX8_status_9 : decode cX8_status 9 = .ok (.ireturn, 1) := by decide +kernel
set_option maxRecDepth 20000 in
theorem ggX8_about_X8_personAt : GoodIn wsX8_about wsX8_personAt := goodIn_ca (goodIn_r _ [15, 16, 17, 18, 19, 20, 21, 22, 23, 24, 25, 26, 27, 28, 29, 30, 31, 32, 33, 34, 35, 36, 37, 38, 39, 40, 41, 42, 84, 85, 86, 87, 88, 89, 90, 102, 103, 104] (by decide +kernel) (by decide +kernel)) (goodIn_sub (fun _ h => List.mem_cons_of_mem _ (List.mem_append_right _ h)) (by decide +kernel))
set_option maxRecDepth 20000 in
theorem gX8_about_X8_personAt : GoodIn wsX8_about (wsV RX8 104 RX8 yX8_personAt wsX8_personAt) := goodIn_app (goodIn_of _ (by decide +kernel)) ggX8_about_X8_personAt
set_option maxRecDepth 20000 in
theorem ggX8_about_X5_at : GoodIn wsX8_about wsX5_at := goodIn_r _ [47, 48, 49, 105, 106] (by decide +kernel) (by decide +kernel)
set_option maxRecDepth 20000 in
theorem gX8_about_X5_at : GoodIn wsX8_about (wsV RX8 202 RX5 yX5_at wsX5_at) := goodIn_app (goodIn_of _ (by decide +kernel)) ggX8_about_X5_at
set_option maxRecDepth 20000 in
theorem ggX8_about_X8_ruleToday : GoodIn wsX8_about wsX8_ruleToday := goodIn_r _ [53, 54, 55, 56, 57, 7, 20, 21, 22, 23, 24, 25, 26, 27, 28, 29, 30, 31, 32, 33, 34, 35, 36, 37, 38, 39, 40, 41, 42, 84, 85, 86, 87, 88, 89, 90, 91, 92, 93, 102, 103, 104] (by decide +kernel) (by decide +kernel)
set_option maxRecDepth 20000 in
theorem gX8_about_X8_ruleToday : GoodIn wsX8_about (wsV RX8 310 RX8 yX8_ruleToday wsX8_ruleToday) := goodIn_app (goodIn_of _ (by decide +kernel)) ggX8_about_X8_ruleToday
set_option maxRecDepth 20000 in
theorem ggX8_about_X8_overstayedDays : GoodIn wsX8_about wsX8_overstayedDays := goodIn_r _ [61, 62, 7, 63, 43, 44, 45, 46, 47, 48, 49, 64, 65, 66, 67, 68, 69, 70, 71, 72, 73, 74, 75, 76, 84, 85, 86, 87, 88, 89, 90, 105, 106] (by decide +kernel) (by decide +kernel)
set_option maxRecDepth 20000 in
theorem gX8_about_X8_overstayedDays : GoodIn wsX8_about (wsV RX8 176 RX8 yX8_overstayedDays wsX8_overstayedDays) := goodIn_app (goodIn_of _ (by decide +kernel)) ggX8_about_X8_overstayedDays
theorem dX8_about_0 : decode cX8_about 0 = .ok (.aload_n 0, 1) := by decide +kernel
theorem dX8_about_1 : decode cX8_about 1 = .ok (.iload_n 1, 1) := by decide +kernel
theorem dX8_about_2 : decode cX8_about 2 = .ok (.invokevirtual 104, 3) := by decide +kernel
theorem dX8_about_5 : decode cX8_about 5 = .ok (.astore_n 3, 1) := by decide +kernel
theorem dX8_about_6 : decode cX8_about 6 = .ok (.iload_n 2, 1) := by decide +kernel
theorem dX8_about_7 : decode cX8_about 7 = .ok (.tableswitch 125 0 4 #[33, 52, 57, 89, 108], 33) := by decide +kernel
theorem dX8_about_40 : decode cX8_about 40 = .ok (.aload_n 3, 1) := by decide +kernel
theorem dX8_about_41 : decode cX8_about 41 = .ok (.getfield 110, 3) := by decide +kernel
theorem dX8_about_44 : decode cX8_about 44 = .ok (.ifnonnull 7, 3) := by decide +kernel
theorem dX8_about_47 : decode cX8_about 47 = .ok (.iconst (-1), 1) := by decide +kernel
theorem dX8_about_48 : decode cX8_about 48 = .ok (.goto 10, 3) := by decide +kernel
theorem dX8_about_51 : decode cX8_about 51 = .ok (.aload_n 3, 1) := by decide +kernel
theorem dX8_about_52 : decode cX8_about 52 = .ok (.getfield 110, 3) := by decide +kernel
theorem dX8_about_55 : decode cX8_about 55 = .ok (.getfield 66, 3) := by decide +kernel
theorem dX8_about_58 : decode cX8_about 58 = .ok (.ireturn, 1) := by decide +kernel
theorem dX8_about_59 : decode cX8_about 59 = .ok (.aload_n 3, 1) := by decide +kernel
theorem dX8_about_60 : decode cX8_about 60 = .ok (.getfield 124, 3) := by decide +kernel
theorem dX8_about_63 : decode cX8_about 63 = .ok (.ireturn, 1) := by decide +kernel
theorem dX8_about_64 : decode cX8_about 64 = .ok (.aload_n 3, 1) := by decide +kernel
theorem dX8_about_65 : decode cX8_about 65 = .ok (.getfield 307, 3) := by decide +kernel
theorem dX8_about_68 : decode cX8_about 68 = .ok (.aload_n 0, 1) := by decide +kernel
theorem dX8_about_69 : decode cX8_about 69 = .ok (.getfield 37, 3) := by decide +kernel
theorem dX8_about_72 : decode cX8_about 72 = .ok (.invokevirtual 202, 3) := by decide +kernel
theorem dX8_about_75 : decode cX8_about 75 = .ok (.aload_n 3, 1) := by decide +kernel
theorem dX8_about_76 : decode cX8_about 76 = .ok (.getfield 307, 3) := by decide +kernel
theorem dX8_about_79 : decode cX8_about 79 = .ok (.aload_n 0, 1) := by decide +kernel
theorem dX8_about_80 : decode cX8_about 80 = .ok (.getfield 37, 3) := by decide +kernel
theorem dX8_about_83 : decode cX8_about 83 = .ok (.aload_n 0, 1) := by decide +kernel
theorem dX8_about_84 : decode cX8_about 84 = .ok (.invokevirtual 310, 3) := by decide +kernel
theorem dX8_about_87 : decode cX8_about 87 = .ok (.getfield 314, 3) := by decide +kernel
theorem dX8_about_90 : decode cX8_about 90 = .ok (.isub, 1) := by decide +kernel
theorem dX8_about_91 : decode cX8_about 91 = .ok (.invokevirtual 202, 3) := by decide +kernel
theorem dX8_about_94 : decode cX8_about 94 = .ok (.isub, 1) := by decide +kernel
theorem dX8_about_95 : decode cX8_about 95 = .ok (.ireturn, 1) := by decide +kernel
theorem dX8_about_96 : decode cX8_about 96 = .ok (.aload_n 3, 1) := by decide +kernel
theorem dX8_about_97 : decode cX8_about 97 = .ok (.getfield 185, 3) := by decide +kernel
theorem dX8_about_100 : decode cX8_about 100 = .ok (.ifnonnull 7, 3) := by decide +kernel
theorem dX8_about_103 : decode cX8_about 103 = .ok (.iconst (-1), 1) := by decide +kernel
theorem dX8_about_104 : decode cX8_about 104 = .ok (.goto 10, 3) := by decide +kernel
theorem dX8_about_107 : decode cX8_about 107 = .ok (.aload_n 3, 1) := by decide +kernel
theorem dX8_about_108 : decode cX8_about 108 = .ok (.getfield 185, 3) := by decide +kernel
theorem dX8_about_111 : decode cX8_about 111 = .ok (.getfield 144, 3) := by decide +kernel
theorem dX8_about_114 : decode cX8_about 114 = .ok (.ireturn, 1) := by decide +kernel
theorem dX8_about_115 : decode cX8_about 115 = .ok (.aload_n 3, 1) := by decide +kernel
theorem dX8_about_116 : decode cX8_about 116 = .ok (.getfield 110, 3) := by decide +kernel
theorem dX8_about_119 : decode cX8_about 119 = .ok (.ifnonnull 7, 3) := by decide +kernel
theorem dX8_about_122 : decode cX8_about 122 = .ok (.iconst 0, 1) := by decide +kernel
theorem dX8_about_123 : decode cX8_about 123 = .ok (.goto 8, 3) := by decide +kernel
theorem dX8_about_126 : decode cX8_about 126 = .ok (.aload_n 0, 1) := by decide +kernel
theorem dX8_about_127 : decode cX8_about 127 = .ok (.aload_n 3, 1) := by decide +kernel
theorem dX8_about_128 : decode cX8_about 128 = .ok (.invokevirtual 176, 3) := by decide +kernel
theorem dX8_about_131 : decode cX8_about 131 = .ok (.ireturn, 1) := by decide +kernel
theorem dX8_about_132 : decode cX8_about 132 = .ok (.new 41, 3) := by decide +kernel
theorem dX8_about_135 : decode cX8_about 135 = .ok (.dup, 1) := by decide +kernel
theorem dX8_about_136 : decode cX8_about 136 = .ok (.ldc_w 317, 3) := by decide +kernel
theorem dX8_about_139 : decode cX8_about 139 = .ok (.invokespecial 45, 3) := by decide +kernel
theorem dX8_about_142 : decode cX8_about 142 = .ok (.athrow, 1) := by decide +kernel
set_option maxRecDepth 20000 in
theorem ggX8_daysAnew_X8_personAt : GoodIn wsX8_daysAnew wsX8_personAt := goodIn_ca (goodIn_r _ [12, 13, 14, 15, 16, 17, 18, 19, 20, 21, 22, 23, 24, 25, 26, 27, 28, 29, 30, 31, 32, 33, 34, 35, 36, 37, 38, 39, 62, 63, 64, 65, 66, 67, 68, 85, 86, 87] (by decide +kernel) (by decide +kernel)) (goodIn_sub (fun _ h => List.mem_cons_of_mem _ (List.mem_append_right _ h)) (by decide +kernel))
set_option maxRecDepth 20000 in
theorem gX8_daysAnew_X8_personAt : GoodIn wsX8_daysAnew (wsV RX8 104 RX8 yX8_personAt wsX8_personAt) := goodIn_app (goodIn_of _ (by decide +kernel)) ggX8_daysAnew_X8_personAt
set_option maxRecDepth 20000 in
theorem ggX8_daysAnew_X8_ruleToday : GoodIn wsX8_daysAnew wsX8_ruleToday := goodIn_r _ [43, 44, 45, 46, 47, 1, 17, 18, 19, 20, 21, 22, 23, 24, 25, 26, 27, 28, 29, 30, 31, 32, 33, 34, 35, 36, 37, 38, 39, 62, 63, 64, 65, 66, 67, 68, 69, 70, 71, 85, 86, 87] (by decide +kernel) (by decide +kernel)
set_option maxRecDepth 20000 in
theorem gX8_daysAnew_X8_ruleToday : GoodIn wsX8_daysAnew (wsV RX8 310 RX8 yX8_ruleToday wsX8_ruleToday) := goodIn_app (goodIn_of _ (by decide +kernel)) ggX8_daysAnew_X8_ruleToday
set_option maxRecDepth 20000 in
theorem ggX8_daysAnew_X5_at : GoodIn wsX8_daysAnew wsX5_at := goodIn_r _ [52, 53, 54, 88, 89] (by decide +kernel) (by decide +kernel)
set_option maxRecDepth 20000 in
theorem gX8_daysAnew_X5_at : GoodIn wsX8_daysAnew (wsV RX8 202 RX5 yX5_at wsX5_at) := goodIn_app (goodIn_of _ (by decide +kernel)) ggX8_daysAnew_X5_at
set_option maxRecDepth 20000 in
theorem ggX8_daysAnew_X8_isCounting : GoodIn wsX8_daysAnew wsX8_isCounting := goodIn_r _ [58, 59, 60, 61, 17, 18, 19, 20, 21, 22, 23, 24, 25, 26, 27, 28, 29, 30, 31, 32, 33, 34, 35, 36, 37, 38, 39, 62, 63, 64, 65, 66, 67, 68, 90, 91, 92, 93, 94, 95, 96, 85, 86, 87] (by decide +kernel) (by decide +kernel)
set_option maxRecDepth 20000 in
theorem gX8_daysAnew_X8_isCounting : GoodIn wsX8_daysAnew (wsV RX8 324 RX8 yX8_isCounting wsX8_isCounting) := goodIn_app (goodIn_of _ (by decide +kernel)) ggX8_daysAnew_X8_isCounting
theorem dX8_daysAnew_0 : decode cX8_daysAnew 0 = .ok (.aload_n 0, 1) := by decide +kernel
theorem dX8_daysAnew_1 : decode cX8_daysAnew 1 = .ok (.iload_n 1, 1) := by decide +kernel
theorem dX8_daysAnew_2 : decode cX8_daysAnew 2 = .ok (.invokevirtual 104, 3) := by decide +kernel
theorem dX8_daysAnew_5 : decode cX8_daysAnew 5 = .ok (.astore_n 2, 1) := by decide +kernel
theorem dX8_daysAnew_6 : decode cX8_daysAnew 6 = .ok (.iconst 0, 1) := by decide +kernel
theorem dX8_daysAnew_7 : decode cX8_daysAnew 7 = .ok (.istore_n 3, 1) := by decide +kernel
theorem dX8_daysAnew_8 : decode cX8_daysAnew 8 = .ok (.iconst 0, 1) := by decide +kernel
theorem dX8_daysAnew_9 : decode cX8_daysAnew 9 = .ok (.aload_n 0, 1) := by decide +kernel
theorem dX8_daysAnew_10 : decode cX8_daysAnew 10 = .ok (.getfield 37, 3) := by decide +kernel
theorem dX8_daysAnew_13 : decode cX8_daysAnew 13 = .ok (.aload_n 0, 1) := by decide +kernel
theorem dX8_daysAnew_14 : decode cX8_daysAnew 14 = .ok (.invokevirtual 310, 3) := by decide +kernel
theorem dX8_daysAnew_17 : decode cX8_daysAnew 17 = .ok (.getfield 314, 3) := by decide +kernel
theorem dX8_daysAnew_20 : decode cX8_daysAnew 20 = .ok (.isub, 1) := by decide +kernel
theorem dX8_daysAnew_21 : decode cX8_daysAnew 21 = .ok (.iconst 1, 1) := by decide +kernel
theorem dX8_daysAnew_22 : decode cX8_daysAnew 22 = .ok (.iadd, 1) := by decide +kernel
theorem dX8_daysAnew_23 : decode cX8_daysAnew 23 = .ok (.invokestatic 319, 3) := by decide +kernel
theorem dX8_daysAnew_26 : decode cX8_daysAnew 26 = .ok (.istore 4, 2) := by decide +kernel
theorem dX8_daysAnew_28 : decode cX8_daysAnew 28 = .ok (.iload 4, 2) := by decide +kernel
theorem dX8_daysAnew_30 : decode cX8_daysAnew 30 = .ok (.aload_n 0, 1) := by decide +kernel
theorem dX8_daysAnew_31 : decode cX8_daysAnew 31 = .ok (.getfield 37, 3) := by decide +kernel
theorem dX8_daysAnew_34 : decode cX8_daysAnew 34 = .ok (.if_icmp .gt 28, 3) := by decide +kernel
theorem dX8_daysAnew_37 : decode cX8_daysAnew 37 = .ok (.aload_n 0, 1) := by decide +kernel
theorem dX8_daysAnew_38 : decode cX8_daysAnew 38 = .ok (.aload_n 2, 1) := by decide +kernel
theorem dX8_daysAnew_39 : decode cX8_daysAnew 39 = .ok (.getfield 322, 3) := by decide +kernel
theorem dX8_daysAnew_42 : decode cX8_daysAnew 42 = .ok (.iload 4, 2) := by decide +kernel
theorem dX8_daysAnew_44 : decode cX8_daysAnew 44 = .ok (.invokevirtual 202, 3) := by decide +kernel
theorem dX8_daysAnew_47 : decode cX8_daysAnew 47 = .ok (.invokevirtual 324, 3) := by decide +kernel
theorem dX8_daysAnew_50 : decode cX8_daysAnew 50 = .ok (.ifCond .eq 6, 3) := by decide +kernel
theorem dX8_daysAnew_53 : decode cX8_daysAnew 53 = .ok (.iinc 3 1, 3) := by decide +kernel
theorem dX8_daysAnew_56 : decode cX8_daysAnew 56 = .ok (.iinc 4 1, 3) := by decide +kernel
theorem dX8_daysAnew_59 : decode cX8_daysAnew 59 = .ok (.goto (-31), 3) := by decide +kernel
theorem dX8_daysAnew_62 : decode cX8_daysAnew 62 = .ok (.iload_n 3, 1) := by decide +kernel
theorem dX8_daysAnew_63 : decode cX8_daysAnew 63 = .ok (.ireturn, 1) := by decide +kernel
set_option maxRecDepth 20000 in
theorem ggX8_was_X8_personAt : GoodIn wsX8_was wsX8_personAt := goodIn_ca (goodIn_r _ [9, 10, 11, 12, 13, 14, 15, 16, 17, 18, 19, 20, 21, 22, 23, 24, 25, 26, 27, 28, 29, 30, 31, 32, 33, 34, 35, 36, 44, 45, 46, 47, 48, 49, 50, 64, 65, 66] (by decide +kernel) (by decide +kernel)) (goodIn_sub (fun _ h => List.mem_cons_of_mem _ (List.mem_append_right _ h)) (by decide +kernel))
set_option maxRecDepth 20000 in
theorem gX8_was_X8_personAt : GoodIn wsX8_was (wsV RX8 104 RX8 yX8_personAt wsX8_personAt) := goodIn_app (goodIn_of _ (by decide +kernel)) ggX8_was_X8_personAt
set_option maxRecDepth 20000 in
theorem ggX8_was_X5_at : GoodIn wsX8_was wsX5_at := goodIn_r _ [41, 42, 43, 67, 68] (by decide +kernel) (by decide +kernel)
set_option maxRecDepth 20000 in
theorem gX8_was_X5_at : GoodIn wsX8_was (wsV RX8 202 RX5 yX5_at wsX5_at) := goodIn_app (goodIn_of _ (by decide +kernel)) ggX8_was_X5_at
theorem dX8_was_0 : decode cX8_was 0 = .ok (.aload_n 0, 1) := by decide +kernel
