theorem dX9_move_43 : decode cX9_move 43 = .ok (.if_icmp .eq 30, 3) := by decide +kernel
theorem dX9_move_46 : decode cX9_move 46 = .ok (.aload_n 0, 1) := by decide +kernel
theorem dX9_move_47 : decode cX9_move 47 = .ok (.getfield 7, 3) := by decide +kernel
theorem dX9_move_50 : decode cX9_move 50 = .ok (.aload_n 0, 1) := by decide +kernel
theorem dX9_move_51 : decode cX9_move 51 = .ok (.getfield 54, 3) := by decide +kernel
theorem dX9_move_54 : decode cX9_move 54 = .ok (.iload_n 1, 1) := by decide +kernel
theorem dX9_move_55 : decode cX9_move 55 = .ok (.iaload, 1) := by decide +kernel
theorem dX9_move_56 : decode cX9_move 56 = .ok (.baload, 1) := by decide +kernel
theorem dX9_move_57 : decode cX9_move 57 = .ok (.ifCond .eq 16, 3) := by decide +kernel
theorem dX9_move_60 : decode cX9_move 60 = .ok (.aload_n 0, 1) := by decide +kernel
theorem dX9_move_61 : decode cX9_move 61 = .ok (.getfield 7, 3) := by decide +kernel
theorem dX9_move_64 : decode cX9_move 64 = .ok (.iload_n 2, 1) := by decide +kernel
theorem dX9_move_65 : decode cX9_move 65 = .ok (.baload, 1) := by decide +kernel
theorem dX9_move_66 : decode cX9_move 66 = .ok (.ifCond .eq 7, 3) := by decide +kernel
theorem dX9_move_69 : decode cX9_move 69 = .ok (.iconst 1, 1) := by decide +kernel
theorem dX9_move_70 : decode cX9_move 70 = .ok (.goto 4, 3) := by decide +kernel
theorem dX9_move_73 : decode cX9_move 73 = .ok (.iconst 0, 1) := by decide +kernel
theorem dX9_move_74 : decode cX9_move 74 = .ok (.istore 4, 2) := by decide +kernel
theorem dX9_move_76 : decode cX9_move 76 = .ok (.aload_n 0, 1) := by decide +kernel
theorem dX9_move_77 : decode cX9_move 77 = .ok (.iload_n 3, 1) := by decide +kernel
theorem dX9_move_78 : decode cX9_move 78 = .ok (.ifCond .ne 7, 3) := by decide +kernel
theorem dX9_move_81 : decode cX9_move 81 = .ok (.iconst 1, 1) := by decide +kernel
theorem dX9_move_82 : decode cX9_move 82 = .ok (.goto 13, 3) := by decide +kernel
theorem dX9_move_85 : decode cX9_move 85 = .ok (.iload 4, 2) := by decide +kernel
theorem dX9_move_87 : decode cX9_move 87 = .ok (.ifCond .eq 7, 3) := by decide +kernel
theorem dX9_move_90 : decode cX9_move 90 = .ok (.iconst 0, 1) := by decide +kernel
theorem dX9_move_91 : decode cX9_move 91 = .ok (.goto 4, 3) := by decide +kernel
theorem dX9_move_94 : decode cX9_move 94 = .ok (.iconst 2, 1) := by decide +kernel
theorem dX9_move_95 : decode cX9_move 95 = .ok (.invokevirtual 146, 3) := by decide +kernel
theorem dX9_move_98 : decode cX9_move 98 = .ok (.ifCond .ne 5, 3) := by decide +kernel
theorem dX9_move_101 : decode cX9_move 101 = .ok (.iconst 0, 1) := by decide +kernel
theorem dX9_move_102 : decode cX9_move 102 = .ok (.ireturn, 1) := by decide +kernel
theorem dX9_move_103 : decode cX9_move 103 = .ok (.aload_n 0, 1) := by decide +kernel
theorem dX9_move_104 : decode cX9_move 104 = .ok (.getfield 54, 3) := by decide +kernel
theorem dX9_move_107 : decode cX9_move 107 = .ok (.iload_n 1, 1) := by decide +kernel
theorem dX9_move_108 : decode cX9_move 108 = .ok (.iload_n 2, 1) := by decide +kernel
theorem dX9_move_109 : decode cX9_move 109 = .ok (.iastore, 1) := by decide +kernel
theorem dX9_move_110 : decode cX9_move 110 = .ok (.aload_n 0, 1) := by decide +kernel
theorem dX9_move_111 : decode cX9_move 111 = .ok (.iload_n 1, 1) := by decide +kernel
theorem dX9_move_112 : decode cX9_move 112 = .ok (.invokevirtual 202, 3) := by decide +kernel
theorem dX9_move_115 : decode cX9_move 115 = .ok (.ireturn, 1) := by decide +kernel
theorem dX9_overstayed_0 : decode cX9_overstayed 0 = .ok (.iconst 0, 1) := by decide +kernel
theorem dX9_overstayed_1 : decode cX9_overstayed 1 = .ok (.istore_n 2, 1) := by decide +kernel
theorem dX9_overstayed_2 : decode cX9_overstayed 2 = .ok (.aload_n 0, 1) := by decide +kernel
theorem dX9_overstayed_3 : decode cX9_overstayed 3 = .ok (.getfield 63, 3) := by decide +kernel
theorem dX9_overstayed_6 : decode cX9_overstayed 6 = .ok (.iload_n 1, 1) := by decide +kernel
theorem dX9_overstayed_7 : decode cX9_overstayed 7 = .ok (.iaload, 1) := by decide +kernel
theorem dX9_overstayed_8 : decode cX9_overstayed 8 = .ok (.istore_n 3, 1) := by decide +kernel
theorem dX9_overstayed_9 : decode cX9_overstayed 9 = .ok (.iload_n 3, 1) := by decide +kernel
theorem dX9_overstayed_10 : decode cX9_overstayed 10 = .ok (.aload_n 0, 1) := by decide +kernel
theorem dX9_overstayed_11 : decode cX9_overstayed 11 = .ok (.getfield 153, 3) := by decide +kernel
theorem dX9_overstayed_14 : decode cX9_overstayed 14 = .ok (.if_icmp .gt 46, 3) := by decide +kernel
theorem dX9_overstayed_17 : decode cX9_overstayed 17 = .ok (.aload_n 0, 1) := by decide +kernel
theorem dX9_overstayed_18 : decode cX9_overstayed 18 = .ok (.getfield 54, 3) := by decide +kernel
theorem dX9_overstayed_21 : decode cX9_overstayed 21 = .ok (.iload_n 1, 1) := by decide +kernel
theorem dX9_overstayed_22 : decode cX9_overstayed 22 = .ok (.iaload, 1) := by decide +kernel
theorem dX9_overstayed_23 : decode cX9_overstayed 23 = .ok (.iconst (-1), 1) := by decide +kernel
theorem dX9_overstayed_24 : decode cX9_overstayed 24 = .ok (.if_icmp .eq 36, 3) := by decide +kernel
theorem dX9_overstayed_27 : decode cX9_overstayed 27 = .ok (.iload_n 2, 1) := by decide +kernel
theorem dX9_overstayed_28 : decode cX9_overstayed 28 = .ok (.aload_n 0, 1) := by decide +kernel
theorem dX9_overstayed_29 : decode cX9_overstayed 29 = .ok (.getfield 67, 3) := by decide +kernel
theorem dX9_overstayed_32 : decode cX9_overstayed 32 = .ok (.sipush 3601, 3) := by decide +kernel
theorem dX9_overstayed_35 : decode cX9_overstayed 35 = .ok (.iload_n 1, 1) := by decide +kernel
theorem dX9_overstayed_36 : decode cX9_overstayed 36 = .ok (.imul, 1) := by decide +kernel
theorem dX9_overstayed_37 : decode cX9_overstayed 37 = .ok (.iload_n 3, 1) := by decide +kernel
theorem dX9_overstayed_38 : decode cX9_overstayed 38 = .ok (.iadd, 1) := by decide +kernel
theorem dX9_overstayed_39 : decode cX9_overstayed 39 = .ok (.iaload, 1) := by decide +kernel
theorem dX9_overstayed_40 : decode cX9_overstayed 40 = .ok (.bipush 10, 2) := by decide +kernel
theorem dX9_overstayed_42 : decode cX9_overstayed 42 = .ok (.irem, 1) := by decide +kernel
theorem dX9_overstayed_43 : decode cX9_overstayed 43 = .ok (.iconst 4, 1) := by decide +kernel
theorem dX9_overstayed_44 : decode cX9_overstayed 44 = .ok (.if_icmp .ne 7, 3) := by decide +kernel
theorem dX9_overstayed_47 : decode cX9_overstayed 47 = .ok (.iconst 1, 1) := by decide +kernel
theorem dX9_overstayed_48 : decode cX9_overstayed 48 = .ok (.goto 4, 3) := by decide +kernel
theorem dX9_overstayed_51 : decode cX9_overstayed 51 = .ok (.iconst 0, 1) := by decide +kernel
theorem dX9_overstayed_52 : decode cX9_overstayed 52 = .ok (.iadd, 1) := by decide +kernel
theorem dX9_overstayed_53 : decode cX9_overstayed 53 = .ok (.istore_n 2, 1) := by decide +kernel
theorem dX9_overstayed_54 : decode cX9_overstayed 54 = .ok (.iinc 3 1, 3) := by decide +kernel
theorem dX9_overstayed_57 : decode cX9_overstayed 57 = .ok (.goto (-48), 3) := by decide +kernel
theorem dX9_overstayed_60 : decode cX9_overstayed 60 = .ok (.iload_n 2, 1) := by decide +kernel
theorem dX9_overstayed_61 : decode cX9_overstayed 61 = .ok (.ireturn, 1) := by decide +kernel
theorem dX9_makeBan_0 : decode cX9_makeBan 0 = .ok (.bipush 8, 2) := by decide +kernel
theorem dX9_makeBan_2 : decode cX9_makeBan 2 = .ok (.iload_n 2, 1) := by decide +kernel
theorem dX9_makeBan_3 : decode cX9_makeBan 3 = .ok (.imul, 1) := by decide +kernel
theorem dX9_makeBan_4 : decode cX9_makeBan 4 = .ok (.iload_n 1, 1) := by decide +kernel
theorem dX9_makeBan_5 : decode cX9_makeBan 5 = .ok (.iadd, 1) := by decide +kernel
theorem dX9_makeBan_6 : decode cX9_makeBan 6 = .ok (.istore 5, 2) := by decide +kernel
theorem dX9_makeBan_8 : decode cX9_makeBan 8 = .ok (.iload 4, 2) := by decide +kernel
theorem dX9_makeBan_10 : decode cX9_makeBan 10 = .ok (.aload_n 0, 1) := by decide +kernel
theorem dX9_makeBan_11 : decode cX9_makeBan 11 = .ok (.getfield 76, 3) := by decide +kernel
theorem dX9_makeBan_14 : decode cX9_makeBan 14 = .ok (.iload 5, 2) := by decide +kernel
theorem dX9_makeBan_16 : decode cX9_makeBan 16 = .ok (.iaload, 1) := by decide +kernel
theorem dX9_makeBan_17 : decode cX9_makeBan 17 = .ok (.if_icmp .le 31, 3) := by decide +kernel
theorem dX9_makeBan_20 : decode cX9_makeBan 20 = .ok (.aload_n 0, 1) := by decide +kernel
theorem dX9_makeBan_21 : decode cX9_makeBan 21 = .ok (.getfield 76, 3) := by decide +kernel
theorem dX9_makeBan_24 : decode cX9_makeBan 24 = .ok (.iload 5, 2) := by decide +kernel
theorem dX9_makeBan_26 : decode cX9_makeBan 26 = .ok (.iload 4, 2) := by decide +kernel
theorem dX9_makeBan_28 : decode cX9_makeBan 28 = .ok (.iastore, 1) := by decide +kernel
theorem dX9_makeBan_29 : decode cX9_makeBan 29 = .ok (.aload_n 0, 1) := by decide +kernel
theorem dX9_makeBan_30 : decode cX9_makeBan 30 = .ok (.getfield 79, 3) := by decide +kernel
theorem dX9_makeBan_33 : decode cX9_makeBan 33 = .ok (.iload 5, 2) := by decide +kernel
theorem dX9_makeBan_35 : decode cX9_makeBan 35 = .ok (.iload_n 3, 1) := by decide +kernel
theorem dX9_makeBan_36 : decode cX9_makeBan 36 = .ok (.iastore, 1) := by decide +kernel
theorem dX9_makeBan_37 : decode cX9_makeBan 37 = .ok (.aload_n 0, 1) := by decide +kernel
theorem dX9_makeBan_38 : decode cX9_makeBan 38 = .ok (.getfield 82, 3) := by decide +kernel
theorem dX9_makeBan_41 : decode cX9_makeBan 41 = .ok (.iload 5, 2) := by decide +kernel
theorem dX9_makeBan_43 : decode cX9_makeBan 43 = .ok (.aload_n 0, 1) := by decide +kernel
theorem dX9_makeBan_44 : decode cX9_makeBan 44 = .ok (.getfield 153, 3) := by decide +kernel
theorem dX9_makeBan_47 : decode cX9_makeBan 47 = .ok (.iastore, 1) := by decide +kernel
theorem dX9_makeBan_48 : decode cX9_makeBan 48 = .ok (.aload_n 0, 1) := by decide +kernel
theorem dX9_makeBan_49 : decode cX9_makeBan 49 = .ok (.getfield 76, 3) := by decide +kernel
theorem dX9_makeBan_52 : decode cX9_makeBan 52 = .ok (.iload 5, 2) := by decide +kernel
theorem dX9_makeBan_54 : decode cX9_makeBan 54 = .ok (.iaload, 1) := by decide +kernel
theorem dX9_makeBan_55 : decode cX9_makeBan 55 = .ok (.ireturn, 1) := by decide +kernel
set_option maxRecDepth 20000 in
theorem ggX9_leave_X9_isPerson : GoodIn wsX9_leave wsX9_isPerson := goodIn_r _ [8, 9, 10, 11, 7, 12, 31, 32, 33, 34, 35, 36, 37, 38, 39, 40, 41, 42, 43, 44, 45, 46, 47, 48, 49, 50, 51, 52, 53, 54, 55, 56, 57, 58, 59, 60, 61, 62, 63, 64, 65, 66, 67, 68, 69, 70, 71, 72, 73, 74, 75] (by decide +kernel) (by decide +kernel)
set_option maxRecDepth 20000 in
theorem gX9_leave_X9_isPerson : GoodIn wsX9_leave (wsV RX9 167 RX9 yX9_isPerson wsX9_isPerson) := goodIn_app (goodIn_of _ (by decide +kernel)) ggX9_leave_X9_isPerson
set_option maxRecDepth 20000 in
theorem ggX9_leave_X9_goesWell : GoodIn wsX9_leave wsX9_goesWell := goodIn_r _ [16, 17, 31, 32, 33, 34, 35, 36, 37, 38, 39, 40, 41, 42, 43, 44, 45, 46, 47, 48, 49, 50, 51, 52, 53, 54, 55, 56, 57, 58, 59, 60, 61, 62, 63, 64, 65, 66, 67, 68, 69, 70, 71, 72, 73, 74, 75] (by decide +kernel) (by decide +kernel)
set_option maxRecDepth 20000 in
theorem gX9_leave_X9_goesWell : GoodIn wsX9_leave (wsV RX9 146 RX9 yX9_goesWell wsX9_goesWell) := goodIn_app (goodIn_of _ (by decide +kernel)) ggX9_leave_X9_goesWell
set_option maxRecDepth 20000 in
theorem ggX9_leave_X9_overstayed : GoodIn wsX9_leave wsX9_overstayed := goodIn_r _ [21, 22, 3, 1, 23, 31, 32, 33, 34, 35, 36, 37, 38, 39, 40, 41, 42, 43, 44, 45, 46, 47, 48, 49, 50, 51, 52, 53, 54, 55, 56, 57, 58, 59, 60, 61, 62, 63, 64, 65, 66, 67, 68, 69, 70, 71, 72, 73, 74, 75] (by decide +kernel) (by decide +kernel)
set_option maxRecDepth 20000 in
theorem gX9_leave_X9_overstayed : GoodIn wsX9_leave (wsV RX9 217 RX9 yX9_overstayed wsX9_overstayed) := goodIn_app (goodIn_of _ (by decide +kernel)) ggX9_leave_X9_overstayed
set_option maxRecDepth 20000 in
theorem ggX9_leave_X9_makeBan : GoodIn wsX9_leave wsX9_makeBan := goodIn_r _ [27, 28, 29, 30, 3, 31, 32, 33, 34, 35, 36, 37, 38, 39, 40, 41, 42, 43, 44, 45, 46, 47, 48, 49, 50, 51, 52, 53, 54, 55, 56, 57, 58, 59, 60, 61, 62, 63, 64, 65, 66, 67, 68, 69, 70, 71, 72, 73, 74, 75] (by decide +kernel) (by decide +kernel)
set_option maxRecDepth 20000 in
theorem gX9_leave_X9_makeBan : GoodIn wsX9_leave (wsV RX9 220 RX9 yX9_makeBan wsX9_makeBan) := goodIn_app (goodIn_of _ (by decide +kernel)) ggX9_leave_X9_makeBan
theorem dX9_leave_0 : decode cX9_leave 0 = .ok (.aload_n 0, 1) := by decide +kernel
theorem dX9_leave_1 : decode cX9_leave 1 = .ok (.iload_n 1, 1) := by decide +kernel
theorem dX9_leave_2 : decode cX9_leave 2 = .ok (.invokevirtual 167, 3) := by decide +kernel
theorem dX9_leave_5 : decode cX9_leave 5 = .ok (.istore_n 2, 1) := by decide +kernel
theorem dX9_leave_6 : decode cX9_leave 6 = .ok (.aload_n 0, 1) := by decide +kernel
theorem dX9_leave_7 : decode cX9_leave 7 = .ok (.iload_n 2, 1) := by decide +kernel
theorem dX9_leave_8 : decode cX9_leave 8 = .ok (.ifCond .ne 7, 3) := by decide +kernel
theorem dX9_leave_11 : decode cX9_leave 11 = .ok (.iconst 1, 1) := by decide +kernel
theorem dX9_leave_12 : decode cX9_leave 12 = .ok (.goto 18, 3) := by decide +kernel
theorem dX9_leave_15 : decode cX9_leave 15 = .ok (.aload_n 0, 1) := by decide +kernel
theorem dX9_leave_16 : decode cX9_leave 16 = .ok (.getfield 54, 3) := by decide +kernel
theorem dX9_leave_19 : decode cX9_leave 19 = .ok (.iload_n 1, 1) := by decide +kernel
theorem dX9_leave_20 : decode cX9_leave 20 = .ok (.iaload, 1) := by decide +kernel
theorem dX9_leave_21 : decode cX9_leave 21 = .ok (.iconst (-1), 1) := by decide +kernel
theorem dX9_leave_22 : decode cX9_leave 22 = .ok (.if_icmp .ne 7, 3) := by decide +kernel
theorem dX9_leave_25 : decode cX9_leave 25 = .ok (.iconst 2, 1) := by decide +kernel
theorem dX9_leave_26 : decode cX9_leave 26 = .ok (.goto 4, 3) := by decide +kernel
theorem dX9_leave_29 : decode cX9_leave 29 = .ok (.iconst 0, 1) := by decide +kernel
theorem dX9_leave_30 : decode cX9_leave 30 = .ok (.invokevirtual 146, 3) := by decide +kernel
theorem dX9_leave_33 : decode cX9_leave 33 = .ok (.ifCond .ne 5, 3) := by decide +kernel
theorem dX9_leave_36 : decode cX9_leave 36 = .ok (.iconst 0, 1) := by decide +kernel
theorem dX9_leave_37 : decode cX9_leave 37 = .ok (.ireturn, 1) := by decide +kernel
theorem dX9_leave_38 : decode cX9_leave 38 = .ok (.bipush 10, 2) := by decide +kernel
theorem dX9_leave_40 : decode cX9_leave 40 = .ok (.aload_n 0, 1) := by decide +kernel
theorem dX9_leave_41 : decode cX9_leave 41 = .ok (.iload_n 1, 1) := by decide +kernel
theorem dX9_leave_42 : decode cX9_leave 42 = .ok (.invokevirtual 217, 3) := by decide +kernel
theorem dX9_leave_45 : decode cX9_leave 45 = .ok (.imul, 1) := by decide +kernel
theorem dX9_leave_46 : decode cX9_leave 46 = .ok (.istore_n 3, 1) := by decide +kernel
theorem dX9_leave_47 : decode cX9_leave 47 = .ok (.aload_n 0, 1) := by decide +kernel
theorem dX9_leave_48 : decode cX9_leave 48 = .ok (.getfield 54, 3) := by decide +kernel
theorem dX9_leave_51 : decode cX9_leave 51 = .ok (.iload_n 1, 1) := by decide +kernel
theorem dX9_leave_52 : decode cX9_leave 52 = .ok (.iaload, 1) := by decide +kernel
theorem dX9_leave_53 : decode cX9_leave 53 = .ok (.istore 4, 2) := by decide +kernel
theorem dX9_leave_55 : decode cX9_leave 55 = .ok (.aload_n 0, 1) := by decide +kernel
theorem dX9_leave_56 : decode cX9_leave 56 = .ok (.getfield 54, 3) := by decide +kernel
theorem dX9_leave_59 : decode cX9_leave 59 = .ok (.iload_n 1, 1) := by decide +kernel
theorem dX9_leave_60 : decode cX9_leave 60 = .ok (.iconst (-1), 1) := by decide +kernel
theorem dX9_leave_61 : decode cX9_leave 61 = .ok (.iastore, 1) := by decide +kernel
theorem dX9_leave_62 : decode cX9_leave 62 = .ok (.aload_n 0, 1) := by decide +kernel
theorem dX9_leave_63 : decode cX9_leave 63 = .ok (.getfield 60, 3) := by decide +kernel
theorem dX9_leave_66 : decode cX9_leave 66 = .ok (.iload_n 1, 1) := by decide +kernel
theorem dX9_leave_67 : decode cX9_leave 67 = .ok (.iconst (-1), 1) := by decide +kernel
theorem dX9_leave_68 : decode cX9_leave 68 = .ok (.iastore, 1) := by decide +kernel
theorem dX9_leave_69 : decode cX9_leave 69 = .ok (.iload_n 3, 1) := by decide +kernel
theorem dX9_leave_70 : decode cX9_leave 70 = .ok (.ifCond .ne 7, 3) := by decide +kernel
theorem dX9_leave_73 : decode cX9_leave 73 = .ok (.iconst (-1), 1) := by decide +kernel
theorem dX9_leave_74 : decode cX9_leave 74 = .ok (.goto 35, 3) := by decide +kernel
theorem dX9_leave_77 : decode cX9_leave 77 = .ok (.aload_n 0, 1) := by decide +kernel
theorem dX9_leave_78 : decode cX9_leave 78 = .ok (.iload 4, 2) := by decide +kernel
theorem dX9_leave_80 : decode cX9_leave 80 = .ok (.iload_n 1, 1) := by decide +kernel
theorem dX9_leave_81 : decode cX9_leave 81 = .ok (.aload_n 0, 1) := by decide +kernel
theorem dX9_leave_82 : decode cX9_leave 82 = .ok (.getfield 153, 3) := by decide +kernel
theorem dX9_leave_85 : decode cX9_leave 85 = .ok (.iconst 1, 1) := by decide +kernel
theorem dX9_leave_86 : decode cX9_leave 86 = .ok (.iadd, 1) := by decide +kernel
theorem dX9_leave_87 : decode cX9_leave 87 = .ok (.aload_n 0, 1) := by decide +kernel
theorem dX9_leave_88 : decode cX9_leave 88 = .ok (.getfield 153, 3) := by decide +kernel
theorem dX9_leave_91 : decode cX9_leave 91 = .ok (.iload_n 3, 1) := by decide +kernel
theorem dX9_leave_92 : decode cX9_leave 92 = .ok (.sipush 720, 3) := by decide +kernel
theorem dX9_leave_95 : decode cX9_leave 95 = .ok (.if_icmp .le 9, 3) := by decide +kernel
theorem dX9_leave_98 : decode cX9_leave 98 = .ok (.sipush 720, 3) := by decide +kernel
theorem dX9_leave_101 : decode cX9_leave 101 = .ok (.goto 4, 3) := by decide +kernel
theorem dX9_leave_104 : decode cX9_leave 104 = .ok (.iload_n 3, 1) := by decide +kernel
theorem dX9_leave_105 : decode cX9_leave 105 = .ok (.iadd, 1) := by decide +kernel
theorem dX9_leave_106 : decode cX9_leave 106 = .ok (.invokevirtual 220, 3) := by decide +kernel
theorem dX9_leave_109 : decode cX9_leave 109 = .ok (.ireturn, 1) := by decide +kernel
set_option maxRecDepth 20000 in
theorem ggX9_ban_X9_isLand : GoodIn wsX9_ban wsX9_isLand := goodIn_r _ [6, 7, 8, 9, 5, 10, 28, 29, 30, 31, 32, 33, 34, 35, 36, 37, 38, 39, 40, 41, 42, 43, 44, 45, 46, 47, 48, 49, 50, 51, 52, 53, 54, 55, 56, 57, 58, 59, 60, 61, 62, 63, 64, 65, 66, 67, 68, 69, 70, 71, 72] (by decide +kernel) (by decide +kernel)
set_option maxRecDepth 20000 in
theorem gX9_ban_X9_isLand : GoodIn wsX9_ban (wsV RX9 150 RX9 yX9_isLand wsX9_isLand) := goodIn_app (goodIn_of _ (by decide +kernel)) ggX9_ban_X9_isLand
set_option maxRecDepth 20000 in
theorem ggX9_ban_X9_isPerson : GoodIn wsX9_ban wsX9_isPerson := goodIn_r _ [14, 15, 8, 9, 5, 10, 28, 29, 30, 31, 32, 33, 34, 35, 36, 37, 38, 39, 40, 41, 42, 43, 44, 45, 46, 47, 48, 49, 50, 51, 52, 53, 54, 55, 56, 57, 58, 59, 60, 61, 62, 63, 64, 65, 66, 67, 68, 69, 70, 71, 72] (by decide +kernel) (by decide +kernel)
set_option maxRecDepth 20000 in
theorem gX9_ban_X9_isPerson : GoodIn wsX9_ban (wsV RX9 167 RX9 yX9_isPerson wsX9_isPerson) := goodIn_app (goodIn_of _ (by decide +kernel)) ggX9_ban_X9_isPerson
set_option maxRecDepth 20000 in
theorem ggX9_ban_X9_in : GoodIn wsX9_ban wsX9_in := goodIn_r _ [10] (by decide +kernel) (by decide +kernel)
set_option maxRecDepth 20000 in
theorem gX9_ban_X9_in : GoodIn wsX9_ban (va_wsS RX9 136 yX9_in wsX9_in) := goodIn_app (goodIn_of _ (by decide +kernel)) ggX9_ban_X9_in
set_option maxRecDepth 20000 in
theorem ggX9_ban_X9_goesWell : GoodIn wsX9_ban wsX9_goesWell := goodIn_r _ [19, 20, 28, 29, 30, 31, 32, 33, 34, 35, 36, 37, 38, 39, 40, 41, 42, 43, 44, 45, 46, 47, 48, 49, 50, 51, 52, 53, 54, 55, 56, 57, 58, 59, 60, 61, 62, 63, 64, 65, 66, 67, 68, 69, 70, 71, 72] (by decide +kernel) (by decide +kernel)
set_option maxRecDepth 20000 in
theorem gX9_ban_X9_goesWell : GoodIn wsX9_ban (wsV RX9 146 RX9 yX9_goesWell wsX9_goesWell) := goodIn_app (goodIn_of _ (by decide +kernel)) ggX9_ban_X9_goesWell
set_option maxRecDepth 20000 in
theorem ggX9_ban_X9_makeBan : GoodIn wsX9_ban wsX9_makeBan := goodIn_r _ [24, 25, 26, 27, 1, 28, 29, 30, 31, 32, 33, 34, 35, 36, 37, 38, 39, 40, 41, 42, 43, 44, 45, 46, 47, 48, 49, 50, 51, 52, 53, 54, 55, 56, 57, 58, 59, 60, 61, 62, 63, 64, 65, 66, 67, 68, 69, 70, 71, 72] (by decide +kernel) (by decide +kernel)
set_option maxRecDepth 20000 in
theorem gX9_ban_X9_makeBan : GoodIn wsX9_ban (wsV RX9 220 RX9 yX9_makeBan wsX9_makeBan) := goodIn_app (goodIn_of _ (by decide +kernel)) ggX9_ban_X9_makeBan
theorem dX9_ban_0 : decode cX9_ban 0 = .ok (.aload_n 0, 1) := by decide +kernel
theorem dX9_ban_1 : decode cX9_ban 1 = .ok (.iload_n 1, 1) := by decide +kernel
theorem dX9_ban_2 : decode cX9_ban 2 = .ok (.invokevirtual 150, 3) := by decide +kernel
theorem dX9_ban_5 : decode cX9_ban 5 = .ok (.ifCond .eq 15, 3) := by decide +kernel
theorem dX9_ban_8 : decode cX9_ban 8 = .ok (.aload_n 0, 1) := by decide +kernel
theorem dX9_ban_9 : decode cX9_ban 9 = .ok (.iload_n 2, 1) := by decide +kernel
theorem dX9_ban_10 : decode cX9_ban 10 = .ok (.invokevirtual 167, 3) := by decide +kernel
theorem dX9_ban_13 : decode cX9_ban 13 = .ok (.ifCond .eq 7, 3) := by decide +kernel
theorem dX9_ban_16 : decode cX9_ban 16 = .ok (.iconst 1, 1) := by decide +kernel
theorem dX9_ban_17 : decode cX9_ban 17 = .ok (.goto 4, 3) := by decide +kernel
theorem dX9_ban_20 : decode cX9_ban 20 = .ok (.iconst 0, 1) := by decide +kernel
theorem dX9_ban_21 : decode cX9_ban 21 = .ok (.istore 4, 2) := by decide +kernel
theorem dX9_ban_23 : decode cX9_ban 23 = .ok (.aload_n 0, 1) := by decide +kernel
theorem dX9_ban_24 : decode cX9_ban 24 = .ok (.iload 4, 2) := by decide +kernel
theorem dX9_ban_26 : decode cX9_ban 26 = .ok (.ifCond .ne 7, 3) := by decide +kernel
theorem dX9_ban_29 : decode cX9_ban 29 = .ok (.iconst 1, 1) := by decide +kernel
theorem dX9_ban_30 : decode cX9_ban 30 = .ok (.goto 19, 3) := by decide +kernel
theorem dX9_ban_33 : decode cX9_ban 33 = .ok (.iload_n 3, 1) := by decide +kernel
theorem dX9_ban_34 : decode cX9_ban 34 = .ok (.iconst 1, 1) := by decide +kernel
theorem dX9_ban_35 : decode cX9_ban 35 = .ok (.sipush 720, 3) := by decide +kernel
theorem dX9_ban_38 : decode cX9_ban 38 = .ok (.invokestatic 136, 3) := by decide +kernel
theorem dX9_ban_41 : decode cX9_ban 41 = .ok (.ifCond .eq 7, 3) := by decide +kernel
theorem dX9_ban_44 : decode cX9_ban 44 = .ok (.iconst 0, 1) := by decide +kernel
theorem dX9_ban_45 : decode cX9_ban 45 = .ok (.goto 4, 3) := by decide +kernel
theorem dX9_ban_48 : decode cX9_ban 48 = .ok (.iconst 2, 1) := by decide +kernel
theorem dX9_ban_49 : decode cX9_ban 49 = .ok (.invokevirtual 146, 3) := by decide +kernel
theorem dX9_ban_52 : decode cX9_ban 52 = .ok (.ifCond .eq 24, 3) := by decide +kernel
theorem dX9_ban_55 : decode cX9_ban 55 = .ok (.aload_n 0, 1) := by decide +kernel
theorem dX9_ban_56 : decode cX9_ban 56 = .ok (.iload_n 1, 1) := by decide +kernel
theorem dX9_ban_57 : decode cX9_ban 57 = .ok (.iload_n 2, 1) := by decide +kernel
theorem dX9_ban_58 : decode cX9_ban 58 = .ok (.aload_n 0, 1) := by decide +kernel
theorem dX9_ban_59 : decode cX9_ban 59 = .ok (.getfield 153, 3) := by decide +kernel
theorem dX9_ban_62 : decode cX9_ban 62 = .ok (.aload_n 0, 1) := by decide +kernel
theorem dX9_ban_63 : decode cX9_ban 63 = .ok (.getfield 153, 3) := by decide +kernel
theorem dX9_ban_66 : decode cX9_ban 66 = .ok (.iload_n 3, 1) := by decide +kernel
theorem dX9_ban_67 : decode cX9_ban 67 = .ok (.iadd, 1) := by decide +kernel
theorem dX9_ban_68 : decode cX9_ban 68 = .ok (.iconst 1, 1) := by decide +kernel
theorem dX9_ban_69 : decode cX9_ban 69 = .ok (.isub, 1) := by decide +kernel
theorem dX9_ban_70 : decode cX9_ban 70 = .ok (.invokevirtual 220, 3) := by decide +kernel
theorem dX9_ban_73 : decode cX9_ban 73 = .ok (.goto 4, 3) := by decide +kernel
theorem dX9_ban_76 : decode cX9_ban 76 = .ok (.iconst 0, 1) := by decide +kernel
theorem dX9_ban_77 : decode cX9_ban 77 = .ok (.ireturn, 1) := by decide +kernel
set_option maxRecDepth 20000 in
theorem ggX9_lift_X9_isLand : GoodIn wsX9_lift wsX9_isLand := goodIn_r _ [7, 8, 9, 10, 6, 11, 22, 23, 24, 25, 26, 27, 28, 29, 30, 31, 32, 33, 34, 35, 36, 37, 38, 39, 40, 41, 42, 43, 44, 45, 46, 47, 48, 49, 50, 51, 52, 53, 54, 55, 56, 57, 58, 59, 60, 61, 62, 63, 64, 65, 66] (by decide +kernel) (by decide +kernel)
set_option maxRecDepth 20000 in
theorem gX9_lift_X9_isLand : GoodIn wsX9_lift (wsV RX9 150 RX9 yX9_isLand wsX9_isLand) := goodIn_app (goodIn_of _ (by decide +kernel)) ggX9_lift_X9_isLand
set_option maxRecDepth 20000 in
theorem ggX9_lift_X9_isPerson : GoodIn wsX9_lift wsX9_isPerson := goodIn_r _ [15, 16, 9, 10, 6, 11, 22, 23, 24, 25, 26, 27, 28, 29, 30, 31, 32, 33, 34, 35, 36, 37, 38, 39, 40, 41, 42, 43, 44, 45, 46, 47, 48, 49, 50, 51, 52, 53, 54, 55, 56, 57, 58, 59, 60, 61, 62, 63, 64, 65, 66] (by decide +kernel) (by decide +kernel)
set_option maxRecDepth 20000 in
theorem gX9_lift_X9_isPerson : GoodIn wsX9_lift (wsV RX9 167 RX9 yX9_isPerson wsX9_isPerson) := goodIn_app (goodIn_of _ (by decide +kernel)) ggX9_lift_X9_isPerson
set_option maxRecDepth 20000 in
theorem ggX9_lift_X9_goesWell : GoodIn wsX9_lift wsX9_goesWell := goodIn_r _ [20, 21, 22, 23, 24, 25, 26, 27, 28, 29, 30, 31, 32, 33, 34, 35, 36, 37, 38, 39, 40, 41, 42, 43, 44, 45, 46, 47, 48, 49, 50, 51, 52, 53, 54, 55, 56, 57, 58, 59, 60, 61, 62, 63, 64, 65, 66] (by decide +kernel) (by decide +kernel)
set_option maxRecDepth 20000 in
theorem gX9_lift_X9_goesWell : GoodIn wsX9_lift (wsV RX9 146 RX9 yX9_goesWell wsX9_goesWell) := goodIn_app (goodIn_of _ (by decide +kernel)) ggX9_lift_X9_goesWell
theorem dX9_lift_0 : decode cX9_lift 0 = .ok (.aload_n 0, 1) := by decide +kernel
theorem dX9_lift_1 : decode cX9_lift 1 = .ok (.aload_n 0, 1) := by decide +kernel
theorem dX9_lift_2 : decode cX9_lift 2 = .ok (.iload_n 1, 1) := by decide +kernel
theorem dX9_lift_3 : decode cX9_lift 3 = .ok (.invokevirtual 150, 3) := by decide +kernel
theorem dX9_lift_6 : decode cX9_lift 6 = .ok (.ifCond .eq 15, 3) := by decide +kernel
theorem dX9_lift_9 : decode cX9_lift 9 = .ok (.aload_n 0, 1) := by decide +kernel
theorem dX9_lift_10 : decode cX9_lift 10 = .ok (.iload_n 2, 1) := by decide +kernel
theorem dX9_lift_11 : decode cX9_lift 11 = .ok (.invokevirtual 167, 3) := by decide +kernel
theorem dX9_lift_14 : decode cX9_lift 14 = .ok (.ifCond .eq 7, 3) := by decide +kernel
theorem dX9_lift_17 : decode cX9_lift 17 = .ok (.iconst 0, 1) := by decide +kernel
theorem dX9_lift_18 : decode cX9_lift 18 = .ok (.goto 4, 3) := by decide +kernel
theorem dX9_lift_21 : decode cX9_lift 21 = .ok (.iconst 1, 1) := by decide +kernel
theorem dX9_lift_22 : decode cX9_lift 22 = .ok (.invokevirtual 146, 3) := by decide +kernel
theorem dX9_lift_25 : decode cX9_lift 25 = .ok (.ifCond .ne 5, 3) := by decide +kernel
theorem dX9_lift_28 : decode cX9_lift 28 = .ok (.iconst 0, 1) := by decide +kernel
theorem dX9_lift_29 : decode cX9_lift 29 = .ok (.ireturn, 1) := by decide +kernel
theorem dX9_lift_30 : decode cX9_lift 30 = .ok (.aload_n 0, 1) := by decide +kernel
theorem dX9_lift_31 : decode cX9_lift 31 = .ok (.getfield 76, 3) := by decide +kernel
theorem dX9_lift_34 : decode cX9_lift 34 = .ok (.bipush 8, 2) := by decide +kernel
theorem dX9_lift_36 : decode cX9_lift 36 = .ok (.iload_n 2, 1) := by decide +kernel
theorem dX9_lift_37 : decode cX9_lift 37 = .ok (.imul, 1) := by decide +kernel
theorem dX9_lift_38 : decode cX9_lift 38 = .ok (.iload_n 1, 1) := by decide +kernel
theorem dX9_lift_39 : decode cX9_lift 39 = .ok (.iadd, 1) := by decide +kernel
theorem dX9_lift_40 : decode cX9_lift 40 = .ok (.iaload, 1) := by decide +kernel
theorem dX9_lift_41 : decode cX9_lift 41 = .ok (.aload_n 0, 1) := by decide +kernel
theorem dX9_lift_42 : decode cX9_lift 42 = .ok (.getfield 153, 3) := by decide +kernel
theorem dX9_lift_45 : decode cX9_lift 45 = .ok (.if_icmp .lt 7, 3) := by decide +kernel
theorem dX9_lift_48 : decode cX9_lift 48 = .ok (.iconst 1, 1) := by decide +kernel
theorem dX9_lift_49 : decode cX9_lift 49 = .ok (.goto 4, 3) := by decide +kernel
theorem dX9_lift_52 : decode cX9_lift 52 = .ok (.iconst 0, 1) := by decide +kernel
theorem dX9_lift_53 : decode cX9_lift 53 = .ok (.istore_n 3, 1) := by decide +kernel
theorem dX9_lift_54 : decode cX9_lift 54 = .ok (.aload_n 0, 1) := by decide +kernel
theorem dX9_lift_55 : decode cX9_lift 55 = .ok (.getfield 76, 3) := by decide +kernel
theorem dX9_lift_58 : decode cX9_lift 58 = .ok (.bipush 8, 2) := by decide +kernel
theorem dX9_lift_60 : decode cX9_lift 60 = .ok (.iload_n 2, 1) := by decide +kernel
theorem dX9_lift_61 : decode cX9_lift 61 = .ok (.imul, 1) := by decide +kernel
theorem dX9_lift_62 : decode cX9_lift 62 = .ok (.iload_n 1, 1) := by decide +kernel
theorem dX9_lift_63 : decode cX9_lift 63 = .ok (.iadd, 1) := by decide +kernel
theorem dX9_lift_64 : decode cX9_lift 64 = .ok (.iconst (-1), 1) := by decide +kernel
theorem dX9_lift_65 : decode cX9_lift 65 = .ok (.iastore, 1) := by decide +kernel
theorem dX9_lift_66 : decode cX9_lift 66 = .ok (.iload_n 3, 1) := by decide +kernel
theorem dX9_lift_67 : decode cX9_lift 67 = .ok (.ireturn, 1) := by decide +kernel
set_option maxRecDepth 20000 in
theorem ggX9_quota_X9_isLand : GoodIn wsX9_quota wsX9_isLand := goodIn_r _ [6, 7, 8, 9, 5, 10, 16, 17, 18, 19, 20, 21, 22, 23, 24, 25, 26, 27, 28, 29, 30, 31, 32, 33, 34, 35, 36, 37, 38, 39, 40, 41, 42, 43, 44, 45, 46, 47, 48, 49, 50, 51, 52, 53, 54, 55, 56, 57, 58, 59, 60] (by decide +kernel) (by decide +kernel)
set_option maxRecDepth 20000 in
theorem gX9_quota_X9_isLand : GoodIn wsX9_quota (wsV RX9 150 RX9 yX9_isLand wsX9_isLand) := goodIn_app (goodIn_of _ (by decide +kernel)) ggX9_quota_X9_isLand
set_option maxRecDepth 20000 in
theorem ggX9_quota_X9_in : GoodIn wsX9_quota wsX9_in := goodIn_r _ [10] (by decide +kernel) (by decide +kernel)
set_option maxRecDepth 20000 in
theorem gX9_quota_X9_in : GoodIn wsX9_quota (va_wsS RX9 136 yX9_in wsX9_in) := goodIn_app (goodIn_of _ (by decide +kernel)) ggX9_quota_X9_in
set_option maxRecDepth 20000 in
theorem ggX9_quota_X9_goesWell : GoodIn wsX9_quota wsX9_goesWell := goodIn_r _ [14, 15, 16, 17, 18, 19, 20, 21, 22, 23, 24, 25, 26, 27, 28, 29, 30, 31, 32, 33, 34, 35, 36, 37, 38, 39, 40, 41, 42, 43, 44, 45, 46, 47, 48, 49, 50, 51, 52, 53, 54, 55, 56, 57, 58, 59, 60] (by decide +kernel) (by decide +kernel)
set_option maxRecDepth 20000 in
theorem gX9_quota_X9_goesWell : GoodIn wsX9_quota (wsV RX9 146 RX9 yX9_goesWell wsX9_goesWell) := goodIn_app (goodIn_of _ (by decide +kernel)) ggX9_quota_X9_goesWell
theorem dX9_quota_0 : decode cX9_quota 0 = .ok (.aload_n 0, 1) := by decide +kernel
theorem dX9_quota_1 : decode cX9_quota 1 = .ok (.iload_n 1, 1) := by decide +kernel
theorem dX9_quota_2 : decode cX9_quota 2 = .ok (.invokevirtual 150, 3) := by decide +kernel
theorem dX9_quota_5 : decode cX9_quota 5 = .ok (.istore 4, 2) := by decide +kernel
theorem dX9_quota_7 : decode cX9_quota 7 = .ok (.aload_n 0, 1) := by decide +kernel
theorem dX9_quota_8 : decode cX9_quota 8 = .ok (.iload 4, 2) := by decide +kernel
theorem dX9_quota_10 : decode cX9_quota 10 = .ok (.ifCond .ne 7, 3) := by decide +kernel
theorem dX9_quota_13 : decode cX9_quota 13 = .ok (.iconst 1, 1) := by decide +kernel
theorem dX9_quota_14 : decode cX9_quota 14 = .ok (.goto 27, 3) := by decide +kernel
theorem dX9_quota_17 : decode cX9_quota 17 = .ok (.iload_n 2, 1) := by decide +kernel
theorem dX9_quota_18 : decode cX9_quota 18 = .ok (.iconst 0, 1) := by decide +kernel
theorem dX9_quota_19 : decode cX9_quota 19 = .ok (.iconst 2, 1) := by decide +kernel
theorem dX9_quota_20 : decode cX9_quota 20 = .ok (.invokestatic 136, 3) := by decide +kernel
theorem dX9_quota_23 : decode cX9_quota 23 = .ok (.ifCond .eq 17, 3) := by decide +kernel
theorem dX9_quota_26 : decode cX9_quota 26 = .ok (.iload_n 3, 1) := by decide +kernel
theorem dX9_quota_27 : decode cX9_quota 27 = .ok (.iconst 0, 1) := by decide +kernel
theorem dX9_quota_28 : decode cX9_quota 28 = .ok (.bipush 9, 2) := by decide +kernel
theorem dX9_quota_30 : decode cX9_quota 30 = .ok (.invokestatic 136, 3) := by decide +kernel
theorem dX9_quota_33 : decode cX9_quota 33 = .ok (.ifCond .eq 7, 3) := by decide +kernel
theorem dX9_quota_36 : decode cX9_quota 36 = .ok (.iconst 0, 1) := by decide +kernel
theorem dX9_quota_37 : decode cX9_quota 37 = .ok (.goto 4, 3) := by decide +kernel
theorem dX9_quota_40 : decode cX9_quota 40 = .ok (.iconst 2, 1) := by decide +kernel
theorem dX9_quota_41 : decode cX9_quota 41 = .ok (.invokevirtual 146, 3) := by decide +kernel
theorem dX9_quota_44 : decode cX9_quota 44 = .ok (.ifCond .ne 5, 3) := by decide +kernel
theorem dX9_quota_47 : decode cX9_quota 47 = .ok (.iconst 0, 1) := by decide +kernel
theorem dX9_quota_48 : decode cX9_quota 48 = .ok (.ireturn, 1) := by decide +kernel
theorem dX9_quota_49 : decode cX9_quota 49 = .ok (.aload_n 0, 1) := by decide +kernel
theorem dX9_quota_50 : decode cX9_quota 50 = .ok (.getfield 26, 3) := by decide +kernel
theorem dX9_quota_53 : decode cX9_quota 53 = .ok (.iconst 3, 1) := by decide +kernel
theorem dX9_quota_54 : decode cX9_quota 54 = .ok (.iload_n 1, 1) := by decide +kernel
theorem dX9_quota_55 : decode cX9_quota 55 = .ok (.imul, 1) := by decide +kernel
theorem dX9_quota_56 : decode cX9_quota 56 = .ok (.iload_n 2, 1) := by decide +kernel
theorem dX9_quota_57 : decode cX9_quota 57 = .ok (.iadd, 1) := by decide +kernel
theorem dX9_quota_58 : decode cX9_quota 58 = .ok (.iaload, 1) := by decide +kernel
theorem dX9_quota_59 : decode cX9_quota 59 = .ok (.istore 5, 2) := by decide +kernel
theorem dX9_quota_61 : decode cX9_quota 61 = .ok (.aload_n 0, 1) := by decide +kernel
theorem dX9_quota_62 : decode cX9_quota 62 = .ok (.getfield 26, 3) := by decide +kernel
theorem dX9_quota_65 : decode cX9_quota 65 = .ok (.iconst 3, 1) := by decide +kernel
theorem dX9_quota_66 : decode cX9_quota 66 = .ok (.iload_n 1, 1) := by decide +kernel
theorem dX9_quota_67 : decode cX9_quota 67 = .ok (.imul, 1) := by decide +kernel
theorem dX9_quota_68 : decode cX9_quota 68 = .ok (.iload_n 2, 1) := by decide +kernel
theorem dX9_quota_69 : decode cX9_quota 69 = .ok (.iadd, 1) := by decide +kernel
theorem dX9_quota_70 : decode cX9_quota 70 = .ok (.iload_n 3, 1) := by decide +kernel
theorem dX9_quota_71 : decode cX9_quota 71 = .ok (.iastore, 1) := by decide +kernel
theorem dX9_quota_72 : decode cX9_quota 72 = .ok (.iload 5, 2) := by decide +kernel
theorem dX9_quota_74 : decode cX9_quota 74 = .ok (.ireturn, 1) := by decide +kernel
theorem dX9_hasOpen_0 : decode cX9_hasOpen 0 = .ok (.iconst 0, 1) := by decide +kernel
theorem dX9_hasOpen_1 : decode cX9_hasOpen 1 = .ok (.istore_n 3, 1) := by decide +kernel
theorem dX9_hasOpen_2 : decode cX9_hasOpen 2 = .ok (.iconst 0, 1) := by decide +kernel
theorem dX9_hasOpen_3 : decode cX9_hasOpen 3 = .ok (.istore 4, 2) := by decide +kernel
theorem dX9_hasOpen_5 : decode cX9_hasOpen 5 = .ok (.iload 4, 2) := by decide +kernel
theorem dX9_hasOpen_7 : decode cX9_hasOpen 7 = .ok (.aload_n 0, 1) := by decide +kernel
theorem dX9_hasOpen_8 : decode cX9_hasOpen 8 = .ok (.getfield 143, 3) := by decide +kernel
theorem dX9_hasOpen_11 : decode cX9_hasOpen 11 = .ok (.if_icmp .ge 73, 3) := by decide +kernel
theorem dX9_hasOpen_14 : decode cX9_hasOpen 14 = .ok (.iload_n 3, 1) := by decide +kernel
theorem dX9_hasOpen_15 : decode cX9_hasOpen 15 = .ok (.ifCond .ne 57, 3) := by decide +kernel
theorem dX9_hasOpen_18 : decode cX9_hasOpen 18 = .ok (.aload_n 0, 1) := by decide +kernel
theorem dX9_hasOpen_19 : decode cX9_hasOpen 19 = .ok (.getfield 106, 3) := by decide +kernel
theorem dX9_hasOpen_22 : decode cX9_hasOpen 22 = .ok (.iload 4, 2) := by decide +kernel
theorem dX9_hasOpen_24 : decode cX9_hasOpen 24 = .ok (.iaload, 1) := by decide +kernel
theorem dX9_hasOpen_25 : decode cX9_hasOpen 25 = .ok (.iload_n 1, 1) := by decide +kernel
theorem dX9_hasOpen_26 : decode cX9_hasOpen 26 = .ok (.if_icmp .ne 50, 3) := by decide +kernel
theorem dX9_hasOpen_29 : decode cX9_hasOpen 29 = .ok (.aload_n 0, 1) := by decide +kernel
theorem dX9_hasOpen_30 : decode cX9_hasOpen 30 = .ok (.getfield 109, 3) := by decide +kernel
theorem dX9_hasOpen_33 : decode cX9_hasOpen 33 = .ok (.iload 4, 2) := by decide +kernel
theorem dX9_hasOpen_35 : decode cX9_hasOpen 35 = .ok (.iaload, 1) := by decide +kernel
theorem dX9_hasOpen_36 : decode cX9_hasOpen 36 = .ok (.iload_n 2, 1) := by decide +kernel
theorem dX9_hasOpen_37 : decode cX9_hasOpen 37 = .ok (.if_icmp .ne 39, 3) := by decide +kernel
theorem dX9_hasOpen_40 : decode cX9_hasOpen 40 = .ok (.aload_n 0, 1) := by decide +kernel
theorem dX9_hasOpen_41 : decode cX9_hasOpen 41 = .ok (.getfield 118, 3) := by decide +kernel
theorem dX9_hasOpen_44 : decode cX9_hasOpen 44 = .ok (.iload 4, 2) := by decide +kernel
theorem dX9_hasOpen_46 : decode cX9_hasOpen 46 = .ok (.iaload, 1) := by decide +kernel
theorem dX9_hasOpen_47 : decode cX9_hasOpen 47 = .ok (.ifCond .eq 25, 3) := by decide +kernel
theorem dX9_hasOpen_50 : decode cX9_hasOpen 50 = .ok (.aload_n 0, 1) := by decide +kernel
theorem dX9_hasOpen_51 : decode cX9_hasOpen 51 = .ok (.getfield 118, 3) := by decide +kernel
theorem dX9_hasOpen_54 : decode cX9_hasOpen 54 = .ok (.iload 4, 2) := by decide +kernel
theorem dX9_hasOpen_56 : decode cX9_hasOpen 56 = .ok (.iaload, 1) := by decide +kernel
theorem dX9_hasOpen_57 : decode cX9_hasOpen 57 = .ok (.iconst 2, 1) := by decide +kernel
theorem dX9_hasOpen_58 : decode cX9_hasOpen 58 = .ok (.if_icmp .eq 14, 3) := by decide +kernel
theorem dX9_hasOpen_61 : decode cX9_hasOpen 61 = .ok (.aload_n 0, 1) := by decide +kernel
theorem dX9_hasOpen_62 : decode cX9_hasOpen 62 = .ok (.getfield 118, 3) := by decide +kernel
theorem dX9_hasOpen_65 : decode cX9_hasOpen 65 = .ok (.iload 4, 2) := by decide +kernel
theorem dX9_hasOpen_67 : decode cX9_hasOpen 67 = .ok (.iaload, 1) := by decide +kernel
theorem dX9_hasOpen_68 : decode cX9_hasOpen 68 = .ok (.iconst 3, 1) := by decide +kernel
theorem dX9_hasOpen_69 : decode cX9_hasOpen 69 = .ok (.if_icmp .ne 7, 3) := by decide +kernel
theorem dX9_hasOpen_72 : decode cX9_hasOpen 72 = .ok (.iconst 1, 1) := by decide +kernel
theorem dX9_hasOpen_73 : decode cX9_hasOpen 73 = .ok (.goto 4, 3) := by decide +kernel
theorem dX9_hasOpen_76 : decode cX9_hasOpen 76 = .ok (.iconst 0, 1) := by decide +kernel
theorem dX9_hasOpen_77 : decode cX9_hasOpen 77 = .ok (.istore_n 3, 1) := by decide +kernel
theorem dX9_hasOpen_78 : decode cX9_hasOpen 78 = .ok (.iinc 4 1, 3) := by decide +kernel
theorem dX9_hasOpen_81 : decode cX9_hasOpen 81 = .ok (.goto (-76), 3) := by decide +kernel
theorem dX9_hasOpen_84 : decode cX9_hasOpen 84 = .ok (.iload_n 3, 1) := by decide +kernel
theorem dX9_hasOpen_85 : decode cX9_hasOpen 85 = .ok (.ireturn, 1) := by decide +kernel
set_option maxRecDepth 20000 in
theorem ggX9_ask_X9_isPerson : GoodIn wsX9_ask wsX9_isPerson := goodIn_r _ [12, 13, 14, 15, 11, 16, 35, 36, 37, 38, 39, 40, 41, 42, 43, 44, 45, 46, 47, 48, 49, 50, 51, 52, 53, 54, 55, 56, 57, 58, 59, 60, 61, 62, 63, 64, 65, 66, 67, 68, 69, 70, 71, 72, 73, 74, 75, 76, 77, 78, 79] (by decide +kernel) (by decide +kernel)
set_option maxRecDepth 20000 in
theorem gX9_ask_X9_isPerson : GoodIn wsX9_ask (wsV RX9 167 RX9 yX9_isPerson wsX9_isPerson) := goodIn_app (goodIn_of _ (by decide +kernel)) ggX9_ask_X9_isPerson
set_option maxRecDepth 20000 in
theorem ggX9_ask_X9_isLand : GoodIn wsX9_ask wsX9_isLand := goodIn_r _ [20, 21, 14, 15, 11, 16, 35, 36, 37, 38, 39, 40, 41, 42, 43, 44, 45, 46, 47, 48, 49, 50, 51, 52, 53, 54, 55, 56, 57, 58, 59, 60, 61, 62, 63, 64, 65, 66, 67, 68, 69, 70, 71, 72, 73, 74, 75, 76, 77, 78, 79] (by decide +kernel) (by decide +kernel)
set_option maxRecDepth 20000 in
theorem gX9_ask_X9_isLand : GoodIn wsX9_ask (wsV RX9 150 RX9 yX9_isLand wsX9_isLand) := goodIn_app (goodIn_of _ (by decide +kernel)) ggX9_ask_X9_isLand
set_option maxRecDepth 20000 in
theorem ggX9_ask_X9_has : GoodIn wsX9_ask wsX9_has := goodIn_r _ [24] (by decide +kernel) (by decide +kernel)
set_option maxRecDepth 20000 in
theorem gX9_ask_X9_has : GoodIn wsX9_ask (va_wsS RX9 160 yX9_has wsX9_has) := goodIn_app (goodIn_of _ (by decide +kernel)) ggX9_ask_X9_has
set_option maxRecDepth 20000 in
theorem ggX9_ask_X9_hasOpen : GoodIn wsX9_ask wsX9_hasOpen := goodIn_r _ [28, 1, 3, 4, 29, 35, 36, 37, 38, 39, 40, 41, 42, 43, 44, 45, 46, 47, 48, 49, 50, 51, 52, 53, 54, 55, 56, 57, 58, 59, 60, 61, 62, 63, 64, 65, 66, 67, 68, 69, 70, 71, 72, 73, 74, 75, 76, 77, 78, 79] (by decide +kernel) (by decide +kernel)
set_option maxRecDepth 20000 in
theorem gX9_ask_X9_hasOpen : GoodIn wsX9_ask (wsV RX9 224 RX9 yX9_hasOpen wsX9_hasOpen) := goodIn_app (goodIn_of _ (by decide +kernel)) ggX9_ask_X9_hasOpen
set_option maxRecDepth 20000 in
theorem ggX9_ask_X9_in : GoodIn wsX9_ask wsX9_in := goodIn_r _ [16] (by decide +kernel) (by decide +kernel)
set_option maxRecDepth 20000 in
theorem gX9_ask_X9_in : GoodIn wsX9_ask (va_wsS RX9 136 yX9_in wsX9_in) := goodIn_app (goodIn_of _ (by decide +kernel)) ggX9_ask_X9_in
set_option maxRecDepth 20000 in
theorem ggX9_ask_X9_goesWell : GoodIn wsX9_ask wsX9_goesWell := goodIn_r _ [33, 34, 35, 36, 37, 38, 39, 40, 41, 42, 43, 44, 45, 46, 47, 48, 49, 50, 51, 52, 53, 54, 55, 56, 57, 58, 59, 60, 61, 62, 63, 64, 65, 66, 67, 68, 69, 70, 71, 72, 73, 74, 75, 76, 77, 78, 79] (by decide +kernel) (by decide +kernel)
set_option maxRecDepth 20000 in
theorem gX9_ask_X9_goesWell : GoodIn wsX9_ask (wsV RX9 146 RX9 yX9_goesWell wsX9_goesWell) := goodIn_app (goodIn_of _ (by decide +kernel)) ggX9_ask_X9_goesWell
theorem dX9_ask_0 : decode cX9_ask 0 = .ok (.aload_n 0, 1) := by decide +kernel
theorem dX9_ask_1 : decode cX9_ask 1 = .ok (.iload_n 1, 1) := by decide +kernel
theorem dX9_ask_2 : decode cX9_ask 2 = .ok (.invokevirtual 167, 3) := by decide +kernel
theorem dX9_ask_5 : decode cX9_ask 5 = .ok (.ifCond .eq 15, 3) := by decide +kernel
theorem dX9_ask_8 : decode cX9_ask 8 = .ok (.aload_n 0, 1) := by decide +kernel
theorem dX9_ask_9 : decode cX9_ask 9 = .ok (.iload_n 2, 1) := by decide +kernel
theorem dX9_ask_10 : decode cX9_ask 10 = .ok (.invokevirtual 150, 3) := by decide +kernel
theorem dX9_ask_13 : decode cX9_ask 13 = .ok (.ifCond .eq 7, 3) := by decide +kernel
theorem dX9_ask_16 : decode cX9_ask 16 = .ok (.iconst 1, 1) := by decide +kernel
theorem dX9_ask_17 : decode cX9_ask 17 = .ok (.goto 4, 3) := by decide +kernel
theorem dX9_ask_20 : decode cX9_ask 20 = .ok (.iconst 0, 1) := by decide +kernel
theorem dX9_ask_21 : decode cX9_ask 21 = .ok (.istore 4, 2) := by decide +kernel
theorem dX9_ask_23 : decode cX9_ask 23 = .ok (.iload 4, 2) := by decide +kernel
theorem dX9_ask_25 : decode cX9_ask 25 = .ok (.ifCond .eq 38, 3) := by decide +kernel
theorem dX9_ask_28 : decode cX9_ask 28 = .ok (.aload_n 0, 1) := by decide +kernel
theorem dX9_ask_29 : decode cX9_ask 29 = .ok (.getfield 143, 3) := by decide +kernel
theorem dX9_ask_32 : decode cX9_ask 32 = .ok (.bipush 40, 2) := by decide +kernel
theorem dX9_ask_34 : decode cX9_ask 34 = .ok (.if_icmp .ge 29, 3) := by decide +kernel
theorem dX9_ask_37 : decode cX9_ask 37 = .ok (.aload_n 0, 1) := by decide +kernel
theorem dX9_ask_38 : decode cX9_ask 38 = .ok (.getfield 45, 3) := by decide +kernel
theorem dX9_ask_41 : decode cX9_ask 41 = .ok (.iload_n 1, 1) := by decide +kernel
theorem dX9_ask_42 : decode cX9_ask 42 = .ok (.iaload, 1) := by decide +kernel
theorem dX9_ask_43 : decode cX9_ask 43 = .ok (.iload_n 2, 1) := by decide +kernel
theorem dX9_ask_44 : decode cX9_ask 44 = .ok (.invokestatic 160, 3) := by decide +kernel
theorem dX9_ask_47 : decode cX9_ask 47 = .ok (.ifCond .ne 16, 3) := by decide +kernel
theorem dX9_ask_50 : decode cX9_ask 50 = .ok (.aload_n 0, 1) := by decide +kernel
theorem dX9_ask_51 : decode cX9_ask 51 = .ok (.iload_n 1, 1) := by decide +kernel
theorem dX9_ask_52 : decode cX9_ask 52 = .ok (.iload_n 2, 1) := by decide +kernel
theorem dX9_ask_53 : decode cX9_ask 53 = .ok (.invokevirtual 224, 3) := by decide +kernel
theorem dX9_ask_56 : decode cX9_ask 56 = .ok (.ifCond .ne 7, 3) := by decide +kernel
theorem dX9_ask_59 : decode cX9_ask 59 = .ok (.iconst 1, 1) := by decide +kernel
theorem dX9_ask_60 : decode cX9_ask 60 = .ok (.goto 4, 3) := by decide +kernel
theorem dX9_ask_63 : decode cX9_ask 63 = .ok (.iconst 0, 1) := by decide +kernel
theorem dX9_ask_64 : decode cX9_ask 64 = .ok (.istore 5, 2) := by decide +kernel
theorem dX9_ask_66 : decode cX9_ask 66 = .ok (.aload_n 0, 1) := by decide +kernel
theorem dX9_ask_67 : decode cX9_ask 67 = .ok (.iload 4, 2) := by decide +kernel
theorem dX9_ask_69 : decode cX9_ask 69 = .ok (.ifCond .ne 7, 3) := by decide +kernel
theorem dX9_ask_72 : decode cX9_ask 72 = .ok (.iconst 1, 1) := by decide +kernel
theorem dX9_ask_73 : decode cX9_ask 73 = .ok (.goto 26, 3) := by decide +kernel
theorem dX9_ask_76 : decode cX9_ask 76 = .ok (.iload_n 3, 1) := by decide +kernel
theorem dX9_ask_77 : decode cX9_ask 77 = .ok (.iconst 0, 1) := by decide +kernel
theorem dX9_ask_78 : decode cX9_ask 78 = .ok (.iconst 2, 1) := by decide +kernel
theorem dX9_ask_79 : decode cX9_ask 79 = .ok (.invokestatic 136, 3) := by decide +kernel
theorem dX9_ask_82 : decode cX9_ask 82 = .ok (.ifCond .ne 7, 3) := by decide +kernel
theorem dX9_ask_85 : decode cX9_ask 85 = .ok (.iconst 2, 1) := by decide +kernel
theorem dX9_ask_86 : decode cX9_ask 86 = .ok (.goto 13, 3) := by decide +kernel
theorem dX9_ask_89 : decode cX9_ask 89 = .ok (.iload 5, 2) := by decide +kernel
theorem dX9_ask_91 : decode cX9_ask 91 = .ok (.ifCond .eq 7, 3) := by decide +kernel
theorem dX9_ask_94 : decode cX9_ask 94 = .ok (.iconst 0, 1) := by decide +kernel
theorem dX9_ask_95 : decode cX9_ask 95 = .ok (.goto 4, 3) := by decide +kernel
theorem dX9_ask_98 : decode cX9_ask 98 = .ok (.iconst 3, 1) := by decide +kernel
theorem dX9_ask_99 : decode cX9_ask 99 = .ok (.invokevirtual 146, 3) := by decide +kernel
theorem dX9_ask_102 : decode cX9_ask 102 = .ok (.ifCond .ne 5, 3) := by decide +kernel
theorem dX9_ask_105 : decode cX9_ask 105 = .ok (.iconst 0, 1) := by decide +kernel
theorem dX9_ask_106 : decode cX9_ask 106 = .ok (.ireturn, 1) := by decide +kernel
theorem dX9_ask_107 : decode cX9_ask 107 = .ok (.aload_n 0, 1) := by decide +kernel
theorem dX9_ask_108 : decode cX9_ask 108 = .ok (.getfield 106, 3) := by decide +kernel
theorem dX9_ask_111 : decode cX9_ask 111 = .ok (.aload_n 0, 1) := by decide +kernel
theorem dX9_ask_112 : decode cX9_ask 112 = .ok (.getfield 143, 3) := by decide +kernel
theorem dX9_ask_115 : decode cX9_ask 115 = .ok (.iload_n 1, 1) := by decide +kernel
theorem dX9_ask_116 : decode cX9_ask 116 = .ok (.iastore, 1) := by decide +kernel
theorem dX9_ask_117 : decode cX9_ask 117 = .ok (.aload_n 0, 1) := by decide +kernel
theorem dX9_ask_118 : decode cX9_ask 118 = .ok (.getfield 109, 3) := by decide +kernel
theorem dX9_ask_121 : decode cX9_ask 121 = .ok (.aload_n 0, 1) := by decide +kernel
theorem dX9_ask_122 : decode cX9_ask 122 = .ok (.getfield 143, 3) := by decide +kernel
theorem dX9_ask_125 : decode cX9_ask 125 = .ok (.iload_n 2, 1) := by decide +kernel
theorem dX9_ask_126 : decode cX9_ask 126 = .ok (.iastore, 1) := by decide +kernel
theorem dX9_ask_127 : decode cX9_ask 127 = .ok (.aload_n 0, 1) := by decide +kernel
theorem dX9_ask_128 : decode cX9_ask 128 = .ok (.getfield 112, 3) := by decide +kernel
theorem dX9_ask_131 : decode cX9_ask 131 = .ok (.aload_n 0, 1) := by decide +kernel
theorem dX9_ask_132 : decode cX9_ask 132 = .ok (.getfield 143, 3) := by decide +kernel
theorem dX9_ask_135 : decode cX9_ask 135 = .ok (.iload_n 3, 1) := by decide +kernel
theorem dX9_ask_136 : decode cX9_ask 136 = .ok (.iastore, 1) := by decide +kernel
theorem dX9_ask_137 : decode cX9_ask 137 = .ok (.aload_n 0, 1) := by decide +kernel
theorem dX9_ask_138 : decode cX9_ask 138 = .ok (.getfield 115, 3) := by decide +kernel
theorem dX9_ask_141 : decode cX9_ask 141 = .ok (.aload_n 0, 1) := by decide +kernel
theorem dX9_ask_142 : decode cX9_ask 142 = .ok (.getfield 143, 3) := by decide +kernel
theorem dX9_ask_145 : decode cX9_ask 145 = .ok (.aload_n 0, 1) := by decide +kernel
theorem dX9_ask_146 : decode cX9_ask 146 = .ok (.getfield 153, 3) := by decide +kernel
theorem dX9_ask_149 : decode cX9_ask 149 = .ok (.iastore, 1) := by decide +kernel
theorem dX9_ask_150 : decode cX9_ask 150 = .ok (.aload_n 0, 1) := by decide +kernel
theorem dX9_ask_151 : decode cX9_ask 151 = .ok (.dup, 1) := by decide +kernel
theorem dX9_ask_152 : decode cX9_ask 152 = .ok (.getfield 143, 3) := by decide +kernel
theorem dX9_ask_155 : decode cX9_ask 155 = .ok (.iconst 1, 1) := by decide +kernel
theorem dX9_ask_156 : decode cX9_ask 156 = .ok (.iadd, 1) := by decide +kernel
theorem dX9_ask_157 : decode cX9_ask 157 = .ok (.putfield 143, 3) := by decide +kernel
theorem dX9_ask_160 : decode cX9_ask 160 = .ok (.aload_n 0, 1) := by decide +kernel
theorem dX9_ask_161 : decode cX9_ask 161 = .ok (.getfield 143, 3) := by decide +kernel
theorem dX9_ask_164 : decode cX9_ask 164 = .ok (.iconst 1, 1) := by decide +kernel
theorem dX9_ask_165 : decode cX9_ask 165 = .ok (.isub, 1) := by decide +kernel
theorem dX9_ask_166 : decode cX9_ask 166 = .ok (.ireturn, 1) := by decide +kernel
theorem dX9_mayJoin_0 : decode cX9_mayJoin 0 = .ok (.aload_n 0, 1) := by decide +kernel
theorem dX9_mayJoin_1 : decode cX9_mayJoin 1 = .ok (.getfield 118, 3) := by decide +kernel
theorem dX9_mayJoin_4 : decode cX9_mayJoin 4 = .ok (.iload_n 1, 1) := by decide +kernel
theorem dX9_mayJoin_5 : decode cX9_mayJoin 5 = .ok (.iaload, 1) := by decide +kernel
theorem dX9_mayJoin_6 : decode cX9_mayJoin 6 = .ok (.ifCond .ne 27, 3) := by decide +kernel
theorem dX9_mayJoin_9 : decode cX9_mayJoin 9 = .ok (.iload_n 2, 1) := by decide +kernel
theorem dX9_mayJoin_10 : decode cX9_mayJoin 10 = .ok (.aload_n 0, 1) := by decide +kernel
theorem dX9_mayJoin_11 : decode cX9_mayJoin 11 = .ok (.getfield 106, 3) := by decide +kernel
theorem dX9_mayJoin_14 : decode cX9_mayJoin 14 = .ok (.iload_n 1, 1) := by decide +kernel
theorem dX9_mayJoin_15 : decode cX9_mayJoin 15 = .ok (.iaload, 1) := by decide +kernel
theorem dX9_mayJoin_16 : decode cX9_mayJoin 16 = .ok (.if_icmp .eq 17, 3) := by decide +kernel
theorem dX9_mayJoin_19 : decode cX9_mayJoin 19 = .ok (.aload_n 0, 1) := by decide +kernel
theorem dX9_mayJoin_20 : decode cX9_mayJoin 20 = .ok (.getfield 124, 3) := by decide +kernel
theorem dX9_mayJoin_23 : decode cX9_mayJoin 23 = .ok (.iload_n 1, 1) := by decide +kernel
theorem dX9_mayJoin_24 : decode cX9_mayJoin 24 = .ok (.iaload, 1) := by decide +kernel
theorem dX9_mayJoin_25 : decode cX9_mayJoin 25 = .ok (.iconst 3, 1) := by decide +kernel
theorem dX9_mayJoin_26 : decode cX9_mayJoin 26 = .ok (.if_icmp .ge 7, 3) := by decide +kernel
theorem dX9_mayJoin_29 : decode cX9_mayJoin 29 = .ok (.iconst 1, 1) := by decide +kernel
theorem dX9_mayJoin_30 : decode cX9_mayJoin 30 = .ok (.goto 4, 3) := by decide +kernel
theorem dX9_mayJoin_33 : decode cX9_mayJoin 33 = .ok (.iconst 0, 1) := by decide +kernel
theorem dX9_mayJoin_34 : decode cX9_mayJoin 34 = .ok (.istore_n 3, 1) := by decide +kernel
theorem dX9_mayJoin_35 : decode cX9_mayJoin 35 = .ok (.iconst 0, 1) := by decide +kernel
theorem dX9_mayJoin_36 : decode cX9_mayJoin 36 = .ok (.istore 4, 2) := by decide +kernel
theorem dX9_mayJoin_38 : decode cX9_mayJoin 38 = .ok (.iload 4, 2) := by decide +kernel
theorem dX9_mayJoin_40 : decode cX9_mayJoin 40 = .ok (.aload_n 0, 1) := by decide +kernel
theorem dX9_mayJoin_41 : decode cX9_mayJoin 41 = .ok (.getfield 124, 3) := by decide +kernel
theorem dX9_mayJoin_44 : decode cX9_mayJoin 44 = .ok (.iload_n 1, 1) := by decide +kernel
theorem dX9_mayJoin_45 : decode cX9_mayJoin 45 = .ok (.iaload, 1) := by decide +kernel
theorem dX9_mayJoin_46 : decode cX9_mayJoin 46 = .ok (.if_icmp .ge 34, 3) := by decide +kernel
theorem dX9_mayJoin_49 : decode cX9_mayJoin 49 = .ok (.iload_n 3, 1) := by decide +kernel
theorem dX9_mayJoin_50 : decode cX9_mayJoin 50 = .ok (.ifCond .eq 22, 3) := by decide +kernel
theorem dX9_mayJoin_53 : decode cX9_mayJoin 53 = .ok (.aload_n 0, 1) := by decide +kernel
theorem dX9_mayJoin_54 : decode cX9_mayJoin 54 = .ok (.getfield 127, 3) := by decide +kernel
theorem dX9_mayJoin_57 : decode cX9_mayJoin 57 = .ok (.iconst 3, 1) := by decide +kernel
theorem dX9_mayJoin_58 : decode cX9_mayJoin 58 = .ok (.iload_n 1, 1) := by decide +kernel
theorem dX9_mayJoin_59 : decode cX9_mayJoin 59 = .ok (.imul, 1) := by decide +kernel
theorem dX9_mayJoin_60 : decode cX9_mayJoin 60 = .ok (.iload 4, 2) := by decide +kernel
theorem dX9_mayJoin_62 : decode cX9_mayJoin 62 = .ok (.iadd, 1) := by decide +kernel
theorem dX9_mayJoin_63 : decode cX9_mayJoin 63 = .ok (.iaload, 1) := by decide +kernel
theorem dX9_mayJoin_64 : decode cX9_mayJoin 64 = .ok (.iload_n 2, 1) := by decide +kernel
theorem dX9_mayJoin_65 : decode cX9_mayJoin 65 = .ok (.if_icmp .eq 7, 3) := by decide +kernel
theorem dX9_mayJoin_68 : decode cX9_mayJoin 68 = .ok (.iconst 1, 1) := by decide +kernel
theorem dX9_mayJoin_69 : decode cX9_mayJoin 69 = .ok (.goto 4, 3) := by decide +kernel
theorem dX9_mayJoin_72 : decode cX9_mayJoin 72 = .ok (.iconst 0, 1) := by decide +kernel
theorem dX9_mayJoin_73 : decode cX9_mayJoin 73 = .ok (.istore_n 3, 1) := by decide +kernel
theorem dX9_mayJoin_74 : decode cX9_mayJoin 74 = .ok (.iinc 4 1, 3) := by decide +kernel
theorem dX9_mayJoin_77 : decode cX9_mayJoin 77 = .ok (.goto (-39), 3) := by decide +kernel
theorem dX9_mayJoin_80 : decode cX9_mayJoin 80 = .ok (.aload_n 0, 1) := by decide +kernel
theorem dX9_mayJoin_81 : decode cX9_mayJoin 81 = .ok (.getfield 48, 3) := by decide +kernel
theorem dX9_mayJoin_84 : decode cX9_mayJoin 84 = .ok (.iload_n 2, 1) := by decide +kernel
theorem dX9_mayJoin_85 : decode cX9_mayJoin 85 = .ok (.iaload, 1) := by decide +kernel
theorem dX9_mayJoin_86 : decode cX9_mayJoin 86 = .ok (.aload_n 0, 1) := by decide +kernel
theorem dX9_mayJoin_87 : decode cX9_mayJoin 87 = .ok (.getfield 106, 3) := by decide +kernel
theorem dX9_mayJoin_90 : decode cX9_mayJoin 90 = .ok (.iload_n 1, 1) := by decide +kernel
theorem dX9_mayJoin_91 : decode cX9_mayJoin 91 = .ok (.iaload, 1) := by decide +kernel
theorem dX9_mayJoin_92 : decode cX9_mayJoin 92 = .ok (.if_icmp .eq 18, 3) := by decide +kernel
theorem dX9_mayJoin_95 : decode cX9_mayJoin 95 = .ok (.aload_n 0, 1) := by decide +kernel
theorem dX9_mayJoin_96 : decode cX9_mayJoin 96 = .ok (.getfield 51, 3) := by decide +kernel
theorem dX9_mayJoin_99 : decode cX9_mayJoin 99 = .ok (.iload_n 2, 1) := by decide +kernel
theorem dX9_mayJoin_100 : decode cX9_mayJoin 100 = .ok (.iaload, 1) := by decide +kernel
theorem dX9_mayJoin_101 : decode cX9_mayJoin 101 = .ok (.aload_n 0, 1) := by decide +kernel
theorem dX9_mayJoin_102 : decode cX9_mayJoin 102 = .ok (.getfield 106, 3) := by decide +kernel
theorem dX9_mayJoin_105 : decode cX9_mayJoin 105 = .ok (.iload_n 1, 1) := by decide +kernel
theorem dX9_mayJoin_106 : decode cX9_mayJoin 106 = .ok (.iaload, 1) := by decide +kernel
theorem dX9_mayJoin_107 : decode cX9_mayJoin 107 = .ok (.if_icmp .ne 7, 3) := by decide +kernel
theorem dX9_mayJoin_110 : decode cX9_mayJoin 110 = .ok (.iconst 1, 1) := by decide +kernel
theorem dX9_mayJoin_111 : decode cX9_mayJoin 111 = .ok (.goto 4, 3) := by decide +kernel
theorem dX9_mayJoin_114 : decode cX9_mayJoin 114 = .ok (.iconst 0, 1) := by decide +kernel
theorem dX9_mayJoin_115 : decode cX9_mayJoin 115 = .ok (.istore 4, 2) := by decide +kernel
theorem dX9_mayJoin_117 : decode cX9_mayJoin 117 = .ok (.iload_n 3, 1) := by decide +kernel
theorem dX9_mayJoin_118 : decode cX9_mayJoin 118 = .ok (.ifCond .eq 31, 3) := by decide +kernel
theorem dX9_mayJoin_121 : decode cX9_mayJoin 121 = .ok (.iload 4, 2) := by decide +kernel
theorem dX9_mayJoin_123 : decode cX9_mayJoin 123 = .ok (.ifCond .eq 22, 3) := by decide +kernel
theorem dX9_mayJoin_126 : decode cX9_mayJoin 126 = .ok (.aload_n 0, 1) := by decide +kernel
theorem dX9_mayJoin_127 : decode cX9_mayJoin 127 = .ok (.getfield 115, 3) := by decide +kernel
theorem dX9_mayJoin_130 : decode cX9_mayJoin 130 = .ok (.iload_n 1, 1) := by decide +kernel
theorem dX9_mayJoin_131 : decode cX9_mayJoin 131 = .ok (.iaload, 1) := by decide +kernel
theorem dX9_mayJoin_132 : decode cX9_mayJoin 132 = .ok (.aload_n 0, 1) := by decide +kernel
theorem dX9_mayJoin_133 : decode cX9_mayJoin 133 = .ok (.getfield 42, 3) := by decide +kernel
theorem dX9_mayJoin_136 : decode cX9_mayJoin 136 = .ok (.iload_n 2, 1) := by decide +kernel
theorem dX9_mayJoin_137 : decode cX9_mayJoin 137 = .ok (.iaload, 1) := by decide +kernel
theorem dX9_mayJoin_138 : decode cX9_mayJoin 138 = .ok (.isub, 1) := by decide +kernel
theorem dX9_mayJoin_139 : decode cX9_mayJoin 139 = .ok (.sipush 6480, 3) := by decide +kernel
theorem dX9_mayJoin_142 : decode cX9_mayJoin 142 = .ok (.if_icmp .ge 7, 3) := by decide +kernel
theorem dX9_mayJoin_145 : decode cX9_mayJoin 145 = .ok (.iconst 1, 1) := by decide +kernel
theorem dX9_mayJoin_146 : decode cX9_mayJoin 146 = .ok (.goto 4, 3) := by decide +kernel
theorem dX9_mayJoin_149 : decode cX9_mayJoin 149 = .ok (.iconst 0, 1) := by decide +kernel
theorem dX9_mayJoin_150 : decode cX9_mayJoin 150 = .ok (.ireturn, 1) := by decide +kernel
set_option maxRecDepth 20000 in
theorem ggX9_join_X9_isRequest : GoodIn wsX9_join wsX9_isRequest := goodIn_r _ [7, 8, 9, 10, 6, 11, 32, 33, 34, 35, 36, 37, 38, 39, 40, 41, 42, 43, 44, 45, 46, 47, 48, 49, 50, 51, 52, 53, 54, 55, 56, 57, 58, 59, 60, 61, 62, 63, 64, 65, 66, 67, 68, 69, 70, 71, 72, 73, 74, 75, 76] (by decide +kernel) (by decide +kernel)
set_option maxRecDepth 20000 in
theorem gX9_join_X9_isRequest : GoodIn wsX9_join (wsV RX9 227 RX9 yX9_isRequest wsX9_isRequest) := goodIn_app (goodIn_of _ (by decide +kernel)) ggX9_join_X9_isRequest
set_option maxRecDepth 20000 in
theorem ggX9_join_X9_isPerson : GoodIn wsX9_join wsX9_isPerson := goodIn_r _ [15, 16, 9, 10, 6, 11, 32, 33, 34, 35, 36, 37, 38, 39, 40, 41, 42, 43, 44, 45, 46, 47, 48, 49, 50, 51, 52, 53, 54, 55, 56, 57, 58, 59, 60, 61, 62, 63, 64, 65, 66, 67, 68, 69, 70, 71, 72, 73, 74, 75, 76] (by decide +kernel) (by decide +kernel)
set_option maxRecDepth 20000 in
theorem gX9_join_X9_isPerson : GoodIn wsX9_join (wsV RX9 167 RX9 yX9_isPerson wsX9_isPerson) := goodIn_app (goodIn_of _ (by decide +kernel)) ggX9_join_X9_isPerson
set_option maxRecDepth 20000 in
theorem ggX9_join_X9_mayJoin : GoodIn wsX9_join wsX9_mayJoin := goodIn_r _ [20, 21, 22, 2, 1, 23, 24, 25, 26, 32, 33, 34, 35, 36, 37, 38, 39, 40, 41, 42, 43, 44, 45, 46, 47, 48, 49, 50, 51, 52, 53, 54, 55, 56, 57, 58, 59, 60, 61, 62, 63, 64, 65, 66, 67, 68, 69, 70, 71, 72, 73, 74, 75, 76] (by decide +kernel) (by decide +kernel)
set_option maxRecDepth 20000 in
theorem gX9_join_X9_mayJoin : GoodIn wsX9_join (wsV RX9 230 RX9 yX9_mayJoin wsX9_mayJoin) := goodIn_app (goodIn_of _ (by decide +kernel)) ggX9_join_X9_mayJoin
set_option maxRecDepth 20000 in
theorem ggX9_join_X9_goesWell : GoodIn wsX9_join wsX9_goesWell := goodIn_r _ [30, 31, 32, 33, 34, 35, 36, 37, 38, 39, 40, 41, 42, 43, 44, 45, 46, 47, 48, 49, 50, 51, 52, 53, 54, 55, 56, 57, 58, 59, 60, 61, 62, 63, 64, 65, 66, 67, 68, 69, 70, 71, 72, 73, 74, 75, 76] (by decide +kernel) (by decide +kernel)
set_option maxRecDepth 20000 in
theorem gX9_join_X9_goesWell : GoodIn wsX9_join (wsV RX9 146 RX9 yX9_goesWell wsX9_goesWell) := goodIn_app (goodIn_of _ (by decide +kernel)) ggX9_join_X9_goesWell
theorem dX9_join_0 : decode cX9_join 0 = .ok (.aload_n 0, 1) := by decide +kernel
theorem dX9_join_1 : decode cX9_join 1 = .ok (.iload_n 1, 1) := by decide +kernel
theorem dX9_join_2 : decode cX9_join 2 = .ok (.invokevirtual 227, 3) := by decide +kernel
theorem dX9_join_5 : decode cX9_join 5 = .ok (.ifCond .eq 15, 3) := by decide +kernel
theorem dX9_join_8 : decode cX9_join 8 = .ok (.aload_n 0, 1) := by decide +kernel
theorem dX9_join_9 : decode cX9_join 9 = .ok (.iload_n 2, 1) := by decide +kernel
theorem dX9_join_10 : decode cX9_join 10 = .ok (.invokevirtual 167, 3) := by decide +kernel
theorem dX9_join_13 : decode cX9_join 13 = .ok (.ifCond .eq 7, 3) := by decide +kernel
theorem dX9_join_16 : decode cX9_join 16 = .ok (.iconst 1, 1) := by decide +kernel
theorem dX9_join_17 : decode cX9_join 17 = .ok (.goto 4, 3) := by decide +kernel
theorem dX9_join_20 : decode cX9_join 20 = .ok (.iconst 0, 1) := by decide +kernel
theorem dX9_join_21 : decode cX9_join 21 = .ok (.istore_n 3, 1) := by decide +kernel
theorem dX9_join_22 : decode cX9_join 22 = .ok (.aload_n 0, 1) := by decide +kernel
theorem dX9_join_23 : decode cX9_join 23 = .ok (.iload_n 3, 1) := by decide +kernel
theorem dX9_join_24 : decode cX9_join 24 = .ok (.ifCond .ne 7, 3) := by decide +kernel
theorem dX9_join_27 : decode cX9_join 27 = .ok (.iconst 1, 1) := by decide +kernel
theorem dX9_join_28 : decode cX9_join 28 = .ok (.goto 17, 3) := by decide +kernel
theorem dX9_join_31 : decode cX9_join 31 = .ok (.aload_n 0, 1) := by decide +kernel
theorem dX9_join_32 : decode cX9_join 32 = .ok (.iload_n 1, 1) := by decide +kernel
theorem dX9_join_33 : decode cX9_join 33 = .ok (.iload_n 2, 1) := by decide +kernel
theorem dX9_join_34 : decode cX9_join 34 = .ok (.invokevirtual 230, 3) := by decide +kernel
theorem dX9_join_37 : decode cX9_join 37 = .ok (.ifCond .eq 7, 3) := by decide +kernel
theorem dX9_join_40 : decode cX9_join 40 = .ok (.iconst 0, 1) := by decide +kernel
theorem dX9_join_41 : decode cX9_join 41 = .ok (.goto 4, 3) := by decide +kernel
theorem dX9_join_44 : decode cX9_join 44 = .ok (.iconst 2, 1) := by decide +kernel
theorem dX9_join_45 : decode cX9_join 45 = .ok (.invokevirtual 146, 3) := by decide +kernel
theorem dX9_join_48 : decode cX9_join 48 = .ok (.ifCond .ne 5, 3) := by decide +kernel
theorem dX9_join_51 : decode cX9_join 51 = .ok (.iconst 0, 1) := by decide +kernel
theorem dX9_join_52 : decode cX9_join 52 = .ok (.ireturn, 1) := by decide +kernel
theorem dX9_join_53 : decode cX9_join 53 = .ok (.aload_n 0, 1) := by decide +kernel
theorem dX9_join_54 : decode cX9_join 54 = .ok (.getfield 127, 3) := by decide +kernel
theorem dX9_join_57 : decode cX9_join 57 = .ok (.iconst 3, 1) := by decide +kernel
theorem dX9_join_58 : decode cX9_join 58 = .ok (.iload_n 1, 1) := by decide +kernel
theorem dX9_join_59 : decode cX9_join 59 = .ok (.imul, 1) := by decide +kernel
theorem dX9_join_60 : decode cX9_join 60 = .ok (.aload_n 0, 1) := by decide +kernel
theorem dX9_join_61 : decode cX9_join 61 = .ok (.getfield 124, 3) := by decide +kernel
theorem dX9_join_64 : decode cX9_join 64 = .ok (.iload_n 1, 1) := by decide +kernel
theorem dX9_join_65 : decode cX9_join 65 = .ok (.iaload, 1) := by decide +kernel
theorem dX9_join_66 : decode cX9_join 66 = .ok (.iadd, 1) := by decide +kernel
theorem dX9_join_67 : decode cX9_join 67 = .ok (.iload_n 2, 1) := by decide +kernel
theorem dX9_join_68 : decode cX9_join 68 = .ok (.iastore, 1) := by decide +kernel
theorem dX9_join_69 : decode cX9_join 69 = .ok (.aload_n 0, 1) := by decide +kernel
theorem dX9_join_70 : decode cX9_join 70 = .ok (.getfield 124, 3) := by decide +kernel
theorem dX9_join_73 : decode cX9_join 73 = .ok (.iload_n 1, 1) := by decide +kernel
theorem dX9_join_74 : decode cX9_join 74 = .ok (.dup2, 1) := by decide +kernel
theorem dX9_join_75 : decode cX9_join 75 = .ok (.iaload, 1) := by decide +kernel
theorem dX9_join_76 : decode cX9_join 76 = .ok (.iconst 1, 1) := by decide +kernel
theorem dX9_join_77 : decode cX9_join 77 = .ok (.iadd, 1) := by decide +kernel
theorem dX9_join_78 : decode cX9_join 78 = .ok (.iastore, 1) := by decide +kernel
theorem dX9_join_79 : decode cX9_join 79 = .ok (.aload_n 0, 1) := by decide +kernel
theorem dX9_join_80 : decode cX9_join 80 = .ok (.getfield 124, 3) := by decide +kernel
theorem dX9_join_83 : decode cX9_join 83 = .ok (.iload_n 1, 1) := by decide +kernel
theorem dX9_join_84 : decode cX9_join 84 = .ok (.iaload, 1) := by decide +kernel
theorem dX9_join_85 : decode cX9_join 85 = .ok (.ireturn, 1) := by decide +kernel
set_option maxRecDepth 20000 in
theorem ggX9_turn_X9_isRequest : GoodIn wsX9_turn wsX9_isRequest := goodIn_r _ [8, 9, 10, 11, 7, 12, 18, 19, 20, 21, 22, 23, 24, 25, 26, 27, 28, 29, 30, 31, 32, 33, 34, 35, 36, 37, 38, 39, 40, 41, 42, 43, 44, 45, 46, 47, 48, 49, 50, 51, 52, 53, 54, 55, 56, 57, 58, 59, 60, 61, 62] (by decide +kernel) (by decide +kernel)
set_option maxRecDepth 20000 in
theorem gX9_turn_X9_isRequest : GoodIn wsX9_turn (wsV RX9 227 RX9 yX9_isRequest wsX9_isRequest) := goodIn_app (goodIn_of _ (by decide +kernel)) ggX9_turn_X9_isRequest
set_option maxRecDepth 20000 in
theorem ggX9_turn_X9_goesWell : GoodIn wsX9_turn wsX9_goesWell := goodIn_r _ [16, 17, 18, 19, 20, 21, 22, 23, 24, 25, 26, 27, 28, 29, 30, 31, 32, 33, 34, 35, 36, 37, 38, 39, 40, 41, 42, 43, 44, 45, 46, 47, 48, 49, 50, 51, 52, 53, 54, 55, 56, 57, 58, 59, 60, 61, 62] (by decide +kernel) (by decide +kernel)
set_option maxRecDepth 20000 in
theorem gX9_turn_X9_goesWell : GoodIn wsX9_turn (wsV RX9 146 RX9 yX9_goesWell wsX9_goesWell) := goodIn_app (goodIn_of _ (by decide +kernel)) ggX9_turn_X9_goesWell
theorem dX9_turn_0 : decode cX9_turn 0 = .ok (.aload_n 0, 1) := by decide +kernel
theorem dX9_turn_1 : decode cX9_turn 1 = .ok (.iload_n 1, 1) := by decide +kernel
theorem dX9_turn_2 : decode cX9_turn 2 = .ok (.invokevirtual 227, 3) := by decide +kernel
theorem dX9_turn_5 : decode cX9_turn 5 = .ok (.istore 5, 2) := by decide +kernel
theorem dX9_turn_7 : decode cX9_turn 7 = .ok (.aload_n 0, 1) := by decide +kernel
theorem dX9_turn_8 : decode cX9_turn 8 = .ok (.iload 5, 2) := by decide +kernel
theorem dX9_turn_10 : decode cX9_turn 10 = .ok (.ifCond .ne 7, 3) := by decide +kernel
theorem dX9_turn_13 : decode cX9_turn 13 = .ok (.iconst 1, 1) := by decide +kernel
theorem dX9_turn_14 : decode cX9_turn 14 = .ok (.goto 18, 3) := by decide +kernel
theorem dX9_turn_17 : decode cX9_turn 17 = .ok (.aload_n 0, 1) := by decide +kernel
theorem dX9_turn_18 : decode cX9_turn 18 = .ok (.getfield 118, 3) := by decide +kernel
theorem dX9_turn_21 : decode cX9_turn 21 = .ok (.iload_n 1, 1) := by decide +kernel
theorem dX9_turn_22 : decode cX9_turn 22 = .ok (.iaload, 1) := by decide +kernel
theorem dX9_turn_23 : decode cX9_turn 23 = .ok (.iload_n 2, 1) := by decide +kernel
theorem dX9_turn_24 : decode cX9_turn 24 = .ok (.if_icmp .ne 7, 3) := by decide +kernel
theorem dX9_turn_27 : decode cX9_turn 27 = .ok (.iconst 0, 1) := by decide +kernel
theorem dX9_turn_28 : decode cX9_turn 28 = .ok (.goto 4, 3) := by decide +kernel
theorem dX9_turn_31 : decode cX9_turn 31 = .ok (.iconst 2, 1) := by decide +kernel
theorem dX9_turn_32 : decode cX9_turn 32 = .ok (.invokevirtual 146, 3) := by decide +kernel
theorem dX9_turn_35 : decode cX9_turn 35 = .ok (.ifCond .ne 5, 3) := by decide +kernel
theorem dX9_turn_38 : decode cX9_turn 38 = .ok (.iconst 0, 1) := by decide +kernel
theorem dX9_turn_39 : decode cX9_turn 39 = .ok (.ireturn, 1) := by decide +kernel
theorem dX9_turn_40 : decode cX9_turn 40 = .ok (.aload_n 0, 1) := by decide +kernel
theorem dX9_turn_41 : decode cX9_turn 41 = .ok (.getfield 118, 3) := by decide +kernel
theorem dX9_turn_44 : decode cX9_turn 44 = .ok (.iload_n 1, 1) := by decide +kernel
theorem dX9_turn_45 : decode cX9_turn 45 = .ok (.iload_n 3, 1) := by decide +kernel
theorem dX9_turn_46 : decode cX9_turn 46 = .ok (.iastore, 1) := by decide +kernel
theorem dX9_turn_47 : decode cX9_turn 47 = .ok (.aload_n 0, 1) := by decide +kernel
theorem dX9_turn_48 : decode cX9_turn 48 = .ok (.getfield 121, 3) := by decide +kernel
theorem dX9_turn_51 : decode cX9_turn 51 = .ok (.iload_n 1, 1) := by decide +kernel
theorem dX9_turn_52 : decode cX9_turn 52 = .ok (.aload_n 0, 1) := by decide +kernel
theorem dX9_turn_53 : decode cX9_turn 53 = .ok (.getfield 153, 3) := by decide +kernel
theorem dX9_turn_56 : decode cX9_turn 56 = .ok (.iload 4, 2) := by decide +kernel
theorem dX9_turn_58 : decode cX9_turn 58 = .ok (.iadd, 1) := by decide +kernel
theorem dX9_turn_59 : decode cX9_turn 59 = .ok (.iastore, 1) := by decide +kernel
theorem dX9_turn_60 : decode cX9_turn 60 = .ok (.aload_n 0, 1) := by decide +kernel
theorem dX9_turn_61 : decode cX9_turn 61 = .ok (.getfield 121, 3) := by decide +kernel
theorem dX9_turn_64 : decode cX9_turn 64 = .ok (.iload_n 1, 1) := by decide +kernel
theorem dX9_turn_65 : decode cX9_turn 65 = .ok (.iaload, 1) := by decide +kernel
theorem dX9_turn_66 : decode cX9_turn 66 = .ok (.ireturn, 1) := by decide +kernel
set_option maxRecDepth 20000 in
theorem ggX9_refuse_X9_turn : GoodIn wsX9_refuse wsX9_turn := goodIn_r _ [5, 6, 7, 8, 9, 10, 11, 4, 12, 13, 14, 15, 16, 17, 18, 19, 20, 21, 22, 23, 24, 25, 26, 27, 28, 29, 30, 31, 32, 33, 34, 35, 36, 37, 38, 39, 40, 41, 42, 43, 44, 45, 46, 47, 48, 49, 50, 51, 52, 53, 54, 55, 56, 57, 58, 59, 60, 61, 62, 63, 64, 65, 66] (by decide +kernel) (by decide +kernel)
set_option maxRecDepth 20000 in
theorem gX9_refuse_X9_turn : GoodIn wsX9_refuse (wsV RX9 233 RX9 yX9_turn wsX9_turn) := goodIn_app (goodIn_of _ (by decide +kernel)) ggX9_refuse_X9_turn
theorem dX9_refuse_0 : decode cX9_refuse 0 = .ok (.aload_n 0, 1) := by decide +kernel
theorem dX9_refuse_1 : decode cX9_refuse 1 = .ok (.iload_n 1, 1) := by decide +kernel
theorem dX9_refuse_2 : decode cX9_refuse 2 = .ok (.iconst 0, 1) := by decide +kernel
theorem dX9_refuse_3 : decode cX9_refuse 3 = .ok (.iconst 2, 1) := by decide +kernel
theorem dX9_refuse_4 : decode cX9_refuse 4 = .ok (.bipush 30, 2) := by decide +kernel
theorem dX9_refuse_6 : decode cX9_refuse 6 = .ok (.invokevirtual 233, 3) := by decide +kernel
theorem dX9_refuse_9 : decode cX9_refuse 9 = .ok (.ireturn, 1) := by decide +kernel
set_option maxRecDepth 20000 in
theorem ggX9_appeal_X9_turn : GoodIn wsX9_appeal wsX9_turn := goodIn_r _ [5, 6, 7, 8, 9, 10, 11, 4, 12, 13, 14, 15, 16, 17, 18, 19, 20, 21, 22, 23, 24, 25, 26, 27, 28, 29, 30, 31, 32, 33, 34, 35, 36, 37, 38, 39, 40, 41, 42, 43, 44, 45, 46, 47, 48, 49, 50, 51, 52, 53, 54, 55, 56, 57, 58, 59, 60, 61, 62, 63, 64, 65, 66] (by decide +kernel) (by decide +kernel)
set_option maxRecDepth 20000 in
theorem gX9_appeal_X9_turn : GoodIn wsX9_appeal (wsV RX9 233 RX9 yX9_turn wsX9_turn) := goodIn_app (goodIn_of _ (by decide +kernel)) ggX9_appeal_X9_turn
theorem dX9_appeal_0 : decode cX9_appeal 0 = .ok (.aload_n 0, 1) := by decide +kernel
theorem dX9_appeal_1 : decode cX9_appeal 1 = .ok (.iload_n 1, 1) := by decide +kernel
theorem dX9_appeal_2 : decode cX9_appeal 2 = .ok (.iconst 2, 1) := by decide +kernel
theorem dX9_appeal_3 : decode cX9_appeal 3 = .ok (.iconst 3, 1) := by decide +kernel
theorem dX9_appeal_4 : decode cX9_appeal 4 = .ok (.bipush 60, 2) := by decide +kernel
theorem dX9_appeal_6 : decode cX9_appeal 6 = .ok (.invokevirtual 233, 3) := by decide +kernel
theorem dX9_appeal_9 : decode cX9_appeal 9 = .ok (.ireturn, 1) := by decide +kernel
set_option maxRecDepth 20000 in
theorem ggX9_judge_X9_turn : GoodIn wsX9_judge wsX9_turn := goodIn_r _ [7, 2, 8, 9, 10, 11, 12, 6, 13, 14, 15, 16, 17, 18, 19, 20, 21, 1, 22, 23, 24, 25, 26, 27, 28, 29, 30, 31, 32, 33, 34, 35, 36, 37, 38, 39, 40, 41, 42, 43, 44, 45, 46, 47, 48, 49, 50, 51, 52, 53, 54, 55, 56, 57, 58, 59, 60, 61, 62, 63, 64, 65, 66] (by decide +kernel) (by decide +kernel)
set_option maxRecDepth 20000 in
theorem gX9_judge_X9_turn : GoodIn wsX9_judge (wsV RX9 233 RX9 yX9_turn wsX9_turn) := goodIn_app (goodIn_of _ (by decide +kernel)) ggX9_judge_X9_turn
theorem dX9_judge_0 : decode cX9_judge 0 = .ok (.aload_n 0, 1) := by decide +kernel
theorem dX9_judge_1 : decode cX9_judge 1 = .ok (.iload_n 1, 1) := by decide +kernel
theorem dX9_judge_2 : decode cX9_judge 2 = .ok (.iconst 3, 1) := by decide +kernel
theorem dX9_judge_3 : decode cX9_judge 3 = .ok (.iload_n 2, 1) := by decide +kernel
theorem dX9_judge_4 : decode cX9_judge 4 = .ok (.ifCond .eq 7, 3) := by decide +kernel
theorem dX9_judge_7 : decode cX9_judge 7 = .ok (.iconst 0, 1) := by decide +kernel
theorem dX9_judge_8 : decode cX9_judge 8 = .ok (.goto 4, 3) := by decide +kernel
theorem dX9_judge_11 : decode cX9_judge 11 = .ok (.iconst 4, 1) := by decide +kernel
theorem dX9_judge_12 : decode cX9_judge 12 = .ok (.iconst 0, 1) := by decide +kernel
theorem dX9_judge_13 : decode cX9_judge 13 = .ok (.invokevirtual 233, 3) := by decide +kernel
theorem dX9_judge_16 : decode cX9_judge 16 = .ok (.istore_n 3, 1) := by decide +kernel
theorem dX9_judge_17 : decode cX9_judge 17 = .ok (.aload_n 0, 1) := by decide +kernel
theorem dX9_judge_18 : decode cX9_judge 18 = .ok (.getfield 130, 3) := by decide +kernel
theorem dX9_judge_21 : decode cX9_judge 21 = .ok (.ifCond .ne 12, 3) := by decide +kernel
theorem dX9_judge_24 : decode cX9_judge 24 = .ok (.aload_n 0, 1) := by decide +kernel
theorem dX9_judge_25 : decode cX9_judge 25 = .ok (.getfield 118, 3) := by decide +kernel
theorem dX9_judge_28 : decode cX9_judge 28 = .ok (.iload_n 1, 1) := by decide +kernel
theorem dX9_judge_29 : decode cX9_judge 29 = .ok (.iaload, 1) := by decide +kernel
theorem dX9_judge_30 : decode cX9_judge 30 = .ok (.goto 4, 3) := by decide +kernel
theorem dX9_judge_33 : decode cX9_judge 33 = .ok (.iconst 0, 1) := by decide +kernel
theorem dX9_judge_34 : decode cX9_judge 34 = .ok (.ireturn, 1) := by decide +kernel
set_option maxRecDepth 20000 in
theorem ggX9_withdraw_X9_turn : GoodIn wsX9_withdraw wsX9_turn := goodIn_r _ [8, 9, 10, 2, 11, 12, 13, 7, 14, 15, 16, 17, 18, 19, 20, 21, 22, 1, 23, 24, 25, 26, 27, 28, 29, 30, 31, 32, 33, 34, 35, 36, 37, 38, 39, 40, 41, 42, 43, 44, 45, 46, 47, 48, 49, 50, 51, 52, 53, 54, 55, 56, 57, 58, 59, 60, 61, 62, 63, 64, 65, 66, 67] (by decide +kernel) (by decide +kernel)
set_option maxRecDepth 20000 in
theorem gX9_withdraw_X9_turn : GoodIn wsX9_withdraw (wsV RX9 233 RX9 yX9_turn wsX9_turn) := goodIn_app (goodIn_of _ (by decide +kernel)) ggX9_withdraw_X9_turn
theorem dX9_withdraw_0 : decode cX9_withdraw 0 = .ok (.aload_n 0, 1) := by decide +kernel
theorem dX9_withdraw_1 : decode cX9_withdraw 1 = .ok (.iload_n 1, 1) := by decide +kernel
theorem dX9_withdraw_2 : decode cX9_withdraw 2 = .ok (.iconst 0, 1) := by decide +kernel
theorem dX9_withdraw_3 : decode cX9_withdraw 3 = .ok (.iconst 4, 1) := by decide +kernel
theorem dX9_withdraw_4 : decode cX9_withdraw 4 = .ok (.iconst 0, 1) := by decide +kernel
theorem dX9_withdraw_5 : decode cX9_withdraw 5 = .ok (.invokevirtual 233, 3) := by decide +kernel
theorem dX9_withdraw_8 : decode cX9_withdraw 8 = .ok (.istore_n 2, 1) := by decide +kernel
theorem dX9_withdraw_9 : decode cX9_withdraw 9 = .ok (.aload_n 0, 1) := by decide +kernel
theorem dX9_withdraw_10 : decode cX9_withdraw 10 = .ok (.getfield 130, 3) := by decide +kernel
theorem dX9_withdraw_13 : decode cX9_withdraw 13 = .ok (.ifCond .ne 17, 3) := by decide +kernel
theorem dX9_withdraw_16 : decode cX9_withdraw 16 = .ok (.aload_n 0, 1) := by decide +kernel
theorem dX9_withdraw_17 : decode cX9_withdraw 17 = .ok (.getfield 153, 3) := by decide +kernel
theorem dX9_withdraw_20 : decode cX9_withdraw 20 = .ok (.aload_n 0, 1) := by decide +kernel
theorem dX9_withdraw_21 : decode cX9_withdraw 21 = .ok (.getfield 115, 3) := by decide +kernel
theorem dX9_withdraw_24 : decode cX9_withdraw 24 = .ok (.iload_n 1, 1) := by decide +kernel
theorem dX9_withdraw_25 : decode cX9_withdraw 25 = .ok (.iaload, 1) := by decide +kernel
theorem dX9_withdraw_26 : decode cX9_withdraw 26 = .ok (.isub, 1) := by decide +kernel
theorem dX9_withdraw_27 : decode cX9_withdraw 27 = .ok (.goto 4, 3) := by decide +kernel
theorem dX9_withdraw_30 : decode cX9_withdraw 30 = .ok (.iconst 0, 1) := by decide +kernel
theorem dX9_withdraw_31 : decode cX9_withdraw 31 = .ok (.ireturn, 1) := by decide +kernel
set_option maxRecDepth 20000 in
theorem ggX9_extend_X9_isPerson : GoodIn wsX9_extend wsX9_isPerson := goodIn_r _ [8, 9, 10, 11, 7, 12, 27, 28, 29, 30, 31, 32, 33, 34, 35, 36, 37, 38, 39, 40, 41, 42, 43, 44, 45, 46, 47, 48, 49, 50, 51, 52, 53, 54, 55, 56, 57, 58, 59, 60, 61, 62, 63, 64, 65, 66, 67, 68, 69, 70, 71] (by decide +kernel) (by decide +kernel)
set_option maxRecDepth 20000 in
theorem gX9_extend_X9_isPerson : GoodIn wsX9_extend (wsV RX9 167 RX9 yX9_isPerson wsX9_isPerson) := goodIn_app (goodIn_of _ (by decide +kernel)) ggX9_extend_X9_isPerson
set_option maxRecDepth 20000 in
theorem ggX9_extend_X9_isLand : GoodIn wsX9_extend wsX9_isLand := goodIn_r _ [16, 17, 10, 11, 7, 12, 27, 28, 29, 30, 31, 32, 33, 34, 35, 36, 37, 38, 39, 40, 41, 42, 43, 44, 45, 46, 47, 48, 49, 50, 51, 52, 53, 54, 55, 56, 57, 58, 59, 60, 61, 62, 63, 64, 65, 66, 67, 68, 69, 70, 71] (by decide +kernel) (by decide +kernel)
set_option maxRecDepth 20000 in
theorem gX9_extend_X9_isLand : GoodIn wsX9_extend (wsV RX9 150 RX9 yX9_isLand wsX9_isLand) := goodIn_app (goodIn_of _ (by decide +kernel)) ggX9_extend_X9_isLand
set_option maxRecDepth 20000 in
theorem ggX9_extend_X9_hasPermit : GoodIn wsX9_extend wsX9_hasPermit := goodIn_r _ [21, 3, 1, 27, 28, 29, 30, 31, 32, 33, 34, 35, 36, 37, 38, 39, 40, 41, 42, 43, 44, 45, 46, 47, 48, 49, 50, 51, 52, 53, 54, 55, 56, 57, 58, 59, 60, 61, 62, 63, 64, 65, 66, 67, 68, 69, 70, 71] (by decide +kernel) (by decide +kernel)
set_option maxRecDepth 20000 in
theorem gX9_extend_X9_hasPermit : GoodIn wsX9_extend (wsV RX9 164 RX9 yX9_hasPermit wsX9_hasPermit) := goodIn_app (goodIn_of _ (by decide +kernel)) ggX9_extend_X9_hasPermit
set_option maxRecDepth 20000 in
theorem ggX9_extend_X9_goesWell : GoodIn wsX9_extend wsX9_goesWell := goodIn_r _ [25, 26, 27, 28, 29, 30, 31, 32, 33, 34, 35, 36, 37, 38, 39, 40, 41, 42, 43, 44, 45, 46, 47, 48, 49, 50, 51, 52, 53, 54, 55, 56, 57, 58, 59, 60, 61, 62, 63, 64, 65, 66, 67, 68, 69, 70, 71] (by decide +kernel) (by decide +kernel)
set_option maxRecDepth 20000 in
theorem gX9_extend_X9_goesWell : GoodIn wsX9_extend (wsV RX9 146 RX9 yX9_goesWell wsX9_goesWell) := goodIn_app (goodIn_of _ (by decide +kernel)) ggX9_extend_X9_goesWell
theorem dX9_extend_0 : decode cX9_extend 0 = .ok (.aload_n 0, 1) := by decide +kernel
theorem dX9_extend_1 : decode cX9_extend 1 = .ok (.iload_n 1, 1) := by decide +kernel
theorem dX9_extend_2 : decode cX9_extend 2 = .ok (.invokevirtual 167, 3) := by decide +kernel
theorem dX9_extend_5 : decode cX9_extend 5 = .ok (.ifCond .eq 15, 3) := by decide +kernel
theorem dX9_extend_8 : decode cX9_extend 8 = .ok (.aload_n 0, 1) := by decide +kernel
theorem dX9_extend_9 : decode cX9_extend 9 = .ok (.iload_n 2, 1) := by decide +kernel
theorem dX9_extend_10 : decode cX9_extend 10 = .ok (.invokevirtual 150, 3) := by decide +kernel
theorem dX9_extend_13 : decode cX9_extend 13 = .ok (.ifCond .eq 7, 3) := by decide +kernel
theorem dX9_extend_16 : decode cX9_extend 16 = .ok (.iconst 1, 1) := by decide +kernel
theorem dX9_extend_17 : decode cX9_extend 17 = .ok (.goto 4, 3) := by decide +kernel
theorem dX9_extend_20 : decode cX9_extend 20 = .ok (.iconst 0, 1) := by decide +kernel
theorem dX9_extend_21 : decode cX9_extend 21 = .ok (.istore_n 3, 1) := by decide +kernel
theorem dX9_extend_22 : decode cX9_extend 22 = .ok (.aload_n 0, 1) := by decide +kernel
theorem dX9_extend_23 : decode cX9_extend 23 = .ok (.getfield 153, 3) := by decide +kernel
theorem dX9_extend_26 : decode cX9_extend 26 = .ok (.sipush 360, 3) := by decide +kernel
theorem dX9_extend_29 : decode cX9_extend 29 = .ok (.isub, 1) := by decide +kernel
theorem dX9_extend_30 : decode cX9_extend 30 = .ok (.iconst 1, 1) := by decide +kernel
theorem dX9_extend_31 : decode cX9_extend 31 = .ok (.iadd, 1) := by decide +kernel
theorem dX9_extend_32 : decode cX9_extend 32 = .ok (.istore 4, 2) := by decide +kernel
theorem dX9_extend_34 : decode cX9_extend 34 = .ok (.iload 4, 2) := by decide +kernel
theorem dX9_extend_36 : decode cX9_extend 36 = .ok (.ifCond .ge 7, 3) := by decide +kernel
theorem dX9_extend_39 : decode cX9_extend 39 = .ok (.iconst 0, 1) := by decide +kernel
theorem dX9_extend_40 : decode cX9_extend 40 = .ok (.goto 5, 3) := by decide +kernel
theorem dX9_extend_43 : decode cX9_extend 43 = .ok (.iload 4, 2) := by decide +kernel
theorem dX9_extend_45 : decode cX9_extend 45 = .ok (.istore 4, 2) := by decide +kernel
theorem dX9_extend_47 : decode cX9_extend 47 = .ok (.iconst 0, 1) := by decide +kernel
theorem dX9_extend_48 : decode cX9_extend 48 = .ok (.istore 5, 2) := by decide +kernel
theorem dX9_extend_50 : decode cX9_extend 50 = .ok (.iload 4, 2) := by decide +kernel
theorem dX9_extend_52 : decode cX9_extend 52 = .ok (.istore 6, 2) := by decide +kernel
theorem dX9_extend_54 : decode cX9_extend 54 = .ok (.iload 6, 2) := by decide +kernel
theorem dX9_extend_56 : decode cX9_extend 56 = .ok (.aload_n 0, 1) := by decide +kernel
theorem dX9_extend_57 : decode cX9_extend 57 = .ok (.getfield 153, 3) := by decide +kernel
theorem dX9_extend_60 : decode cX9_extend 60 = .ok (.if_icmp .gt 52, 3) := by decide +kernel
theorem dX9_extend_63 : decode cX9_extend 63 = .ok (.iload_n 3, 1) := by decide +kernel
theorem dX9_extend_64 : decode cX9_extend 64 = .ok (.ifCond .eq 48, 3) := by decide +kernel
theorem dX9_extend_67 : decode cX9_extend 67 = .ok (.aload_n 0, 1) := by decide +kernel
theorem dX9_extend_68 : decode cX9_extend 68 = .ok (.getfield 67, 3) := by decide +kernel
theorem dX9_extend_71 : decode cX9_extend 71 = .ok (.sipush 3601, 3) := by decide +kernel
theorem dX9_extend_74 : decode cX9_extend 74 = .ok (.iload_n 1, 1) := by decide +kernel
theorem dX9_extend_75 : decode cX9_extend 75 = .ok (.imul, 1) := by decide +kernel
theorem dX9_extend_76 : decode cX9_extend 76 = .ok (.iload 6, 2) := by decide +kernel
theorem dX9_extend_78 : decode cX9_extend 78 = .ok (.iadd, 1) := by decide +kernel
theorem dX9_extend_79 : decode cX9_extend 79 = .ok (.iaload, 1) := by decide +kernel
theorem dX9_extend_80 : decode cX9_extend 80 = .ok (.istore 7, 2) := by decide +kernel
theorem dX9_extend_82 : decode cX9_extend 82 = .ok (.iload 5, 2) := by decide +kernel
theorem dX9_extend_84 : decode cX9_extend 84 = .ok (.iload 7, 2) := by decide +kernel
theorem dX9_extend_86 : decode cX9_extend 86 = .ok (.ifCond .le 16, 3) := by decide +kernel
theorem dX9_extend_89 : decode cX9_extend 89 = .ok (.iload 7, 2) := by decide +kernel
theorem dX9_extend_91 : decode cX9_extend 91 = .ok (.bipush 10, 2) := by decide +kernel
theorem dX9_extend_93 : decode cX9_extend 93 = .ok (.idiv, 1) := by decide +kernel
theorem dX9_extend_94 : decode cX9_extend 94 = .ok (.iload_n 2, 1) := by decide +kernel
theorem dX9_extend_95 : decode cX9_extend 95 = .ok (.if_icmp .ne 7, 3) := by decide +kernel
theorem dX9_extend_98 : decode cX9_extend 98 = .ok (.iconst 1, 1) := by decide +kernel
theorem dX9_extend_99 : decode cX9_extend 99 = .ok (.goto 4, 3) := by decide +kernel
theorem dX9_extend_102 : decode cX9_extend 102 = .ok (.iconst 0, 1) := by decide +kernel
theorem dX9_extend_103 : decode cX9_extend 103 = .ok (.iadd, 1) := by decide +kernel
theorem dX9_extend_104 : decode cX9_extend 104 = .ok (.istore 5, 2) := by decide +kernel
theorem dX9_extend_106 : decode cX9_extend 106 = .ok (.iinc 6 1, 3) := by decide +kernel
theorem dX9_extend_109 : decode cX9_extend 109 = .ok (.goto (-55), 3) := by decide +kernel
theorem dX9_extend_112 : decode cX9_extend 112 = .ok (.iload_n 3, 1) := by decide +kernel
theorem dX9_extend_113 : decode cX9_extend 113 = .ok (.ifCond .eq 32, 3) := by decide +kernel
theorem dX9_extend_116 : decode cX9_extend 116 = .ok (.aload_n 0, 1) := by decide +kernel
theorem dX9_extend_117 : decode cX9_extend 117 = .ok (.iload_n 1, 1) := by decide +kernel
theorem dX9_extend_118 : decode cX9_extend 118 = .ok (.iload_n 2, 1) := by decide +kernel
theorem dX9_extend_119 : decode cX9_extend 119 = .ok (.invokevirtual 164, 3) := by decide +kernel
theorem dX9_extend_122 : decode cX9_extend 122 = .ok (.ifCond .eq 23, 3) := by decide +kernel
theorem dX9_extend_125 : decode cX9_extend 125 = .ok (.iload 5, 2) := by decide +kernel
theorem dX9_extend_127 : decode cX9_extend 127 = .ok (.aload_n 0, 1) := by decide +kernel
theorem dX9_extend_128 : decode cX9_extend 128 = .ok (.getfield 153, 3) := by decide +kernel
theorem dX9_extend_131 : decode cX9_extend 131 = .ok (.iload 4, 2) := by decide +kernel
theorem dX9_extend_133 : decode cX9_extend 133 = .ok (.isub, 1) := by decide +kernel
theorem dX9_extend_134 : decode cX9_extend 134 = .ok (.iconst 2, 1) := by decide +kernel
theorem dX9_extend_135 : decode cX9_extend 135 = .ok (.iadd, 1) := by decide +kernel
theorem dX9_extend_136 : decode cX9_extend 136 = .ok (.iconst 2, 1) := by decide +kernel
theorem dX9_extend_137 : decode cX9_extend 137 = .ok (.idiv, 1) := by decide +kernel
theorem dX9_extend_138 : decode cX9_extend 138 = .ok (.if_icmp .lt 7, 3) := by decide +kernel
theorem dX9_extend_141 : decode cX9_extend 141 = .ok (.iconst 1, 1) := by decide +kernel
theorem dX9_extend_142 : decode cX9_extend 142 = .ok (.goto 4, 3) := by decide +kernel
theorem dX9_extend_145 : decode cX9_extend 145 = .ok (.iconst 0, 1) := by decide +kernel
theorem dX9_extend_146 : decode cX9_extend 146 = .ok (.istore 6, 2) := by decide +kernel
theorem dX9_extend_148 : decode cX9_extend 148 = .ok (.aload_n 0, 1) := by decide +kernel
theorem dX9_extend_149 : decode cX9_extend 149 = .ok (.iload_n 3, 1) := by decide +kernel
theorem dX9_extend_150 : decode cX9_extend 150 = .ok (.ifCond .ne 7, 3) := by decide +kernel
theorem dX9_extend_153 : decode cX9_extend 153 = .ok (.iconst 1, 1) := by decide +kernel
theorem dX9_extend_154 : decode cX9_extend 154 = .ok (.goto 13, 3) := by decide +kernel
theorem dX9_extend_157 : decode cX9_extend 157 = .ok (.iload 6, 2) := by decide +kernel
theorem dX9_extend_159 : decode cX9_extend 159 = .ok (.ifCond .eq 7, 3) := by decide +kernel
theorem dX9_extend_162 : decode cX9_extend 162 = .ok (.iconst 0, 1) := by decide +kernel
theorem dX9_extend_163 : decode cX9_extend 163 = .ok (.goto 4, 3) := by decide +kernel
theorem dX9_extend_166 : decode cX9_extend 166 = .ok (.iconst 2, 1) := by decide +kernel
theorem dX9_extend_167 : decode cX9_extend 167 = .ok (.invokevirtual 146, 3) := by decide +kernel
theorem dX9_extend_170 : decode cX9_extend 170 = .ok (.ifCond .ne 5, 3) := by decide +kernel
theorem dX9_extend_173 : decode cX9_extend 173 = .ok (.iconst 0, 1) := by decide +kernel
theorem dX9_extend_174 : decode cX9_extend 174 = .ok (.ireturn, 1) := by decide +kernel
theorem dX9_extend_175 : decode cX9_extend 175 = .ok (.aload_n 0, 1) := by decide +kernel
theorem dX9_extend_176 : decode cX9_extend 176 = .ok (.getfield 70, 3) := by decide +kernel
theorem dX9_extend_179 : decode cX9_extend 179 = .ok (.bipush 8, 2) := by decide +kernel
theorem dX9_extend_181 : decode cX9_extend 181 = .ok (.iload_n 1, 1) := by decide +kernel
theorem dX9_extend_182 : decode cX9_extend 182 = .ok (.imul, 1) := by decide +kernel
theorem dX9_extend_183 : decode cX9_extend 183 = .ok (.iload_n 2, 1) := by decide +kernel
theorem dX9_extend_184 : decode cX9_extend 184 = .ok (.iadd, 1) := by decide +kernel
theorem dX9_extend_185 : decode cX9_extend 185 = .ok (.dup2, 1) := by decide +kernel
theorem dX9_extend_186 : decode cX9_extend 186 = .ok (.iaload, 1) := by decide +kernel
theorem dX9_extend_187 : decode cX9_extend 187 = .ok (.sipush 360, 3) := by decide +kernel
theorem dX9_extend_190 : decode cX9_extend 190 = .ok (.iadd, 1) := by decide +kernel
theorem dX9_extend_191 : decode cX9_extend 191 = .ok (.iastore, 1) := by decide +kernel
theorem dX9_extend_192 : decode cX9_extend 192 = .ok (.aload_n 0, 1) := by decide +kernel
theorem dX9_extend_193 : decode cX9_extend 193 = .ok (.getfield 70, 3) := by decide +kernel
theorem dX9_extend_196 : decode cX9_extend 196 = .ok (.bipush 8, 2) := by decide +kernel
theorem dX9_extend_198 : decode cX9_extend 198 = .ok (.iload_n 1, 1) := by decide +kernel
theorem dX9_extend_199 : decode cX9_extend 199 = .ok (.imul, 1) := by decide +kernel
theorem dX9_extend_200 : decode cX9_extend 200 = .ok (.iload_n 2, 1) := by decide +kernel
theorem dX9_extend_201 : decode cX9_extend 201 = .ok (.iadd, 1) := by decide +kernel
theorem dX9_extend_202 : decode cX9_extend 202 = .ok (.iaload, 1) := by decide +kernel
theorem dX9_extend_203 : decode cX9_extend 203 = .ok (.ireturn, 1) := by decide +kernel
set_option maxRecDepth 20000 in
theorem ggX9_oath_X9_isPerson : GoodIn wsX9_oath wsX9_isPerson := goodIn_r _ [9, 10, 11, 12, 8, 13, 32, 33, 34, 35, 36, 37, 38, 39, 40, 41, 42, 43, 44, 45, 46, 47, 48, 49, 50, 51, 52, 53, 54, 55, 56, 57, 58, 59, 60, 61, 62, 63, 64, 65, 66, 67, 68, 69, 70, 71, 72, 73, 74, 75, 76] (by decide +kernel) (by decide +kernel)
set_option maxRecDepth 20000 in
theorem gX9_oath_X9_isPerson : GoodIn wsX9_oath (wsV RX9 167 RX9 yX9_isPerson wsX9_isPerson) := goodIn_app (goodIn_of _ (by decide +kernel)) ggX9_oath_X9_isPerson
set_option maxRecDepth 20000 in
theorem ggX9_oath_X9_isLand : GoodIn wsX9_oath wsX9_isLand := goodIn_r _ [17, 18, 11, 12, 8, 13, 32, 33, 34, 35, 36, 37, 38, 39, 40, 41, 42, 43, 44, 45, 46, 47, 48, 49, 50, 51, 52, 53, 54, 55, 56, 57, 58, 59, 60, 61, 62, 63, 64, 65, 66, 67, 68, 69, 70, 71, 72, 73, 74, 75, 76] (by decide +kernel) (by decide +kernel)
set_option maxRecDepth 20000 in
theorem gX9_oath_X9_isLand : GoodIn wsX9_oath (wsV RX9 150 RX9 yX9_isLand wsX9_isLand) := goodIn_app (goodIn_of _ (by decide +kernel)) ggX9_oath_X9_isLand
set_option maxRecDepth 20000 in
theorem ggX9_oath_X9_has : GoodIn wsX9_oath wsX9_has := goodIn_r _ [21] (by decide +kernel) (by decide +kernel)
set_option maxRecDepth 20000 in
theorem gX9_oath_X9_has : GoodIn wsX9_oath (va_wsS RX9 160 yX9_has wsX9_has) := goodIn_app (goodIn_of _ (by decide +kernel)) ggX9_oath_X9_has
set_option maxRecDepth 20000 in
theorem ggX9_oath_X9_hasPermit : GoodIn wsX9_oath wsX9_hasPermit := goodIn_r _ [25, 26, 4, 32, 33, 34, 35, 36, 37, 38, 39, 40, 41, 42, 43, 44, 45, 46, 47, 48, 49, 50, 51, 52, 53, 54, 55, 56, 57, 58, 59, 60, 61, 62, 63, 64, 65, 66, 67, 68, 69, 70, 71, 72, 73, 74, 75, 76] (by decide +kernel) (by decide +kernel)
set_option maxRecDepth 20000 in
theorem gX9_oath_X9_hasPermit : GoodIn wsX9_oath (wsV RX9 164 RX9 yX9_hasPermit wsX9_hasPermit) := goodIn_app (goodIn_of _ (by decide +kernel)) ggX9_oath_X9_hasPermit
set_option maxRecDepth 20000 in
theorem ggX9_oath_X9_goesWell : GoodIn wsX9_oath wsX9_goesWell := goodIn_r _ [30, 31, 32, 33, 34, 35, 36, 37, 38, 39, 40, 41, 42, 43, 44, 45, 46, 47, 48, 49, 50, 51, 52, 53, 54, 55, 56, 57, 58, 59, 60, 61, 62, 63, 64, 65, 66, 67, 68, 69, 70, 71, 72, 73, 74, 75, 76] (by decide +kernel) (by decide +kernel)
set_option maxRecDepth 20000 in
theorem gX9_oath_X9_goesWell : GoodIn wsX9_oath (wsV RX9 146 RX9 yX9_goesWell wsX9_goesWell) := goodIn_app (goodIn_of _ (by decide +kernel)) ggX9_oath_X9_goesWell
theorem dX9_oath_0 : decode cX9_oath 0 = .ok (.aload_n 0, 1) := by decide +kernel
theorem dX9_oath_1 : decode cX9_oath 1 = .ok (.iload_n 1, 1) := by decide +kernel
theorem dX9_oath_2 : decode cX9_oath 2 = .ok (.invokevirtual 167, 3) := by decide +kernel
theorem dX9_oath_5 : decode cX9_oath 5 = .ok (.ifCond .eq 15, 3) := by decide +kernel
theorem dX9_oath_8 : decode cX9_oath 8 = .ok (.aload_n 0, 1) := by decide +kernel
theorem dX9_oath_9 : decode cX9_oath 9 = .ok (.iload_n 2, 1) := by decide +kernel
theorem dX9_oath_10 : decode cX9_oath 10 = .ok (.invokevirtual 150, 3) := by decide +kernel
theorem dX9_oath_13 : decode cX9_oath 13 = .ok (.ifCond .eq 7, 3) := by decide +kernel
theorem dX9_oath_16 : decode cX9_oath 16 = .ok (.iconst 1, 1) := by decide +kernel
theorem dX9_oath_17 : decode cX9_oath 17 = .ok (.goto 4, 3) := by decide +kernel
theorem dX9_oath_20 : decode cX9_oath 20 = .ok (.iconst 0, 1) := by decide +kernel
theorem dX9_oath_21 : decode cX9_oath 21 = .ok (.istore_n 3, 1) := by decide +kernel
theorem dX9_oath_22 : decode cX9_oath 22 = .ok (.iload_n 3, 1) := by decide +kernel
theorem dX9_oath_23 : decode cX9_oath 23 = .ok (.ifCond .eq 61, 3) := by decide +kernel
theorem dX9_oath_26 : decode cX9_oath 26 = .ok (.aload_n 0, 1) := by decide +kernel
theorem dX9_oath_27 : decode cX9_oath 27 = .ok (.getfield 54, 3) := by decide +kernel
theorem dX9_oath_30 : decode cX9_oath 30 = .ok (.iload_n 1, 1) := by decide +kernel
theorem dX9_oath_31 : decode cX9_oath 31 = .ok (.iaload, 1) := by decide +kernel
theorem dX9_oath_32 : decode cX9_oath 32 = .ok (.iload_n 2, 1) := by decide +kernel
theorem dX9_oath_33 : decode cX9_oath 33 = .ok (.if_icmp .ne 51, 3) := by decide +kernel
theorem dX9_oath_36 : decode cX9_oath 36 = .ok (.aload_n 0, 1) := by decide +kernel
theorem dX9_oath_37 : decode cX9_oath 37 = .ok (.getfield 45, 3) := by decide +kernel
theorem dX9_oath_40 : decode cX9_oath 40 = .ok (.iload_n 1, 1) := by decide +kernel
theorem dX9_oath_41 : decode cX9_oath 41 = .ok (.iaload, 1) := by decide +kernel
theorem dX9_oath_42 : decode cX9_oath 42 = .ok (.iload_n 2, 1) := by decide +kernel
theorem dX9_oath_43 : decode cX9_oath 43 = .ok (.invokestatic 160, 3) := by decide +kernel
theorem dX9_oath_46 : decode cX9_oath 46 = .ok (.ifCond .ne 38, 3) := by decide +kernel
theorem dX9_oath_49 : decode cX9_oath 49 = .ok (.aload_n 0, 1) := by decide +kernel
theorem dX9_oath_50 : decode cX9_oath 50 = .ok (.iload_n 1, 1) := by decide +kernel
theorem dX9_oath_51 : decode cX9_oath 51 = .ok (.iload_n 2, 1) := by decide +kernel
theorem dX9_oath_52 : decode cX9_oath 52 = .ok (.invokevirtual 164, 3) := by decide +kernel
theorem dX9_oath_55 : decode cX9_oath 55 = .ok (.ifCond .eq 29, 3) := by decide +kernel
theorem dX9_oath_58 : decode cX9_oath 58 = .ok (.aload_n 0, 1) := by decide +kernel
theorem dX9_oath_59 : decode cX9_oath 59 = .ok (.getfield 73, 3) := by decide +kernel
theorem dX9_oath_62 : decode cX9_oath 62 = .ok (.bipush 8, 2) := by decide +kernel
theorem dX9_oath_64 : decode cX9_oath 64 = .ok (.iload_n 1, 1) := by decide +kernel
theorem dX9_oath_65 : decode cX9_oath 65 = .ok (.imul, 1) := by decide +kernel
theorem dX9_oath_66 : decode cX9_oath 66 = .ok (.iload_n 2, 1) := by decide +kernel
theorem dX9_oath_67 : decode cX9_oath 67 = .ok (.iadd, 1) := by decide +kernel
theorem dX9_oath_68 : decode cX9_oath 68 = .ok (.iaload, 1) := by decide +kernel
theorem dX9_oath_69 : decode cX9_oath 69 = .ok (.aload_n 0, 1) := by decide +kernel
theorem dX9_oath_70 : decode cX9_oath 70 = .ok (.getfield 153, 3) := by decide +kernel
theorem dX9_oath_73 : decode cX9_oath 73 = .ok (.sipush 1080, 3) := by decide +kernel
theorem dX9_oath_76 : decode cX9_oath 76 = .ok (.isub, 1) := by decide +kernel
theorem dX9_oath_77 : decode cX9_oath 77 = .ok (.if_icmp .gt 7, 3) := by decide +kernel
theorem dX9_oath_80 : decode cX9_oath 80 = .ok (.iconst 1, 1) := by decide +kernel
theorem dX9_oath_81 : decode cX9_oath 81 = .ok (.goto 4, 3) := by decide +kernel
theorem dX9_oath_84 : decode cX9_oath 84 = .ok (.iconst 0, 1) := by decide +kernel
theorem dX9_oath_85 : decode cX9_oath 85 = .ok (.istore 4, 2) := by decide +kernel
theorem dX9_oath_87 : decode cX9_oath 87 = .ok (.aload_n 0, 1) := by decide +kernel
theorem dX9_oath_88 : decode cX9_oath 88 = .ok (.iload_n 3, 1) := by decide +kernel
theorem dX9_oath_89 : decode cX9_oath 89 = .ok (.ifCond .ne 7, 3) := by decide +kernel
theorem dX9_oath_92 : decode cX9_oath 92 = .ok (.iconst 1, 1) := by decide +kernel
theorem dX9_oath_93 : decode cX9_oath 93 = .ok (.goto 13, 3) := by decide +kernel
theorem dX9_oath_96 : decode cX9_oath 96 = .ok (.iload 4, 2) := by decide +kernel
theorem dX9_oath_98 : decode cX9_oath 98 = .ok (.ifCond .eq 7, 3) := by decide +kernel
theorem dX9_oath_101 : decode cX9_oath 101 = .ok (.iconst 0, 1) := by decide +kernel
theorem dX9_oath_102 : decode cX9_oath 102 = .ok (.goto 4, 3) := by decide +kernel
theorem dX9_oath_105 : decode cX9_oath 105 = .ok (.iconst 2, 1) := by decide +kernel
theorem dX9_oath_106 : decode cX9_oath 106 = .ok (.invokevirtual 146, 3) := by decide +kernel
theorem dX9_oath_109 : decode cX9_oath 109 = .ok (.ifCond .ne 5, 3) := by decide +kernel
theorem dX9_oath_112 : decode cX9_oath 112 = .ok (.iconst 0, 1) := by decide +kernel
theorem dX9_oath_113 : decode cX9_oath 113 = .ok (.ireturn, 1) := by decide +kernel
theorem dX9_oath_114 : decode cX9_oath 114 = .ok (.aload_n 0, 1) := by decide +kernel
theorem dX9_oath_115 : decode cX9_oath 115 = .ok (.getfield 45, 3) := by decide +kernel
theorem dX9_oath_118 : decode cX9_oath 118 = .ok (.iload_n 1, 1) := by decide +kernel
theorem dX9_oath_119 : decode cX9_oath 119 = .ok (.dup2, 1) := by decide +kernel
theorem dX9_oath_120 : decode cX9_oath 120 = .ok (.iaload, 1) := by decide +kernel
theorem dX9_oath_121 : decode cX9_oath 121 = .ok (.iconst 1, 1) := by decide +kernel
theorem dX9_oath_122 : decode cX9_oath 122 = .ok (.iload_n 2, 1) := by decide +kernel
theorem dX9_oath_123 : decode cX9_oath 123 = .ok (.ishl, 1) := by decide +kernel
theorem dX9_oath_124 : decode cX9_oath 124 = .ok (.ior, 1) := by decide +kernel
theorem dX9_oath_125 : decode cX9_oath 125 = .ok (.iastore, 1) := by decide +kernel
theorem dX9_oath_126 : decode cX9_oath 126 = .ok (.aload_n 0, 1) := by decide +kernel
theorem dX9_oath_127 : decode cX9_oath 127 = .ok (.getfield 45, 3) := by decide +kernel
theorem dX9_oath_130 : decode cX9_oath 130 = .ok (.iload_n 1, 1) := by decide +kernel
theorem dX9_oath_131 : decode cX9_oath 131 = .ok (.iaload, 1) := by decide +kernel
theorem dX9_oath_132 : decode cX9_oath 132 = .ok (.ireturn, 1) := by decide +kernel
set_option maxRecDepth 20000 in
theorem ggX9_permitFor_X9_hasPermit : GoodIn wsX9_permitFor wsX9_hasPermit := goodIn_r _ [8, 3, 2, 9, 10, 11, 12, 13, 14, 15, 16, 17, 18, 19, 20, 21, 22, 23, 24, 25, 26, 27, 28, 29, 30, 31, 32, 33, 34, 35, 36, 37, 38, 39, 40, 41, 42, 43, 44, 45, 46, 47, 48, 49, 50, 51, 52, 53] (by decide +kernel) (by decide +kernel)
set_option maxRecDepth 20000 in
theorem gX9_permitFor_X9_hasPermit : GoodIn wsX9_permitFor (wsV RX9 164 RX9 yX9_hasPermit wsX9_hasPermit) := goodIn_app (goodIn_of _ (by decide +kernel)) ggX9_permitFor_X9_hasPermit
theorem dX9_permitFor_0 : decode cX9_permitFor 0 = .ok (.bipush 8, 2) := by decide +kernel
theorem dX9_permitFor_2 : decode cX9_permitFor 2 = .ok (.iload_n 1, 1) := by decide +kernel
theorem dX9_permitFor_3 : decode cX9_permitFor 3 = .ok (.imul, 1) := by decide +kernel
theorem dX9_permitFor_4 : decode cX9_permitFor 4 = .ok (.iload_n 2, 1) := by decide +kernel
theorem dX9_permitFor_5 : decode cX9_permitFor 5 = .ok (.iadd, 1) := by decide +kernel
theorem dX9_permitFor_6 : decode cX9_permitFor 6 = .ok (.istore_n 3, 1) := by decide +kernel
theorem dX9_permitFor_7 : decode cX9_permitFor 7 = .ok (.aload_n 0, 1) := by decide +kernel
theorem dX9_permitFor_8 : decode cX9_permitFor 8 = .ok (.getfield 73, 3) := by decide +kernel
theorem dX9_permitFor_11 : decode cX9_permitFor 11 = .ok (.iload_n 3, 1) := by decide +kernel
theorem dX9_permitFor_12 : decode cX9_permitFor 12 = .ok (.aload_n 0, 1) := by decide +kernel
theorem dX9_permitFor_13 : decode cX9_permitFor 13 = .ok (.iload_n 1, 1) := by decide +kernel
theorem dX9_permitFor_14 : decode cX9_permitFor 14 = .ok (.iload_n 2, 1) := by decide +kernel
theorem dX9_permitFor_15 : decode cX9_permitFor 15 = .ok (.invokevirtual 164, 3) := by decide +kernel
theorem dX9_permitFor_18 : decode cX9_permitFor 18 = .ok (.ifCond .eq 12, 3) := by decide +kernel
theorem dX9_permitFor_21 : decode cX9_permitFor 21 = .ok (.aload_n 0, 1) := by decide +kernel
theorem dX9_permitFor_22 : decode cX9_permitFor 22 = .ok (.getfield 73, 3) := by decide +kernel
theorem dX9_permitFor_25 : decode cX9_permitFor 25 = .ok (.iload_n 3, 1) := by decide +kernel
theorem dX9_permitFor_26 : decode cX9_permitFor 26 = .ok (.iaload, 1) := by decide +kernel
theorem dX9_permitFor_27 : decode cX9_permitFor 27 = .ok (.goto 7, 3) := by decide +kernel
theorem dX9_permitFor_30 : decode cX9_permitFor 30 = .ok (.aload_n 0, 1) := by decide +kernel
theorem dX9_permitFor_31 : decode cX9_permitFor 31 = .ok (.getfield 153, 3) := by decide +kernel
theorem dX9_permitFor_34 : decode cX9_permitFor 34 = .ok (.iastore, 1) := by decide +kernel
theorem dX9_permitFor_35 : decode cX9_permitFor 35 = .ok (.aload_n 0, 1) := by decide +kernel
theorem dX9_permitFor_36 : decode cX9_permitFor 36 = .ok (.getfield 70, 3) := by decide +kernel
theorem dX9_permitFor_39 : decode cX9_permitFor 39 = .ok (.iload_n 3, 1) := by decide +kernel
theorem dX9_permitFor_40 : decode cX9_permitFor 40 = .ok (.aload_n 0, 1) := by decide +kernel
theorem dX9_permitFor_41 : decode cX9_permitFor 41 = .ok (.getfield 70, 3) := by decide +kernel
theorem dX9_permitFor_44 : decode cX9_permitFor 44 = .ok (.iload_n 3, 1) := by decide +kernel
theorem dX9_permitFor_45 : decode cX9_permitFor 45 = .ok (.iaload, 1) := by decide +kernel
theorem dX9_permitFor_46 : decode cX9_permitFor 46 = .ok (.aload_n 0, 1) := by decide +kernel
theorem dX9_permitFor_47 : decode cX9_permitFor 47 = .ok (.getfield 153, 3) := by decide +kernel
theorem dX9_permitFor_50 : decode cX9_permitFor 50 = .ok (.sipush 360, 3) := by decide +kernel
theorem dX9_permitFor_53 : decode cX9_permitFor 53 = .ok (.iadd, 1) := by decide +kernel
theorem dX9_permitFor_54 : decode cX9_permitFor 54 = .ok (.iconst 1, 1) := by decide +kernel
theorem dX9_permitFor_55 : decode cX9_permitFor 55 = .ok (.isub, 1) := by decide +kernel
theorem dX9_permitFor_56 : decode cX9_permitFor 56 = .ok (.if_icmp .le 12, 3) := by decide +kernel
theorem dX9_permitFor_59 : decode cX9_permitFor 59 = .ok (.aload_n 0, 1) := by decide +kernel
theorem dX9_permitFor_60 : decode cX9_permitFor 60 = .ok (.getfield 70, 3) := by decide +kernel
theorem dX9_permitFor_63 : decode cX9_permitFor 63 = .ok (.iload_n 3, 1) := by decide +kernel
theorem dX9_permitFor_64 : decode cX9_permitFor 64 = .ok (.iaload, 1) := by decide +kernel
theorem dX9_permitFor_65 : decode cX9_permitFor 65 = .ok (.goto 13, 3) := by decide +kernel
theorem dX9_permitFor_68 : decode cX9_permitFor 68 = .ok (.aload_n 0, 1) := by decide +kernel
theorem dX9_permitFor_69 : decode cX9_permitFor 69 = .ok (.getfield 153, 3) := by decide +kernel
theorem dX9_permitFor_72 : decode cX9_permitFor 72 = .ok (.sipush 360, 3) := by decide +kernel
theorem dX9_permitFor_75 : decode cX9_permitFor 75 = .ok (.iadd, 1) := by decide +kernel
theorem dX9_permitFor_76 : decode cX9_permitFor 76 = .ok (.iconst 1, 1) := by decide +kernel
theorem dX9_permitFor_77 : decode cX9_permitFor 77 = .ok (.isub, 1) := by decide +kernel
theorem dX9_permitFor_78 : decode cX9_permitFor 78 = .ok (.iastore, 1) := by decide +kernel
theorem dX9_permitFor_79 : decode cX9_permitFor 79 = .ok (.return_, 1) := by decide +kernel
theorem dX9_placeOf_0 : decode cX9_placeOf 0 = .ok (.iconst 0, 1) := by decide +kernel
theorem dX9_placeOf_1 : decode cX9_placeOf 1 = .ok (.istore_n 2, 1) := by decide +kernel
theorem dX9_placeOf_2 : decode cX9_placeOf 2 = .ok (.iconst 0, 1) := by decide +kernel
theorem dX9_placeOf_3 : decode cX9_placeOf 3 = .ok (.istore_n 3, 1) := by decide +kernel
theorem dX9_placeOf_4 : decode cX9_placeOf 4 = .ok (.iload_n 3, 1) := by decide +kernel
theorem dX9_placeOf_5 : decode cX9_placeOf 5 = .ok (.aload_n 0, 1) := by decide +kernel
theorem dX9_placeOf_6 : decode cX9_placeOf 6 = .ok (.getfield 143, 3) := by decide +kernel
theorem dX9_placeOf_9 : decode cX9_placeOf 9 = .ok (.if_icmp .ge 108, 3) := by decide +kernel
theorem dX9_placeOf_12 : decode cX9_placeOf 12 = .ok (.iload_n 3, 1) := by decide +kernel
theorem dX9_placeOf_13 : decode cX9_placeOf 13 = .ok (.iload_n 1, 1) := by decide +kernel
theorem dX9_placeOf_14 : decode cX9_placeOf 14 = .ok (.if_icmp .eq 46, 3) := by decide +kernel
theorem dX9_placeOf_17 : decode cX9_placeOf 17 = .ok (.aload_n 0, 1) := by decide +kernel
theorem dX9_placeOf_18 : decode cX9_placeOf 18 = .ok (.getfield 118, 3) := by decide +kernel
theorem dX9_placeOf_21 : decode cX9_placeOf 21 = .ok (.iload_n 3, 1) := by decide +kernel
theorem dX9_placeOf_22 : decode cX9_placeOf 22 = .ok (.iaload, 1) := by decide +kernel
theorem dX9_placeOf_23 : decode cX9_placeOf 23 = .ok (.ifCond .ne 37, 3) := by decide +kernel
theorem dX9_placeOf_26 : decode cX9_placeOf 26 = .ok (.aload_n 0, 1) := by decide +kernel
theorem dX9_placeOf_27 : decode cX9_placeOf 27 = .ok (.getfield 109, 3) := by decide +kernel
theorem dX9_placeOf_30 : decode cX9_placeOf 30 = .ok (.iload_n 3, 1) := by decide +kernel
theorem dX9_placeOf_31 : decode cX9_placeOf 31 = .ok (.iaload, 1) := by decide +kernel
theorem dX9_placeOf_32 : decode cX9_placeOf 32 = .ok (.aload_n 0, 1) := by decide +kernel
theorem dX9_placeOf_33 : decode cX9_placeOf 33 = .ok (.getfield 109, 3) := by decide +kernel
theorem dX9_placeOf_36 : decode cX9_placeOf 36 = .ok (.iload_n 1, 1) := by decide +kernel
theorem dX9_placeOf_37 : decode cX9_placeOf 37 = .ok (.iaload, 1) := by decide +kernel
theorem dX9_placeOf_38 : decode cX9_placeOf 38 = .ok (.if_icmp .ne 22, 3) := by decide +kernel
theorem dX9_placeOf_41 : decode cX9_placeOf 41 = .ok (.aload_n 0, 1) := by decide +kernel
theorem dX9_placeOf_42 : decode cX9_placeOf 42 = .ok (.getfield 112, 3) := by decide +kernel
theorem dX9_placeOf_45 : decode cX9_placeOf 45 = .ok (.iload_n 3, 1) := by decide +kernel
theorem dX9_placeOf_46 : decode cX9_placeOf 46 = .ok (.iaload, 1) := by decide +kernel
theorem dX9_placeOf_47 : decode cX9_placeOf 47 = .ok (.aload_n 0, 1) := by decide +kernel
theorem dX9_placeOf_48 : decode cX9_placeOf 48 = .ok (.getfield 112, 3) := by decide +kernel
theorem dX9_placeOf_51 : decode cX9_placeOf 51 = .ok (.iload_n 1, 1) := by decide +kernel
theorem dX9_placeOf_52 : decode cX9_placeOf 52 = .ok (.iaload, 1) := by decide +kernel
theorem dX9_placeOf_53 : decode cX9_placeOf 53 = .ok (.if_icmp .ne 7, 3) := by decide +kernel
theorem dX9_placeOf_56 : decode cX9_placeOf 56 = .ok (.iconst 1, 1) := by decide +kernel
theorem dX9_placeOf_57 : decode cX9_placeOf 57 = .ok (.goto 4, 3) := by decide +kernel
theorem dX9_placeOf_60 : decode cX9_placeOf 60 = .ok (.iconst 0, 1) := by decide +kernel
theorem dX9_placeOf_61 : decode cX9_placeOf 61 = .ok (.istore 4, 2) := by decide +kernel
theorem dX9_placeOf_63 : decode cX9_placeOf 63 = .ok (.iload_n 2, 1) := by decide +kernel
theorem dX9_placeOf_64 : decode cX9_placeOf 64 = .ok (.iload 4, 2) := by decide +kernel
theorem dX9_placeOf_66 : decode cX9_placeOf 66 = .ok (.ifCond .eq 42, 3) := by decide +kernel
theorem dX9_placeOf_69 : decode cX9_placeOf 69 = .ok (.aload_n 0, 1) := by decide +kernel
theorem dX9_placeOf_70 : decode cX9_placeOf 70 = .ok (.getfield 115, 3) := by decide +kernel
theorem dX9_placeOf_73 : decode cX9_placeOf 73 = .ok (.iload_n 3, 1) := by decide +kernel
theorem dX9_placeOf_74 : decode cX9_placeOf 74 = .ok (.iaload, 1) := by decide +kernel
theorem dX9_placeOf_75 : decode cX9_placeOf 75 = .ok (.aload_n 0, 1) := by decide +kernel
theorem dX9_placeOf_76 : decode cX9_placeOf 76 = .ok (.getfield 115, 3) := by decide +kernel
theorem dX9_placeOf_79 : decode cX9_placeOf 79 = .ok (.iload_n 1, 1) := by decide +kernel
theorem dX9_placeOf_80 : decode cX9_placeOf 80 = .ok (.iaload, 1) := by decide +kernel
theorem dX9_placeOf_81 : decode cX9_placeOf 81 = .ok (.if_icmp .lt 23, 3) := by decide +kernel
theorem dX9_placeOf_84 : decode cX9_placeOf 84 = .ok (.aload_n 0, 1) := by decide +kernel
theorem dX9_placeOf_85 : decode cX9_placeOf 85 = .ok (.getfield 115, 3) := by decide +kernel
theorem dX9_placeOf_88 : decode cX9_placeOf 88 = .ok (.iload_n 3, 1) := by decide +kernel
theorem dX9_placeOf_89 : decode cX9_placeOf 89 = .ok (.iaload, 1) := by decide +kernel
theorem dX9_placeOf_90 : decode cX9_placeOf 90 = .ok (.aload_n 0, 1) := by decide +kernel
theorem dX9_placeOf_91 : decode cX9_placeOf 91 = .ok (.getfield 115, 3) := by decide +kernel
theorem dX9_placeOf_94 : decode cX9_placeOf 94 = .ok (.iload_n 1, 1) := by decide +kernel
theorem dX9_placeOf_95 : decode cX9_placeOf 95 = .ok (.iaload, 1) := by decide +kernel
theorem dX9_placeOf_96 : decode cX9_placeOf 96 = .ok (.if_icmp .ne 12, 3) := by decide +kernel
theorem dX9_placeOf_99 : decode cX9_placeOf 99 = .ok (.iload_n 3, 1) := by decide +kernel
theorem dX9_placeOf_100 : decode cX9_placeOf 100 = .ok (.iload_n 1, 1) := by decide +kernel
theorem dX9_placeOf_101 : decode cX9_placeOf 101 = .ok (.if_icmp .ge 7, 3) := by decide +kernel
theorem dX9_placeOf_104 : decode cX9_placeOf 104 = .ok (.iconst 1, 1) := by decide +kernel
theorem dX9_placeOf_105 : decode cX9_placeOf 105 = .ok (.goto 4, 3) := by decide +kernel
theorem dX9_placeOf_108 : decode cX9_placeOf 108 = .ok (.iconst 0, 1) := by decide +kernel
theorem dX9_placeOf_109 : decode cX9_placeOf 109 = .ok (.iadd, 1) := by decide +kernel
theorem dX9_placeOf_110 : decode cX9_placeOf 110 = .ok (.istore_n 2, 1) := by decide +kernel
theorem dX9_placeOf_111 : decode cX9_placeOf 111 = .ok (.iinc 3 1, 3) := by decide +kernel
theorem dX9_placeOf_114 : decode cX9_placeOf 114 = .ok (.goto (-110), 3) := by decide +kernel
theorem dX9_placeOf_117 : decode cX9_placeOf 117 = .ok (.iload_n 2, 1) := by decide +kernel
theorem dX9_placeOf_118 : decode cX9_placeOf 118 = .ok (.ireturn, 1) := by decide +kernel
set_option maxRecDepth 20000 in
theorem ggX9_firstOf_X9_placeOf : GoodIn wsX9_firstOf wsX9_placeOf := goodIn_r _ [9, 1, 2, 3, 4, 10, 11, 12, 13, 14, 15, 16, 17, 18, 19, 20, 21, 22, 23, 24, 25, 26, 27, 28, 29, 30, 31, 32, 33, 34, 35, 36, 37, 38, 39, 40, 41, 42, 43, 44, 45, 46, 47, 48, 49, 50, 51, 52, 53, 54, 55] (by decide +kernel) (by decide +kernel)
set_option maxRecDepth 20000 in
theorem gX9_firstOf_X9_placeOf : GoodIn wsX9_firstOf (wsV RX9 236 RX9 yX9_placeOf wsX9_placeOf) := goodIn_app (goodIn_of _ (by decide +kernel)) ggX9_firstOf_X9_placeOf
theorem dX9_firstOf_0 : decode cX9_firstOf 0 = .ok (.iconst 0, 1) := by decide +kernel
theorem dX9_firstOf_1 : decode cX9_firstOf 1 = .ok (.istore_n 3, 1) := by decide +kernel
theorem dX9_firstOf_2 : decode cX9_firstOf 2 = .ok (.iload_n 3, 1) := by decide +kernel
theorem dX9_firstOf_3 : decode cX9_firstOf 3 = .ok (.aload_n 0, 1) := by decide +kernel
theorem dX9_firstOf_4 : decode cX9_firstOf 4 = .ok (.getfield 143, 3) := by decide +kernel
theorem dX9_firstOf_7 : decode cX9_firstOf 7 = .ok (.if_icmp .ge 48, 3) := by decide +kernel
theorem dX9_firstOf_10 : decode cX9_firstOf 10 = .ok (.aload_n 0, 1) := by decide +kernel
theorem dX9_firstOf_11 : decode cX9_firstOf 11 = .ok (.getfield 118, 3) := by decide +kernel
theorem dX9_firstOf_14 : decode cX9_firstOf 14 = .ok (.iload_n 3, 1) := by decide +kernel
theorem dX9_firstOf_15 : decode cX9_firstOf 15 = .ok (.iaload, 1) := by decide +kernel
theorem dX9_firstOf_16 : decode cX9_firstOf 16 = .ok (.ifCond .ne 33, 3) := by decide +kernel
theorem dX9_firstOf_19 : decode cX9_firstOf 19 = .ok (.aload_n 0, 1) := by decide +kernel
theorem dX9_firstOf_20 : decode cX9_firstOf 20 = .ok (.getfield 109, 3) := by decide +kernel
theorem dX9_firstOf_23 : decode cX9_firstOf 23 = .ok (.iload_n 3, 1) := by decide +kernel
theorem dX9_firstOf_24 : decode cX9_firstOf 24 = .ok (.iaload, 1) := by decide +kernel
theorem dX9_firstOf_25 : decode cX9_firstOf 25 = .ok (.iload_n 1, 1) := by decide +kernel
theorem dX9_firstOf_26 : decode cX9_firstOf 26 = .ok (.if_icmp .ne 23, 3) := by decide +kernel
theorem dX9_firstOf_29 : decode cX9_firstOf 29 = .ok (.aload_n 0, 1) := by decide +kernel
theorem dX9_firstOf_30 : decode cX9_firstOf 30 = .ok (.getfield 112, 3) := by decide +kernel
theorem dX9_firstOf_33 : decode cX9_firstOf 33 = .ok (.iload_n 3, 1) := by decide +kernel
theorem dX9_firstOf_34 : decode cX9_firstOf 34 = .ok (.iaload, 1) := by decide +kernel
theorem dX9_firstOf_35 : decode cX9_firstOf 35 = .ok (.iload_n 2, 1) := by decide +kernel
theorem dX9_firstOf_36 : decode cX9_firstOf 36 = .ok (.if_icmp .ne 13, 3) := by decide +kernel
theorem dX9_firstOf_39 : decode cX9_firstOf 39 = .ok (.aload_n 0, 1) := by decide +kernel
theorem dX9_firstOf_40 : decode cX9_firstOf 40 = .ok (.iload_n 3, 1) := by decide +kernel
theorem dX9_firstOf_41 : decode cX9_firstOf 41 = .ok (.invokevirtual 236, 3) := by decide +kernel
theorem dX9_firstOf_44 : decode cX9_firstOf 44 = .ok (.ifCond .ne 5, 3) := by decide +kernel
theorem dX9_firstOf_47 : decode cX9_firstOf 47 = .ok (.iload_n 3, 1) := by decide +kernel
theorem dX9_firstOf_48 : decode cX9_firstOf 48 = .ok (.ireturn, 1) := by decide +kernel
theorem dX9_firstOf_49 : decode cX9_firstOf 49 = .ok (.iinc 3 1, 3) := by decide +kernel
theorem dX9_firstOf_52 : decode cX9_firstOf 52 = .ok (.goto (-50), 3) := by decide +kernel
theorem dX9_firstOf_55 : decode cX9_firstOf 55 = .ok (.iconst (-1), 1) := by decide +kernel
theorem dX9_firstOf_56 : decode cX9_firstOf 56 = .ok (.ireturn, 1) := by decide +kernel
set_option maxRecDepth 20000 in
theorem ggX9_grant_X9_permitFor : GoodIn wsX9_grant wsX9_permitFor := goodIn_r _ [10, 11, 12, 13, 14, 15, 16, 9, 17, 18, 19, 20, 21, 22, 23, 24, 25, 26, 27, 28, 29, 30, 31, 32, 33, 34, 35, 36, 37, 38, 39, 40, 41, 42, 43, 44, 45, 46, 47, 48, 49, 50, 51, 52, 53, 54, 55, 56, 57, 58, 59, 60, 61, 62] (by decide +kernel) (by decide +kernel)
set_option maxRecDepth 20000 in
theorem gX9_grant_X9_permitFor : GoodIn wsX9_grant (wsV RX9 239 RX9 yX9_permitFor wsX9_permitFor) := goodIn_app (goodIn_of _ (by decide +kernel)) ggX9_grant_X9_permitFor
theorem dX9_grant_0 : decode cX9_grant 0 = .ok (.aload_n 0, 1) := by decide +kernel
theorem dX9_grant_1 : decode cX9_grant 1 = .ok (.getfield 118, 3) := by decide +kernel
theorem dX9_grant_4 : decode cX9_grant 4 = .ok (.iload_n 1, 1) := by decide +kernel
theorem dX9_grant_5 : decode cX9_grant 5 = .ok (.iconst 1, 1) := by decide +kernel
theorem dX9_grant_6 : decode cX9_grant 6 = .ok (.iastore, 1) := by decide +kernel
theorem dX9_grant_7 : decode cX9_grant 7 = .ok (.aload_n 0, 1) := by decide +kernel
theorem dX9_grant_8 : decode cX9_grant 8 = .ok (.aload_n 0, 1) := by decide +kernel
theorem dX9_grant_9 : decode cX9_grant 9 = .ok (.getfield 106, 3) := by decide +kernel
theorem dX9_grant_12 : decode cX9_grant 12 = .ok (.iload_n 1, 1) := by decide +kernel
theorem dX9_grant_13 : decode cX9_grant 13 = .ok (.iaload, 1) := by decide +kernel
theorem dX9_grant_14 : decode cX9_grant 14 = .ok (.aload_n 0, 1) := by decide +kernel
theorem dX9_grant_15 : decode cX9_grant 15 = .ok (.getfield 109, 3) := by decide +kernel
theorem dX9_grant_18 : decode cX9_grant 18 = .ok (.iload_n 1, 1) := by decide +kernel
theorem dX9_grant_19 : decode cX9_grant 19 = .ok (.iaload, 1) := by decide +kernel
theorem dX9_grant_20 : decode cX9_grant 20 = .ok (.invokevirtual 239, 3) := by decide +kernel
theorem dX9_grant_23 : decode cX9_grant 23 = .ok (.iconst 0, 1) := by decide +kernel
theorem dX9_grant_24 : decode cX9_grant 24 = .ok (.istore_n 2, 1) := by decide +kernel
theorem dX9_grant_25 : decode cX9_grant 25 = .ok (.iload_n 2, 1) := by decide +kernel
theorem dX9_grant_26 : decode cX9_grant 26 = .ok (.aload_n 0, 1) := by decide +kernel
theorem dX9_grant_27 : decode cX9_grant 27 = .ok (.getfield 124, 3) := by decide +kernel
theorem dX9_grant_30 : decode cX9_grant 30 = .ok (.iload_n 1, 1) := by decide +kernel
theorem dX9_grant_31 : decode cX9_grant 31 = .ok (.iaload, 1) := by decide +kernel
theorem dX9_grant_32 : decode cX9_grant 32 = .ok (.if_icmp .ge 29, 3) := by decide +kernel
theorem dX9_grant_35 : decode cX9_grant 35 = .ok (.aload_n 0, 1) := by decide +kernel
theorem dX9_grant_36 : decode cX9_grant 36 = .ok (.aload_n 0, 1) := by decide +kernel
theorem dX9_grant_37 : decode cX9_grant 37 = .ok (.getfield 127, 3) := by decide +kernel
theorem dX9_grant_40 : decode cX9_grant 40 = .ok (.iconst 3, 1) := by decide +kernel
theorem dX9_grant_41 : decode cX9_grant 41 = .ok (.iload_n 1, 1) := by decide +kernel
theorem dX9_grant_42 : decode cX9_grant 42 = .ok (.imul, 1) := by decide +kernel
theorem dX9_grant_43 : decode cX9_grant 43 = .ok (.iload_n 2, 1) := by decide +kernel
theorem dX9_grant_44 : decode cX9_grant 44 = .ok (.iadd, 1) := by decide +kernel
theorem dX9_grant_45 : decode cX9_grant 45 = .ok (.iaload, 1) := by decide +kernel
theorem dX9_grant_46 : decode cX9_grant 46 = .ok (.aload_n 0, 1) := by decide +kernel
theorem dX9_grant_47 : decode cX9_grant 47 = .ok (.getfield 109, 3) := by decide +kernel
theorem dX9_grant_50 : decode cX9_grant 50 = .ok (.iload_n 1, 1) := by decide +kernel
theorem dX9_grant_51 : decode cX9_grant 51 = .ok (.iaload, 1) := by decide +kernel
theorem dX9_grant_52 : decode cX9_grant 52 = .ok (.invokevirtual 239, 3) := by decide +kernel
theorem dX9_grant_55 : decode cX9_grant 55 = .ok (.iinc 2 1, 3) := by decide +kernel
theorem dX9_grant_58 : decode cX9_grant 58 = .ok (.goto (-33), 3) := by decide +kernel
theorem dX9_grant_61 : decode cX9_grant 61 = .ok (.return_, 1) := by decide +kernel
set_option maxRecDepth 20000 in
theorem ggX9_grantAll_X9_firstOf : GoodIn wsX9_grantAll wsX9_firstOf := goodIn_r _ [7, 8, 9, 10, 11, 12, 13, 14, 6, 15, 16, 35, 36, 37, 38, 39, 40, 41, 42, 43, 44, 45, 46, 47, 48, 49, 50, 51, 52, 53, 54, 55, 56, 57, 58, 59, 60, 61, 62, 63, 64, 65, 66, 67, 68, 69, 70, 71, 72, 73, 74, 75, 76, 77, 78, 79] (by decide +kernel) (by decide +kernel)
set_option maxRecDepth 20000 in
theorem gX9_grantAll_X9_firstOf : GoodIn wsX9_grantAll (wsV RX9 243 RX9 yX9_firstOf wsX9_firstOf) := goodIn_app (goodIn_of _ (by decide +kernel)) ggX9_grantAll_X9_firstOf
set_option maxRecDepth 20000 in
theorem ggX9_grantAll_X9_grant : GoodIn wsX9_grantAll wsX9_grant := goodIn_r _ [20, 9, 21, 10, 22, 23, 24, 25, 26, 6, 27, 28, 29, 30, 31, 32, 33, 34, 35, 36, 37, 38, 39, 40, 41, 42, 43, 44, 45, 46, 47, 48, 49, 50, 51, 52, 53, 54, 55, 56, 57, 58, 59, 60, 61, 62, 63, 64, 65, 66, 67, 68, 69, 70, 71, 72, 73, 74, 75, 76, 77, 78, 79] (by decide +kernel) (by decide +kernel)
set_option maxRecDepth 20000 in
theorem gX9_grantAll_X9_grant : GoodIn wsX9_grantAll (wsV RX9 246 RX9 yX9_grant wsX9_grant) := goodIn_app (goodIn_of _ (by decide +kernel)) ggX9_grantAll_X9_grant
theorem dX9_grantAll_0 : decode cX9_grantAll 0 = .ok (.iconst 0, 1) := by decide +kernel
theorem dX9_grantAll_1 : decode cX9_grantAll 1 = .ok (.istore_n 1, 1) := by decide +kernel
theorem dX9_grantAll_2 : decode cX9_grantAll 2 = .ok (.iload_n 1, 1) := by decide +kernel
theorem dX9_grantAll_3 : decode cX9_grantAll 3 = .ok (.aload_n 0, 1) := by decide +kernel
theorem dX9_grantAll_4 : decode cX9_grantAll 4 = .ok (.getfield 133, 3) := by decide +kernel
theorem dX9_grantAll_7 : decode cX9_grantAll 7 = .ok (.if_icmp .ge 75, 3) := by decide +kernel
theorem dX9_grantAll_10 : decode cX9_grantAll 10 = .ok (.iconst 0, 1) := by decide +kernel
theorem dX9_grantAll_11 : decode cX9_grantAll 11 = .ok (.istore_n 2, 1) := by decide +kernel
theorem dX9_grantAll_12 : decode cX9_grantAll 12 = .ok (.iconst 0, 1) := by decide +kernel
theorem dX9_grantAll_13 : decode cX9_grantAll 13 = .ok (.istore_n 3, 1) := by decide +kernel
theorem dX9_grantAll_14 : decode cX9_grantAll 14 = .ok (.iload_n 3, 1) := by decide +kernel
theorem dX9_grantAll_15 : decode cX9_grantAll 15 = .ok (.iconst 3, 1) := by decide +kernel
theorem dX9_grantAll_16 : decode cX9_grantAll 16 = .ok (.if_icmp .ge 60, 3) := by decide +kernel
theorem dX9_grantAll_19 : decode cX9_grantAll 19 = .ok (.iload_n 2, 1) := by decide +kernel
theorem dX9_grantAll_20 : decode cX9_grantAll 20 = .ok (.aload_n 0, 1) := by decide +kernel
theorem dX9_grantAll_21 : decode cX9_grantAll 21 = .ok (.getfield 26, 3) := by decide +kernel
theorem dX9_grantAll_24 : decode cX9_grantAll 24 = .ok (.iconst 3, 1) := by decide +kernel
theorem dX9_grantAll_25 : decode cX9_grantAll 25 = .ok (.iload_n 1, 1) := by decide +kernel
theorem dX9_grantAll_26 : decode cX9_grantAll 26 = .ok (.imul, 1) := by decide +kernel
theorem dX9_grantAll_27 : decode cX9_grantAll 27 = .ok (.iload_n 3, 1) := by decide +kernel
theorem dX9_grantAll_28 : decode cX9_grantAll 28 = .ok (.iadd, 1) := by decide +kernel
theorem dX9_grantAll_29 : decode cX9_grantAll 29 = .ok (.iaload, 1) := by decide +kernel
theorem dX9_grantAll_30 : decode cX9_grantAll 30 = .ok (.iadd, 1) := by decide +kernel
theorem dX9_grantAll_31 : decode cX9_grantAll 31 = .ok (.istore_n 2, 1) := by decide +kernel
theorem dX9_grantAll_32 : decode cX9_grantAll 32 = .ok (.aload_n 0, 1) := by decide +kernel
theorem dX9_grantAll_33 : decode cX9_grantAll 33 = .ok (.iload_n 1, 1) := by decide +kernel
theorem dX9_grantAll_34 : decode cX9_grantAll 34 = .ok (.iload_n 3, 1) := by decide +kernel
theorem dX9_grantAll_35 : decode cX9_grantAll 35 = .ok (.invokevirtual 243, 3) := by decide +kernel
theorem dX9_grantAll_38 : decode cX9_grantAll 38 = .ok (.istore 4, 2) := by decide +kernel
theorem dX9_grantAll_40 : decode cX9_grantAll 40 = .ok (.iload_n 2, 1) := by decide +kernel
theorem dX9_grantAll_41 : decode cX9_grantAll 41 = .ok (.ifCond .le 29, 3) := by decide +kernel
theorem dX9_grantAll_44 : decode cX9_grantAll 44 = .ok (.iload 4, 2) := by decide +kernel
theorem dX9_grantAll_46 : decode cX9_grantAll 46 = .ok (.iconst (-1), 1) := by decide +kernel
theorem dX9_grantAll_47 : decode cX9_grantAll 47 = .ok (.if_icmp .eq 23, 3) := by decide +kernel
theorem dX9_grantAll_50 : decode cX9_grantAll 50 = .ok (.aload_n 0, 1) := by decide +kernel
theorem dX9_grantAll_51 : decode cX9_grantAll 51 = .ok (.iload 4, 2) := by decide +kernel
theorem dX9_grantAll_53 : decode cX9_grantAll 53 = .ok (.invokevirtual 246, 3) := by decide +kernel
theorem dX9_grantAll_56 : decode cX9_grantAll 56 = .ok (.iinc 2 (-1), 3) := by decide +kernel
theorem dX9_grantAll_59 : decode cX9_grantAll 59 = .ok (.aload_n 0, 1) := by decide +kernel
theorem dX9_grantAll_60 : decode cX9_grantAll 60 = .ok (.iload_n 1, 1) := by decide +kernel
theorem dX9_grantAll_61 : decode cX9_grantAll 61 = .ok (.iload_n 3, 1) := by decide +kernel
theorem dX9_grantAll_62 : decode cX9_grantAll 62 = .ok (.invokevirtual 243, 3) := by decide +kernel
theorem dX9_grantAll_65 : decode cX9_grantAll 65 = .ok (.istore 4, 2) := by decide +kernel
theorem dX9_grantAll_67 : decode cX9_grantAll 67 = .ok (.goto (-27), 3) := by decide +kernel
theorem dX9_grantAll_70 : decode cX9_grantAll 70 = .ok (.iinc 3 1, 3) := by decide +kernel
theorem dX9_grantAll_73 : decode cX9_grantAll 73 = .ok (.goto (-59), 3) := by decide +kernel
theorem dX9_grantAll_76 : decode cX9_grantAll 76 = .ok (.iinc 1 1, 3) := by decide +kernel
theorem dX9_grantAll_79 : decode cX9_grantAll 79 = .ok (.goto (-77), 3) := by decide +kernel
theorem dX9_grantAll_82 : decode cX9_grantAll 82 = .ok (.return_, 1) := by decide +kernel
set_option maxRecDepth 20000 in
theorem ggX9_goOn_X9_look : GoodIn wsX9_goOn wsX9_look := goodIn_r _ [11, 6, 12, 1, 13, 14, 15, 10, 16, 17, 18, 19, 20, 21, 22, 23, 24, 25, 26, 27, 28, 29, 30, 31, 32, 33, 34, 35, 36, 37, 38, 39, 40, 41, 42, 43, 44, 45, 46, 47, 48, 49, 50, 51, 52, 53, 54, 55, 56, 57, 58, 59, 60, 61, 62, 63, 64, 65, 66, 67, 68, 69, 70, 71, 100, 101, 102, 103, 104, 105, 106, 107, 108, 109, 110, 111, 112, 113, 114, 115, 116, 117, 118, 119, 120, 121, 122, 123, 124, 125, 126, 127, 128, 129, 130, 131, 132, 133, 134, 135, 136, 137, 138, 139, 140, 141, 142, 143, 144] (by decide +kernel) (by decide +kernel)
set_option maxRecDepth 20000 in
theorem gX9_goOn_X9_look : GoodIn wsX9_goOn (wsV RX9 202 RX9 yX9_look wsX9_look) := goodIn_app (goodIn_of _ (by decide +kernel)) ggX9_goOn_X9_look
set_option maxRecDepth 20000 in
theorem ggX9_goOn_X9_grantAll : GoodIn wsX9_goOn wsX9_grantAll := goodIn_r _ [75, 39, 76, 77, 78, 79, 10, 80, 2, 3, 81, 82, 83, 84, 85, 86, 87, 88, 89, 90, 91, 92, 93, 94, 95, 96, 97, 98, 99, 1, 34, 30, 31, 32, 33, 100, 101, 102, 103, 104, 105, 106, 107, 108, 109, 110, 111, 112, 113, 114, 115, 116, 117, 118, 119, 120, 121, 122, 123, 124, 125, 126, 127, 128, 129, 130, 131, 132, 133, 134, 135, 136, 137, 138, 139, 140, 141, 142, 143, 144] (by decide +kernel) (by decide +kernel)
set_option maxRecDepth 20000 in
theorem gX9_goOn_X9_grantAll : GoodIn wsX9_goOn (wsV RX9 250 RX9 yX9_grantAll wsX9_grantAll) := goodIn_app (goodIn_of _ (by decide +kernel)) ggX9_goOn_X9_grantAll
theorem dX9_goOn_0 : decode cX9_goOn 0 = .ok (.aload_n 0, 1) := by decide +kernel
theorem dX9_goOn_1 : decode cX9_goOn 1 = .ok (.dup, 1) := by decide +kernel
theorem dX9_goOn_2 : decode cX9_goOn 2 = .ok (.getfield 153, 3) := by decide +kernel
theorem dX9_goOn_5 : decode cX9_goOn 5 = .ok (.iconst 1, 1) := by decide +kernel
theorem dX9_goOn_6 : decode cX9_goOn 6 = .ok (.iadd, 1) := by decide +kernel
theorem dX9_goOn_7 : decode cX9_goOn 7 = .ok (.putfield 153, 3) := by decide +kernel
theorem dX9_goOn_10 : decode cX9_goOn 10 = .ok (.iconst 0, 1) := by decide +kernel
theorem dX9_goOn_11 : decode cX9_goOn 11 = .ok (.istore_n 1, 1) := by decide +kernel
theorem dX9_goOn_12 : decode cX9_goOn 12 = .ok (.iload_n 1, 1) := by decide +kernel
theorem dX9_goOn_13 : decode cX9_goOn 13 = .ok (.aload_n 0, 1) := by decide +kernel
theorem dX9_goOn_14 : decode cX9_goOn 14 = .ok (.getfield 143, 3) := by decide +kernel
theorem dX9_goOn_17 : decode cX9_goOn 17 = .ok (.if_icmp .ge 58, 3) := by decide +kernel
theorem dX9_goOn_20 : decode cX9_goOn 20 = .ok (.aload_n 0, 1) := by decide +kernel
theorem dX9_goOn_21 : decode cX9_goOn 21 = .ok (.getfield 118, 3) := by decide +kernel
theorem dX9_goOn_24 : decode cX9_goOn 24 = .ok (.iload_n 1, 1) := by decide +kernel
theorem dX9_goOn_25 : decode cX9_goOn 25 = .ok (.aload_n 0, 1) := by decide +kernel
theorem dX9_goOn_26 : decode cX9_goOn 26 = .ok (.getfield 118, 3) := by decide +kernel
theorem dX9_goOn_29 : decode cX9_goOn 29 = .ok (.iload_n 1, 1) := by decide +kernel
theorem dX9_goOn_30 : decode cX9_goOn 30 = .ok (.iaload, 1) := by decide +kernel
theorem dX9_goOn_31 : decode cX9_goOn 31 = .ok (.iconst 2, 1) := by decide +kernel
theorem dX9_goOn_32 : decode cX9_goOn 32 = .ok (.if_icmp .eq 13, 3) := by decide +kernel
theorem dX9_goOn_35 : decode cX9_goOn 35 = .ok (.aload_n 0, 1) := by decide +kernel
theorem dX9_goOn_36 : decode cX9_goOn 36 = .ok (.getfield 118, 3) := by decide +kernel
theorem dX9_goOn_39 : decode cX9_goOn 39 = .ok (.iload_n 1, 1) := by decide +kernel
theorem dX9_goOn_40 : decode cX9_goOn 40 = .ok (.iaload, 1) := by decide +kernel
theorem dX9_goOn_41 : decode cX9_goOn 41 = .ok (.iconst 3, 1) := by decide +kernel
theorem dX9_goOn_42 : decode cX9_goOn 42 = .ok (.if_icmp .ne 20, 3) := by decide +kernel
theorem dX9_goOn_45 : decode cX9_goOn 45 = .ok (.aload_n 0, 1) := by decide +kernel
theorem dX9_goOn_46 : decode cX9_goOn 46 = .ok (.getfield 153, 3) := by decide +kernel
theorem dX9_goOn_49 : decode cX9_goOn 49 = .ok (.aload_n 0, 1) := by decide +kernel
theorem dX9_goOn_50 : decode cX9_goOn 50 = .ok (.getfield 121, 3) := by decide +kernel
theorem dX9_goOn_53 : decode cX9_goOn 53 = .ok (.iload_n 1, 1) := by decide +kernel
theorem dX9_goOn_54 : decode cX9_goOn 54 = .ok (.iaload, 1) := by decide +kernel
theorem dX9_goOn_55 : decode cX9_goOn 55 = .ok (.if_icmp .le 7, 3) := by decide +kernel
theorem dX9_goOn_58 : decode cX9_goOn 58 = .ok (.iconst 4, 1) := by decide +kernel
theorem dX9_goOn_59 : decode cX9_goOn 59 = .ok (.goto 9, 3) := by decide +kernel
theorem dX9_goOn_62 : decode cX9_goOn 62 = .ok (.aload_n 0, 1) := by decide +kernel
theorem dX9_goOn_63 : decode cX9_goOn 63 = .ok (.getfield 118, 3) := by decide +kernel
theorem dX9_goOn_66 : decode cX9_goOn 66 = .ok (.iload_n 1, 1) := by decide +kernel
theorem dX9_goOn_67 : decode cX9_goOn 67 = .ok (.iaload, 1) := by decide +kernel
theorem dX9_goOn_68 : decode cX9_goOn 68 = .ok (.iastore, 1) := by decide +kernel
theorem dX9_goOn_69 : decode cX9_goOn 69 = .ok (.iinc 1 1, 3) := by decide +kernel
theorem dX9_goOn_72 : decode cX9_goOn 72 = .ok (.goto (-60), 3) := by decide +kernel
theorem dX9_goOn_75 : decode cX9_goOn 75 = .ok (.iconst 0, 1) := by decide +kernel
theorem dX9_goOn_76 : decode cX9_goOn 76 = .ok (.istore_n 1, 1) := by decide +kernel
theorem dX9_goOn_77 : decode cX9_goOn 77 = .ok (.iload_n 1, 1) := by decide +kernel
theorem dX9_goOn_78 : decode cX9_goOn 78 = .ok (.aload_n 0, 1) := by decide +kernel
theorem dX9_goOn_79 : decode cX9_goOn 79 = .ok (.getfield 140, 3) := by decide +kernel
theorem dX9_goOn_82 : decode cX9_goOn 82 = .ok (.if_icmp .ge 25, 3) := by decide +kernel
theorem dX9_goOn_85 : decode cX9_goOn 85 = .ok (.aload_n 0, 1) := by decide +kernel
theorem dX9_goOn_86 : decode cX9_goOn 86 = .ok (.getfield 54, 3) := by decide +kernel
theorem dX9_goOn_89 : decode cX9_goOn 89 = .ok (.iload_n 1, 1) := by decide +kernel
theorem dX9_goOn_90 : decode cX9_goOn 90 = .ok (.iaload, 1) := by decide +kernel
theorem dX9_goOn_91 : decode cX9_goOn 91 = .ok (.iconst (-1), 1) := by decide +kernel
theorem dX9_goOn_92 : decode cX9_goOn 92 = .ok (.if_icmp .eq 9, 3) := by decide +kernel
theorem dX9_goOn_95 : decode cX9_goOn 95 = .ok (.aload_n 0, 1) := by decide +kernel
theorem dX9_goOn_96 : decode cX9_goOn 96 = .ok (.iload_n 1, 1) := by decide +kernel
theorem dX9_goOn_97 : decode cX9_goOn 97 = .ok (.invokevirtual 202, 3) := by decide +kernel
theorem dX9_goOn_100 : decode cX9_goOn 100 = .ok (.istore_n 2, 1) := by decide +kernel
theorem dX9_goOn_101 : decode cX9_goOn 101 = .ok (.iinc 1 1, 3) := by decide +kernel
theorem dX9_goOn_104 : decode cX9_goOn 104 = .ok (.goto (-27), 3) := by decide +kernel
theorem dX9_goOn_107 : decode cX9_goOn 107 = .ok (.aload_n 0, 1) := by decide +kernel
theorem dX9_goOn_108 : decode cX9_goOn 108 = .ok (.getfield 153, 3) := by decide +kernel
theorem dX9_goOn_111 : decode cX9_goOn 111 = .ok (.sipush 360, 3) := by decide +kernel
theorem dX9_goOn_114 : decode cX9_goOn 114 = .ok (.irem, 1) := by decide +kernel
theorem dX9_goOn_115 : decode cX9_goOn 115 = .ok (.ifCond .ne 7, 3) := by decide +kernel
theorem dX9_goOn_118 : decode cX9_goOn 118 = .ok (.aload_n 0, 1) := by decide +kernel
theorem dX9_goOn_119 : decode cX9_goOn 119 = .ok (.invokevirtual 250, 3) := by decide +kernel
theorem dX9_goOn_122 : decode cX9_goOn 122 = .ok (.return_, 1) := by decide +kernel
set_option maxRecDepth 20000 in
theorem ggX9_pass_X9_in : GoodIn wsX9_pass wsX9_in := goodIn_r _ [5] (by decide +kernel) (by decide +kernel)
set_option maxRecDepth 20000 in
theorem gX9_pass_X9_in : GoodIn wsX9_pass (va_wsS RX9 136 yX9_in wsX9_in) := goodIn_app (goodIn_of _ (by decide +kernel)) ggX9_pass_X9_in
set_option maxRecDepth 20000 in
theorem ggX9_pass_X9_goesWell : GoodIn wsX9_pass wsX9_goesWell := goodIn_r _ [9, 10, 109, 110, 111, 112, 113, 114, 115, 116, 117, 118, 119, 120, 121, 122, 123, 124, 125, 126, 127, 128, 129, 130, 131, 132, 133, 134, 135, 136, 137, 138, 139, 140, 141, 142, 143, 144, 145, 146, 147, 148, 149, 150, 151, 152, 153] (by decide +kernel) (by decide +kernel)
set_option maxRecDepth 20000 in
theorem gX9_pass_X9_goesWell : GoodIn wsX9_pass (wsV RX9 146 RX9 yX9_goesWell wsX9_goesWell) := goodIn_app (goodIn_of _ (by decide +kernel)) ggX9_pass_X9_goesWell
set_option maxRecDepth 20000 in
theorem ggX9_pass_X9_goOn : GoodIn wsX9_pass wsX9_goOn := goodIn_r _ [14, 1, 15, 16, 17, 18, 19, 20, 21, 22, 4, 23, 24, 25, 26, 27, 28, 29, 30, 31, 32, 33, 34, 35, 36, 37, 38, 39, 40, 41, 42, 43, 44, 45, 46, 47, 48, 49, 50, 51, 52, 53, 54, 55, 56, 57, 58, 59, 60, 2, 3, 5, 61, 62, 63, 64, 65, 66, 67, 68, 69, 70, 71, 72, 73, 74, 75, 76, 77, 78, 79, 80, 81, 82, 83, 84, 85, 86, 87, 88, 89, 90, 91, 92, 93, 94, 95, 96, 97, 98, 99, 100, 101, 102, 103, 104, 105, 106, 107, 108, 109, 110, 111, 112, 113, 114, 115, 116, 117, 118, 119, 120, 121, 122, 123, 124, 125, 126, 127, 128, 129, 130, 131, 132, 133, 134, 135, 136, 137, 138, 139, 140, 141, 142, 143, 144, 145, 146, 147, 148, 149, 150, 151, 152, 153] (by decide +kernel) (by decide +kernel)
set_option maxRecDepth 20000 in
theorem gX9_pass_X9_goOn : GoodIn wsX9_pass (wsV RX9 253 RX9 yX9_goOn wsX9_goOn) := goodIn_app (goodIn_of _ (by decide +kernel)) ggX9_pass_X9_goOn
theorem dX9_pass_0 : decode cX9_pass 0 = .ok (.iload_n 1, 1) := by decide +kernel
theorem dX9_pass_1 : decode cX9_pass 1 = .ok (.iconst 1, 1) := by decide +kernel
theorem dX9_pass_2 : decode cX9_pass 2 = .ok (.bipush 100, 2) := by decide +kernel
theorem dX9_pass_4 : decode cX9_pass 4 = .ok (.invokestatic 136, 3) := by decide +kernel
theorem dX9_pass_7 : decode cX9_pass 7 = .ok (.istore_n 2, 1) := by decide +kernel
theorem dX9_pass_8 : decode cX9_pass 8 = .ok (.aload_n 0, 1) := by decide +kernel
theorem dX9_pass_9 : decode cX9_pass 9 = .ok (.iload_n 2, 1) := by decide +kernel
theorem dX9_pass_10 : decode cX9_pass 10 = .ok (.ifCond .ne 7, 3) := by decide +kernel
theorem dX9_pass_13 : decode cX9_pass 13 = .ok (.iconst 1, 1) := by decide +kernel
theorem dX9_pass_14 : decode cX9_pass 14 = .ok (.goto 20, 3) := by decide +kernel
theorem dX9_pass_17 : decode cX9_pass 17 = .ok (.aload_n 0, 1) := by decide +kernel
theorem dX9_pass_18 : decode cX9_pass 18 = .ok (.getfield 153, 3) := by decide +kernel
theorem dX9_pass_21 : decode cX9_pass 21 = .ok (.iload_n 1, 1) := by decide +kernel
theorem dX9_pass_22 : decode cX9_pass 22 = .ok (.iadd, 1) := by decide +kernel
theorem dX9_pass_23 : decode cX9_pass 23 = .ok (.sipush 3600, 3) := by decide +kernel
theorem dX9_pass_26 : decode cX9_pass 26 = .ok (.if_icmp .le 7, 3) := by decide +kernel
theorem dX9_pass_29 : decode cX9_pass 29 = .ok (.iconst 2, 1) := by decide +kernel
theorem dX9_pass_30 : decode cX9_pass 30 = .ok (.goto 4, 3) := by decide +kernel
theorem dX9_pass_33 : decode cX9_pass 33 = .ok (.iconst 0, 1) := by decide +kernel
theorem dX9_pass_34 : decode cX9_pass 34 = .ok (.invokevirtual 146, 3) := by decide +kernel
theorem dX9_pass_37 : decode cX9_pass 37 = .ok (.ifCond .ne 5, 3) := by decide +kernel
theorem dX9_pass_40 : decode cX9_pass 40 = .ok (.iconst 0, 1) := by decide +kernel
theorem dX9_pass_41 : decode cX9_pass 41 = .ok (.ireturn, 1) := by decide +kernel
theorem dX9_pass_42 : decode cX9_pass 42 = .ok (.iconst 0, 1) := by decide +kernel
theorem dX9_pass_43 : decode cX9_pass 43 = .ok (.istore_n 3, 1) := by decide +kernel
theorem dX9_pass_44 : decode cX9_pass 44 = .ok (.iload_n 3, 1) := by decide +kernel
theorem dX9_pass_45 : decode cX9_pass 45 = .ok (.iload_n 1, 1) := by decide +kernel
theorem dX9_pass_46 : decode cX9_pass 46 = .ok (.if_icmp .ge 13, 3) := by decide +kernel
theorem dX9_pass_49 : decode cX9_pass 49 = .ok (.aload_n 0, 1) := by decide +kernel
theorem dX9_pass_50 : decode cX9_pass 50 = .ok (.invokevirtual 253, 3) := by decide +kernel
theorem dX9_pass_53 : decode cX9_pass 53 = .ok (.iinc 3 1, 3) := by decide +kernel
theorem dX9_pass_56 : decode cX9_pass 56 = .ok (.goto (-12), 3) := by decide +kernel
theorem dX9_pass_59 : decode cX9_pass 59 = .ok (.aload_n 0, 1) := by decide +kernel
theorem dX9_pass_60 : decode cX9_pass 60 = .ok (.getfield 153, 3) := by decide +kernel
theorem dX9_pass_63 : decode cX9_pass 63 = .ok (.ireturn, 1) := by decide +kernel
set_option maxRecDepth 20000 in
theorem ggX9_status_X9_isPerson : GoodIn wsX9_status wsX9_isPerson := goodIn_r _ [8, 9, 10, 11, 7, 12, 18, 19, 20, 21, 22, 23, 24, 25, 26, 27, 28, 29, 30, 31, 32, 33, 34, 35, 36, 37, 38, 39, 40, 41, 42, 43, 44, 45, 46, 47, 48, 49, 50, 51, 52, 53, 54, 55, 56, 57, 58, 59, 60, 61, 62] (by decide +kernel) (by decide +kernel)
set_option maxRecDepth 20000 in
theorem gX9_status_X9_isPerson : GoodIn wsX9_status (wsV RX9 167 RX9 yX9_isPerson wsX9_isPerson) := goodIn_app (goodIn_of _ (by decide +kernel)) ggX9_status_X9_isPerson
set_option maxRecDepth 20000 in
theorem ggX9_status_X9_goesWell : GoodIn wsX9_status wsX9_goesWell := goodIn_r _ [16, 17, 18, 19, 20, 21, 22, 23, 24, 25, 26, 27, 28, 29, 30, 31, 32, 33, 34, 35, 36, 37, 38, 39, 40, 41, 42, 43, 44, 45, 46, 47, 48, 49, 50, 51, 52, 53, 54, 55, 56, 57, 58, 59, 60, 61, 62] (by decide +kernel) (by decide +kernel)
set_option maxRecDepth 20000 in
theorem gX9_status_X9_goesWell : GoodIn wsX9_status (wsV RX9 146 RX9 yX9_goesWell wsX9_goesWell) := goodIn_app (goodIn_of _ (by decide +kernel)) ggX9_status_X9_goesWell
theorem dX9_status_0 : decode cX9_status 0 = .ok (.aload_n 0, 1) := by decide +kernel
theorem dX9_status_1 : decode cX9_status 1 = .ok (.aload_n 0, 1) := by decide +kernel
theorem dX9_status_2 : decode cX9_status 2 = .ok (.iload_n 1, 1) := by decide +kernel
theorem dX9_status_3 : decode cX9_status 3 = .ok (.invokevirtual 167, 3) := by decide +kernel
theorem dX9_status_6 : decode cX9_status 6 = .ok (.ifCond .eq 7, 3) := by decide +kernel
theorem dX9_status_9 : decode cX9_status 9 = .ok (.iconst 0, 1) := by decide +kernel
theorem dX9_status_10 : decode cX9_status 10 = .ok (.goto 4, 3) := by decide +kernel
theorem dX9_status_13 : decode cX9_status 13 = .ok (.iconst 1, 1) := by decide +kernel
theorem dX9_status_14 : decode cX9_status 14 = .ok (.invokevirtual 146, 3) := by decide +kernel
theorem dX9_status_17 : decode cX9_status 17 = .ok (.ifCond .eq 34, 3) := by decide +kernel
theorem dX9_status_20 : decode cX9_status 20 = .ok (.aload_n 0, 1) := by decide +kernel
theorem dX9_status_21 : decode cX9_status 21 = .ok (.getfield 54, 3) := by decide +kernel
theorem dX9_status_24 : decode cX9_status 24 = .ok (.iload_n 1, 1) := by decide +kernel
theorem dX9_status_25 : decode cX9_status 25 = .ok (.iaload, 1) := by decide +kernel
theorem dX9_status_26 : decode cX9_status 26 = .ok (.iconst (-1), 1) := by decide +kernel
theorem dX9_status_27 : decode cX9_status 27 = .ok (.if_icmp .eq 24, 3) := by decide +kernel
theorem dX9_status_30 : decode cX9_status 30 = .ok (.aload_n 0, 1) := by decide +kernel
theorem dX9_status_31 : decode cX9_status 31 = .ok (.getfield 67, 3) := by decide +kernel
theorem dX9_status_34 : decode cX9_status 34 = .ok (.sipush 3601, 3) := by decide +kernel
theorem dX9_status_37 : decode cX9_status 37 = .ok (.iload_n 1, 1) := by decide +kernel
theorem dX9_status_38 : decode cX9_status 38 = .ok (.imul, 1) := by decide +kernel
theorem dX9_status_39 : decode cX9_status 39 = .ok (.aload_n 0, 1) := by decide +kernel
theorem dX9_status_40 : decode cX9_status 40 = .ok (.getfield 153, 3) := by decide +kernel
theorem dX9_status_43 : decode cX9_status 43 = .ok (.iadd, 1) := by decide +kernel
theorem dX9_status_44 : decode cX9_status 44 = .ok (.iaload, 1) := by decide +kernel
theorem dX9_status_45 : decode cX9_status 45 = .ok (.bipush 10, 2) := by decide +kernel
theorem dX9_status_47 : decode cX9_status 47 = .ok (.irem, 1) := by decide +kernel
theorem dX9_status_48 : decode cX9_status 48 = .ok (.goto 4, 3) := by decide +kernel
theorem dX9_status_51 : decode cX9_status 51 = .ok (.iconst 0, 1) := by decide +kernel
theorem dX9_status_52 : decode cX9_status 52 = .ok (.ireturn, 1) := by decide +kernel
set_option maxRecDepth 20000 in
theorem ggX9_about_X9_isPerson : GoodIn wsX9_about wsX9_isPerson := goodIn_r _ [9, 10, 11, 12, 8, 13, 41, 42, 43, 44, 45, 46, 47, 48, 49, 50, 51, 52, 53, 54, 55, 56, 57, 58, 59, 60, 61, 62, 63, 64, 65, 66, 67, 68, 69, 70, 71, 72, 73, 74, 75, 76, 77, 78, 79, 80, 81, 82, 83, 84, 85] (by decide +kernel) (by decide +kernel)
set_option maxRecDepth 20000 in
theorem gX9_about_X9_isPerson : GoodIn wsX9_about (wsV RX9 167 RX9 yX9_isPerson wsX9_isPerson) := goodIn_app (goodIn_of _ (by decide +kernel)) ggX9_about_X9_isPerson
set_option maxRecDepth 20000 in
theorem ggX9_about_X9_in : GoodIn wsX9_about wsX9_in := goodIn_r _ [13] (by decide +kernel) (by decide +kernel)
set_option maxRecDepth 20000 in
theorem gX9_about_X9_in : GoodIn wsX9_about (va_wsS RX9 136 yX9_in wsX9_in) := goodIn_app (goodIn_of _ (by decide +kernel)) ggX9_about_X9_in
set_option maxRecDepth 20000 in
theorem ggX9_about_X9_goesWell : GoodIn wsX9_about wsX9_goesWell := goodIn_r _ [17, 18, 41, 42, 43, 44, 45, 46, 47, 48, 49, 50, 51, 52, 53, 54, 55, 56, 57, 58, 59, 60, 61, 62, 63, 64, 65, 66, 67, 68, 69, 70, 71, 72, 73, 74, 75, 76, 77, 78, 79, 80, 81, 82, 83, 84, 85] (by decide +kernel) (by decide +kernel)
set_option maxRecDepth 20000 in
theorem gX9_about_X9_goesWell : GoodIn wsX9_about (wsV RX9 146 RX9 yX9_goesWell wsX9_goesWell) := goodIn_app (goodIn_of _ (by decide +kernel)) ggX9_about_X9_goesWell
set_option maxRecDepth 20000 in
theorem ggX9_about_X9_countTo : GoodIn wsX9_about wsX9_countTo := goodIn_r _ [22, 3, 23, 24, 25, 26, 8, 27, 28, 29, 30, 31, 32, 33, 34, 35, 41, 42, 43, 44, 45, 46, 47, 48, 49, 50, 51, 52, 53, 54, 55, 56, 57, 58, 59, 60, 61, 62, 63, 64, 65, 66, 67, 68, 69, 70, 71, 72, 73, 74, 75, 76, 77, 78, 79, 80, 81, 82, 83, 84, 85] (by decide +kernel) (by decide +kernel)
set_option maxRecDepth 20000 in
theorem gX9_about_X9_countTo : GoodIn wsX9_about (wsV RX9 187 RX9 yX9_countTo wsX9_countTo) := goodIn_app (goodIn_of _ (by decide +kernel)) ggX9_about_X9_countTo
set_option maxRecDepth 20000 in
theorem ggX9_about_X9_overstayed : GoodIn wsX9_about wsX9_overstayed := goodIn_r _ [39, 40, 3, 1, 34, 41, 42, 43, 44, 45, 46, 47, 48, 49, 50, 51, 52, 53, 54, 55, 56, 57, 58, 59, 60, 61, 62, 63, 64, 65, 66, 67, 68, 69, 70, 71, 72, 73, 74, 75, 76, 77, 78, 79, 80, 81, 82, 83, 84, 85] (by decide +kernel) (by decide +kernel)
set_option maxRecDepth 20000 in
theorem gX9_about_X9_overstayed : GoodIn wsX9_about (wsV RX9 217 RX9 yX9_overstayed wsX9_overstayed) := goodIn_app (goodIn_of _ (by decide +kernel)) ggX9_about_X9_overstayed
theorem dX9_about_0 : decode cX9_about 0 = .ok (.aload_n 0, 1) := by decide +kernel
theorem dX9_about_1 : decode cX9_about 1 = .ok (.iload_n 1, 1) := by decide +kernel
theorem dX9_about_2 : decode cX9_about 2 = .ok (.invokevirtual 167, 3) := by decide +kernel
theorem dX9_about_5 : decode cX9_about 5 = .ok (.istore_n 3, 1) := by decide +kernel
theorem dX9_about_6 : decode cX9_about 6 = .ok (.aload_n 0, 1) := by decide +kernel
theorem dX9_about_7 : decode cX9_about 7 = .ok (.iload_n 3, 1) := by decide +kernel
theorem dX9_about_8 : decode cX9_about 8 = .ok (.ifCond .ne 7, 3) := by decide +kernel
theorem dX9_about_11 : decode cX9_about 11 = .ok (.iconst 1, 1) := by decide +kernel
theorem dX9_about_12 : decode cX9_about 12 = .ok (.goto 17, 3) := by decide +kernel
theorem dX9_about_15 : decode cX9_about 15 = .ok (.iload_n 2, 1) := by decide +kernel
theorem dX9_about_16 : decode cX9_about 16 = .ok (.iconst 0, 1) := by decide +kernel
theorem dX9_about_17 : decode cX9_about 17 = .ok (.iconst 4, 1) := by decide +kernel
theorem dX9_about_18 : decode cX9_about 18 = .ok (.invokestatic 136, 3) := by decide +kernel
theorem dX9_about_21 : decode cX9_about 21 = .ok (.ifCond .eq 7, 3) := by decide +kernel
theorem dX9_about_24 : decode cX9_about 24 = .ok (.iconst 0, 1) := by decide +kernel
theorem dX9_about_25 : decode cX9_about 25 = .ok (.goto 4, 3) := by decide +kernel
theorem dX9_about_28 : decode cX9_about 28 = .ok (.iconst 2, 1) := by decide +kernel
theorem dX9_about_29 : decode cX9_about 29 = .ok (.invokevirtual 146, 3) := by decide +kernel
theorem dX9_about_32 : decode cX9_about 32 = .ok (.ifCond .ne 5, 3) := by decide +kernel
theorem dX9_about_35 : decode cX9_about 35 = .ok (.iconst 0, 1) := by decide +kernel
theorem dX9_about_36 : decode cX9_about 36 = .ok (.ireturn, 1) := by decide +kernel
theorem dX9_about_37 : decode cX9_about 37 = .ok (.iload_n 2, 1) := by decide +kernel
theorem dX9_about_38 : decode cX9_about 38 = .ok (.ifCond .ne 12, 3) := by decide +kernel
theorem dX9_about_41 : decode cX9_about 41 = .ok (.aload_n 0, 1) := by decide +kernel
theorem dX9_about_42 : decode cX9_about 42 = .ok (.getfield 54, 3) := by decide +kernel
theorem dX9_about_45 : decode cX9_about 45 = .ok (.iload_n 1, 1) := by decide +kernel
theorem dX9_about_46 : decode cX9_about 46 = .ok (.iaload, 1) := by decide +kernel
theorem dX9_about_47 : decode cX9_about 47 = .ok (.goto 53, 3) := by decide +kernel
theorem dX9_about_50 : decode cX9_about 50 = .ok (.iload_n 2, 1) := by decide +kernel
theorem dX9_about_51 : decode cX9_about 51 = .ok (.iconst 1, 1) := by decide +kernel
theorem dX9_about_52 : decode cX9_about 52 = .ok (.if_icmp .ne 12, 3) := by decide +kernel
theorem dX9_about_55 : decode cX9_about 55 = .ok (.aload_n 0, 1) := by decide +kernel
theorem dX9_about_56 : decode cX9_about 56 = .ok (.getfield 45, 3) := by decide +kernel
theorem dX9_about_59 : decode cX9_about 59 = .ok (.iload_n 1, 1) := by decide +kernel
theorem dX9_about_60 : decode cX9_about 60 = .ok (.iaload, 1) := by decide +kernel
theorem dX9_about_61 : decode cX9_about 61 = .ok (.goto 39, 3) := by decide +kernel
theorem dX9_about_64 : decode cX9_about 64 = .ok (.iload_n 2, 1) := by decide +kernel
theorem dX9_about_65 : decode cX9_about 65 = .ok (.iconst 2, 1) := by decide +kernel
theorem dX9_about_66 : decode cX9_about 66 = .ok (.if_icmp .ne 15, 3) := by decide +kernel
theorem dX9_about_69 : decode cX9_about 69 = .ok (.aload_n 0, 1) := by decide +kernel
theorem dX9_about_70 : decode cX9_about 70 = .ok (.iload_n 1, 1) := by decide +kernel
theorem dX9_about_71 : decode cX9_about 71 = .ok (.aload_n 0, 1) := by decide +kernel
theorem dX9_about_72 : decode cX9_about 72 = .ok (.getfield 153, 3) := by decide +kernel
theorem dX9_about_75 : decode cX9_about 75 = .ok (.invokevirtual 187, 3) := by decide +kernel
theorem dX9_about_78 : decode cX9_about 78 = .ok (.goto 22, 3) := by decide +kernel
theorem dX9_about_81 : decode cX9_about 81 = .ok (.iload_n 2, 1) := by decide +kernel
theorem dX9_about_82 : decode cX9_about 82 = .ok (.iconst 3, 1) := by decide +kernel
theorem dX9_about_83 : decode cX9_about 83 = .ok (.if_icmp .ne 12, 3) := by decide +kernel
theorem dX9_about_86 : decode cX9_about 86 = .ok (.aload_n 0, 1) := by decide +kernel
theorem dX9_about_87 : decode cX9_about 87 = .ok (.getfield 60, 3) := by decide +kernel
theorem dX9_about_90 : decode cX9_about 90 = .ok (.iload_n 1, 1) := by decide +kernel
theorem dX9_about_91 : decode cX9_about 91 = .ok (.iaload, 1) := by decide +kernel
theorem dX9_about_92 : decode cX9_about 92 = .ok (.goto 8, 3) := by decide +kernel
theorem dX9_about_95 : decode cX9_about 95 = .ok (.aload_n 0, 1) := by decide +kernel
theorem dX9_about_96 : decode cX9_about 96 = .ok (.iload_n 1, 1) := by decide +kernel
theorem dX9_about_97 : decode cX9_about 97 = .ok (.invokevirtual 217, 3) := by decide +kernel
theorem dX9_about_100 : decode cX9_about 100 = .ok (.ireturn, 1) := by decide +kernel
set_option maxRecDepth 20000 in
theorem ggX9_daysAnew_X9_isPerson : GoodIn wsX9_daysAnew wsX9_isPerson := goodIn_r _ [6, 7, 8, 9, 5, 10, 33, 34, 35, 36, 37, 38, 39, 40, 41, 42, 43, 44, 45, 46, 47, 48, 49, 50, 51, 52, 53, 54, 55, 56, 57, 58, 59, 60, 61, 62, 63, 64, 65, 66, 67, 68, 69, 70, 71, 72, 73, 74, 75, 76, 77] (by decide +kernel) (by decide +kernel)
set_option maxRecDepth 20000 in
theorem gX9_daysAnew_X9_isPerson : GoodIn wsX9_daysAnew (wsV RX9 167 RX9 yX9_isPerson wsX9_isPerson) := goodIn_app (goodIn_of _ (by decide +kernel)) ggX9_daysAnew_X9_isPerson
set_option maxRecDepth 20000 in
theorem ggX9_daysAnew_X9_goesWell : GoodIn wsX9_daysAnew wsX9_goesWell := goodIn_r _ [14, 15, 33, 34, 35, 36, 37, 38, 39, 40, 41, 42, 43, 44, 45, 46, 47, 48, 49, 50, 51, 52, 53, 54, 55, 56, 57, 58, 59, 60, 61, 62, 63, 64, 65, 66, 67, 68, 69, 70, 71, 72, 73, 74, 75, 76, 77] (by decide +kernel) (by decide +kernel)
set_option maxRecDepth 20000 in
theorem gX9_daysAnew_X9_goesWell : GoodIn wsX9_daysAnew (wsV RX9 146 RX9 yX9_goesWell wsX9_goesWell) := goodIn_app (goodIn_of _ (by decide +kernel)) ggX9_daysAnew_X9_goesWell
set_option maxRecDepth 20000 in
theorem ggX9_daysAnew_X9_countTo : GoodIn wsX9_daysAnew wsX9_countTo := goodIn_r _ [19, 1, 20, 21, 22, 23, 5, 24, 25, 26, 27, 28, 29, 30, 31, 32, 33, 34, 35, 36, 37, 38, 39, 40, 41, 42, 43, 44, 45, 46, 47, 48, 49, 50, 51, 52, 53, 54, 55, 56, 57, 58, 59, 60, 61, 62, 63, 64, 65, 66, 67, 68, 69, 70, 71, 72, 73, 74, 75, 76, 77] (by decide +kernel) (by decide +kernel)
set_option maxRecDepth 20000 in
theorem gX9_daysAnew_X9_countTo : GoodIn wsX9_daysAnew (wsV RX9 187 RX9 yX9_countTo wsX9_countTo) := goodIn_app (goodIn_of _ (by decide +kernel)) ggX9_daysAnew_X9_countTo
theorem dX9_daysAnew_0 : decode cX9_daysAnew 0 = .ok (.aload_n 0, 1) := by decide +kernel
theorem dX9_daysAnew_1 : decode cX9_daysAnew 1 = .ok (.aload_n 0, 1) := by decide +kernel
theorem dX9_daysAnew_2 : decode cX9_daysAnew 2 = .ok (.iload_n 1, 1) := by decide +kernel
theorem dX9_daysAnew_3 : decode cX9_daysAnew 3 = .ok (.invokevirtual 167, 3) := by decide +kernel
theorem dX9_daysAnew_6 : decode cX9_daysAnew 6 = .ok (.ifCond .eq 7, 3) := by decide +kernel
theorem dX9_daysAnew_9 : decode cX9_daysAnew 9 = .ok (.iconst 0, 1) := by decide +kernel
theorem dX9_daysAnew_10 : decode cX9_daysAnew 10 = .ok (.goto 4, 3) := by decide +kernel
theorem dX9_daysAnew_13 : decode cX9_daysAnew 13 = .ok (.iconst 1, 1) := by decide +kernel
theorem dX9_daysAnew_14 : decode cX9_daysAnew 14 = .ok (.invokevirtual 146, 3) := by decide +kernel
theorem dX9_daysAnew_17 : decode cX9_daysAnew 17 = .ok (.ifCond .eq 15, 3) := by decide +kernel
theorem dX9_daysAnew_20 : decode cX9_daysAnew 20 = .ok (.aload_n 0, 1) := by decide +kernel
theorem dX9_daysAnew_21 : decode cX9_daysAnew 21 = .ok (.iload_n 1, 1) := by decide +kernel
theorem dX9_daysAnew_22 : decode cX9_daysAnew 22 = .ok (.aload_n 0, 1) := by decide +kernel
theorem dX9_daysAnew_23 : decode cX9_daysAnew 23 = .ok (.getfield 153, 3) := by decide +kernel
theorem dX9_daysAnew_26 : decode cX9_daysAnew 26 = .ok (.invokevirtual 187, 3) := by decide +kernel
theorem dX9_daysAnew_29 : decode cX9_daysAnew 29 = .ok (.goto 4, 3) := by decide +kernel
theorem dX9_daysAnew_32 : decode cX9_daysAnew 32 = .ok (.iconst 0, 1) := by decide +kernel
theorem dX9_daysAnew_33 : decode cX9_daysAnew 33 = .ok (.ireturn, 1) := by decide +kernel
set_option maxRecDepth 20000 in
theorem ggX9_was_X9_isPerson : GoodIn wsX9_was wsX9_isPerson := goodIn_r _ [7, 8, 9, 10, 6, 11, 17, 18, 19, 20, 21, 22, 23, 24, 25, 26, 27, 28, 29, 30, 31, 32, 33, 34, 35, 36, 37, 38, 39, 40, 41, 42, 43, 44, 45, 46, 47, 48, 49, 50, 51, 52, 53, 54, 55, 56, 57, 58, 59, 60, 61] (by decide +kernel) (by decide +kernel)
set_option maxRecDepth 20000 in
theorem gX9_was_X9_isPerson : GoodIn wsX9_was (wsV RX9 167 RX9 yX9_isPerson wsX9_isPerson) := goodIn_app (goodIn_of _ (by decide +kernel)) ggX9_was_X9_isPerson
set_option maxRecDepth 20000 in
theorem ggX9_was_X9_in : GoodIn wsX9_was wsX9_in := goodIn_r _ [11] (by decide +kernel) (by decide +kernel)
set_option maxRecDepth 20000 in
theorem gX9_was_X9_in : GoodIn wsX9_was (va_wsS RX9 136 yX9_in wsX9_in) := goodIn_app (goodIn_of _ (by decide +kernel)) ggX9_was_X9_in
set_option maxRecDepth 20000 in
theorem ggX9_was_X9_goesWell : GoodIn wsX9_was wsX9_goesWell := goodIn_r _ [15, 16, 17, 18, 19, 20, 21, 22, 23, 24, 25, 26, 27, 28, 29, 30, 31, 32, 33, 34, 35, 36, 37, 38, 39, 40, 41, 42, 43, 44, 45, 46, 47, 48, 49, 50, 51, 52, 53, 54, 55, 56, 57, 58, 59, 60, 61] (by decide +kernel) (by decide +kernel)
set_option maxRecDepth 20000 in
theorem gX9_was_X9_goesWell : GoodIn wsX9_was (wsV RX9 146 RX9 yX9_goesWell wsX9_goesWell) := goodIn_app (goodIn_of _ (by decide +kernel)) ggX9_was_X9_goesWell
theorem dX9_was_0 : decode cX9_was 0 = .ok (.aload_n 0, 1) := by decide +kernel
theorem dX9_was_1 : decode cX9_was 1 = .ok (.iload_n 1, 1) := by decide +kernel
theorem dX9_was_2 : decode cX9_was 2 = .ok (.invokevirtual 167, 3) := by decide +kernel
theorem dX9_was_5 : decode cX9_was 5 = .ok (.istore_n 3, 1) := by decide +kernel
theorem dX9_was_6 : decode cX9_was 6 = .ok (.aload_n 0, 1) := by decide +kernel
theorem dX9_was_7 : decode cX9_was 7 = .ok (.iload_n 3, 1) := by decide +kernel
theorem dX9_was_8 : decode cX9_was 8 = .ok (.ifCond .ne 7, 3) := by decide +kernel
theorem dX9_was_11 : decode cX9_was 11 = .ok (.iconst 1, 1) := by decide +kernel
theorem dX9_was_12 : decode cX9_was 12 = .ok (.goto 20, 3) := by decide +kernel
theorem dX9_was_15 : decode cX9_was 15 = .ok (.iload_n 2, 1) := by decide +kernel
theorem dX9_was_16 : decode cX9_was 16 = .ok (.iconst 0, 1) := by decide +kernel
theorem dX9_was_17 : decode cX9_was 17 = .ok (.aload_n 0, 1) := by decide +kernel
theorem dX9_was_18 : decode cX9_was 18 = .ok (.getfield 153, 3) := by decide +kernel
theorem dX9_was_21 : decode cX9_was 21 = .ok (.invokestatic 136, 3) := by decide +kernel
theorem dX9_was_24 : decode cX9_was 24 = .ok (.ifCond .eq 7, 3) := by decide +kernel
theorem dX9_was_27 : decode cX9_was 27 = .ok (.iconst 0, 1) := by decide +kernel
theorem dX9_was_28 : decode cX9_was 28 = .ok (.goto 4, 3) := by decide +kernel
theorem dX9_was_31 : decode cX9_was 31 = .ok (.iconst 2, 1) := by decide +kernel
theorem dX9_was_32 : decode cX9_was 32 = .ok (.invokevirtual 146, 3) := by decide +kernel
theorem dX9_was_35 : decode cX9_was 35 = .ok (.ifCond .eq 18, 3) := by decide +kernel
theorem dX9_was_38 : decode cX9_was 38 = .ok (.aload_n 0, 1) := by decide +kernel
theorem dX9_was_39 : decode cX9_was 39 = .ok (.getfield 67, 3) := by decide +kernel
theorem dX9_was_42 : decode cX9_was 42 = .ok (.sipush 3601, 3) := by decide +kernel
theorem dX9_was_45 : decode cX9_was 45 = .ok (.iload_n 1, 1) := by decide +kernel
theorem dX9_was_46 : decode cX9_was 46 = .ok (.imul, 1) := by decide +kernel
theorem dX9_was_47 : decode cX9_was 47 = .ok (.iload_n 2, 1) := by decide +kernel
theorem dX9_was_48 : decode cX9_was 48 = .ok (.iadd, 1) := by decide +kernel
theorem dX9_was_49 : decode cX9_was 49 = .ok (.iaload, 1) := by decide +kernel
theorem dX9_was_50 : decode cX9_was 50 = .ok (.goto 4, 3) := by decide +kernel
theorem dX9_was_53 : decode cX9_was 53 = .ok (.iconst 0, 1) := by decide +kernel
theorem dX9_was_54 : decode cX9_was 54 = .ok (.ireturn, 1) := by decide +kernel
set_option maxRecDepth 20000 in
theorem ggX9_reason_X9_isPerson : GoodIn wsX9_reason wsX9_isPerson := goodIn_r _ [5, 6, 7, 8, 4, 9, 93, 94, 95, 96, 97, 98, 99, 100, 101, 102, 103, 104, 105, 106, 107, 108, 109, 110, 111, 112, 113, 114, 115, 116, 117, 118, 119, 120, 121, 122, 123, 124, 125, 126, 127, 128, 129, 130, 131, 132, 133, 134, 135, 136, 137] (by decide +kernel) (by decide +kernel)
set_option maxRecDepth 20000 in
theorem gX9_reason_X9_isPerson : GoodIn wsX9_reason (wsV RX9 167 RX9 yX9_isPerson wsX9_isPerson) := goodIn_app (goodIn_of _ (by decide +kernel)) ggX9_reason_X9_isPerson
set_option maxRecDepth 20000 in
theorem ggX9_reason_X9_isLand : GoodIn wsX9_reason wsX9_isLand := goodIn_r _ [13, 14, 7, 8, 4, 9, 93, 94, 95, 96, 97, 98, 99, 100, 101, 102, 103, 104, 105, 106, 107, 108, 109, 110, 111, 112, 113, 114, 115, 116, 117, 118, 119, 120, 121, 122, 123, 124, 125, 126, 127, 128, 129, 130, 131, 132, 133, 134, 135, 136, 137] (by decide +kernel) (by decide +kernel)
set_option maxRecDepth 20000 in
theorem gX9_reason_X9_isLand : GoodIn wsX9_reason (wsV RX9 150 RX9 yX9_isLand wsX9_isLand) := goodIn_app (goodIn_of _ (by decide +kernel)) ggX9_reason_X9_isLand
set_option maxRecDepth 20000 in
theorem ggX9_reason_X9_goesWell : GoodIn wsX9_reason wsX9_goesWell := goodIn_r _ [18, 19, 93, 94, 95, 96, 97, 98, 99, 100, 101, 102, 103, 104, 105, 106, 107, 108, 109, 110, 111, 112, 113, 114, 115, 116, 117, 118, 119, 120, 121, 122, 123, 124, 125, 126, 127, 128, 129, 130, 131, 132, 133, 134, 135, 136, 137] (by decide +kernel) (by decide +kernel)
set_option maxRecDepth 20000 in
theorem gX9_reason_X9_goesWell : GoodIn wsX9_reason (wsV RX9 146 RX9 yX9_goesWell wsX9_goesWell) := goodIn_app (goodIn_of _ (by decide +kernel)) ggX9_reason_X9_goesWell
set_option maxRecDepth 20000 in
theorem ggX9_reason_X9_reasonOf : GoodIn wsX9_reason wsX9_reasonOf := goodIn_r _ [23, 24, 25, 26, 27, 4, 28, 29, 30, 31, 32, 33, 34, 35, 36, 37, 38, 39, 40, 41, 14, 42, 43, 44, 45, 46, 47, 48, 49, 50, 51, 52, 53, 54, 55, 56, 57, 58, 59, 60, 61, 62, 63, 64, 65, 66, 67, 68, 69, 70, 71, 7, 8, 9, 72, 73, 74, 75, 76, 77, 78, 79, 80, 81, 82, 83, 84, 85, 86, 87, 88, 89, 90, 91, 92, 93, 94, 95, 96, 97, 98, 99, 100, 101, 102, 103, 104, 105, 106, 107, 108, 109, 110, 111, 112, 113, 114, 115, 116, 117, 118, 119, 120, 121, 122, 123, 124, 125, 126, 127, 128, 129, 130, 131, 132, 133, 134, 135, 136, 137] (by decide +kernel) (by decide +kernel)
set_option maxRecDepth 20000 in
theorem gX9_reason_X9_reasonOf : GoodIn wsX9_reason (wsV RX9 214 RX9 yX9_reasonOf wsX9_reasonOf) := goodIn_app (goodIn_of _ (by decide +kernel)) ggX9_reason_X9_reasonOf
theorem dX9_reason_0 : decode cX9_reason 0 = .ok (.aload_n 0, 1) := by decide +kernel
theorem dX9_reason_1 : decode cX9_reason 1 = .ok (.aload_n 0, 1) := by decide +kernel
theorem dX9_reason_2 : decode cX9_reason 2 = .ok (.iload_n 1, 1) := by decide +kernel
theorem dX9_reason_3 : decode cX9_reason 3 = .ok (.invokevirtual 167, 3) := by decide +kernel
theorem dX9_reason_6 : decode cX9_reason 6 = .ok (.ifCond .eq 15, 3) := by decide +kernel
theorem dX9_reason_9 : decode cX9_reason 9 = .ok (.aload_n 0, 1) := by decide +kernel
theorem dX9_reason_10 : decode cX9_reason 10 = .ok (.iload_n 2, 1) := by decide +kernel
theorem dX9_reason_11 : decode cX9_reason 11 = .ok (.invokevirtual 150, 3) := by decide +kernel
theorem dX9_reason_14 : decode cX9_reason 14 = .ok (.ifCond .eq 7, 3) := by decide +kernel
theorem dX9_reason_17 : decode cX9_reason 17 = .ok (.iconst 0, 1) := by decide +kernel
theorem dX9_reason_18 : decode cX9_reason 18 = .ok (.goto 4, 3) := by decide +kernel
theorem dX9_reason_21 : decode cX9_reason 21 = .ok (.iconst 1, 1) := by decide +kernel
theorem dX9_reason_22 : decode cX9_reason 22 = .ok (.invokevirtual 146, 3) := by decide +kernel
theorem dX9_reason_25 : decode cX9_reason 25 = .ok (.ifCond .eq 12, 3) := by decide +kernel
theorem dX9_reason_28 : decode cX9_reason 28 = .ok (.aload_n 0, 1) := by decide +kernel
theorem dX9_reason_29 : decode cX9_reason 29 = .ok (.iload_n 1, 1) := by decide +kernel
theorem dX9_reason_30 : decode cX9_reason 30 = .ok (.iload_n 2, 1) := by decide +kernel
theorem dX9_reason_31 : decode cX9_reason 31 = .ok (.invokevirtual 214, 3) := by decide +kernel
theorem dX9_reason_34 : decode cX9_reason 34 = .ok (.goto 4, 3) := by decide +kernel
theorem dX9_reason_37 : decode cX9_reason 37 = .ok (.iconst 0, 1) := by decide +kernel
theorem dX9_reason_38 : decode cX9_reason 38 = .ok (.ireturn, 1) := by decide +kernel
set_option maxRecDepth 20000 in
theorem ggX9_banned_X9_isLand : GoodIn wsX9_banned wsX9_isLand := goodIn_r _ [6, 7, 8, 9, 5, 10, 29, 30, 31, 32, 33, 34, 35, 36, 37, 38, 39, 40, 41, 42, 43, 44, 45, 46, 47, 48, 49, 50, 51, 52, 53, 54, 55, 56, 57, 58, 59, 60, 61, 62, 63, 64, 65, 66, 67, 68, 69, 70, 71, 72, 73] (by decide +kernel) (by decide +kernel)
set_option maxRecDepth 20000 in
theorem gX9_banned_X9_isLand : GoodIn wsX9_banned (wsV RX9 150 RX9 yX9_isLand wsX9_isLand) := goodIn_app (goodIn_of _ (by decide +kernel)) ggX9_banned_X9_isLand
set_option maxRecDepth 20000 in
theorem ggX9_banned_X9_isPerson : GoodIn wsX9_banned wsX9_isPerson := goodIn_r _ [14, 15, 8, 9, 5, 10, 29, 30, 31, 32, 33, 34, 35, 36, 37, 38, 39, 40, 41, 42, 43, 44, 45, 46, 47, 48, 49, 50, 51, 52, 53, 54, 55, 56, 57, 58, 59, 60, 61, 62, 63, 64, 65, 66, 67, 68, 69, 70, 71, 72, 73] (by decide +kernel) (by decide +kernel)
set_option maxRecDepth 20000 in
theorem gX9_banned_X9_isPerson : GoodIn wsX9_banned (wsV RX9 167 RX9 yX9_isPerson wsX9_isPerson) := goodIn_app (goodIn_of _ (by decide +kernel)) ggX9_banned_X9_isPerson
set_option maxRecDepth 20000 in
theorem ggX9_banned_X9_goesWell : GoodIn wsX9_banned wsX9_goesWell := goodIn_r _ [19, 20, 29, 30, 31, 32, 33, 34, 35, 36, 37, 38, 39, 40, 41, 42, 43, 44, 45, 46, 47, 48, 49, 50, 51, 52, 53, 54, 55, 56, 57, 58, 59, 60, 61, 62, 63, 64, 65, 66, 67, 68, 69, 70, 71, 72, 73] (by decide +kernel) (by decide +kernel)
set_option maxRecDepth 20000 in
theorem gX9_banned_X9_goesWell : GoodIn wsX9_banned (wsV RX9 146 RX9 yX9_goesWell wsX9_goesWell) := goodIn_app (goodIn_of _ (by decide +kernel)) ggX9_banned_X9_goesWell
set_option maxRecDepth 20000 in
theorem ggX9_banned_X9_knows : GoodIn wsX9_banned wsX9_knows := goodIn_r _ [24, 25, 1, 26, 27, 28, 29, 30, 31, 32, 33, 34, 35, 36, 37, 38, 39, 40, 41, 42, 43, 44, 45, 46, 47, 48, 49, 50, 51, 52, 53, 54, 55, 56, 57, 58, 59, 60, 61, 62, 63, 64, 65, 66, 67, 68, 69, 70, 71, 72, 73] (by decide +kernel) (by decide +kernel)
set_option maxRecDepth 20000 in
theorem gX9_banned_X9_knows : GoodIn wsX9_banned (wsV RX9 205 RX9 yX9_knows wsX9_knows) := goodIn_app (goodIn_of _ (by decide +kernel)) ggX9_banned_X9_knows
theorem dX9_banned_0 : decode cX9_banned 0 = .ok (.aload_n 0, 1) := by decide +kernel
theorem dX9_banned_1 : decode cX9_banned 1 = .ok (.aload_n 0, 1) := by decide +kernel
theorem dX9_banned_2 : decode cX9_banned 2 = .ok (.iload_n 1, 1) := by decide +kernel
theorem dX9_banned_3 : decode cX9_banned 3 = .ok (.invokevirtual 150, 3) := by decide +kernel
theorem dX9_banned_6 : decode cX9_banned 6 = .ok (.ifCond .eq 23, 3) := by decide +kernel
theorem dX9_banned_9 : decode cX9_banned 9 = .ok (.aload_n 0, 1) := by decide +kernel
theorem dX9_banned_10 : decode cX9_banned 10 = .ok (.iload_n 2, 1) := by decide +kernel
theorem dX9_banned_11 : decode cX9_banned 11 = .ok (.invokevirtual 167, 3) := by decide +kernel
theorem dX9_banned_14 : decode cX9_banned 14 = .ok (.ifCond .eq 15, 3) := by decide +kernel
theorem dX9_banned_17 : decode cX9_banned 17 = .ok (.aload_n 0, 1) := by decide +kernel
theorem dX9_banned_18 : decode cX9_banned 18 = .ok (.iload_n 3, 1) := by decide +kernel
theorem dX9_banned_19 : decode cX9_banned 19 = .ok (.invokevirtual 150, 3) := by decide +kernel
theorem dX9_banned_22 : decode cX9_banned 22 = .ok (.ifCond .eq 7, 3) := by decide +kernel
theorem dX9_banned_25 : decode cX9_banned 25 = .ok (.iconst 0, 1) := by decide +kernel
theorem dX9_banned_26 : decode cX9_banned 26 = .ok (.goto 4, 3) := by decide +kernel
theorem dX9_banned_29 : decode cX9_banned 29 = .ok (.iconst 1, 1) := by decide +kernel
theorem dX9_banned_30 : decode cX9_banned 30 = .ok (.invokevirtual 146, 3) := by decide +kernel
theorem dX9_banned_33 : decode cX9_banned 33 = .ok (.ifCond .ne 5, 3) := by decide +kernel
theorem dX9_banned_36 : decode cX9_banned 36 = .ok (.iconst 0, 1) := by decide +kernel
theorem dX9_banned_37 : decode cX9_banned 37 = .ok (.ireturn, 1) := by decide +kernel
theorem dX9_banned_38 : decode cX9_banned 38 = .ok (.aload_n 0, 1) := by decide +kernel
theorem dX9_banned_39 : decode cX9_banned 39 = .ok (.iload_n 1, 1) := by decide +kernel
theorem dX9_banned_40 : decode cX9_banned 40 = .ok (.iload_n 2, 1) := by decide +kernel
theorem dX9_banned_41 : decode cX9_banned 41 = .ok (.iload_n 3, 1) := by decide +kernel
theorem dX9_banned_42 : decode cX9_banned 42 = .ok (.invokevirtual 205, 3) := by decide +kernel
theorem dX9_banned_45 : decode cX9_banned 45 = .ok (.ifCond .eq 17, 3) := by decide +kernel
theorem dX9_banned_48 : decode cX9_banned 48 = .ok (.aload_n 0, 1) := by decide +kernel
theorem dX9_banned_49 : decode cX9_banned 49 = .ok (.getfield 76, 3) := by decide +kernel
theorem dX9_banned_52 : decode cX9_banned 52 = .ok (.bipush 8, 2) := by decide +kernel
theorem dX9_banned_54 : decode cX9_banned 54 = .ok (.iload_n 2, 1) := by decide +kernel
theorem dX9_banned_55 : decode cX9_banned 55 = .ok (.imul, 1) := by decide +kernel
theorem dX9_banned_56 : decode cX9_banned 56 = .ok (.iload_n 1, 1) := by decide +kernel
theorem dX9_banned_57 : decode cX9_banned 57 = .ok (.iadd, 1) := by decide +kernel
theorem dX9_banned_58 : decode cX9_banned 58 = .ok (.iaload, 1) := by decide +kernel
theorem dX9_banned_59 : decode cX9_banned 59 = .ok (.goto 4, 3) := by decide +kernel
theorem dX9_banned_62 : decode cX9_banned 62 = .ok (.iconst (-1), 1) := by decide +kernel
theorem dX9_banned_63 : decode cX9_banned 63 = .ok (.ireturn, 1) := by decide +kernel
set_option maxRecDepth 20000 in
theorem ggX9_ofVisa_X9_in : GoodIn wsX9_ofVisa wsX9_in := goodIn_r _ [8] (by decide +kernel) (by decide +kernel)
set_option maxRecDepth 20000 in
theorem gX9_ofVisa_X9_in : GoodIn wsX9_ofVisa (va_wsS RX9 136 yX9_in wsX9_in) := goodIn_app (goodIn_of _ (by decide +kernel)) ggX9_ofVisa_X9_in
set_option maxRecDepth 20000 in
theorem ggX9_ofVisa_X9_goesWell : GoodIn wsX9_ofVisa wsX9_goesWell := goodIn_r _ [12, 13, 14, 15, 16, 17, 18, 19, 20, 21, 22, 23, 24, 25, 26, 27, 28, 29, 30, 31, 32, 33, 34, 35, 36, 37, 38, 39, 40, 41, 42, 43, 44, 45, 46, 47, 48, 49, 50, 51, 52, 53, 54, 55, 56, 57, 58] (by decide +kernel) (by decide +kernel)
set_option maxRecDepth 20000 in
theorem gX9_ofVisa_X9_goesWell : GoodIn wsX9_ofVisa (wsV RX9 146 RX9 yX9_goesWell wsX9_goesWell) := goodIn_app (goodIn_of _ (by decide +kernel)) ggX9_ofVisa_X9_goesWell
theorem dX9_ofVisa_0 : decode cX9_ofVisa 0 = .ok (.iload_n 1, 1) := by decide +kernel
theorem dX9_ofVisa_1 : decode cX9_ofVisa 1 = .ok (.iconst 0, 1) := by decide +kernel
theorem dX9_ofVisa_2 : decode cX9_ofVisa 2 = .ok (.aload_n 0, 1) := by decide +kernel
theorem dX9_ofVisa_3 : decode cX9_ofVisa 3 = .ok (.getfield 177, 3) := by decide +kernel
theorem dX9_ofVisa_6 : decode cX9_ofVisa 6 = .ok (.iconst 1, 1) := by decide +kernel
theorem dX9_ofVisa_7 : decode cX9_ofVisa 7 = .ok (.isub, 1) := by decide +kernel
theorem dX9_ofVisa_8 : decode cX9_ofVisa 8 = .ok (.invokestatic 136, 3) := by decide +kernel
theorem dX9_ofVisa_11 : decode cX9_ofVisa 11 = .ok (.istore_n 3, 1) := by decide +kernel
theorem dX9_ofVisa_12 : decode cX9_ofVisa 12 = .ok (.aload_n 0, 1) := by decide +kernel
theorem dX9_ofVisa_13 : decode cX9_ofVisa 13 = .ok (.iload_n 3, 1) := by decide +kernel
theorem dX9_ofVisa_14 : decode cX9_ofVisa 14 = .ok (.ifCond .ne 7, 3) := by decide +kernel
theorem dX9_ofVisa_17 : decode cX9_ofVisa 17 = .ok (.iconst 1, 1) := by decide +kernel
theorem dX9_ofVisa_18 : decode cX9_ofVisa 18 = .ok (.goto 17, 3) := by decide +kernel
theorem dX9_ofVisa_21 : decode cX9_ofVisa 21 = .ok (.iload_n 2, 1) := by decide +kernel
theorem dX9_ofVisa_22 : decode cX9_ofVisa 22 = .ok (.iconst 0, 1) := by decide +kernel
theorem dX9_ofVisa_23 : decode cX9_ofVisa 23 = .ok (.iconst 2, 1) := by decide +kernel
theorem dX9_ofVisa_24 : decode cX9_ofVisa 24 = .ok (.invokestatic 136, 3) := by decide +kernel
theorem dX9_ofVisa_27 : decode cX9_ofVisa 27 = .ok (.ifCond .eq 7, 3) := by decide +kernel
theorem dX9_ofVisa_30 : decode cX9_ofVisa 30 = .ok (.iconst 0, 1) := by decide +kernel
theorem dX9_ofVisa_31 : decode cX9_ofVisa 31 = .ok (.goto 4, 3) := by decide +kernel
theorem dX9_ofVisa_34 : decode cX9_ofVisa 34 = .ok (.iconst 2, 1) := by decide +kernel
theorem dX9_ofVisa_35 : decode cX9_ofVisa 35 = .ok (.invokevirtual 146, 3) := by decide +kernel
theorem dX9_ofVisa_38 : decode cX9_ofVisa 38 = .ok (.ifCond .ne 5, 3) := by decide +kernel
theorem dX9_ofVisa_41 : decode cX9_ofVisa 41 = .ok (.iconst 0, 1) := by decide +kernel
theorem dX9_ofVisa_42 : decode cX9_ofVisa 42 = .ok (.ireturn, 1) := by decide +kernel
theorem dX9_ofVisa_43 : decode cX9_ofVisa 43 = .ok (.iload_n 2, 1) := by decide +kernel
theorem dX9_ofVisa_44 : decode cX9_ofVisa 44 = .ok (.ifCond .ne 12, 3) := by decide +kernel
theorem dX9_ofVisa_47 : decode cX9_ofVisa 47 = .ok (.aload_n 0, 1) := by decide +kernel
theorem dX9_ofVisa_48 : decode cX9_ofVisa 48 = .ok (.getfield 97, 3) := by decide +kernel
theorem dX9_ofVisa_51 : decode cX9_ofVisa 51 = .ok (.iload_n 1, 1) := by decide +kernel
theorem dX9_ofVisa_52 : decode cX9_ofVisa 52 = .ok (.iaload, 1) := by decide +kernel
theorem dX9_ofVisa_53 : decode cX9_ofVisa 53 = .ok (.goto 23, 3) := by decide +kernel
theorem dX9_ofVisa_56 : decode cX9_ofVisa 56 = .ok (.iload_n 2, 1) := by decide +kernel
theorem dX9_ofVisa_57 : decode cX9_ofVisa 57 = .ok (.iconst 1, 1) := by decide +kernel
theorem dX9_ofVisa_58 : decode cX9_ofVisa 58 = .ok (.if_icmp .ne 12, 3) := by decide +kernel
theorem dX9_ofVisa_61 : decode cX9_ofVisa 61 = .ok (.aload_n 0, 1) := by decide +kernel
theorem dX9_ofVisa_62 : decode cX9_ofVisa 62 = .ok (.getfield 100, 3) := by decide +kernel
theorem dX9_ofVisa_65 : decode cX9_ofVisa 65 = .ok (.iload_n 1, 1) := by decide +kernel
theorem dX9_ofVisa_66 : decode cX9_ofVisa 66 = .ok (.iaload, 1) := by decide +kernel
theorem dX9_ofVisa_67 : decode cX9_ofVisa 67 = .ok (.goto 9, 3) := by decide +kernel
theorem dX9_ofVisa_70 : decode cX9_ofVisa 70 = .ok (.aload_n 0, 1) := by decide +kernel
theorem dX9_ofVisa_71 : decode cX9_ofVisa 71 = .ok (.getfield 85, 3) := by decide +kernel
theorem dX9_ofVisa_74 : decode cX9_ofVisa 74 = .ok (.iload_n 1, 1) := by decide +kernel
theorem dX9_ofVisa_75 : decode cX9_ofVisa 75 = .ok (.iaload, 1) := by decide +kernel
theorem dX9_ofVisa_76 : decode cX9_ofVisa 76 = .ok (.ireturn, 1) := by decide +kernel
set_option maxRecDepth 20000 in
theorem ggX9_ofRequest_X9_isRequest : GoodIn wsX9_ofRequest wsX9_isRequest := goodIn_r _ [8, 9, 10, 11, 7, 12, 24, 25, 26, 27, 28, 29, 30, 31, 32, 33, 34, 35, 36, 37, 38, 39, 40, 41, 42, 43, 44, 45, 46, 47, 48, 49, 50, 51, 52, 53, 54, 55, 56, 57, 58, 59, 60, 61, 62, 63, 64, 65, 66, 67, 68] (by decide +kernel) (by decide +kernel)
set_option maxRecDepth 20000 in
theorem gX9_ofRequest_X9_isRequest : GoodIn wsX9_ofRequest (wsV RX9 227 RX9 yX9_isRequest wsX9_isRequest) := goodIn_app (goodIn_of _ (by decide +kernel)) ggX9_ofRequest_X9_isRequest
set_option maxRecDepth 20000 in
theorem ggX9_ofRequest_X9_in : GoodIn wsX9_ofRequest wsX9_in := goodIn_r _ [12] (by decide +kernel) (by decide +kernel)
set_option maxRecDepth 20000 in
theorem gX9_ofRequest_X9_in : GoodIn wsX9_ofRequest (va_wsS RX9 136 yX9_in wsX9_in) := goodIn_app (goodIn_of _ (by decide +kernel)) ggX9_ofRequest_X9_in
set_option maxRecDepth 20000 in
theorem ggX9_ofRequest_X9_goesWell : GoodIn wsX9_ofRequest wsX9_goesWell := goodIn_r _ [16, 17, 24, 25, 26, 27, 28, 29, 30, 31, 32, 33, 34, 35, 36, 37, 38, 39, 40, 41, 42, 43, 44, 45, 46, 47, 48, 49, 50, 51, 52, 53, 54, 55, 56, 57, 58, 59, 60, 61, 62, 63, 64, 65, 66, 67, 68] (by decide +kernel) (by decide +kernel)
set_option maxRecDepth 20000 in
theorem gX9_ofRequest_X9_goesWell : GoodIn wsX9_ofRequest (wsV RX9 146 RX9 yX9_goesWell wsX9_goesWell) := goodIn_app (goodIn_of _ (by decide +kernel)) ggX9_ofRequest_X9_goesWell
set_option maxRecDepth 20000 in
theorem ggX9_ofRequest_X9_placeOf : GoodIn wsX9_ofRequest wsX9_placeOf := goodIn_r _ [21, 9, 1, 22, 23, 2, 24, 25, 26, 27, 28, 29, 30, 31, 32, 33, 34, 35, 36, 37, 38, 39, 40, 41, 42, 43, 44, 45, 46, 47, 48, 49, 50, 51, 52, 53, 54, 55, 56, 57, 58, 59, 60, 61, 62, 63, 64, 65, 66, 67, 68] (by decide +kernel) (by decide +kernel)
set_option maxRecDepth 20000 in
theorem gX9_ofRequest_X9_placeOf : GoodIn wsX9_ofRequest (wsV RX9 236 RX9 yX9_placeOf wsX9_placeOf) := goodIn_app (goodIn_of _ (by decide +kernel)) ggX9_ofRequest_X9_placeOf
theorem dX9_ofRequest_0 : decode cX9_ofRequest 0 = .ok (.aload_n 0, 1) := by decide +kernel
theorem dX9_ofRequest_1 : decode cX9_ofRequest 1 = .ok (.iload_n 1, 1) := by decide +kernel
theorem dX9_ofRequest_2 : decode cX9_ofRequest 2 = .ok (.invokevirtual 227, 3) := by decide +kernel
theorem dX9_ofRequest_5 : decode cX9_ofRequest 5 = .ok (.istore_n 3, 1) := by decide +kernel
theorem dX9_ofRequest_6 : decode cX9_ofRequest 6 = .ok (.aload_n 0, 1) := by decide +kernel
theorem dX9_ofRequest_7 : decode cX9_ofRequest 7 = .ok (.iload_n 3, 1) := by decide +kernel
theorem dX9_ofRequest_8 : decode cX9_ofRequest 8 = .ok (.ifCond .ne 7, 3) := by decide +kernel
theorem dX9_ofRequest_11 : decode cX9_ofRequest 11 = .ok (.iconst 1, 1) := by decide +kernel
theorem dX9_ofRequest_12 : decode cX9_ofRequest 12 = .ok (.goto 17, 3) := by decide +kernel
theorem dX9_ofRequest_15 : decode cX9_ofRequest 15 = .ok (.iload_n 2, 1) := by decide +kernel
theorem dX9_ofRequest_16 : decode cX9_ofRequest 16 = .ok (.iconst 0, 1) := by decide +kernel
theorem dX9_ofRequest_17 : decode cX9_ofRequest 17 = .ok (.iconst 3, 1) := by decide +kernel
theorem dX9_ofRequest_18 : decode cX9_ofRequest 18 = .ok (.invokestatic 136, 3) := by decide +kernel
theorem dX9_ofRequest_21 : decode cX9_ofRequest 21 = .ok (.ifCond .eq 7, 3) := by decide +kernel
theorem dX9_ofRequest_24 : decode cX9_ofRequest 24 = .ok (.iconst 0, 1) := by decide +kernel
theorem dX9_ofRequest_25 : decode cX9_ofRequest 25 = .ok (.goto 4, 3) := by decide +kernel
theorem dX9_ofRequest_28 : decode cX9_ofRequest 28 = .ok (.iconst 2, 1) := by decide +kernel
theorem dX9_ofRequest_29 : decode cX9_ofRequest 29 = .ok (.invokevirtual 146, 3) := by decide +kernel
theorem dX9_ofRequest_32 : decode cX9_ofRequest 32 = .ok (.ifCond .ne 5, 3) := by decide +kernel
theorem dX9_ofRequest_35 : decode cX9_ofRequest 35 = .ok (.iconst 0, 1) := by decide +kernel
theorem dX9_ofRequest_36 : decode cX9_ofRequest 36 = .ok (.ireturn, 1) := by decide +kernel
theorem dX9_ofRequest_37 : decode cX9_ofRequest 37 = .ok (.iload_n 2, 1) := by decide +kernel
theorem dX9_ofRequest_38 : decode cX9_ofRequest 38 = .ok (.ifCond .ne 12, 3) := by decide +kernel
theorem dX9_ofRequest_41 : decode cX9_ofRequest 41 = .ok (.aload_n 0, 1) := by decide +kernel
theorem dX9_ofRequest_42 : decode cX9_ofRequest 42 = .ok (.getfield 118, 3) := by decide +kernel
theorem dX9_ofRequest_45 : decode cX9_ofRequest 45 = .ok (.iload_n 1, 1) := by decide +kernel
theorem dX9_ofRequest_46 : decode cX9_ofRequest 46 = .ok (.iaload, 1) := by decide +kernel
theorem dX9_ofRequest_47 : decode cX9_ofRequest 47 = .ok (.goto 49, 3) := by decide +kernel
theorem dX9_ofRequest_50 : decode cX9_ofRequest 50 = .ok (.iload_n 2, 1) := by decide +kernel
theorem dX9_ofRequest_51 : decode cX9_ofRequest 51 = .ok (.iconst 1, 1) := by decide +kernel
theorem dX9_ofRequest_52 : decode cX9_ofRequest 52 = .ok (.if_icmp .ne 12, 3) := by decide +kernel
theorem dX9_ofRequest_55 : decode cX9_ofRequest 55 = .ok (.aload_n 0, 1) := by decide +kernel
theorem dX9_ofRequest_56 : decode cX9_ofRequest 56 = .ok (.getfield 115, 3) := by decide +kernel
theorem dX9_ofRequest_59 : decode cX9_ofRequest 59 = .ok (.iload_n 1, 1) := by decide +kernel
theorem dX9_ofRequest_60 : decode cX9_ofRequest 60 = .ok (.iaload, 1) := by decide +kernel
theorem dX9_ofRequest_61 : decode cX9_ofRequest 61 = .ok (.goto 35, 3) := by decide +kernel
theorem dX9_ofRequest_64 : decode cX9_ofRequest 64 = .ok (.iload_n 2, 1) := by decide +kernel
theorem dX9_ofRequest_65 : decode cX9_ofRequest 65 = .ok (.iconst 2, 1) := by decide +kernel
theorem dX9_ofRequest_66 : decode cX9_ofRequest 66 = .ok (.if_icmp .ne 12, 3) := by decide +kernel
theorem dX9_ofRequest_69 : decode cX9_ofRequest 69 = .ok (.aload_n 0, 1) := by decide +kernel
theorem dX9_ofRequest_70 : decode cX9_ofRequest 70 = .ok (.getfield 124, 3) := by decide +kernel
theorem dX9_ofRequest_73 : decode cX9_ofRequest 73 = .ok (.iload_n 1, 1) := by decide +kernel
theorem dX9_ofRequest_74 : decode cX9_ofRequest 74 = .ok (.iaload, 1) := by decide +kernel
theorem dX9_ofRequest_75 : decode cX9_ofRequest 75 = .ok (.goto 21, 3) := by decide +kernel
theorem dX9_ofRequest_78 : decode cX9_ofRequest 78 = .ok (.aload_n 0, 1) := by decide +kernel
theorem dX9_ofRequest_79 : decode cX9_ofRequest 79 = .ok (.getfield 118, 3) := by decide +kernel
theorem dX9_ofRequest_82 : decode cX9_ofRequest 82 = .ok (.iload_n 1, 1) := by decide +kernel
theorem dX9_ofRequest_83 : decode cX9_ofRequest 83 = .ok (.iaload, 1) := by decide +kernel
theorem dX9_ofRequest_84 : decode cX9_ofRequest 84 = .ok (.ifCond .ne 11, 3) := by decide +kernel
theorem dX9_ofRequest_87 : decode cX9_ofRequest 87 = .ok (.aload_n 0, 1) := by decide +kernel
theorem dX9_ofRequest_88 : decode cX9_ofRequest 88 = .ok (.iload_n 1, 1) := by decide +kernel
theorem dX9_ofRequest_89 : decode cX9_ofRequest 89 = .ok (.invokevirtual 236, 3) := by decide +kernel
theorem dX9_ofRequest_92 : decode cX9_ofRequest 92 = .ok (.goto 4, 3) := by decide +kernel
theorem dX9_ofRequest_95 : decode cX9_ofRequest 95 = .ok (.iconst (-1), 1) := by decide +kernel
theorem dX9_ofRequest_96 : decode cX9_ofRequest 96 = .ok (.ireturn, 1) := by decide +kernel
set_option maxRecDepth 20000 in
theorem ggX9_permit_X9_isPerson : GoodIn wsX9_permit wsX9_isPerson := goodIn_r _ [6, 7, 8, 9, 5, 10, 26, 27, 28, 29, 30, 31, 32, 33, 34, 35, 36, 37, 38, 39, 40, 41, 42, 43, 44, 45, 46, 47, 48, 49, 50, 51, 52, 53, 54, 55, 56, 57, 58, 59, 60, 61, 62, 63, 64, 65, 66, 67, 68, 69, 70] (by decide +kernel) (by decide +kernel)
set_option maxRecDepth 20000 in
theorem gX9_permit_X9_isPerson : GoodIn wsX9_permit (wsV RX9 167 RX9 yX9_isPerson wsX9_isPerson) := goodIn_app (goodIn_of _ (by decide +kernel)) ggX9_permit_X9_isPerson
set_option maxRecDepth 20000 in
theorem ggX9_permit_X9_isLand : GoodIn wsX9_permit wsX9_isLand := goodIn_r _ [14, 15, 8, 9, 5, 10, 26, 27, 28, 29, 30, 31, 32, 33, 34, 35, 36, 37, 38, 39, 40, 41, 42, 43, 44, 45, 46, 47, 48, 49, 50, 51, 52, 53, 54, 55, 56, 57, 58, 59, 60, 61, 62, 63, 64, 65, 66, 67, 68, 69, 70] (by decide +kernel) (by decide +kernel)
set_option maxRecDepth 20000 in
theorem gX9_permit_X9_isLand : GoodIn wsX9_permit (wsV RX9 150 RX9 yX9_isLand wsX9_isLand) := goodIn_app (goodIn_of _ (by decide +kernel)) ggX9_permit_X9_isLand
set_option maxRecDepth 20000 in
theorem ggX9_permit_X9_goesWell : GoodIn wsX9_permit wsX9_goesWell := goodIn_r _ [19, 20, 26, 27, 28, 29, 30, 31, 32, 33, 34, 35, 36, 37, 38, 39, 40, 41, 42, 43, 44, 45, 46, 47, 48, 49, 50, 51, 52, 53, 54, 55, 56, 57, 58, 59, 60, 61, 62, 63, 64, 65, 66, 67, 68, 69, 70] (by decide +kernel) (by decide +kernel)
set_option maxRecDepth 20000 in
theorem gX9_permit_X9_goesWell : GoodIn wsX9_permit (wsV RX9 146 RX9 yX9_goesWell wsX9_goesWell) := goodIn_app (goodIn_of _ (by decide +kernel)) ggX9_permit_X9_goesWell
set_option maxRecDepth 20000 in
theorem ggX9_permit_X9_hasPermit : GoodIn wsX9_permit wsX9_hasPermit := goodIn_r _ [24, 1, 25, 26, 27, 28, 29, 30, 31, 32, 33, 34, 35, 36, 37, 38, 39, 40, 41, 42, 43, 44, 45, 46, 47, 48, 49, 50, 51, 52, 53, 54, 55, 56, 57, 58, 59, 60, 61, 62, 63, 64, 65, 66, 67, 68, 69, 70] (by decide +kernel) (by decide +kernel)
set_option maxRecDepth 20000 in
theorem gX9_permit_X9_hasPermit : GoodIn wsX9_permit (wsV RX9 164 RX9 yX9_hasPermit wsX9_hasPermit) := goodIn_app (goodIn_of _ (by decide +kernel)) ggX9_permit_X9_hasPermit
theorem dX9_permit_0 : decode cX9_permit 0 = .ok (.aload_n 0, 1) := by decide +kernel
theorem dX9_permit_1 : decode cX9_permit 1 = .ok (.aload_n 0, 1) := by decide +kernel
theorem dX9_permit_2 : decode cX9_permit 2 = .ok (.iload_n 1, 1) := by decide +kernel
theorem dX9_permit_3 : decode cX9_permit 3 = .ok (.invokevirtual 167, 3) := by decide +kernel
theorem dX9_permit_6 : decode cX9_permit 6 = .ok (.ifCond .eq 15, 3) := by decide +kernel
theorem dX9_permit_9 : decode cX9_permit 9 = .ok (.aload_n 0, 1) := by decide +kernel
theorem dX9_permit_10 : decode cX9_permit 10 = .ok (.iload_n 2, 1) := by decide +kernel
theorem dX9_permit_11 : decode cX9_permit 11 = .ok (.invokevirtual 150, 3) := by decide +kernel
theorem dX9_permit_14 : decode cX9_permit 14 = .ok (.ifCond .eq 7, 3) := by decide +kernel
theorem dX9_permit_17 : decode cX9_permit 17 = .ok (.iconst 0, 1) := by decide +kernel
theorem dX9_permit_18 : decode cX9_permit 18 = .ok (.goto 4, 3) := by decide +kernel
theorem dX9_permit_21 : decode cX9_permit 21 = .ok (.iconst 1, 1) := by decide +kernel
theorem dX9_permit_22 : decode cX9_permit 22 = .ok (.invokevirtual 146, 3) := by decide +kernel
theorem dX9_permit_25 : decode cX9_permit 25 = .ok (.ifCond .ne 5, 3) := by decide +kernel
theorem dX9_permit_28 : decode cX9_permit 28 = .ok (.iconst 0, 1) := by decide +kernel
theorem dX9_permit_29 : decode cX9_permit 29 = .ok (.ireturn, 1) := by decide +kernel
theorem dX9_permit_30 : decode cX9_permit 30 = .ok (.aload_n 0, 1) := by decide +kernel
theorem dX9_permit_31 : decode cX9_permit 31 = .ok (.iload_n 1, 1) := by decide +kernel
theorem dX9_permit_32 : decode cX9_permit 32 = .ok (.iload_n 2, 1) := by decide +kernel
theorem dX9_permit_33 : decode cX9_permit 33 = .ok (.invokevirtual 164, 3) := by decide +kernel
theorem dX9_permit_36 : decode cX9_permit 36 = .ok (.ifCond .eq 17, 3) := by decide +kernel
theorem dX9_permit_39 : decode cX9_permit 39 = .ok (.aload_n 0, 1) := by decide +kernel
theorem dX9_permit_40 : decode cX9_permit 40 = .ok (.getfield 70, 3) := by decide +kernel
theorem dX9_permit_43 : decode cX9_permit 43 = .ok (.bipush 8, 2) := by decide +kernel
theorem dX9_permit_45 : decode cX9_permit 45 = .ok (.iload_n 1, 1) := by decide +kernel
theorem dX9_permit_46 : decode cX9_permit 46 = .ok (.imul, 1) := by decide +kernel
theorem dX9_permit_47 : decode cX9_permit 47 = .ok (.iload_n 2, 1) := by decide +kernel
theorem dX9_permit_48 : decode cX9_permit 48 = .ok (.iadd, 1) := by decide +kernel
theorem dX9_permit_49 : decode cX9_permit 49 = .ok (.iaload, 1) := by decide +kernel
theorem dX9_permit_50 : decode cX9_permit 50 = .ok (.goto 4, 3) := by decide +kernel
theorem dX9_permit_53 : decode cX9_permit 53 = .ok (.iconst (-1), 1) := by decide +kernel
theorem dX9_permit_54 : decode cX9_permit 54 = .ok (.ireturn, 1) := by decide +kernel
