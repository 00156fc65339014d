theorem dX8_was_1 : decode cX8_was 1 = .ok (.iload_n 1, 1) := by decide +kernel
theorem dX8_was_2 : decode cX8_was 2 = .ok (.invokevirtual 104, 3) := by decide +kernel
theorem dX8_was_5 : decode cX8_was 5 = .ok (.astore_n 3, 1) := by decide +kernel
theorem dX8_was_6 : decode cX8_was 6 = .ok (.iload_n 2, 1) := by decide +kernel
theorem dX8_was_7 : decode cX8_was 7 = .ok (.ifCond .lt 11, 3) := by decide +kernel
theorem dX8_was_10 : decode cX8_was 10 = .ok (.iload_n 2, 1) := by decide +kernel
theorem dX8_was_11 : decode cX8_was 11 = .ok (.aload_n 0, 1) := by decide +kernel
theorem dX8_was_12 : decode cX8_was 12 = .ok (.getfield 37, 3) := by decide +kernel
theorem dX8_was_15 : decode cX8_was 15 = .ok (.if_icmp .le 14, 3) := by decide +kernel
theorem dX8_was_18 : decode cX8_was 18 = .ok (.new 41, 3) := by decide +kernel
theorem dX8_was_21 : decode cX8_was 21 = .ok (.dup, 1) := by decide +kernel
theorem dX8_was_22 : decode cX8_was 22 = .ok (.ldc_w 327, 3) := by decide +kernel
theorem dX8_was_25 : decode cX8_was 25 = .ok (.invokespecial 45, 3) := by decide +kernel
theorem dX8_was_28 : decode cX8_was 28 = .ok (.athrow, 1) := by decide +kernel
theorem dX8_was_29 : decode cX8_was 29 = .ok (.aload_n 3, 1) := by decide +kernel
theorem dX8_was_30 : decode cX8_was 30 = .ok (.getfield 322, 3) := by decide +kernel
theorem dX8_was_33 : decode cX8_was 33 = .ok (.iload_n 2, 1) := by decide +kernel
theorem dX8_was_34 : decode cX8_was 34 = .ok (.invokevirtual 202, 3) := by decide +kernel
theorem dX8_was_37 : decode cX8_was 37 = .ok (.ireturn, 1) := by decide +kernel
set_option maxRecDepth 20000 in
theorem ggX8_reason_X8_personAt : GoodIn wsX8_reason wsX8_personAt := goodIn_ca (goodIn_r _ [5, 6, 7, 8, 9, 10, 11, 12, 13, 14, 15, 16, 17, 18, 19, 20, 21, 22, 23, 24, 25, 26, 27, 28, 29, 30, 31, 32, 153, 154, 155, 156, 157, 158, 159, 160, 161, 162] (by decide +kernel) (by decide +kernel)) (goodIn_sub (fun _ h => List.mem_cons_of_mem _ (List.mem_append_right _ h)) (by decide +kernel))
set_option maxRecDepth 20000 in
theorem gX8_reason_X8_personAt : GoodIn wsX8_reason (wsV RX8 104 RX8 yX8_personAt wsX8_personAt) := goodIn_app (goodIn_of _ (by decide +kernel)) ggX8_reason_X8_personAt
set_option maxRecDepth 20000 in
theorem ggX8_reason_X8_landAt : GoodIn wsX8_reason wsX8_landAt := goodIn_ca (goodIn_r _ [36, 6, 7, 37, 38, 10, 11, 12, 13, 14, 15, 16, 17, 18, 19, 20, 21, 22, 23, 24, 25, 26, 27, 28, 29, 30, 31, 32, 153, 154, 155, 156, 157, 158, 159, 160, 161, 162] (by decide +kernel) (by decide +kernel)) (goodIn_sub (fun _ h => List.mem_cons_of_mem _ (List.mem_append_right _ h)) (by decide +kernel))
set_option maxRecDepth 20000 in
theorem gX8_reason_X8_landAt : GoodIn wsX8_reason (wsV RX8 69 RX8 yX8_landAt wsX8_landAt) := goodIn_app (goodIn_of _ (by decide +kernel)) ggX8_reason_X8_landAt
set_option maxRecDepth 20000 in
theorem ggX8_reason_X8_whyNot : GoodIn wsX8_reason wsX8_whyNot := goodIn_r _ [42, 43, 44, 45, 46, 4, 47, 48, 49, 50, 51, 52, 53, 54, 55, 56, 57, 58, 59, 60, 61, 62, 63, 64, 65, 66, 67, 68, 69, 70, 71, 72, 73, 74, 75, 76, 77, 78, 37, 79, 38, 10, 11, 12, 13, 14, 15, 80, 81, 82, 83, 84, 85, 86, 87, 88, 89, 90, 91, 16, 17, 18, 19, 20, 21, 22, 23, 24, 25, 26, 27, 28, 29, 30, 31, 32, 92, 93, 94, 95, 96, 97, 98, 99, 100, 101, 102, 103, 104, 105, 106, 107, 108, 109, 110, 111, 112, 113, 114, 115, 116, 117, 118, 119, 120, 121, 122, 123, 124, 125, 126, 127, 128, 129, 130, 131, 132, 133, 134, 135, 136, 137, 138, 139, 140, 141, 142, 143, 144, 145, 146, 147, 148, 149, 150, 151, 152, 153, 154, 155, 156, 157, 158, 159, 163, 164, 165, 166, 167, 168, 169, 170, 171, 172, 173, 174, 175, 176, 177, 178, 179, 180, 181, 182, 183, 184, 185, 186, 160, 161, 162, 187, 188, 189, 190, 191, 192, 193, 194, 195, 196, 197, 198, 199, 200] (by decide +kernel) (by decide +kernel)
set_option maxRecDepth 20000 in
theorem gX8_reason_X8_whyNot : GoodIn wsX8_reason (wsV RX8 149 RX8 yX8_whyNot wsX8_whyNot) := goodIn_app (goodIn_of _ (by decide +kernel)) ggX8_reason_X8_whyNot
theorem dX8_reason_0 : decode cX8_reason 0 = .ok (.aload_n 0, 1) := by decide +kernel
theorem dX8_reason_1 : decode cX8_reason 1 = .ok (.aload_n 0, 1) := by decide +kernel
theorem dX8_reason_2 : decode cX8_reason 2 = .ok (.iload_n 1, 1) := by decide +kernel
theorem dX8_reason_3 : decode cX8_reason 3 = .ok (.invokevirtual 104, 3) := by decide +kernel
theorem dX8_reason_6 : decode cX8_reason 6 = .ok (.aload_n 0, 1) := by decide +kernel
theorem dX8_reason_7 : decode cX8_reason 7 = .ok (.iload_n 2, 1) := by decide +kernel
theorem dX8_reason_8 : decode cX8_reason 8 = .ok (.invokevirtual 69, 3) := by decide +kernel
theorem dX8_reason_11 : decode cX8_reason 11 = .ok (.invokevirtual 149, 3) := by decide +kernel
theorem dX8_reason_14 : decode cX8_reason 14 = .ok (.ireturn, 1) := by decide +kernel
set_option maxRecDepth 20000 in
theorem ggX8_banned_X8_landAt : GoodIn wsX8_banned wsX8_landAt := goodIn_ca (goodIn_r _ [9, 10, 11, 12, 13, 14, 15, 16, 17, 18, 19, 20, 21, 22, 23, 24, 25, 26, 27, 28, 29, 30, 31, 32, 33, 34, 35, 36, 84, 85, 86, 87, 88, 89, 90, 94, 95, 96] (by decide +kernel) (by decide +kernel)) (goodIn_sub (fun _ h => List.mem_cons_of_mem _ (List.mem_append_right _ h)) (by decide +kernel))
set_option maxRecDepth 20000 in
theorem gX8_banned_X8_landAt : GoodIn wsX8_banned (wsV RX8 69 RX8 yX8_landAt wsX8_landAt) := goodIn_app (goodIn_of _ (by decide +kernel)) ggX8_banned_X8_landAt
set_option maxRecDepth 20000 in
theorem ggX8_banned_X8_personAt : GoodIn wsX8_banned wsX8_personAt := goodIn_ca (goodIn_r _ [40, 10, 11, 41, 42, 14, 15, 16, 17, 18, 19, 20, 21, 22, 23, 24, 25, 26, 27, 28, 29, 30, 31, 32, 33, 34, 35, 36, 84, 85, 86, 87, 88, 89, 90, 94, 95, 96] (by decide +kernel) (by decide +kernel)) (goodIn_sub (fun _ h => List.mem_cons_of_mem _ (List.mem_append_right _ h)) (by decide +kernel))
set_option maxRecDepth 20000 in
theorem gX8_banned_X8_personAt : GoodIn wsX8_banned (wsV RX8 104 RX8 yX8_personAt wsX8_personAt) := goodIn_app (goodIn_of _ (by decide +kernel)) ggX8_banned_X8_personAt
set_option maxRecDepth 20000 in
theorem ggX8_banned_X0_stands : GoodIn wsX8_banned wsX0_stands := goodIn_r _ [47, 48, 49, 50, 51, 52, 53, 54, 55, 91, 92, 93, 97, 98] (by decide +kernel) (by decide +kernel)
set_option maxRecDepth 20000 in
theorem gX8_banned_X0_stands : GoodIn wsX8_banned (wsV RX8 210 RX0 yX0_stands wsX0_stands) := goodIn_app (goodIn_of _ (by decide +kernel)) ggX8_banned_X0_stands
set_option maxRecDepth 20000 in
theorem ggX8_banned_X8_isKnown : GoodIn wsX8_banned wsX8_isKnown := goodIn_r _ [59, 60, 3, 1, 61, 2, 62, 63, 50, 51, 52, 53, 54, 55, 77, 78, 79, 80, 81, 82, 83, 84, 85, 86, 87, 88, 89, 90, 64, 65, 66, 67, 68, 69, 70, 71, 72, 73, 74, 75, 76, 91, 92, 93, 97, 98] (by decide +kernel) (by decide +kernel)
set_option maxRecDepth 20000 in
theorem gX8_banned_X8_isKnown : GoodIn wsX8_banned (wsV RX8 329 RX8 yX8_isKnown wsX8_isKnown) := goodIn_app (goodIn_of _ (by decide +kernel)) ggX8_banned_X8_isKnown
set_option maxRecDepth 20000 in
theorem ggX8_banned_X5_at : GoodIn wsX8_banned wsX5_at := goodIn_r _ [53, 54, 55, 97, 98] (by decide +kernel) (by decide +kernel)
set_option maxRecDepth 20000 in
theorem gX8_banned_X5_at : GoodIn wsX8_banned (wsV RX8 202 RX5 yX5_at wsX5_at) := goodIn_app (goodIn_of _ (by decide +kernel)) ggX8_banned_X5_at
theorem dX8_banned_0 : decode cX8_banned 0 = .ok (.aload_n 0, 1) := by decide +kernel
theorem dX8_banned_1 : decode cX8_banned 1 = .ok (.iload_n 1, 1) := by decide +kernel
theorem dX8_banned_2 : decode cX8_banned 2 = .ok (.invokevirtual 69, 3) := by decide +kernel
theorem dX8_banned_5 : decode cX8_banned 5 = .ok (.astore 4, 2) := by decide +kernel
theorem dX8_banned_7 : decode cX8_banned 7 = .ok (.aload_n 0, 1) := by decide +kernel
theorem dX8_banned_8 : decode cX8_banned 8 = .ok (.iload_n 2, 1) := by decide +kernel
theorem dX8_banned_9 : decode cX8_banned 9 = .ok (.invokevirtual 104, 3) := by decide +kernel
theorem dX8_banned_12 : decode cX8_banned 12 = .ok (.astore 5, 2) := by decide +kernel
theorem dX8_banned_14 : decode cX8_banned 14 = .ok (.aload_n 0, 1) := by decide +kernel
theorem dX8_banned_15 : decode cX8_banned 15 = .ok (.iload_n 3, 1) := by decide +kernel
theorem dX8_banned_16 : decode cX8_banned 16 = .ok (.invokevirtual 69, 3) := by decide +kernel
theorem dX8_banned_19 : decode cX8_banned 19 = .ok (.astore 6, 2) := by decide +kernel
theorem dX8_banned_21 : decode cX8_banned 21 = .ok (.aload 5, 2) := by decide +kernel
theorem dX8_banned_23 : decode cX8_banned 23 = .ok (.getfield 189, 3) := by decide +kernel
theorem dX8_banned_26 : decode cX8_banned 26 = .ok (.aload 4, 2) := by decide +kernel
theorem dX8_banned_28 : decode cX8_banned 28 = .ok (.getfield 66, 3) := by decide +kernel
theorem dX8_banned_31 : decode cX8_banned 31 = .ok (.aload_n 0, 1) := by decide +kernel
theorem dX8_banned_32 : decode cX8_banned 32 = .ok (.getfield 37, 3) := by decide +kernel
theorem dX8_banned_35 : decode cX8_banned 35 = .ok (.invokevirtual 210, 3) := by decide +kernel
theorem dX8_banned_38 : decode cX8_banned 38 = .ok (.ifCond .eq 16, 3) := by decide +kernel
theorem dX8_banned_41 : decode cX8_banned 41 = .ok (.aload_n 0, 1) := by decide +kernel
theorem dX8_banned_42 : decode cX8_banned 42 = .ok (.aload 5, 2) := by decide +kernel
theorem dX8_banned_44 : decode cX8_banned 44 = .ok (.aload 4, 2) := by decide +kernel
theorem dX8_banned_46 : decode cX8_banned 46 = .ok (.aload 6, 2) := by decide +kernel
theorem dX8_banned_48 : decode cX8_banned 48 = .ok (.invokevirtual 329, 3) := by decide +kernel
theorem dX8_banned_51 : decode cX8_banned 51 = .ok (.ifCond .ne 5, 3) := by decide +kernel
theorem dX8_banned_54 : decode cX8_banned 54 = .ok (.iconst (-1), 1) := by decide +kernel
theorem dX8_banned_55 : decode cX8_banned 55 = .ok (.ireturn, 1) := by decide +kernel
theorem dX8_banned_56 : decode cX8_banned 56 = .ok (.aload 5, 2) := by decide +kernel
theorem dX8_banned_58 : decode cX8_banned 58 = .ok (.getfield 189, 3) := by decide +kernel
theorem dX8_banned_61 : decode cX8_banned 61 = .ok (.getfield 198, 3) := by decide +kernel
theorem dX8_banned_64 : decode cX8_banned 64 = .ok (.aload 4, 2) := by decide +kernel
theorem dX8_banned_66 : decode cX8_banned 66 = .ok (.getfield 66, 3) := by decide +kernel
theorem dX8_banned_69 : decode cX8_banned 69 = .ok (.invokevirtual 202, 3) := by decide +kernel
theorem dX8_banned_72 : decode cX8_banned 72 = .ok (.ireturn, 1) := by decide +kernel
set_option maxRecDepth 20000 in
theorem ggX8_ofVisa_X8_visaAt : GoodIn wsX8_ofVisa wsX8_visaAt := goodIn_ca (goodIn_r _ [10, 11, 12, 13, 14, 15, 16, 17, 18, 19, 20, 21, 22, 23, 24, 25, 26, 27, 28, 29, 30, 31, 32, 33, 34, 35, 36, 37, 46, 47, 48, 49, 50, 51, 52, 53, 54, 55] (by decide +kernel) (by decide +kernel)) (goodIn_sub (fun _ h => List.mem_cons_of_mem _ (List.mem_append_right _ h)) (by decide +kernel))
set_option maxRecDepth 20000 in
theorem gX8_ofVisa_X8_visaAt : GoodIn wsX8_ofVisa (wsV RX8 333 RX8 yX8_visaAt wsX8_visaAt) := goodIn_app (goodIn_of _ (by decide +kernel)) ggX8_ofVisa_X8_visaAt
theorem dX8_ofVisa_0 : decode cX8_ofVisa 0 = .ok (.aload_n 0, 1) := by decide +kernel
theorem dX8_ofVisa_1 : decode cX8_ofVisa 1 = .ok (.iload_n 1, 1) := by decide +kernel
theorem dX8_ofVisa_2 : decode cX8_ofVisa 2 = .ok (.invokevirtual 333, 3) := by decide +kernel
theorem dX8_ofVisa_5 : decode cX8_ofVisa 5 = .ok (.astore_n 3, 1) := by decide +kernel
theorem dX8_ofVisa_6 : decode cX8_ofVisa 6 = .ok (.iload_n 2, 1) := by decide +kernel
theorem dX8_ofVisa_7 : decode cX8_ofVisa 7 = .ok (.tableswitch 40 0 2 #[25, 30, 35], 25) := by decide +kernel
theorem dX8_ofVisa_32 : decode cX8_ofVisa 32 = .ok (.aload_n 3, 1) := by decide +kernel
theorem dX8_ofVisa_33 : decode cX8_ofVisa 33 = .ok (.getfield 138, 3) := by decide +kernel
theorem dX8_ofVisa_36 : decode cX8_ofVisa 36 = .ok (.ireturn, 1) := by decide +kernel
theorem dX8_ofVisa_37 : decode cX8_ofVisa 37 = .ok (.aload_n 3, 1) := by decide +kernel
theorem dX8_ofVisa_38 : decode cX8_ofVisa 38 = .ok (.getfield 141, 3) := by decide +kernel
theorem dX8_ofVisa_41 : decode cX8_ofVisa 41 = .ok (.ireturn, 1) := by decide +kernel
theorem dX8_ofVisa_42 : decode cX8_ofVisa 42 = .ok (.aload_n 3, 1) := by decide +kernel
theorem dX8_ofVisa_43 : decode cX8_ofVisa 43 = .ok (.getfield 337, 3) := by decide +kernel
theorem dX8_ofVisa_46 : decode cX8_ofVisa 46 = .ok (.ireturn, 1) := by decide +kernel
theorem dX8_ofVisa_47 : decode cX8_ofVisa 47 = .ok (.new 41, 3) := by decide +kernel
theorem dX8_ofVisa_50 : decode cX8_ofVisa 50 = .ok (.dup, 1) := by decide +kernel
theorem dX8_ofVisa_51 : decode cX8_ofVisa 51 = .ok (.ldc_w 317, 3) := by decide +kernel
theorem dX8_ofVisa_54 : decode cX8_ofVisa 54 = .ok (.invokespecial 45, 3) := by decide +kernel
theorem dX8_ofVisa_57 : decode cX8_ofVisa 57 = .ok (.athrow, 1) := by decide +kernel
set_option maxRecDepth 20000 in
theorem ggX8_ofRequest_X8_requestAt : GoodIn wsX8_ofRequest wsX8_requestAt := goodIn_ca (goodIn_r _ [9, 10, 11, 12, 13, 14, 15, 16, 17, 18, 19, 20, 21, 22, 23, 24, 25, 26, 27, 28, 29, 30, 31, 32, 33, 34, 35, 36, 72, 73, 74, 75, 76, 77, 78, 79, 80, 81] (by decide +kernel) (by decide +kernel)) (goodIn_sub (fun _ h => List.mem_cons_of_mem _ (List.mem_append_right _ h)) (by decide +kernel))
set_option maxRecDepth 20000 in
theorem gX8_ofRequest_X8_requestAt : GoodIn wsX8_ofRequest (wsV RX8 244 RX8 yX8_requestAt wsX8_requestAt) := goodIn_app (goodIn_of _ (by decide +kernel)) ggX8_ofRequest_X8_requestAt
set_option maxRecDepth 20000 in
theorem ggX8_ofRequest_X4_countFollowers : GoodIn wsX8_ofRequest wsX4_countFollowers := goodIn_r _ [41, 42, 43, 44, 45, 46, 47, 48, 49, 64, 65, 66, 67, 68, 69, 70, 71] (by decide +kernel) (by decide +kernel)
set_option maxRecDepth 20000 in
theorem gX8_ofRequest_X4_countFollowers : GoodIn wsX8_ofRequest (wsV RX8 261 RX4 yX4_countFollowers wsX4_countFollowers) := goodIn_app (goodIn_of _ (by decide +kernel)) ggX8_ofRequest_X4_countFollowers
set_option maxRecDepth 20000 in
theorem ggX8_ofRequest_X8_placeOf : GoodIn wsX8_ofRequest wsX8_placeOf := goodIn_r _ [53, 3, 54, 12, 13, 55, 56, 14, 15, 16, 17, 18, 19, 20, 21, 22, 23, 24, 25, 26, 27, 28, 29, 30, 31, 32, 33, 34, 35, 36, 57, 58, 59, 40, 60, 61, 62, 63, 64, 65, 66, 67, 68, 69, 70, 71, 72, 73, 74, 75, 76, 77, 78, 79, 80, 81] (by decide +kernel) (by decide +kernel)
set_option maxRecDepth 20000 in
theorem gX8_ofRequest_X8_placeOf : GoodIn wsX8_ofRequest (wsV RX8 338 RX8 yX8_placeOf wsX8_placeOf) := goodIn_app (goodIn_of _ (by decide +kernel)) ggX8_ofRequest_X8_placeOf
theorem dX8_ofRequest_0 : decode cX8_ofRequest 0 = .ok (.aload_n 0, 1) := by decide +kernel
theorem dX8_ofRequest_1 : decode cX8_ofRequest 1 = .ok (.iload_n 1, 1) := by decide +kernel
theorem dX8_ofRequest_2 : decode cX8_ofRequest 2 = .ok (.invokevirtual 244, 3) := by decide +kernel
theorem dX8_ofRequest_5 : decode cX8_ofRequest 5 = .ok (.astore_n 3, 1) := by decide +kernel
theorem dX8_ofRequest_6 : decode cX8_ofRequest 6 = .ok (.iload_n 2, 1) := by decide +kernel
theorem dX8_ofRequest_7 : decode cX8_ofRequest 7 = .ok (.tableswitch 50 0 3 #[29, 34, 39, 44], 29) := by decide +kernel
theorem dX8_ofRequest_36 : decode cX8_ofRequest 36 = .ok (.aload_n 3, 1) := by decide +kernel
theorem dX8_ofRequest_37 : decode cX8_ofRequest 37 = .ok (.getfield 248, 3) := by decide +kernel
theorem dX8_ofRequest_40 : decode cX8_ofRequest 40 = .ok (.ireturn, 1) := by decide +kernel
theorem dX8_ofRequest_41 : decode cX8_ofRequest 41 = .ok (.aload_n 3, 1) := by decide +kernel
theorem dX8_ofRequest_42 : decode cX8_ofRequest 42 = .ok (.getfield 276, 3) := by decide +kernel
theorem dX8_ofRequest_45 : decode cX8_ofRequest 45 = .ok (.ireturn, 1) := by decide +kernel
theorem dX8_ofRequest_46 : decode cX8_ofRequest 46 = .ok (.aload_n 3, 1) := by decide +kernel
theorem dX8_ofRequest_47 : decode cX8_ofRequest 47 = .ok (.invokevirtual 261, 3) := by decide +kernel
theorem dX8_ofRequest_50 : decode cX8_ofRequest 50 = .ok (.ireturn, 1) := by decide +kernel
theorem dX8_ofRequest_51 : decode cX8_ofRequest 51 = .ok (.aload_n 0, 1) := by decide +kernel
theorem dX8_ofRequest_52 : decode cX8_ofRequest 52 = .ok (.aload_n 3, 1) := by decide +kernel
theorem dX8_ofRequest_53 : decode cX8_ofRequest 53 = .ok (.invokevirtual 338, 3) := by decide +kernel
theorem dX8_ofRequest_56 : decode cX8_ofRequest 56 = .ok (.ireturn, 1) := by decide +kernel
theorem dX8_ofRequest_57 : decode cX8_ofRequest 57 = .ok (.new 41, 3) := by decide +kernel
theorem dX8_ofRequest_60 : decode cX8_ofRequest 60 = .ok (.dup, 1) := by decide +kernel
theorem dX8_ofRequest_61 : decode cX8_ofRequest 61 = .ok (.ldc_w 317, 3) := by decide +kernel
theorem dX8_ofRequest_64 : decode cX8_ofRequest 64 = .ok (.invokespecial 45, 3) := by decide +kernel
theorem dX8_ofRequest_67 : decode cX8_ofRequest 67 = .ok (.athrow, 1) := by decide +kernel
set_option maxRecDepth 20000 in
theorem ggX8_permit_X8_personAt : GoodIn wsX8_permit wsX8_personAt := goodIn_ca (goodIn_r _ [9, 10, 11, 12, 13, 14, 15, 16, 17, 18, 19, 20, 21, 22, 23, 24, 25, 26, 27, 28, 29, 30, 31, 32, 33, 34, 35, 36, 77, 78, 79, 80, 81, 82, 83, 86, 87, 88] (by decide +kernel) (by decide +kernel)) (goodIn_sub (fun _ h => List.mem_cons_of_mem _ (List.mem_append_right _ h)) (by decide +kernel))
set_option maxRecDepth 20000 in
theorem gX8_permit_X8_personAt : GoodIn wsX8_permit (wsV RX8 104 RX8 yX8_personAt wsX8_personAt) := goodIn_app (goodIn_of _ (by decide +kernel)) ggX8_permit_X8_personAt
set_option maxRecDepth 20000 in
theorem ggX8_permit_X8_landAt : GoodIn wsX8_permit wsX8_landAt := goodIn_ca (goodIn_r _ [40, 10, 11, 41, 42, 14, 15, 16, 17, 18, 19, 20, 21, 22, 23, 24, 25, 26, 27, 28, 29, 30, 31, 32, 33, 34, 35, 36, 77, 78, 79, 80, 81, 82, 83, 86, 87, 88] (by decide +kernel) (by decide +kernel)) (goodIn_sub (fun _ h => List.mem_cons_of_mem _ (List.mem_append_right _ h)) (by decide +kernel))
set_option maxRecDepth 20000 in
theorem gX8_permit_X8_landAt : GoodIn wsX8_permit (wsV RX8 69 RX8 yX8_landAt wsX8_landAt) := goodIn_app (goodIn_of _ (by decide +kernel)) ggX8_permit_X8_landAt
set_option maxRecDepth 20000 in
theorem ggX8_permit_X2_isValid : GoodIn wsX8_permit wsX2_isValid := goodIn_r _ [47, 48, 49, 50, 51, 52, 53, 54, 55, 84, 85, 89, 90] (by decide +kernel) (by decide +kernel)
set_option maxRecDepth 20000 in
theorem gX8_permit_X2_isValid : GoodIn wsX8_permit (wsV RX8 283 RX2 yX2_isValid wsX2_isValid) := goodIn_app (goodIn_of _ (by decide +kernel)) ggX8_permit_X2_isValid
set_option maxRecDepth 20000 in
theorem ggX8_permit_X5_at : GoodIn wsX8_permit wsX5_at := goodIn_r _ [53, 54, 55, 89, 90] (by decide +kernel) (by decide +kernel)
set_option maxRecDepth 20000 in
theorem gX8_permit_X5_at : GoodIn wsX8_permit (wsV RX8 202 RX5 yX5_at wsX5_at) := goodIn_app (goodIn_of _ (by decide +kernel)) ggX8_permit_X5_at
theorem dX8_permit_0 : decode cX8_permit 0 = .ok (.aload_n 0, 1) := by decide +kernel
theorem dX8_permit_1 : decode cX8_permit 1 = .ok (.iload_n 1, 1) := by decide +kernel
theorem dX8_permit_2 : decode cX8_permit 2 = .ok (.invokevirtual 104, 3) := by decide +kernel
theorem dX8_permit_5 : decode cX8_permit 5 = .ok (.astore_n 3, 1) := by decide +kernel
theorem dX8_permit_6 : decode cX8_permit 6 = .ok (.aload_n 0, 1) := by decide +kernel
theorem dX8_permit_7 : decode cX8_permit 7 = .ok (.iload_n 2, 1) := by decide +kernel
theorem dX8_permit_8 : decode cX8_permit 8 = .ok (.invokevirtual 69, 3) := by decide +kernel
theorem dX8_permit_11 : decode cX8_permit 11 = .ok (.astore 4, 2) := by decide +kernel
theorem dX8_permit_13 : decode cX8_permit 13 = .ok (.aload_n 3, 1) := by decide +kernel
theorem dX8_permit_14 : decode cX8_permit 14 = .ok (.getfield 279, 3) := by decide +kernel
theorem dX8_permit_17 : decode cX8_permit 17 = .ok (.aload 4, 2) := by decide +kernel
theorem dX8_permit_19 : decode cX8_permit 19 = .ok (.getfield 66, 3) := by decide +kernel
theorem dX8_permit_22 : decode cX8_permit 22 = .ok (.aload_n 0, 1) := by decide +kernel
theorem dX8_permit_23 : decode cX8_permit 23 = .ok (.getfield 37, 3) := by decide +kernel
theorem dX8_permit_26 : decode cX8_permit 26 = .ok (.invokevirtual 283, 3) := by decide +kernel
theorem dX8_permit_29 : decode cX8_permit 29 = .ok (.ifCond .eq 21, 3) := by decide +kernel
theorem dX8_permit_32 : decode cX8_permit 32 = .ok (.aload_n 3, 1) := by decide +kernel
theorem dX8_permit_33 : decode cX8_permit 33 = .ok (.getfield 279, 3) := by decide +kernel
theorem dX8_permit_36 : decode cX8_permit 36 = .ok (.getfield 296, 3) := by decide +kernel
theorem dX8_permit_39 : decode cX8_permit 39 = .ok (.aload 4, 2) := by decide +kernel
theorem dX8_permit_41 : decode cX8_permit 41 = .ok (.getfield 66, 3) := by decide +kernel
theorem dX8_permit_44 : decode cX8_permit 44 = .ok (.invokevirtual 202, 3) := by decide +kernel
theorem dX8_permit_47 : decode cX8_permit 47 = .ok (.goto 4, 3) := by decide +kernel
theorem dX8_permit_50 : decode cX8_permit 50 = .ok (.iconst (-1), 1) := by decide +kernel
theorem dX8_permit_51 : decode cX8_permit 51 = .ok (.ireturn, 1) := by decide +kernel
set_option maxRecDepth 20000 in
theorem ggX8_landAt_Jx4a65c_size_8abf5 : GoodIn wsX8_landAt wsJx4a65c_size_8abf5 := goodIn_r _ [9, 10, 35, 36, 37] (by decide +kernel) (by decide +kernel)
set_option maxRecDepth 20000 in
theorem gX8_landAt_Jx4a65c_size_8abf5 : GoodIn wsX8_landAt (wsV RX8 48 RJx4a65c yJx4a65c_size_8abf5 wsJx4a65c_size_8abf5) := goodIn_app (goodIn_of _ (by decide +kernel)) ggX8_landAt_Jx4a65c_size_8abf5
set_option maxRecDepth 20000 in
theorem ggX8_landAt_Jx4a65c_get_915e3 : GoodIn wsX8_landAt wsJx4a65c_get_915e3 := goodIn_r _ [14, 10, 15, 16, 17, 18, 19, 20, 21, 22, 23, 24, 25, 8, 26, 27, 35, 36, 37] (by decide +kernel) (by decide +kernel)
set_option maxRecDepth 20000 in
theorem gX8_landAt_Jx4a65c_get_915e3 : GoodIn wsX8_landAt (wsV RX8 347 RJx4a65c yJx4a65c_get_915e3 wsJx4a65c_get_915e3) := goodIn_app (goodIn_of _ (by decide +kernel)) ggX8_landAt_Jx4a65c_get_915e3
theorem dX8_landAt_0 : decode cX8_landAt 0 = .ok (.iload_n 1, 1) := by decide +kernel
theorem dX8_landAt_1 : decode cX8_landAt 1 = .ok (.ifCond .lt 14, 3) := by decide +kernel
theorem dX8_landAt_4 : decode cX8_landAt 4 = .ok (.iload_n 1, 1) := by decide +kernel
theorem dX8_landAt_5 : decode cX8_landAt 5 = .ok (.aload_n 0, 1) := by decide +kernel
theorem dX8_landAt_6 : decode cX8_landAt 6 = .ok (.getfield 12, 3) := by decide +kernel
theorem dX8_landAt_9 : decode cX8_landAt 9 = .ok (.invokevirtual 48, 3) := by decide +kernel
theorem dX8_landAt_12 : decode cX8_landAt 12 = .ok (.if_icmp .lt 14, 3) := by decide +kernel
theorem dX8_landAt_15 : decode cX8_landAt 15 = .ok (.new 342, 3) := by decide +kernel
theorem dX8_landAt_18 : decode cX8_landAt 18 = .ok (.dup, 1) := by decide +kernel
theorem dX8_landAt_19 : decode cX8_landAt 19 = .ok (.ldc_w 344, 3) := by decide +kernel
theorem dX8_landAt_22 : decode cX8_landAt 22 = .ok (.invokespecial 346, 3) := by decide +kernel
theorem dX8_landAt_25 : decode cX8_landAt 25 = .ok (.athrow, 1) := by decide +kernel
theorem dX8_landAt_26 : decode cX8_landAt 26 = .ok (.aload_n 0, 1) := by decide +kernel
theorem dX8_landAt_27 : decode cX8_landAt 27 = .ok (.getfield 12, 3) := by decide +kernel
theorem dX8_landAt_30 : decode cX8_landAt 30 = .ok (.iload_n 1, 1) := by decide +kernel
theorem dX8_landAt_31 : decode cX8_landAt 31 = .ok (.invokevirtual 347, 3) := by decide +kernel
theorem dX8_landAt_34 : decode cX8_landAt 34 = .ok (.checkcast 57, 3) := by decide +kernel
theorem dX8_landAt_37 : decode cX8_landAt 37 = .ok (.areturn, 1) := by decide +kernel
set_option maxRecDepth 20000 in
theorem ggX8_personAt_Jx4a65c_size_8abf5 : GoodIn wsX8_personAt wsJx4a65c_size_8abf5 := goodIn_r _ [9, 10, 35, 36, 37] (by decide +kernel) (by decide +kernel)
set_option maxRecDepth 20000 in
theorem gX8_personAt_Jx4a65c_size_8abf5 : GoodIn wsX8_personAt (wsV RX8 48 RJx4a65c yJx4a65c_size_8abf5 wsJx4a65c_size_8abf5) := goodIn_app (goodIn_of _ (by decide +kernel)) ggX8_personAt_Jx4a65c_size_8abf5
set_option maxRecDepth 20000 in
theorem ggX8_personAt_Jx4a65c_get_915e3 : GoodIn wsX8_personAt wsJx4a65c_get_915e3 := goodIn_r _ [14, 10, 15, 16, 17, 18, 19, 20, 21, 22, 23, 24, 25, 8, 26, 27, 35, 36, 37] (by decide +kernel) (by decide +kernel)
set_option maxRecDepth 20000 in
theorem gX8_personAt_Jx4a65c_get_915e3 : GoodIn wsX8_personAt (wsV RX8 347 RJx4a65c yJx4a65c_get_915e3 wsJx4a65c_get_915e3) := goodIn_app (goodIn_of _ (by decide +kernel)) ggX8_personAt_Jx4a65c_get_915e3
theorem dX8_personAt_0 : decode cX8_personAt 0 = .ok (.iload_n 1, 1) := by decide +kernel
theorem dX8_personAt_1 : decode cX8_personAt 1 = .ok (.ifCond .lt 14, 3) := by decide +kernel
theorem dX8_personAt_4 : decode cX8_personAt 4 = .ok (.iload_n 1, 1) := by decide +kernel
theorem dX8_personAt_5 : decode cX8_personAt 5 = .ok (.aload_n 0, 1) := by decide +kernel
theorem dX8_personAt_6 : decode cX8_personAt 6 = .ok (.getfield 16, 3) := by decide +kernel
theorem dX8_personAt_9 : decode cX8_personAt 9 = .ok (.invokevirtual 48, 3) := by decide +kernel
theorem dX8_personAt_12 : decode cX8_personAt 12 = .ok (.if_icmp .lt 14, 3) := by decide +kernel
theorem dX8_personAt_15 : decode cX8_personAt 15 = .ok (.new 342, 3) := by decide +kernel
theorem dX8_personAt_18 : decode cX8_personAt 18 = .ok (.dup, 1) := by decide +kernel
theorem dX8_personAt_19 : decode cX8_personAt 19 = .ok (.ldc_w 351, 3) := by decide +kernel
theorem dX8_personAt_22 : decode cX8_personAt 22 = .ok (.invokespecial 346, 3) := by decide +kernel
theorem dX8_personAt_25 : decode cX8_personAt 25 = .ok (.athrow, 1) := by decide +kernel
theorem dX8_personAt_26 : decode cX8_personAt 26 = .ok (.aload_n 0, 1) := by decide +kernel
theorem dX8_personAt_27 : decode cX8_personAt 27 = .ok (.getfield 16, 3) := by decide +kernel
theorem dX8_personAt_30 : decode cX8_personAt 30 = .ok (.iload_n 1, 1) := by decide +kernel
theorem dX8_personAt_31 : decode cX8_personAt 31 = .ok (.invokevirtual 347, 3) := by decide +kernel
theorem dX8_personAt_34 : decode cX8_personAt 34 = .ok (.checkcast 102, 3) := by decide +kernel
theorem dX8_personAt_37 : decode cX8_personAt 37 = .ok (.areturn, 1) := by decide +kernel
set_option maxRecDepth 20000 in
theorem ggX8_visaAt_Jx4a65c_size_8abf5 : GoodIn wsX8_visaAt wsJx4a65c_size_8abf5 := goodIn_r _ [9, 10, 35, 36, 37] (by decide +kernel) (by decide +kernel)
set_option maxRecDepth 20000 in
theorem gX8_visaAt_Jx4a65c_size_8abf5 : GoodIn wsX8_visaAt (wsV RX8 48 RJx4a65c yJx4a65c_size_8abf5 wsJx4a65c_size_8abf5) := goodIn_app (goodIn_of _ (by decide +kernel)) ggX8_visaAt_Jx4a65c_size_8abf5
set_option maxRecDepth 20000 in
theorem ggX8_visaAt_Jx4a65c_get_915e3 : GoodIn wsX8_visaAt wsJx4a65c_get_915e3 := goodIn_r _ [14, 10, 15, 16, 17, 18, 19, 20, 21, 22, 23, 24, 25, 8, 26, 27, 35, 36, 37] (by decide +kernel) (by decide +kernel)
set_option maxRecDepth 20000 in
theorem gX8_visaAt_Jx4a65c_get_915e3 : GoodIn wsX8_visaAt (wsV RX8 347 RJx4a65c yJx4a65c_get_915e3 wsJx4a65c_get_915e3) := goodIn_app (goodIn_of _ (by decide +kernel)) ggX8_visaAt_Jx4a65c_get_915e3
theorem dX8_visaAt_0 : decode cX8_visaAt 0 = .ok (.iload_n 1, 1) := by decide +kernel
theorem dX8_visaAt_1 : decode cX8_visaAt 1 = .ok (.ifCond .lt 14, 3) := by decide +kernel
theorem dX8_visaAt_4 : decode cX8_visaAt 4 = .ok (.iload_n 1, 1) := by decide +kernel
theorem dX8_visaAt_5 : decode cX8_visaAt 5 = .ok (.aload_n 0, 1) := by decide +kernel
theorem dX8_visaAt_6 : decode cX8_visaAt 6 = .ok (.getfield 19, 3) := by decide +kernel
theorem dX8_visaAt_9 : decode cX8_visaAt 9 = .ok (.invokevirtual 48, 3) := by decide +kernel
theorem dX8_visaAt_12 : decode cX8_visaAt 12 = .ok (.if_icmp .lt 14, 3) := by decide +kernel
theorem dX8_visaAt_15 : decode cX8_visaAt 15 = .ok (.new 342, 3) := by decide +kernel
theorem dX8_visaAt_18 : decode cX8_visaAt 18 = .ok (.dup, 1) := by decide +kernel
theorem dX8_visaAt_19 : decode cX8_visaAt 19 = .ok (.ldc_w 353, 3) := by decide +kernel
theorem dX8_visaAt_22 : decode cX8_visaAt 22 = .ok (.invokespecial 346, 3) := by decide +kernel
theorem dX8_visaAt_25 : decode cX8_visaAt 25 = .ok (.athrow, 1) := by decide +kernel
theorem dX8_visaAt_26 : decode cX8_visaAt 26 = .ok (.aload_n 0, 1) := by decide +kernel
theorem dX8_visaAt_27 : decode cX8_visaAt 27 = .ok (.getfield 19, 3) := by decide +kernel
theorem dX8_visaAt_30 : decode cX8_visaAt 30 = .ok (.iload_n 1, 1) := by decide +kernel
theorem dX8_visaAt_31 : decode cX8_visaAt 31 = .ok (.invokevirtual 347, 3) := by decide +kernel
theorem dX8_visaAt_34 : decode cX8_visaAt 34 = .ok (.checkcast 133, 3) := by decide +kernel
theorem dX8_visaAt_37 : decode cX8_visaAt 37 = .ok (.areturn, 1) := by decide +kernel
set_option maxRecDepth 20000 in
theorem ggX8_requestAt_Jx4a65c_size_8abf5 : GoodIn wsX8_requestAt wsJx4a65c_size_8abf5 := goodIn_r _ [9, 10, 35, 36, 37] (by decide +kernel) (by decide +kernel)
set_option maxRecDepth 20000 in
theorem gX8_requestAt_Jx4a65c_size_8abf5 : GoodIn wsX8_requestAt (wsV RX8 48 RJx4a65c yJx4a65c_size_8abf5 wsJx4a65c_size_8abf5) := goodIn_app (goodIn_of _ (by decide +kernel)) ggX8_requestAt_Jx4a65c_size_8abf5
set_option maxRecDepth 20000 in
theorem ggX8_requestAt_Jx4a65c_get_915e3 : GoodIn wsX8_requestAt wsJx4a65c_get_915e3 := goodIn_r _ [14, 10, 15, 16, 17, 18, 19, 20, 21, 22, 23, 24, 25, 8, 26, 27, 35, 36, 37] (by decide +kernel) (by decide +kernel)
set_option maxRecDepth 20000 in
theorem gX8_requestAt_Jx4a65c_get_915e3 : GoodIn wsX8_requestAt (wsV RX8 347 RJx4a65c yJx4a65c_get_915e3 wsJx4a65c_get_915e3) := goodIn_app (goodIn_of _ (by decide +kernel)) ggX8_requestAt_Jx4a65c_get_915e3
theorem dX8_requestAt_0 : decode cX8_requestAt 0 = .ok (.iload_n 1, 1) := by decide +kernel
theorem dX8_requestAt_1 : decode cX8_requestAt 1 = .ok (.ifCond .lt 14, 3) := by decide +kernel
theorem dX8_requestAt_4 : decode cX8_requestAt 4 = .ok (.iload_n 1, 1) := by decide +kernel
theorem dX8_requestAt_5 : decode cX8_requestAt 5 = .ok (.aload_n 0, 1) := by decide +kernel
theorem dX8_requestAt_6 : decode cX8_requestAt 6 = .ok (.getfield 22, 3) := by decide +kernel
theorem dX8_requestAt_9 : decode cX8_requestAt 9 = .ok (.invokevirtual 48, 3) := by decide +kernel
theorem dX8_requestAt_12 : decode cX8_requestAt 12 = .ok (.if_icmp .lt 14, 3) := by decide +kernel
theorem dX8_requestAt_15 : decode cX8_requestAt 15 = .ok (.new 342, 3) := by decide +kernel
theorem dX8_requestAt_18 : decode cX8_requestAt 18 = .ok (.dup, 1) := by decide +kernel
theorem dX8_requestAt_19 : decode cX8_requestAt 19 = .ok (.ldc_w 355, 3) := by decide +kernel
theorem dX8_requestAt_22 : decode cX8_requestAt 22 = .ok (.invokespecial 346, 3) := by decide +kernel
theorem dX8_requestAt_25 : decode cX8_requestAt 25 = .ok (.athrow, 1) := by decide +kernel
theorem dX8_requestAt_26 : decode cX8_requestAt 26 = .ok (.aload_n 0, 1) := by decide +kernel
theorem dX8_requestAt_27 : decode cX8_requestAt 27 = .ok (.getfield 22, 3) := by decide +kernel
theorem dX8_requestAt_30 : decode cX8_requestAt 30 = .ok (.iload_n 1, 1) := by decide +kernel
theorem dX8_requestAt_31 : decode cX8_requestAt 31 = .ok (.invokevirtual 347, 3) := by decide +kernel
theorem dX8_requestAt_34 : decode cX8_requestAt 34 = .ok (.checkcast 238, 3) := by decide +kernel
theorem dX8_requestAt_37 : decode cX8_requestAt 37 = .ok (.areturn, 1) := by decide +kernel
set_option maxRecDepth 20000 in
theorem ggX8_refuseMorePersons_Jx4a65c_size_8abf5 : GoodIn wsX8_refuseMorePersons wsJx4a65c_size_8abf5 := goodIn_r _ [8, 9, 17, 18, 19] (by decide +kernel) (by decide +kernel)
set_option maxRecDepth 20000 in
theorem gX8_refuseMorePersons_Jx4a65c_size_8abf5 : GoodIn wsX8_refuseMorePersons (wsV RX8 48 RJx4a65c yJx4a65c_size_8abf5 wsJx4a65c_size_8abf5) := goodIn_app (goodIn_of _ (by decide +kernel)) ggX8_refuseMorePersons_Jx4a65c_size_8abf5
theorem dX8_refuseMorePersons_0 : decode cX8_refuseMorePersons 0 = .ok (.aload_n 0, 1) := by decide +kernel
theorem dX8_refuseMorePersons_1 : decode cX8_refuseMorePersons 1 = .ok (.getfield 16, 3) := by decide +kernel
theorem dX8_refuseMorePersons_4 : decode cX8_refuseMorePersons 4 = .ok (.invokevirtual 48, 3) := by decide +kernel
theorem dX8_refuseMorePersons_7 : decode cX8_refuseMorePersons 7 = .ok (.bipush 16, 2) := by decide +kernel
theorem dX8_refuseMorePersons_9 : decode cX8_refuseMorePersons 9 = .ok (.if_icmp .lt 14, 3) := by decide +kernel
theorem dX8_refuseMorePersons_12 : decode cX8_refuseMorePersons 12 = .ok (.new 52, 3) := by decide +kernel
theorem dX8_refuseMorePersons_15 : decode cX8_refuseMorePersons 15 = .ok (.dup, 1) := by decide +kernel
theorem dX8_refuseMorePersons_16 : decode cX8_refuseMorePersons 16 = .ok (.ldc_w 357, 3) := by decide +kernel
theorem dX8_refuseMorePersons_19 : decode cX8_refuseMorePersons 19 = .ok (.invokespecial 56, 3) := by decide +kernel
theorem dX8_refuseMorePersons_22 : decode cX8_refuseMorePersons 22 = .ok (.athrow, 1) := by decide +kernel
theorem dX8_refuseMorePersons_23 : decode cX8_refuseMorePersons 23 = .ok (.return_, 1) := by decide +kernel
theorem dX8_refuseOneInALand_0 : decode cX8_refuseOneInALand 0 = .ok (.aload_n 1, 1) := by decide +kernel
theorem dX8_refuseOneInALand_1 : decode cX8_refuseOneInALand 1 = .ok (.getfield 110, 3) := by decide +kernel
theorem dX8_refuseOneInALand_4 : decode cX8_refuseOneInALand 4 = .ok (.ifnull 14, 3) := by decide +kernel
theorem dX8_refuseOneInALand_7 : decode cX8_refuseOneInALand 7 = .ok (.new 52, 3) := by decide +kernel
theorem dX8_refuseOneInALand_10 : decode cX8_refuseOneInALand 10 = .ok (.dup, 1) := by decide +kernel
theorem dX8_refuseOneInALand_11 : decode cX8_refuseOneInALand 11 = .ok (.ldc_w 359, 3) := by decide +kernel
theorem dX8_refuseOneInALand_14 : decode cX8_refuseOneInALand 14 = .ok (.invokespecial 56, 3) := by decide +kernel
theorem dX8_refuseOneInALand_17 : decode cX8_refuseOneInALand 17 = .ok (.athrow, 1) := by decide +kernel
theorem dX8_refuseOneInALand_18 : decode cX8_refuseOneInALand 18 = .ok (.return_, 1) := by decide +kernel
theorem dX8_refuseUnless_0 : decode cX8_refuseUnless 0 = .ok (.iload_n 1, 1) := by decide +kernel
theorem dX8_refuseUnless_1 : decode cX8_refuseUnless 1 = .ok (.ifCond .ne 14, 3) := by decide +kernel
theorem dX8_refuseUnless_4 : decode cX8_refuseUnless 4 = .ok (.new 52, 3) := by decide +kernel
theorem dX8_refuseUnless_7 : decode cX8_refuseUnless 7 = .ok (.dup, 1) := by decide +kernel
theorem dX8_refuseUnless_8 : decode cX8_refuseUnless 8 = .ok (.ldc_w 361, 3) := by decide +kernel
theorem dX8_refuseUnless_11 : decode cX8_refuseUnless 11 = .ok (.invokespecial 56, 3) := by decide +kernel
theorem dX8_refuseUnless_14 : decode cX8_refuseUnless 14 = .ok (.athrow, 1) := by decide +kernel
theorem dX8_refuseUnless_15 : decode cX8_refuseUnless 15 = .ok (.return_, 1) := by decide +kernel
set_option maxRecDepth 20000 in
theorem ggX8_addPerson_Jx4a65c_size_8abf5 : GoodIn wsX8_addPerson wsJx4a65c_size_8abf5 := goodIn_r _ [10, 11, 134, 135, 136] (by decide +kernel) (by decide +kernel)
set_option maxRecDepth 20000 in
theorem gX8_addPerson_Jx4a65c_size_8abf5 : GoodIn wsX8_addPerson (wsV RX8 48 RJx4a65c yJx4a65c_size_8abf5 wsJx4a65c_size_8abf5) := goodIn_app (goodIn_of _ (by decide +kernel)) ggX8_addPerson_Jx4a65c_size_8abf5
set_option maxRecDepth 20000 in
theorem ggX8_addPerson_X3_init : GoodIn wsX8_addPerson wsX3_init := goodIn_r _ [14, 15, 16, 17, 18, 19, 20, 21, 22, 23, 24, 25, 26, 27, 28, 29, 30, 31, 32, 33, 34, 35, 36, 37, 38, 39, 40, 41, 42, 43, 44, 45, 46, 47, 48, 49, 50, 51, 52, 53, 54, 55, 56, 57, 58, 59, 60, 137, 138, 114, 115, 116, 117, 118, 119, 120, 121, 122, 123, 124, 125, 126, 139, 140, 141, 142, 143] (by decide +kernel) (by decide +kernel)
set_option maxRecDepth 20000 in
theorem gX8_addPerson_X3_init : GoodIn wsX8_addPerson (wsX3_init) := ggX8_addPerson_X3_init
set_option maxRecDepth 20000 in
theorem ggX8_addPerson_Jx4a65c_add_9ea2d : GoodIn wsX8_addPerson wsJx4a65c_add_9ea2d := goodIn_r _ [64, 65, 66, 67, 11, 68, 69, 70, 9, 71, 72, 73, 74, 75, 76, 77, 78, 79, 80, 81, 82, 83, 84, 85, 86, 87, 88, 89, 90, 91, 92, 93, 94, 95, 96, 44, 97, 98, 99, 100, 101, 102, 103, 104, 105, 106, 107, 108, 109, 110, 111, 112, 113, 134, 135, 136] (by decide +kernel) (by decide +kernel)
set_option maxRecDepth 20000 in
theorem gX8_addPerson_Jx4a65c_add_9ea2d : GoodIn wsX8_addPerson (wsV RX8 62 RJx4a65c yJx4a65c_add_9ea2d wsJx4a65c_add_9ea2d) := goodIn_app (goodIn_of _ (by decide +kernel)) ggX8_addPerson_Jx4a65c_add_9ea2d
theorem dX8_addPerson_0 : decode cX8_addPerson 0 = .ok (.new 102, 3) := by decide +kernel
theorem dX8_addPerson_3 : decode cX8_addPerson 3 = .ok (.dup, 1) := by decide +kernel
theorem dX8_addPerson_4 : decode cX8_addPerson 4 = .ok (.aload_n 0, 1) := by decide +kernel
theorem dX8_addPerson_5 : decode cX8_addPerson 5 = .ok (.getfield 16, 3) := by decide +kernel
theorem dX8_addPerson_8 : decode cX8_addPerson 8 = .ok (.invokevirtual 48, 3) := by decide +kernel
theorem dX8_addPerson_11 : decode cX8_addPerson 11 = .ok (.iload_n 1, 1) := by decide +kernel
theorem dX8_addPerson_12 : decode cX8_addPerson 12 = .ok (.iload_n 3, 1) := by decide +kernel
theorem dX8_addPerson_13 : decode cX8_addPerson 13 = .ok (.iload 4, 2) := by decide +kernel
theorem dX8_addPerson_15 : decode cX8_addPerson 15 = .ok (.invokespecial 363, 3) := by decide +kernel
theorem dX8_addPerson_18 : decode cX8_addPerson 18 = .ok (.astore 5, 2) := by decide +kernel
theorem dX8_addPerson_20 : decode cX8_addPerson 20 = .ok (.aload 5, 2) := by decide +kernel
theorem dX8_addPerson_22 : decode cX8_addPerson 22 = .ok (.iload_n 2, 1) := by decide +kernel
theorem dX8_addPerson_23 : decode cX8_addPerson 23 = .ok (.putfield 124, 3) := by decide +kernel
theorem dX8_addPerson_26 : decode cX8_addPerson 26 = .ok (.aload_n 0, 1) := by decide +kernel
theorem dX8_addPerson_27 : decode cX8_addPerson 27 = .ok (.getfield 16, 3) := by decide +kernel
theorem dX8_addPerson_30 : decode cX8_addPerson 30 = .ok (.aload 5, 2) := by decide +kernel
theorem dX8_addPerson_32 : decode cX8_addPerson 32 = .ok (.invokevirtual 62, 3) := by decide +kernel
theorem dX8_addPerson_35 : decode cX8_addPerson 35 = .ok (.pop, 1) := by decide +kernel
theorem dX8_addPerson_36 : decode cX8_addPerson 36 = .ok (.aload 5, 2) := by decide +kernel
theorem dX8_addPerson_38 : decode cX8_addPerson 38 = .ok (.areturn, 1) := by decide +kernel
set_option maxRecDepth 20000 in
theorem ggX8_nationsAtBirth_Jx4a65c_size_8abf5 : GoodIn wsX8_nationsAtBirth wsJx4a65c_size_8abf5 := goodIn_r _ [10, 11, 90, 91, 92] (by decide +kernel) (by decide +kernel)
set_option maxRecDepth 20000 in
theorem gX8_nationsAtBirth_Jx4a65c_size_8abf5 : GoodIn wsX8_nationsAtBirth (wsV RX8 48 RJx4a65c yJx4a65c_size_8abf5 wsJx4a65c_size_8abf5) := goodIn_app (goodIn_of _ (by decide +kernel)) ggX8_nationsAtBirth_Jx4a65c_size_8abf5
set_option maxRecDepth 20000 in
theorem ggX8_nationsAtBirth_Jx4a65c_get_915e3 : GoodIn wsX8_nationsAtBirth wsJx4a65c_get_915e3 := goodIn_r _ [15, 11, 16, 17, 18, 19, 20, 21, 22, 23, 24, 25, 26, 9, 27, 28, 90, 91, 92] (by decide +kernel) (by decide +kernel)
set_option maxRecDepth 20000 in
theorem gX8_nationsAtBirth_Jx4a65c_get_915e3 : GoodIn wsX8_nationsAtBirth (wsV RX8 347 RJx4a65c yJx4a65c_get_915e3 wsJx4a65c_get_915e3) := goodIn_app (goodIn_of _ (by decide +kernel)) ggX8_nationsAtBirth_Jx4a65c_get_915e3
set_option maxRecDepth 20000 in
theorem ggX8_nationsAtBirth_X1_bit : GoodIn wsX8_nationsAtBirth wsX1_bit := goodIn_r _ [33, 34, 83, 84, 85, 86, 87, 88, 89] (by decide +kernel) (by decide +kernel)
set_option maxRecDepth 20000 in
theorem gX8_nationsAtBirth_X1_bit : GoodIn wsX8_nationsAtBirth (wsV RX8 75 RX1 yX1_bit wsX1_bit) := goodIn_app (goodIn_of _ (by decide +kernel)) ggX8_nationsAtBirth_X1_bit
set_option maxRecDepth 20000 in
theorem ggX8_nationsAtBirth_X8_isRootedIn : GoodIn wsX8_nationsAtBirth wsX8_isRootedIn := goodIn_r _ [39, 40, 41, 42, 43, 44, 45, 46, 47, 48, 49, 30, 31, 32, 33, 34, 50, 51, 52, 53, 54, 55, 56, 57, 58, 59, 60, 61, 62, 63, 64, 65, 66, 67, 68, 69, 70, 71, 72, 73, 74, 75, 83, 84, 85, 86, 87, 88, 89, 76, 77, 78, 79, 80, 81, 82, 93, 94, 95, 96] (by decide +kernel) (by decide +kernel)
set_option maxRecDepth 20000 in
theorem gX8_nationsAtBirth_X8_isRootedIn : GoodIn wsX8_nationsAtBirth (wsV RX8 371 RX8 yX8_isRootedIn wsX8_isRootedIn) := goodIn_app (goodIn_of _ (by decide +kernel)) ggX8_nationsAtBirth_X8_isRootedIn
theorem dX8_nationsAtBirth_0 : decode cX8_nationsAtBirth 0 = .ok (.aload_n 2, 1) := by decide +kernel
theorem dX8_nationsAtBirth_1 : decode cX8_nationsAtBirth 1 = .ok (.ifnonnull 10, 3) := by decide +kernel
theorem dX8_nationsAtBirth_4 : decode cX8_nationsAtBirth 4 = .ok (.aload_n 1, 1) := by decide +kernel
theorem dX8_nationsAtBirth_5 : decode cX8_nationsAtBirth 5 = .ok (.getfield 124, 3) := by decide +kernel
theorem dX8_nationsAtBirth_8 : decode cX8_nationsAtBirth 8 = .ok (.goto 12, 3) := by decide +kernel
theorem dX8_nationsAtBirth_11 : decode cX8_nationsAtBirth 11 = .ok (.aload_n 1, 1) := by decide +kernel
theorem dX8_nationsAtBirth_12 : decode cX8_nationsAtBirth 12 = .ok (.getfield 124, 3) := by decide +kernel
theorem dX8_nationsAtBirth_15 : decode cX8_nationsAtBirth 15 = .ok (.aload_n 2, 1) := by decide +kernel
theorem dX8_nationsAtBirth_16 : decode cX8_nationsAtBirth 16 = .ok (.getfield 124, 3) := by decide +kernel
theorem dX8_nationsAtBirth_19 : decode cX8_nationsAtBirth 19 = .ok (.ior, 1) := by decide +kernel
theorem dX8_nationsAtBirth_20 : decode cX8_nationsAtBirth 20 = .ok (.istore 4, 2) := by decide +kernel
theorem dX8_nationsAtBirth_22 : decode cX8_nationsAtBirth 22 = .ok (.iconst 0, 1) := by decide +kernel
theorem dX8_nationsAtBirth_23 : decode cX8_nationsAtBirth 23 = .ok (.istore 5, 2) := by decide +kernel
theorem dX8_nationsAtBirth_25 : decode cX8_nationsAtBirth 25 = .ok (.iconst 0, 1) := by decide +kernel
theorem dX8_nationsAtBirth_26 : decode cX8_nationsAtBirth 26 = .ok (.istore 6, 2) := by decide +kernel
theorem dX8_nationsAtBirth_28 : decode cX8_nationsAtBirth 28 = .ok (.iload 6, 2) := by decide +kernel
theorem dX8_nationsAtBirth_30 : decode cX8_nationsAtBirth 30 = .ok (.aload_n 0, 1) := by decide +kernel
theorem dX8_nationsAtBirth_31 : decode cX8_nationsAtBirth 31 = .ok (.getfield 12, 3) := by decide +kernel
theorem dX8_nationsAtBirth_34 : decode cX8_nationsAtBirth 34 = .ok (.invokevirtual 48, 3) := by decide +kernel
theorem dX8_nationsAtBirth_37 : decode cX8_nationsAtBirth 37 = .ok (.if_icmp .ge 44, 3) := by decide +kernel
theorem dX8_nationsAtBirth_40 : decode cX8_nationsAtBirth 40 = .ok (.aload_n 0, 1) := by decide +kernel
theorem dX8_nationsAtBirth_41 : decode cX8_nationsAtBirth 41 = .ok (.getfield 12, 3) := by decide +kernel
theorem dX8_nationsAtBirth_44 : decode cX8_nationsAtBirth 44 = .ok (.iload 6, 2) := by decide +kernel
theorem dX8_nationsAtBirth_46 : decode cX8_nationsAtBirth 46 = .ok (.invokevirtual 347, 3) := by decide +kernel
theorem dX8_nationsAtBirth_49 : decode cX8_nationsAtBirth 49 = .ok (.checkcast 57, 3) := by decide +kernel
theorem dX8_nationsAtBirth_52 : decode cX8_nationsAtBirth 52 = .ok (.astore 7, 2) := by decide +kernel
theorem dX8_nationsAtBirth_54 : decode cX8_nationsAtBirth 54 = .ok (.aload 7, 2) := by decide +kernel
theorem dX8_nationsAtBirth_56 : decode cX8_nationsAtBirth 56 = .ok (.getfield 365, 3) := by decide +kernel
theorem dX8_nationsAtBirth_59 : decode cX8_nationsAtBirth 59 = .ok (.ifCond .eq 16, 3) := by decide +kernel
theorem dX8_nationsAtBirth_62 : decode cX8_nationsAtBirth 62 = .ok (.iload 5, 2) := by decide +kernel
theorem dX8_nationsAtBirth_64 : decode cX8_nationsAtBirth 64 = .ok (.iload 4, 2) := by decide +kernel
theorem dX8_nationsAtBirth_66 : decode cX8_nationsAtBirth 66 = .ok (.aload 7, 2) := by decide +kernel
theorem dX8_nationsAtBirth_68 : decode cX8_nationsAtBirth 68 = .ok (.invokevirtual 75, 3) := by decide +kernel
theorem dX8_nationsAtBirth_71 : decode cX8_nationsAtBirth 71 = .ok (.iand, 1) := by decide +kernel
theorem dX8_nationsAtBirth_72 : decode cX8_nationsAtBirth 72 = .ok (.ior, 1) := by decide +kernel
theorem dX8_nationsAtBirth_73 : decode cX8_nationsAtBirth 73 = .ok (.istore 5, 2) := by decide +kernel
theorem dX8_nationsAtBirth_75 : decode cX8_nationsAtBirth 75 = .ok (.iinc 6 1, 3) := by decide +kernel
theorem dX8_nationsAtBirth_78 : decode cX8_nationsAtBirth 78 = .ok (.goto (-50), 3) := by decide +kernel
theorem dX8_nationsAtBirth_81 : decode cX8_nationsAtBirth 81 = .ok (.aload_n 3, 1) := by decide +kernel
theorem dX8_nationsAtBirth_82 : decode cX8_nationsAtBirth 82 = .ok (.getfield 368, 3) := by decide +kernel
theorem dX8_nationsAtBirth_85 : decode cX8_nationsAtBirth 85 = .ok (.ifCond .eq 34, 3) := by decide +kernel
theorem dX8_nationsAtBirth_88 : decode cX8_nationsAtBirth 88 = .ok (.aload_n 0, 1) := by decide +kernel
theorem dX8_nationsAtBirth_89 : decode cX8_nationsAtBirth 89 = .ok (.aload_n 1, 1) := by decide +kernel
theorem dX8_nationsAtBirth_90 : decode cX8_nationsAtBirth 90 = .ok (.aload_n 3, 1) := by decide +kernel
theorem dX8_nationsAtBirth_91 : decode cX8_nationsAtBirth 91 = .ok (.invokevirtual 371, 3) := by decide +kernel
theorem dX8_nationsAtBirth_94 : decode cX8_nationsAtBirth 94 = .ok (.ifCond .ne 16, 3) := by decide +kernel
theorem dX8_nationsAtBirth_97 : decode cX8_nationsAtBirth 97 = .ok (.aload_n 2, 1) := by decide +kernel
theorem dX8_nationsAtBirth_98 : decode cX8_nationsAtBirth 98 = .ok (.ifnull 21, 3) := by decide +kernel
theorem dX8_nationsAtBirth_101 : decode cX8_nationsAtBirth 101 = .ok (.aload_n 0, 1) := by decide +kernel
theorem dX8_nationsAtBirth_102 : decode cX8_nationsAtBirth 102 = .ok (.aload_n 2, 1) := by decide +kernel
theorem dX8_nationsAtBirth_103 : decode cX8_nationsAtBirth 103 = .ok (.aload_n 3, 1) := by decide +kernel
theorem dX8_nationsAtBirth_104 : decode cX8_nationsAtBirth 104 = .ok (.invokevirtual 371, 3) := by decide +kernel
theorem dX8_nationsAtBirth_107 : decode cX8_nationsAtBirth 107 = .ok (.ifCond .eq 12, 3) := by decide +kernel
theorem dX8_nationsAtBirth_110 : decode cX8_nationsAtBirth 110 = .ok (.iload 5, 2) := by decide +kernel
theorem dX8_nationsAtBirth_112 : decode cX8_nationsAtBirth 112 = .ok (.aload_n 3, 1) := by decide +kernel
theorem dX8_nationsAtBirth_113 : decode cX8_nationsAtBirth 113 = .ok (.invokevirtual 75, 3) := by decide +kernel
theorem dX8_nationsAtBirth_116 : decode cX8_nationsAtBirth 116 = .ok (.ior, 1) := by decide +kernel
theorem dX8_nationsAtBirth_117 : decode cX8_nationsAtBirth 117 = .ok (.istore 5, 2) := by decide +kernel
theorem dX8_nationsAtBirth_119 : decode cX8_nationsAtBirth 119 = .ok (.iload 5, 2) := by decide +kernel
theorem dX8_nationsAtBirth_121 : decode cX8_nationsAtBirth 121 = .ok (.ireturn, 1) := by decide +kernel
set_option maxRecDepth 20000 in
theorem ggX8_isRootedIn_X3_isOf : GoodIn wsX8_isRootedIn wsX3_isOf := goodIn_r _ [8, 9, 10, 11, 12, 13, 14, 15, 29, 30, 31, 32, 33, 34, 35, 36, 37, 38, 39, 40, 41, 42, 43, 44, 45, 46, 47, 48] (by decide +kernel) (by decide +kernel)
set_option maxRecDepth 20000 in
theorem gX8_isRootedIn_X3_isOf : GoodIn wsX8_isRootedIn (wsV RX8 229 RX3 yX3_isOf wsX3_isOf) := goodIn_app (goodIn_of _ (by decide +kernel)) ggX8_isRootedIn_X3_isOf
set_option maxRecDepth 20000 in
theorem ggX8_isRootedIn_X2_isValid : GoodIn wsX8_isRootedIn wsX2_isValid := goodIn_r _ [20, 21, 22, 23, 24, 25, 26, 27, 28, 56, 57, 58, 59] (by decide +kernel) (by decide +kernel)
set_option maxRecDepth 20000 in
theorem gX8_isRootedIn_X2_isValid : GoodIn wsX8_isRootedIn (wsV RX8 283 RX2 yX2_isValid wsX2_isValid) := goodIn_app (goodIn_of _ (by decide +kernel)) ggX8_isRootedIn_X2_isValid
theorem dX8_isRootedIn_0 : decode cX8_isRootedIn 0 = .ok (.aload_n 1, 1) := by decide +kernel
theorem dX8_isRootedIn_1 : decode cX8_isRootedIn 1 = .ok (.aload_n 2, 1) := by decide +kernel
theorem dX8_isRootedIn_2 : decode cX8_isRootedIn 2 = .ok (.invokevirtual 229, 3) := by decide +kernel
theorem dX8_isRootedIn_5 : decode cX8_isRootedIn 5 = .ok (.ifCond .ne 21, 3) := by decide +kernel
theorem dX8_isRootedIn_8 : decode cX8_isRootedIn 8 = .ok (.aload_n 1, 1) := by decide +kernel
theorem dX8_isRootedIn_9 : decode cX8_isRootedIn 9 = .ok (.getfield 279, 3) := by decide +kernel
theorem dX8_isRootedIn_12 : decode cX8_isRootedIn 12 = .ok (.aload_n 2, 1) := by decide +kernel
theorem dX8_isRootedIn_13 : decode cX8_isRootedIn 13 = .ok (.getfield 66, 3) := by decide +kernel
theorem dX8_isRootedIn_16 : decode cX8_isRootedIn 16 = .ok (.aload_n 0, 1) := by decide +kernel
theorem dX8_isRootedIn_17 : decode cX8_isRootedIn 17 = .ok (.getfield 37, 3) := by decide +kernel
theorem dX8_isRootedIn_20 : decode cX8_isRootedIn 20 = .ok (.invokevirtual 283, 3) := by decide +kernel
theorem dX8_isRootedIn_23 : decode cX8_isRootedIn 23 = .ok (.ifCond .eq 7, 3) := by decide +kernel
theorem dX8_isRootedIn_26 : decode cX8_isRootedIn 26 = .ok (.iconst 1, 1) := by decide +kernel
theorem dX8_isRootedIn_27 : decode cX8_isRootedIn 27 = .ok (.goto 4, 3) := by decide +kernel
theorem dX8_isRootedIn_30 : decode cX8_isRootedIn 30 = .ok (.iconst 0, 1) := by decide +kernel
theorem dX8_isRootedIn_31 : decode cX8_isRootedIn 31 = .ok (.ireturn, 1) := by decide +kernel
set_option maxRecDepth 20000 in
theorem ggX8_statusToday_X5_at : GoodIn wsX8_statusToday wsX5_at := goodIn_r _ [8, 9, 10, 31, 32] (by decide +kernel) (by decide +kernel)
set_option maxRecDepth 20000 in
theorem gX8_statusToday_X5_at : GoodIn wsX8_statusToday (wsV RX8 202 RX5 yX5_at wsX5_at) := goodIn_app (goodIn_of _ (by decide +kernel)) ggX8_statusToday_X5_at
theorem dX8_statusToday_0 : decode cX8_statusToday 0 = .ok (.aload_n 1, 1) := by decide +kernel
theorem dX8_statusToday_1 : decode cX8_statusToday 1 = .ok (.getfield 110, 3) := by decide +kernel
theorem dX8_statusToday_4 : decode cX8_statusToday 4 = .ok (.ifnonnull 7, 3) := by decide +kernel
theorem dX8_statusToday_7 : decode cX8_statusToday 7 = .ok (.iconst 0, 1) := by decide +kernel
theorem dX8_statusToday_8 : decode cX8_statusToday 8 = .ok (.goto 17, 3) := by decide +kernel
theorem dX8_statusToday_11 : decode cX8_statusToday 11 = .ok (.aload_n 1, 1) := by decide +kernel
theorem dX8_statusToday_12 : decode cX8_statusToday 12 = .ok (.getfield 322, 3) := by decide +kernel
theorem dX8_statusToday_15 : decode cX8_statusToday 15 = .ok (.aload_n 0, 1) := by decide +kernel
theorem dX8_statusToday_16 : decode cX8_statusToday 16 = .ok (.getfield 37, 3) := by decide +kernel
theorem dX8_statusToday_19 : decode cX8_statusToday 19 = .ok (.invokevirtual 202, 3) := by decide +kernel
theorem dX8_statusToday_22 : decode cX8_statusToday 22 = .ok (.bipush 10, 2) := by decide +kernel
theorem dX8_statusToday_24 : decode cX8_statusToday 24 = .ok (.irem, 1) := by decide +kernel
theorem dX8_statusToday_25 : decode cX8_statusToday 25 = .ok (.ireturn, 1) := by decide +kernel
set_option maxRecDepth 20000 in
theorem ggX8_overstayedDays_X5_at : GoodIn wsX8_overstayedDays wsX5_at := goodIn_r _ [8, 9, 10, 31, 32] (by decide +kernel) (by decide +kernel)
set_option maxRecDepth 20000 in
theorem gX8_overstayedDays_X5_at : GoodIn wsX8_overstayedDays (wsV RX8 202 RX5 yX5_at wsX5_at) := goodIn_app (goodIn_of _ (by decide +kernel)) ggX8_overstayedDays_X5_at
theorem dX8_overstayedDays_0 : decode cX8_overstayedDays 0 = .ok (.iconst 0, 1) := by decide +kernel
theorem dX8_overstayedDays_1 : decode cX8_overstayedDays 1 = .ok (.istore_n 2, 1) := by decide +kernel
theorem dX8_overstayedDays_2 : decode cX8_overstayedDays 2 = .ok (.aload_n 1, 1) := by decide +kernel
theorem dX8_overstayedDays_3 : decode cX8_overstayedDays 3 = .ok (.getfield 374, 3) := by decide +kernel
theorem dX8_overstayedDays_6 : decode cX8_overstayedDays 6 = .ok (.istore_n 3, 1) := by decide +kernel
theorem dX8_overstayedDays_7 : decode cX8_overstayedDays 7 = .ok (.iload_n 3, 1) := by decide +kernel
theorem dX8_overstayedDays_8 : decode cX8_overstayedDays 8 = .ok (.aload_n 0, 1) := by decide +kernel
theorem dX8_overstayedDays_9 : decode cX8_overstayedDays 9 = .ok (.getfield 37, 3) := by decide +kernel
theorem dX8_overstayedDays_12 : decode cX8_overstayedDays 12 = .ok (.if_icmp .gt 27, 3) := by decide +kernel
theorem dX8_overstayedDays_15 : decode cX8_overstayedDays 15 = .ok (.aload_n 1, 1) := by decide +kernel
theorem dX8_overstayedDays_16 : decode cX8_overstayedDays 16 = .ok (.getfield 322, 3) := by decide +kernel
theorem dX8_overstayedDays_19 : decode cX8_overstayedDays 19 = .ok (.iload_n 3, 1) := by decide +kernel
theorem dX8_overstayedDays_20 : decode cX8_overstayedDays 20 = .ok (.invokevirtual 202, 3) := by decide +kernel
theorem dX8_overstayedDays_23 : decode cX8_overstayedDays 23 = .ok (.bipush 10, 2) := by decide +kernel
theorem dX8_overstayedDays_25 : decode cX8_overstayedDays 25 = .ok (.irem, 1) := by decide +kernel
theorem dX8_overstayedDays_26 : decode cX8_overstayedDays 26 = .ok (.iconst 4, 1) := by decide +kernel
theorem dX8_overstayedDays_27 : decode cX8_overstayedDays 27 = .ok (.if_icmp .ne 6, 3) := by decide +kernel
theorem dX8_overstayedDays_30 : decode cX8_overstayedDays 30 = .ok (.iinc 2 1, 3) := by decide +kernel
theorem dX8_overstayedDays_33 : decode cX8_overstayedDays 33 = .ok (.iinc 3 1, 3) := by decide +kernel
theorem dX8_overstayedDays_36 : decode cX8_overstayedDays 36 = .ok (.goto (-29), 3) := by decide +kernel
theorem dX8_overstayedDays_39 : decode cX8_overstayedDays 39 = .ok (.iload_n 2, 1) := by decide +kernel
theorem dX8_overstayedDays_40 : decode cX8_overstayedDays 40 = .ok (.ireturn, 1) := by decide +kernel
set_option maxRecDepth 20000 in
theorem ggX8_wasThereEnough_X5_at : GoodIn wsX8_wasThereEnough wsX5_at := goodIn_r _ [12, 13, 14, 42, 43] (by decide +kernel) (by decide +kernel)
set_option maxRecDepth 20000 in
theorem gX8_wasThereEnough_X5_at : GoodIn wsX8_wasThereEnough (wsV RX8 202 RX5 yX5_at wsX5_at) := goodIn_app (goodIn_of _ (by decide +kernel)) ggX8_wasThereEnough_X5_at
theorem dX8_wasThereEnough_0 : decode cX8_wasThereEnough 0 = .ok (.sipush 360, 3) := by decide +kernel
theorem dX8_wasThereEnough_3 : decode cX8_wasThereEnough 3 = .ok (.aload_n 0, 1) := by decide +kernel
theorem dX8_wasThereEnough_4 : decode cX8_wasThereEnough 4 = .ok (.getfield 37, 3) := by decide +kernel
theorem dX8_wasThereEnough_7 : decode cX8_wasThereEnough 7 = .ok (.iconst 1, 1) := by decide +kernel
theorem dX8_wasThereEnough_8 : decode cX8_wasThereEnough 8 = .ok (.iadd, 1) := by decide +kernel
theorem dX8_wasThereEnough_9 : decode cX8_wasThereEnough 9 = .ok (.invokestatic 179, 3) := by decide +kernel
theorem dX8_wasThereEnough_12 : decode cX8_wasThereEnough 12 = .ok (.istore_n 3, 1) := by decide +kernel
theorem dX8_wasThereEnough_13 : decode cX8_wasThereEnough 13 = .ok (.iconst 0, 1) := by decide +kernel
theorem dX8_wasThereEnough_14 : decode cX8_wasThereEnough 14 = .ok (.istore 4, 2) := by decide +kernel
theorem dX8_wasThereEnough_16 : decode cX8_wasThereEnough 16 = .ok (.aload_n 0, 1) := by decide +kernel
theorem dX8_wasThereEnough_17 : decode cX8_wasThereEnough 17 = .ok (.getfield 37, 3) := by decide +kernel
theorem dX8_wasThereEnough_20 : decode cX8_wasThereEnough 20 = .ok (.iload_n 3, 1) := by decide +kernel
theorem dX8_wasThereEnough_21 : decode cX8_wasThereEnough 21 = .ok (.isub, 1) := by decide +kernel
theorem dX8_wasThereEnough_22 : decode cX8_wasThereEnough 22 = .ok (.iconst 1, 1) := by decide +kernel
theorem dX8_wasThereEnough_23 : decode cX8_wasThereEnough 23 = .ok (.iadd, 1) := by decide +kernel
theorem dX8_wasThereEnough_24 : decode cX8_wasThereEnough 24 = .ok (.istore 5, 2) := by decide +kernel
theorem dX8_wasThereEnough_26 : decode cX8_wasThereEnough 26 = .ok (.iload 5, 2) := by decide +kernel
theorem dX8_wasThereEnough_28 : decode cX8_wasThereEnough 28 = .ok (.aload_n 0, 1) := by decide +kernel
theorem dX8_wasThereEnough_29 : decode cX8_wasThereEnough 29 = .ok (.getfield 37, 3) := by decide +kernel
theorem dX8_wasThereEnough_32 : decode cX8_wasThereEnough 32 = .ok (.if_icmp .gt 40, 3) := by decide +kernel
theorem dX8_wasThereEnough_35 : decode cX8_wasThereEnough 35 = .ok (.aload_n 1, 1) := by decide +kernel
theorem dX8_wasThereEnough_36 : decode cX8_wasThereEnough 36 = .ok (.getfield 322, 3) := by decide +kernel
theorem dX8_wasThereEnough_39 : decode cX8_wasThereEnough 39 = .ok (.iload 5, 2) := by decide +kernel
theorem dX8_wasThereEnough_41 : decode cX8_wasThereEnough 41 = .ok (.invokevirtual 202, 3) := by decide +kernel
theorem dX8_wasThereEnough_44 : decode cX8_wasThereEnough 44 = .ok (.istore 6, 2) := by decide +kernel
theorem dX8_wasThereEnough_46 : decode cX8_wasThereEnough 46 = .ok (.iload 6, 2) := by decide +kernel
theorem dX8_wasThereEnough_48 : decode cX8_wasThereEnough 48 = .ok (.ifCond .eq 18, 3) := by decide +kernel
theorem dX8_wasThereEnough_51 : decode cX8_wasThereEnough 51 = .ok (.iload 6, 2) := by decide +kernel
theorem dX8_wasThereEnough_53 : decode cX8_wasThereEnough 53 = .ok (.bipush 10, 2) := by decide +kernel
theorem dX8_wasThereEnough_55 : decode cX8_wasThereEnough 55 = .ok (.idiv, 1) := by decide +kernel
theorem dX8_wasThereEnough_56 : decode cX8_wasThereEnough 56 = .ok (.aload_n 2, 1) := by decide +kernel
theorem dX8_wasThereEnough_57 : decode cX8_wasThereEnough 57 = .ok (.getfield 66, 3) := by decide +kernel
theorem dX8_wasThereEnough_60 : decode cX8_wasThereEnough 60 = .ok (.if_icmp .ne 6, 3) := by decide +kernel
theorem dX8_wasThereEnough_63 : decode cX8_wasThereEnough 63 = .ok (.iinc 4 1, 3) := by decide +kernel
theorem dX8_wasThereEnough_66 : decode cX8_wasThereEnough 66 = .ok (.iinc 5 1, 3) := by decide +kernel
theorem dX8_wasThereEnough_69 : decode cX8_wasThereEnough 69 = .ok (.goto (-43), 3) := by decide +kernel
theorem dX8_wasThereEnough_72 : decode cX8_wasThereEnough 72 = .ok (.iload 4, 2) := by decide +kernel
theorem dX8_wasThereEnough_74 : decode cX8_wasThereEnough 74 = .ok (.iload_n 3, 1) := by decide +kernel
theorem dX8_wasThereEnough_75 : decode cX8_wasThereEnough 75 = .ok (.iconst 1, 1) := by decide +kernel
theorem dX8_wasThereEnough_76 : decode cX8_wasThereEnough 76 = .ok (.iadd, 1) := by decide +kernel
theorem dX8_wasThereEnough_77 : decode cX8_wasThereEnough 77 = .ok (.iconst 2, 1) := by decide +kernel
theorem dX8_wasThereEnough_78 : decode cX8_wasThereEnough 78 = .ok (.idiv, 1) := by decide +kernel
theorem dX8_wasThereEnough_79 : decode cX8_wasThereEnough 79 = .ok (.if_icmp .lt 7, 3) := by decide +kernel
theorem dX8_wasThereEnough_82 : decode cX8_wasThereEnough 82 = .ok (.iconst 1, 1) := by decide +kernel
theorem dX8_wasThereEnough_83 : decode cX8_wasThereEnough 83 = .ok (.goto 4, 3) := by decide +kernel
theorem dX8_wasThereEnough_86 : decode cX8_wasThereEnough 86 = .ok (.iconst 0, 1) := by decide +kernel
theorem dX8_wasThereEnough_87 : decode cX8_wasThereEnough 87 = .ok (.ireturn, 1) := by decide +kernel
set_option maxRecDepth 20000 in
theorem ggX8_arrive_X8_lookAt : GoodIn wsX8_arrive wsX8_lookAt := goodIn_r _ [10, 1, 2, 4, 11, 12, 13, 14, 15, 16, 9, 17, 18, 3, 5, 19, 20, 21, 22, 23, 24, 25, 26, 27, 28, 29, 30, 31, 32, 33, 34, 35, 36, 37, 38, 39, 40, 41, 42, 43, 44, 45, 46, 47, 48, 49, 50, 51, 52, 53, 54, 55, 56, 57, 58, 59, 60, 61, 62, 63, 64, 65, 66, 67, 68, 69, 70, 71, 72, 73, 74, 75, 76, 77, 78, 79, 80, 81, 82, 83, 84, 85, 86, 87, 88, 89, 90, 91, 92, 93, 94, 95, 96, 97, 98, 99, 100, 101, 102, 103, 104, 105, 106, 107, 108, 109, 110, 111, 112, 113, 114, 115, 116, 117, 118, 119, 120, 121, 122, 123, 124, 125, 126, 127, 128, 129, 130, 131, 132, 133, 134, 135, 136, 137, 138, 139, 140, 141, 142, 143, 144, 145, 146, 147, 148, 149, 150, 151, 152, 153, 154, 155, 156, 157, 158, 159, 160, 161, 162, 163, 164, 165, 166] (by decide +kernel) (by decide +kernel)
set_option maxRecDepth 20000 in
theorem gX8_arrive_X8_lookAt : GoodIn wsX8_arrive (wsV RX8 171 RX8 yX8_lookAt wsX8_lookAt) := goodIn_app (goodIn_of _ (by decide +kernel)) ggX8_arrive_X8_lookAt
theorem dX8_arrive_0 : decode cX8_arrive 0 = .ok (.aload_n 1, 1) := by decide +kernel
theorem dX8_arrive_1 : decode cX8_arrive 1 = .ok (.aload_n 2, 1) := by decide +kernel
theorem dX8_arrive_2 : decode cX8_arrive 2 = .ok (.putfield 110, 3) := by decide +kernel
theorem dX8_arrive_5 : decode cX8_arrive 5 = .ok (.aload_n 1, 1) := by decide +kernel
theorem dX8_arrive_6 : decode cX8_arrive 6 = .ok (.aload_n 3, 1) := by decide +kernel
theorem dX8_arrive_7 : decode cX8_arrive 7 = .ok (.putfield 185, 3) := by decide +kernel
theorem dX8_arrive_10 : decode cX8_arrive 10 = .ok (.aload_n 1, 1) := by decide +kernel
theorem dX8_arrive_11 : decode cX8_arrive 11 = .ok (.iload 4, 2) := by decide +kernel
theorem dX8_arrive_13 : decode cX8_arrive 13 = .ok (.putfield 377, 3) := by decide +kernel
theorem dX8_arrive_16 : decode cX8_arrive 16 = .ok (.aload_n 1, 1) := by decide +kernel
theorem dX8_arrive_17 : decode cX8_arrive 17 = .ok (.aload_n 0, 1) := by decide +kernel
theorem dX8_arrive_18 : decode cX8_arrive 18 = .ok (.getfield 37, 3) := by decide +kernel
theorem dX8_arrive_21 : decode cX8_arrive 21 = .ok (.putfield 374, 3) := by decide +kernel
theorem dX8_arrive_24 : decode cX8_arrive 24 = .ok (.aload_n 0, 1) := by decide +kernel
theorem dX8_arrive_25 : decode cX8_arrive 25 = .ok (.aload_n 1, 1) := by decide +kernel
theorem dX8_arrive_26 : decode cX8_arrive 26 = .ok (.invokevirtual 171, 3) := by decide +kernel
theorem dX8_arrive_29 : decode cX8_arrive 29 = .ok (.return_, 1) := by decide +kernel
set_option maxRecDepth 20000 in
theorem ggX8_lookAt_X8_statusIn : GoodIn wsX8_lookAt wsX8_statusIn := goodIn_r _ [11, 12, 5, 3, 13, 14, 2, 15, 16, 17, 18, 19, 20, 21, 22, 23, 24, 25, 26, 27, 28, 29, 30, 31, 32, 33, 34, 35, 36, 37, 38, 39, 40, 41, 42, 10, 43, 44, 6, 45, 46, 47, 48, 49, 50, 51, 52, 53, 54, 55, 56, 57, 58, 59, 60, 61, 62, 63, 64, 65, 66, 67, 68, 69, 70, 71, 72, 73, 74, 75, 76, 77, 78, 79, 80, 81, 82, 83, 84, 85, 86, 87, 88, 89, 90, 91, 92, 93, 94, 95, 96, 97, 98, 99, 100, 101, 102, 103, 104, 105, 118, 119, 120, 121, 122, 123, 124, 125, 126, 127, 128, 129, 130, 138, 139, 140, 141, 142, 143, 144, 131, 132, 133, 134, 135, 136, 137, 145, 146, 147, 148, 149, 150, 151, 152, 153, 154, 155, 156, 157, 158, 159, 160, 161, 162] (by decide +kernel) (by decide +kernel)
set_option maxRecDepth 20000 in
theorem gX8_lookAt_X8_statusIn : GoodIn wsX8_lookAt (wsV RX8 380 RX8 yX8_statusIn wsX8_statusIn) := goodIn_app (goodIn_of _ (by decide +kernel)) ggX8_lookAt_X8_statusIn
set_option maxRecDepth 20000 in
theorem ggX8_lookAt_X8_isFreeOfVisas : GoodIn wsX8_lookAt wsX8_isFreeOfVisas := goodIn_r _ [82, 83, 84, 44, 85, 12, 3, 86, 87, 88, 24, 89, 90, 55, 56, 57, 58, 59, 60, 61, 62, 63, 64, 65, 66, 67, 68, 69, 70, 71, 72, 73, 74, 75, 76, 77, 27, 28, 29, 30, 31, 32, 33, 34, 35, 36, 37, 38, 39, 118, 119, 120, 121, 122, 123, 124, 125, 126, 127, 128, 129, 130, 131, 132, 133, 134, 135, 136, 137, 138, 139, 140, 141, 142, 143, 144, 152, 153, 154, 145, 146, 147, 148] (by decide +kernel) (by decide +kernel)
set_option maxRecDepth 20000 in
theorem gX8_lookAt_X8_isFreeOfVisas : GoodIn wsX8_lookAt (wsV RX8 383 RX8 yX8_isFreeOfVisas wsX8_isFreeOfVisas) := goodIn_app (goodIn_of _ (by decide +kernel)) ggX8_lookAt_X8_isFreeOfVisas
set_option maxRecDepth 20000 in
theorem ggX8_lookAt_X7_takeDay : GoodIn wsX8_lookAt wsX7_takeDay := goodIn_r _ [109, 99, 98, 155, 156, 157, 158, 159, 160, 161, 162] (by decide +kernel) (by decide +kernel)
set_option maxRecDepth 20000 in
theorem gX8_lookAt_X7_takeDay : GoodIn wsX8_lookAt (wsV RX8 386 RX7 yX7_takeDay wsX7_takeDay) := goodIn_app (goodIn_of _ (by decide +kernel)) ggX8_lookAt_X7_takeDay
set_option maxRecDepth 20000 in
theorem ggX8_lookAt_X5_put : GoodIn wsX8_lookAt wsX5_put := goodIn_r _ [113, 38, 147, 148] (by decide +kernel) (by decide +kernel)
set_option maxRecDepth 20000 in
theorem gX8_lookAt_X5_put : GoodIn wsX8_lookAt (wsV RX8 223 RX5 yX5_put wsX5_put) := goodIn_app (goodIn_of _ (by decide +kernel)) ggX8_lookAt_X5_put
set_option maxRecDepth 20000 in
theorem ggX8_lookAt_X5_at : GoodIn wsX8_lookAt wsX5_at := goodIn_r _ [37, 38, 39, 147, 148] (by decide +kernel) (by decide +kernel)
set_option maxRecDepth 20000 in
theorem gX8_lookAt_X5_at : GoodIn wsX8_lookAt (wsV RX8 202 RX5 yX5_at wsX5_at) := goodIn_app (goodIn_of _ (by decide +kernel)) ggX8_lookAt_X5_at
set_option maxRecDepth 20000 in
theorem ggX8_lookAt_X8_isCounting : GoodIn wsX8_lookAt wsX8_isCounting := goodIn_r _ [117, 84, 85, 44, 55, 56, 57, 58, 59, 60, 61, 62, 63, 64, 65, 66, 67, 68, 69, 70, 71, 72, 73, 74, 75, 76, 77, 131, 132, 133, 134, 135, 136, 137, 138, 139, 140, 141, 142, 143, 144, 152, 153, 154] (by decide +kernel) (by decide +kernel)
set_option maxRecDepth 20000 in
theorem gX8_lookAt_X8_isCounting : GoodIn wsX8_lookAt (wsV RX8 324 RX8 yX8_isCounting wsX8_isCounting) := goodIn_app (goodIn_of _ (by decide +kernel)) ggX8_lookAt_X8_isCounting
theorem dX8_lookAt_0 : decode cX8_lookAt 0 = .ok (.aload_n 1, 1) := by decide +kernel
theorem dX8_lookAt_1 : decode cX8_lookAt 1 = .ok (.getfield 110, 3) := by decide +kernel
theorem dX8_lookAt_4 : decode cX8_lookAt 4 = .ok (.astore_n 2, 1) := by decide +kernel
theorem dX8_lookAt_5 : decode cX8_lookAt 5 = .ok (.aload_n 2, 1) := by decide +kernel
theorem dX8_lookAt_6 : decode cX8_lookAt 6 = .ok (.ifnull 62, 3) := by decide +kernel
theorem dX8_lookAt_9 : decode cX8_lookAt 9 = .ok (.aload_n 0, 1) := by decide +kernel
theorem dX8_lookAt_10 : decode cX8_lookAt 10 = .ok (.aload_n 1, 1) := by decide +kernel
theorem dX8_lookAt_11 : decode cX8_lookAt 11 = .ok (.aload_n 2, 1) := by decide +kernel
theorem dX8_lookAt_12 : decode cX8_lookAt 12 = .ok (.invokevirtual 380, 3) := by decide +kernel
theorem dX8_lookAt_15 : decode cX8_lookAt 15 = .ok (.istore_n 3, 1) := by decide +kernel
theorem dX8_lookAt_16 : decode cX8_lookAt 16 = .ok (.iload_n 3, 1) := by decide +kernel
theorem dX8_lookAt_17 : decode cX8_lookAt 17 = .ok (.iconst 3, 1) := by decide +kernel
theorem dX8_lookAt_18 : decode cX8_lookAt 18 = .ok (.if_icmp .ne 30, 3) := by decide +kernel
theorem dX8_lookAt_21 : decode cX8_lookAt 21 = .ok (.aload_n 1, 1) := by decide +kernel
theorem dX8_lookAt_22 : decode cX8_lookAt 22 = .ok (.getfield 185, 3) := by decide +kernel
theorem dX8_lookAt_25 : decode cX8_lookAt 25 = .ok (.ifnull 23, 3) := by decide +kernel
theorem dX8_lookAt_28 : decode cX8_lookAt 28 = .ok (.aload_n 0, 1) := by decide +kernel
theorem dX8_lookAt_29 : decode cX8_lookAt 29 = .ok (.aload_n 1, 1) := by decide +kernel
theorem dX8_lookAt_30 : decode cX8_lookAt 30 = .ok (.aload_n 2, 1) := by decide +kernel
theorem dX8_lookAt_31 : decode cX8_lookAt 31 = .ok (.invokevirtual 383, 3) := by decide +kernel
theorem dX8_lookAt_34 : decode cX8_lookAt 34 = .ok (.ifCond .ne 14, 3) := by decide +kernel
theorem dX8_lookAt_37 : decode cX8_lookAt 37 = .ok (.aload_n 1, 1) := by decide +kernel
theorem dX8_lookAt_38 : decode cX8_lookAt 38 = .ok (.getfield 185, 3) := by decide +kernel
theorem dX8_lookAt_41 : decode cX8_lookAt 41 = .ok (.aload_n 0, 1) := by decide +kernel
theorem dX8_lookAt_42 : decode cX8_lookAt 42 = .ok (.getfield 37, 3) := by decide +kernel
theorem dX8_lookAt_45 : decode cX8_lookAt 45 = .ok (.invokevirtual 386, 3) := by decide +kernel
theorem dX8_lookAt_48 : decode cX8_lookAt 48 = .ok (.aload_n 1, 1) := by decide +kernel
theorem dX8_lookAt_49 : decode cX8_lookAt 49 = .ok (.getfield 322, 3) := by decide +kernel
theorem dX8_lookAt_52 : decode cX8_lookAt 52 = .ok (.aload_n 0, 1) := by decide +kernel
theorem dX8_lookAt_53 : decode cX8_lookAt 53 = .ok (.getfield 37, 3) := by decide +kernel
theorem dX8_lookAt_56 : decode cX8_lookAt 56 = .ok (.bipush 10, 2) := by decide +kernel
theorem dX8_lookAt_58 : decode cX8_lookAt 58 = .ok (.aload_n 2, 1) := by decide +kernel
theorem dX8_lookAt_59 : decode cX8_lookAt 59 = .ok (.getfield 66, 3) := by decide +kernel
theorem dX8_lookAt_62 : decode cX8_lookAt 62 = .ok (.imul, 1) := by decide +kernel
theorem dX8_lookAt_63 : decode cX8_lookAt 63 = .ok (.iload_n 3, 1) := by decide +kernel
theorem dX8_lookAt_64 : decode cX8_lookAt 64 = .ok (.iadd, 1) := by decide +kernel
theorem dX8_lookAt_65 : decode cX8_lookAt 65 = .ok (.invokevirtual 223, 3) := by decide +kernel
theorem dX8_lookAt_68 : decode cX8_lookAt 68 = .ok (.aload_n 0, 1) := by decide +kernel
theorem dX8_lookAt_69 : decode cX8_lookAt 69 = .ok (.aload_n 1, 1) := by decide +kernel
theorem dX8_lookAt_70 : decode cX8_lookAt 70 = .ok (.getfield 322, 3) := by decide +kernel
theorem dX8_lookAt_73 : decode cX8_lookAt 73 = .ok (.aload_n 0, 1) := by decide +kernel
theorem dX8_lookAt_74 : decode cX8_lookAt 74 = .ok (.getfield 37, 3) := by decide +kernel
theorem dX8_lookAt_77 : decode cX8_lookAt 77 = .ok (.invokevirtual 202, 3) := by decide +kernel
theorem dX8_lookAt_80 : decode cX8_lookAt 80 = .ok (.invokevirtual 324, 3) := by decide +kernel
theorem dX8_lookAt_83 : decode cX8_lookAt 83 = .ok (.ifCond .eq 7, 3) := by decide +kernel
theorem dX8_lookAt_86 : decode cX8_lookAt 86 = .ok (.iconst 1, 1) := by decide +kernel
theorem dX8_lookAt_87 : decode cX8_lookAt 87 = .ok (.goto 4, 3) := by decide +kernel
theorem dX8_lookAt_90 : decode cX8_lookAt 90 = .ok (.iconst 0, 1) := by decide +kernel
theorem dX8_lookAt_91 : decode cX8_lookAt 91 = .ok (.istore_n 3, 1) := by decide +kernel
theorem dX8_lookAt_92 : decode cX8_lookAt 92 = .ok (.aload_n 1, 1) := by decide +kernel
theorem dX8_lookAt_93 : decode cX8_lookAt 93 = .ok (.getfield 307, 3) := by decide +kernel
theorem dX8_lookAt_96 : decode cX8_lookAt 96 = .ok (.aload_n 0, 1) := by decide +kernel
theorem dX8_lookAt_97 : decode cX8_lookAt 97 = .ok (.getfield 37, 3) := by decide +kernel
theorem dX8_lookAt_100 : decode cX8_lookAt 100 = .ok (.aload_n 1, 1) := by decide +kernel
theorem dX8_lookAt_101 : decode cX8_lookAt 101 = .ok (.getfield 307, 3) := by decide +kernel
theorem dX8_lookAt_104 : decode cX8_lookAt 104 = .ok (.aload_n 0, 1) := by decide +kernel
theorem dX8_lookAt_105 : decode cX8_lookAt 105 = .ok (.getfield 37, 3) := by decide +kernel
theorem dX8_lookAt_108 : decode cX8_lookAt 108 = .ok (.iconst 1, 1) := by decide +kernel
theorem dX8_lookAt_109 : decode cX8_lookAt 109 = .ok (.isub, 1) := by decide +kernel
theorem dX8_lookAt_110 : decode cX8_lookAt 110 = .ok (.invokevirtual 202, 3) := by decide +kernel
theorem dX8_lookAt_113 : decode cX8_lookAt 113 = .ok (.iload_n 3, 1) := by decide +kernel
theorem dX8_lookAt_114 : decode cX8_lookAt 114 = .ok (.iadd, 1) := by decide +kernel
theorem dX8_lookAt_115 : decode cX8_lookAt 115 = .ok (.invokevirtual 223, 3) := by decide +kernel
theorem dX8_lookAt_118 : decode cX8_lookAt 118 = .ok (.return_, 1) := by decide +kernel
set_option maxRecDepth 20000 in
theorem ggX8_statusIn_X3_isOf : GoodIn wsX8_statusIn wsX3_isOf := goodIn_r _ [11, 12, 13, 14, 15, 16, 17, 18, 100, 101, 102, 103, 104, 105, 106, 107, 108, 109, 110, 111, 112, 113, 114, 115, 116, 117, 118, 119] (by decide +kernel) (by decide +kernel)
set_option maxRecDepth 20000 in
theorem gX8_statusIn_X3_isOf : GoodIn wsX8_statusIn (wsV RX8 229 RX3 yX3_isOf wsX3_isOf) := goodIn_app (goodIn_of _ (by decide +kernel)) ggX8_statusIn_X3_isOf
set_option maxRecDepth 20000 in
theorem ggX8_statusIn_X2_isValid : GoodIn wsX8_statusIn wsX2_isValid := goodIn_r _ [23, 24, 25, 26, 27, 28, 29, 30, 31, 127, 128, 129, 130] (by decide +kernel) (by decide +kernel)
set_option maxRecDepth 20000 in
theorem gX8_statusIn_X2_isValid : GoodIn wsX8_statusIn (wsV RX8 283 RX2 yX2_isValid wsX2_isValid) := goodIn_app (goodIn_of _ (by decide +kernel)) ggX8_statusIn_X2_isValid
set_option maxRecDepth 20000 in
theorem ggX8_statusIn_X8_hasDaysLeft : GoodIn wsX8_statusIn wsX8_hasDaysLeft := goodIn_r _ [36, 37, 3, 38, 39, 40, 41, 42, 43, 35, 44, 45, 46, 47, 48, 49, 50, 51, 52, 53, 54, 55, 56, 57, 58, 59, 60, 61, 62, 63, 64, 65, 66, 67, 68, 69, 70, 71, 72, 26, 27, 28, 29, 30, 31, 113, 114, 115, 116, 117, 118, 119, 120, 121, 122, 123, 124, 125, 126, 100, 101, 102, 103, 104, 105, 106, 107, 108, 109, 110, 111, 112, 131, 132, 133, 134, 135, 136, 129, 130] (by decide +kernel) (by decide +kernel)
set_option maxRecDepth 20000 in
theorem gX8_statusIn_X8_hasDaysLeft : GoodIn wsX8_statusIn (wsV RX8 389 RX8 yX8_hasDaysLeft wsX8_hasDaysLeft) := goodIn_app (goodIn_of _ (by decide +kernel)) ggX8_statusIn_X8_hasDaysLeft
set_option maxRecDepth 20000 in
theorem ggX8_statusIn_X8_isFreeOfVisas : GoodIn wsX8_statusIn wsX8_isFreeOfVisas := goodIn_r _ [76, 77, 78, 37, 79, 1, 3, 80, 81, 82, 16, 83, 84, 49, 50, 51, 52, 53, 54, 55, 56, 57, 58, 59, 60, 61, 62, 63, 64, 65, 66, 67, 68, 69, 70, 71, 19, 20, 21, 22, 23, 24, 25, 26, 27, 28, 29, 30, 31, 100, 101, 102, 103, 104, 105, 106, 107, 108, 109, 110, 111, 112, 120, 121, 122, 123, 124, 125, 126, 113, 114, 115, 116, 117, 118, 119, 134, 135, 136, 127, 128, 129, 130] (by decide +kernel) (by decide +kernel)
set_option maxRecDepth 20000 in
theorem gX8_statusIn_X8_isFreeOfVisas : GoodIn wsX8_statusIn (wsV RX8 383 RX8 yX8_isFreeOfVisas wsX8_isFreeOfVisas) := goodIn_app (goodIn_of _ (by decide +kernel)) ggX8_statusIn_X8_isFreeOfVisas
set_option maxRecDepth 20000 in
theorem ggX8_statusIn_X7_doesFor : GoodIn wsX8_statusIn wsX7_doesFor := goodIn_r _ [89, 90, 91, 92, 93, 94, 95, 96, 88, 97, 98, 99, 137, 138, 139, 140, 141, 142, 143, 144, 113, 114, 115, 116, 117, 118, 119] (by decide +kernel) (by decide +kernel)
set_option maxRecDepth 20000 in
theorem gX8_statusIn_X7_doesFor : GoodIn wsX8_statusIn (wsV RX8 393 RX7 yX7_doesFor wsX7_doesFor) := goodIn_app (goodIn_of _ (by decide +kernel)) ggX8_statusIn_X7_doesFor
theorem dX8_statusIn_0 : decode cX8_statusIn 0 = .ok (.aload_n 1, 1) := by decide +kernel
theorem dX8_statusIn_1 : decode cX8_statusIn 1 = .ok (.aload_n 2, 1) := by decide +kernel
theorem dX8_statusIn_2 : decode cX8_statusIn 2 = .ok (.invokevirtual 229, 3) := by decide +kernel
theorem dX8_statusIn_5 : decode cX8_statusIn 5 = .ok (.ifCond .eq 5, 3) := by decide +kernel
theorem dX8_statusIn_8 : decode cX8_statusIn 8 = .ok (.iconst 1, 1) := by decide +kernel
theorem dX8_statusIn_9 : decode cX8_statusIn 9 = .ok (.ireturn, 1) := by decide +kernel
theorem dX8_statusIn_10 : decode cX8_statusIn 10 = .ok (.aload_n 1, 1) := by decide +kernel
theorem dX8_statusIn_11 : decode cX8_statusIn 11 = .ok (.getfield 279, 3) := by decide +kernel
theorem dX8_statusIn_14 : decode cX8_statusIn 14 = .ok (.aload_n 2, 1) := by decide +kernel
theorem dX8_statusIn_15 : decode cX8_statusIn 15 = .ok (.getfield 66, 3) := by decide +kernel
theorem dX8_statusIn_18 : decode cX8_statusIn 18 = .ok (.aload_n 0, 1) := by decide +kernel
theorem dX8_statusIn_19 : decode cX8_statusIn 19 = .ok (.getfield 37, 3) := by decide +kernel
theorem dX8_statusIn_22 : decode cX8_statusIn 22 = .ok (.invokevirtual 283, 3) := by decide +kernel
theorem dX8_statusIn_25 : decode cX8_statusIn 25 = .ok (.ifCond .eq 5, 3) := by decide +kernel
theorem dX8_statusIn_28 : decode cX8_statusIn 28 = .ok (.iconst 2, 1) := by decide +kernel
theorem dX8_statusIn_29 : decode cX8_statusIn 29 = .ok (.ireturn, 1) := by decide +kernel
theorem dX8_statusIn_30 : decode cX8_statusIn 30 = .ok (.aload_n 1, 1) := by decide +kernel
theorem dX8_statusIn_31 : decode cX8_statusIn 31 = .ok (.getfield 377, 3) := by decide +kernel
theorem dX8_statusIn_34 : decode cX8_statusIn 34 = .ok (.ifCond .ne 51, 3) := by decide +kernel
theorem dX8_statusIn_37 : decode cX8_statusIn 37 = .ok (.aload_n 0, 1) := by decide +kernel
theorem dX8_statusIn_38 : decode cX8_statusIn 38 = .ok (.aload_n 1, 1) := by decide +kernel
theorem dX8_statusIn_39 : decode cX8_statusIn 39 = .ok (.aload_n 2, 1) := by decide +kernel
theorem dX8_statusIn_40 : decode cX8_statusIn 40 = .ok (.aload_n 1, 1) := by decide +kernel
theorem dX8_statusIn_41 : decode cX8_statusIn 41 = .ok (.getfield 374, 3) := by decide +kernel
theorem dX8_statusIn_44 : decode cX8_statusIn 44 = .ok (.invokevirtual 389, 3) := by decide +kernel
theorem dX8_statusIn_47 : decode cX8_statusIn 47 = .ok (.ifCond .eq 38, 3) := by decide +kernel
theorem dX8_statusIn_50 : decode cX8_statusIn 50 = .ok (.aload_n 0, 1) := by decide +kernel
theorem dX8_statusIn_51 : decode cX8_statusIn 51 = .ok (.aload_n 1, 1) := by decide +kernel
theorem dX8_statusIn_52 : decode cX8_statusIn 52 = .ok (.aload_n 2, 1) := by decide +kernel
theorem dX8_statusIn_53 : decode cX8_statusIn 53 = .ok (.invokevirtual 383, 3) := by decide +kernel
theorem dX8_statusIn_56 : decode cX8_statusIn 56 = .ok (.ifCond .ne 25, 3) := by decide +kernel
theorem dX8_statusIn_59 : decode cX8_statusIn 59 = .ok (.aload_n 1, 1) := by decide +kernel
theorem dX8_statusIn_60 : decode cX8_statusIn 60 = .ok (.getfield 185, 3) := by decide +kernel
theorem dX8_statusIn_63 : decode cX8_statusIn 63 = .ok (.ifnull 22, 3) := by decide +kernel
theorem dX8_statusIn_66 : decode cX8_statusIn 66 = .ok (.aload_n 1, 1) := by decide +kernel
theorem dX8_statusIn_67 : decode cX8_statusIn 67 = .ok (.getfield 185, 3) := by decide +kernel
theorem dX8_statusIn_70 : decode cX8_statusIn 70 = .ok (.aload_n 2, 1) := by decide +kernel
theorem dX8_statusIn_71 : decode cX8_statusIn 71 = .ok (.aload_n 0, 1) := by decide +kernel
theorem dX8_statusIn_72 : decode cX8_statusIn 72 = .ok (.getfield 37, 3) := by decide +kernel
theorem dX8_statusIn_75 : decode cX8_statusIn 75 = .ok (.invokevirtual 393, 3) := by decide +kernel
theorem dX8_statusIn_78 : decode cX8_statusIn 78 = .ok (.ifCond .eq 7, 3) := by decide +kernel
theorem dX8_statusIn_81 : decode cX8_statusIn 81 = .ok (.iconst 1, 1) := by decide +kernel
theorem dX8_statusIn_82 : decode cX8_statusIn 82 = .ok (.goto 4, 3) := by decide +kernel
theorem dX8_statusIn_85 : decode cX8_statusIn 85 = .ok (.iconst 0, 1) := by decide +kernel
theorem dX8_statusIn_86 : decode cX8_statusIn 86 = .ok (.istore_n 3, 1) := by decide +kernel
theorem dX8_statusIn_87 : decode cX8_statusIn 87 = .ok (.iload_n 3, 1) := by decide +kernel
theorem dX8_statusIn_88 : decode cX8_statusIn 88 = .ok (.ifCond .eq 7, 3) := by decide +kernel
theorem dX8_statusIn_91 : decode cX8_statusIn 91 = .ok (.iconst 3, 1) := by decide +kernel
theorem dX8_statusIn_92 : decode cX8_statusIn 92 = .ok (.goto 4, 3) := by decide +kernel
theorem dX8_statusIn_95 : decode cX8_statusIn 95 = .ok (.iconst 4, 1) := by decide +kernel
theorem dX8_statusIn_96 : decode cX8_statusIn 96 = .ok (.ireturn, 1) := by decide +kernel
set_option maxRecDepth 20000 in
theorem ggX8_hasDaysLeft_X8_ruleToday : GoodIn wsX8_hasDaysLeft wsX8_ruleToday := goodIn_r _ [10, 11, 12, 13, 14, 2, 15, 16, 17, 18, 19, 20, 21, 22, 23, 24, 25, 26, 27, 28, 29, 30, 31, 32, 33, 34, 35, 36, 37, 52, 53, 54, 55, 56, 57, 58, 72, 73, 74, 75, 76, 77] (by decide +kernel) (by decide +kernel)
set_option maxRecDepth 20000 in
theorem gX8_hasDaysLeft_X8_ruleToday : GoodIn wsX8_hasDaysLeft (wsV RX8 310 RX8 yX8_ruleToday wsX8_ruleToday) := goodIn_app (goodIn_of _ (by decide +kernel)) ggX8_hasDaysLeft_X8_ruleToday
set_option maxRecDepth 20000 in
theorem ggX8_hasDaysLeft_X5_at : GoodIn wsX8_hasDaysLeft wsX5_at := goodIn_r _ [42, 43, 44, 78, 79] (by decide +kernel) (by decide +kernel)
set_option maxRecDepth 20000 in
theorem gX8_hasDaysLeft_X5_at : GoodIn wsX8_hasDaysLeft (wsV RX8 202 RX5 yX5_at wsX5_at) := goodIn_app (goodIn_of _ (by decide +kernel)) ggX8_hasDaysLeft_X5_at
theorem dX8_hasDaysLeft_0 : decode cX8_hasDaysLeft 0 = .ok (.aload_n 2, 1) := by decide +kernel
theorem dX8_hasDaysLeft_1 : decode cX8_hasDaysLeft 1 = .ok (.getfield 165, 3) := by decide +kernel
theorem dX8_hasDaysLeft_4 : decode cX8_hasDaysLeft 4 = .ok (.ifCond .ne 20, 3) := by decide +kernel
theorem dX8_hasDaysLeft_7 : decode cX8_hasDaysLeft 7 = .ok (.aload_n 0, 1) := by decide +kernel
theorem dX8_hasDaysLeft_8 : decode cX8_hasDaysLeft 8 = .ok (.getfield 37, 3) := by decide +kernel
theorem dX8_hasDaysLeft_11 : decode cX8_hasDaysLeft 11 = .ok (.iload_n 3, 1) := by decide +kernel
theorem dX8_hasDaysLeft_12 : decode cX8_hasDaysLeft 12 = .ok (.isub, 1) := by decide +kernel
theorem dX8_hasDaysLeft_13 : decode cX8_hasDaysLeft 13 = .ok (.bipush 60, 2) := by decide +kernel
theorem dX8_hasDaysLeft_15 : decode cX8_hasDaysLeft 15 = .ok (.if_icmp .ge 7, 3) := by decide +kernel
theorem dX8_hasDaysLeft_18 : decode cX8_hasDaysLeft 18 = .ok (.iconst 1, 1) := by decide +kernel
theorem dX8_hasDaysLeft_19 : decode cX8_hasDaysLeft 19 = .ok (.goto 4, 3) := by decide +kernel
theorem dX8_hasDaysLeft_22 : decode cX8_hasDaysLeft 22 = .ok (.iconst 0, 1) := by decide +kernel
theorem dX8_hasDaysLeft_23 : decode cX8_hasDaysLeft 23 = .ok (.ireturn, 1) := by decide +kernel
theorem dX8_hasDaysLeft_24 : decode cX8_hasDaysLeft 24 = .ok (.aload_n 0, 1) := by decide +kernel
theorem dX8_hasDaysLeft_25 : decode cX8_hasDaysLeft 25 = .ok (.invokevirtual 310, 3) := by decide +kernel
theorem dX8_hasDaysLeft_28 : decode cX8_hasDaysLeft 28 = .ok (.astore 4, 2) := by decide +kernel
theorem dX8_hasDaysLeft_30 : decode cX8_hasDaysLeft 30 = .ok (.aload_n 1, 1) := by decide +kernel
theorem dX8_hasDaysLeft_31 : decode cX8_hasDaysLeft 31 = .ok (.getfield 307, 3) := by decide +kernel
theorem dX8_hasDaysLeft_34 : decode cX8_hasDaysLeft 34 = .ok (.aload_n 0, 1) := by decide +kernel
theorem dX8_hasDaysLeft_35 : decode cX8_hasDaysLeft 35 = .ok (.getfield 37, 3) := by decide +kernel
theorem dX8_hasDaysLeft_38 : decode cX8_hasDaysLeft 38 = .ok (.iconst 1, 1) := by decide +kernel
theorem dX8_hasDaysLeft_39 : decode cX8_hasDaysLeft 39 = .ok (.isub, 1) := by decide +kernel
theorem dX8_hasDaysLeft_40 : decode cX8_hasDaysLeft 40 = .ok (.invokevirtual 202, 3) := by decide +kernel
theorem dX8_hasDaysLeft_43 : decode cX8_hasDaysLeft 43 = .ok (.aload_n 1, 1) := by decide +kernel
theorem dX8_hasDaysLeft_44 : decode cX8_hasDaysLeft 44 = .ok (.getfield 307, 3) := by decide +kernel
theorem dX8_hasDaysLeft_47 : decode cX8_hasDaysLeft 47 = .ok (.aload_n 0, 1) := by decide +kernel
theorem dX8_hasDaysLeft_48 : decode cX8_hasDaysLeft 48 = .ok (.getfield 37, 3) := by decide +kernel
theorem dX8_hasDaysLeft_51 : decode cX8_hasDaysLeft 51 = .ok (.aload 4, 2) := by decide +kernel
theorem dX8_hasDaysLeft_53 : decode cX8_hasDaysLeft 53 = .ok (.getfield 314, 3) := by decide +kernel
theorem dX8_hasDaysLeft_56 : decode cX8_hasDaysLeft 56 = .ok (.isub, 1) := by decide +kernel
theorem dX8_hasDaysLeft_57 : decode cX8_hasDaysLeft 57 = .ok (.invokevirtual 202, 3) := by decide +kernel
theorem dX8_hasDaysLeft_60 : decode cX8_hasDaysLeft 60 = .ok (.isub, 1) := by decide +kernel
theorem dX8_hasDaysLeft_61 : decode cX8_hasDaysLeft 61 = .ok (.iconst 1, 1) := by decide +kernel
theorem dX8_hasDaysLeft_62 : decode cX8_hasDaysLeft 62 = .ok (.iadd, 1) := by decide +kernel
theorem dX8_hasDaysLeft_63 : decode cX8_hasDaysLeft 63 = .ok (.aload 4, 2) := by decide +kernel
theorem dX8_hasDaysLeft_65 : decode cX8_hasDaysLeft 65 = .ok (.getfield 397, 3) := by decide +kernel
theorem dX8_hasDaysLeft_68 : decode cX8_hasDaysLeft 68 = .ok (.if_icmp .gt 7, 3) := by decide +kernel
theorem dX8_hasDaysLeft_71 : decode cX8_hasDaysLeft 71 = .ok (.iconst 1, 1) := by decide +kernel
theorem dX8_hasDaysLeft_72 : decode cX8_hasDaysLeft 72 = .ok (.goto 4, 3) := by decide +kernel
theorem dX8_hasDaysLeft_75 : decode cX8_hasDaysLeft 75 = .ok (.iconst 0, 1) := by decide +kernel
theorem dX8_hasDaysLeft_76 : decode cX8_hasDaysLeft 76 = .ok (.ireturn, 1) := by decide +kernel
set_option maxRecDepth 20000 in
theorem ggX8_isFreeOfVisas_X1_waivesFor : GoodIn wsX8_isFreeOfVisas wsX1_waivesFor := goodIn_r _ [11, 12, 69, 70, 71, 72, 73, 74, 75] (by decide +kernel) (by decide +kernel)
set_option maxRecDepth 20000 in
theorem gX8_isFreeOfVisas_X1_waivesFor : GoodIn wsX8_isFreeOfVisas (wsV RX8 78 RX1 yX1_waivesFor wsX1_waivesFor) := goodIn_app (goodIn_of _ (by decide +kernel)) ggX8_isFreeOfVisas_X1_waivesFor
set_option maxRecDepth 20000 in
theorem ggX8_isFreeOfVisas_Jx4a65c_size_8abf5 : GoodIn wsX8_isFreeOfVisas wsJx4a65c_size_8abf5 := goodIn_r _ [17, 18, 76, 77, 78] (by decide +kernel) (by decide +kernel)
set_option maxRecDepth 20000 in
theorem gX8_isFreeOfVisas_Jx4a65c_size_8abf5 : GoodIn wsX8_isFreeOfVisas (wsV RX8 48 RJx4a65c yJx4a65c_size_8abf5 wsJx4a65c_size_8abf5) := goodIn_app (goodIn_of _ (by decide +kernel)) ggX8_isFreeOfVisas_Jx4a65c_size_8abf5
set_option maxRecDepth 20000 in
theorem ggX8_isFreeOfVisas_Jx4a65c_get_915e3 : GoodIn wsX8_isFreeOfVisas wsJx4a65c_get_915e3 := goodIn_r _ [22, 18, 23, 24, 25, 26, 27, 28, 29, 30, 31, 32, 33, 16, 34, 35, 76, 77, 78] (by decide +kernel) (by decide +kernel)
set_option maxRecDepth 20000 in
theorem gX8_isFreeOfVisas_Jx4a65c_get_915e3 : GoodIn wsX8_isFreeOfVisas (wsV RX8 347 RJx4a65c yJx4a65c_get_915e3 wsJx4a65c_get_915e3) := goodIn_app (goodIn_of _ (by decide +kernel)) ggX8_isFreeOfVisas_Jx4a65c_get_915e3
set_option maxRecDepth 20000 in
theorem ggX8_isFreeOfVisas_X2_isValid : GoodIn wsX8_isFreeOfVisas wsX2_isValid := goodIn_r _ [40, 41, 42, 43, 44, 45, 46, 47, 48, 79, 80, 81, 82] (by decide +kernel) (by decide +kernel)
set_option maxRecDepth 20000 in
theorem gX8_isFreeOfVisas_X2_isValid : GoodIn wsX8_isFreeOfVisas (wsV RX8 283 RX2 yX2_isValid wsX2_isValid) := goodIn_app (goodIn_of _ (by decide +kernel)) ggX8_isFreeOfVisas_X2_isValid
theorem dX8_isFreeOfVisas_0 : decode cX8_isFreeOfVisas 0 = .ok (.aload_n 2, 1) := by decide +kernel
theorem dX8_isFreeOfVisas_1 : decode cX8_isFreeOfVisas 1 = .ok (.aload_n 1, 1) := by decide +kernel
theorem dX8_isFreeOfVisas_2 : decode cX8_isFreeOfVisas 2 = .ok (.getfield 124, 3) := by decide +kernel
theorem dX8_isFreeOfVisas_5 : decode cX8_isFreeOfVisas 5 = .ok (.invokevirtual 78, 3) := by decide +kernel
theorem dX8_isFreeOfVisas_8 : decode cX8_isFreeOfVisas 8 = .ok (.istore_n 3, 1) := by decide +kernel
theorem dX8_isFreeOfVisas_9 : decode cX8_isFreeOfVisas 9 = .ok (.iconst 0, 1) := by decide +kernel
theorem dX8_isFreeOfVisas_10 : decode cX8_isFreeOfVisas 10 = .ok (.istore 4, 2) := by decide +kernel
theorem dX8_isFreeOfVisas_12 : decode cX8_isFreeOfVisas 12 = .ok (.iload 4, 2) := by decide +kernel
theorem dX8_isFreeOfVisas_14 : decode cX8_isFreeOfVisas 14 = .ok (.aload_n 0, 1) := by decide +kernel
theorem dX8_isFreeOfVisas_15 : decode cX8_isFreeOfVisas 15 = .ok (.getfield 12, 3) := by decide +kernel
theorem dX8_isFreeOfVisas_18 : decode cX8_isFreeOfVisas 18 = .ok (.invokevirtual 48, 3) := by decide +kernel
theorem dX8_isFreeOfVisas_21 : decode cX8_isFreeOfVisas 21 = .ok (.if_icmp .ge 60, 3) := by decide +kernel
theorem dX8_isFreeOfVisas_24 : decode cX8_isFreeOfVisas 24 = .ok (.aload_n 2, 1) := by decide +kernel
theorem dX8_isFreeOfVisas_25 : decode cX8_isFreeOfVisas 25 = .ok (.getfield 165, 3) := by decide +kernel
theorem dX8_isFreeOfVisas_28 : decode cX8_isFreeOfVisas 28 = .ok (.ifCond .eq 53, 3) := by decide +kernel
theorem dX8_isFreeOfVisas_31 : decode cX8_isFreeOfVisas 31 = .ok (.iload_n 3, 1) := by decide +kernel
theorem dX8_isFreeOfVisas_32 : decode cX8_isFreeOfVisas 32 = .ok (.ifCond .ne 49, 3) := by decide +kernel
theorem dX8_isFreeOfVisas_35 : decode cX8_isFreeOfVisas 35 = .ok (.aload_n 0, 1) := by decide +kernel
theorem dX8_isFreeOfVisas_36 : decode cX8_isFreeOfVisas 36 = .ok (.getfield 12, 3) := by decide +kernel
theorem dX8_isFreeOfVisas_39 : decode cX8_isFreeOfVisas 39 = .ok (.iload 4, 2) := by decide +kernel
theorem dX8_isFreeOfVisas_41 : decode cX8_isFreeOfVisas 41 = .ok (.invokevirtual 347, 3) := by decide +kernel
theorem dX8_isFreeOfVisas_44 : decode cX8_isFreeOfVisas 44 = .ok (.checkcast 57, 3) := by decide +kernel
theorem dX8_isFreeOfVisas_47 : decode cX8_isFreeOfVisas 47 = .ok (.getfield 165, 3) := by decide +kernel
theorem dX8_isFreeOfVisas_50 : decode cX8_isFreeOfVisas 50 = .ok (.ifCond .eq 23, 3) := by decide +kernel
theorem dX8_isFreeOfVisas_53 : decode cX8_isFreeOfVisas 53 = .ok (.aload_n 1, 1) := by decide +kernel
theorem dX8_isFreeOfVisas_54 : decode cX8_isFreeOfVisas 54 = .ok (.getfield 279, 3) := by decide +kernel
theorem dX8_isFreeOfVisas_57 : decode cX8_isFreeOfVisas 57 = .ok (.iload 4, 2) := by decide +kernel
theorem dX8_isFreeOfVisas_59 : decode cX8_isFreeOfVisas 59 = .ok (.aload_n 0, 1) := by decide +kernel
theorem dX8_isFreeOfVisas_60 : decode cX8_isFreeOfVisas 60 = .ok (.getfield 37, 3) := by decide +kernel
theorem dX8_isFreeOfVisas_63 : decode cX8_isFreeOfVisas 63 = .ok (.invokevirtual 283, 3) := by decide +kernel
theorem dX8_isFreeOfVisas_66 : decode cX8_isFreeOfVisas 66 = .ok (.ifCond .eq 7, 3) := by decide +kernel
theorem dX8_isFreeOfVisas_69 : decode cX8_isFreeOfVisas 69 = .ok (.iconst 1, 1) := by decide +kernel
theorem dX8_isFreeOfVisas_70 : decode cX8_isFreeOfVisas 70 = .ok (.goto 4, 3) := by decide +kernel
theorem dX8_isFreeOfVisas_73 : decode cX8_isFreeOfVisas 73 = .ok (.iconst 0, 1) := by decide +kernel
theorem dX8_isFreeOfVisas_74 : decode cX8_isFreeOfVisas 74 = .ok (.istore_n 3, 1) := by decide +kernel
theorem dX8_isFreeOfVisas_75 : decode cX8_isFreeOfVisas 75 = .ok (.iinc 4 1, 3) := by decide +kernel
theorem dX8_isFreeOfVisas_78 : decode cX8_isFreeOfVisas 78 = .ok (.goto (-66), 3) := by decide +kernel
theorem dX8_isFreeOfVisas_81 : decode cX8_isFreeOfVisas 81 = .ok (.iload_n 3, 1) := by decide +kernel
theorem dX8_isFreeOfVisas_82 : decode cX8_isFreeOfVisas 82 = .ok (.ireturn, 1) := by decide +kernel
set_option maxRecDepth 20000 in
theorem ggX8_isCounting_Jx4a65c_size_8abf5 : GoodIn wsX8_isCounting wsJx4a65c_size_8abf5 := goodIn_r _ [8, 9, 41, 42, 43] (by decide +kernel) (by decide +kernel)
set_option maxRecDepth 20000 in
theorem gX8_isCounting_Jx4a65c_size_8abf5 : GoodIn wsX8_isCounting (wsV RX8 48 RJx4a65c yJx4a65c_size_8abf5 wsJx4a65c_size_8abf5) := goodIn_app (goodIn_of _ (by decide +kernel)) ggX8_isCounting_Jx4a65c_size_8abf5
set_option maxRecDepth 20000 in
theorem ggX8_isCounting_Jx4a65c_get_915e3 : GoodIn wsX8_isCounting wsJx4a65c_get_915e3 := goodIn_r _ [13, 9, 14, 15, 16, 17, 18, 19, 20, 21, 22, 23, 24, 7, 25, 26, 41, 42, 43] (by decide +kernel) (by decide +kernel)
set_option maxRecDepth 20000 in
theorem gX8_isCounting_Jx4a65c_get_915e3 : GoodIn wsX8_isCounting (wsV RX8 347 RJx4a65c yJx4a65c_get_915e3 wsJx4a65c_get_915e3) := goodIn_app (goodIn_of _ (by decide +kernel)) ggX8_isCounting_Jx4a65c_get_915e3
theorem dX8_isCounting_0 : decode cX8_isCounting 0 = .ok (.iload_n 1, 1) := by decide +kernel
theorem dX8_isCounting_1 : decode cX8_isCounting 1 = .ok (.bipush 10, 2) := by decide +kernel
theorem dX8_isCounting_3 : decode cX8_isCounting 3 = .ok (.idiv, 1) := by decide +kernel
theorem dX8_isCounting_4 : decode cX8_isCounting 4 = .ok (.istore_n 2, 1) := by decide +kernel
theorem dX8_isCounting_5 : decode cX8_isCounting 5 = .ok (.iload_n 1, 1) := by decide +kernel
theorem dX8_isCounting_6 : decode cX8_isCounting 6 = .ok (.bipush 10, 2) := by decide +kernel
theorem dX8_isCounting_8 : decode cX8_isCounting 8 = .ok (.irem, 1) := by decide +kernel
theorem dX8_isCounting_9 : decode cX8_isCounting 9 = .ok (.iconst 3, 1) := by decide +kernel
theorem dX8_isCounting_10 : decode cX8_isCounting 10 = .ok (.if_icmp .lt 39, 3) := by decide +kernel
theorem dX8_isCounting_13 : decode cX8_isCounting 13 = .ok (.iload_n 2, 1) := by decide +kernel
theorem dX8_isCounting_14 : decode cX8_isCounting 14 = .ok (.ifCond .lt 35, 3) := by decide +kernel
theorem dX8_isCounting_17 : decode cX8_isCounting 17 = .ok (.iload_n 2, 1) := by decide +kernel
theorem dX8_isCounting_18 : decode cX8_isCounting 18 = .ok (.aload_n 0, 1) := by decide +kernel
theorem dX8_isCounting_19 : decode cX8_isCounting 19 = .ok (.getfield 12, 3) := by decide +kernel
theorem dX8_isCounting_22 : decode cX8_isCounting 22 = .ok (.invokevirtual 48, 3) := by decide +kernel
theorem dX8_isCounting_25 : decode cX8_isCounting 25 = .ok (.if_icmp .ge 24, 3) := by decide +kernel
theorem dX8_isCounting_28 : decode cX8_isCounting 28 = .ok (.aload_n 0, 1) := by decide +kernel
theorem dX8_isCounting_29 : decode cX8_isCounting 29 = .ok (.getfield 12, 3) := by decide +kernel
theorem dX8_isCounting_32 : decode cX8_isCounting 32 = .ok (.iload_n 2, 1) := by decide +kernel
theorem dX8_isCounting_33 : decode cX8_isCounting 33 = .ok (.invokevirtual 347, 3) := by decide +kernel
theorem dX8_isCounting_36 : decode cX8_isCounting 36 = .ok (.checkcast 57, 3) := by decide +kernel
theorem dX8_isCounting_39 : decode cX8_isCounting 39 = .ok (.getfield 165, 3) := by decide +kernel
theorem dX8_isCounting_42 : decode cX8_isCounting 42 = .ok (.ifCond .eq 7, 3) := by decide +kernel
theorem dX8_isCounting_45 : decode cX8_isCounting 45 = .ok (.iconst 1, 1) := by decide +kernel
theorem dX8_isCounting_46 : decode cX8_isCounting 46 = .ok (.goto 4, 3) := by decide +kernel
theorem dX8_isCounting_49 : decode cX8_isCounting 49 = .ok (.iconst 0, 1) := by decide +kernel
theorem dX8_isCounting_50 : decode cX8_isCounting 50 = .ok (.ireturn, 1) := by decide +kernel
set_option maxRecDepth 20000 in
theorem ggX8_countRules_Jx4a65c_size_8abf5 : GoodIn wsX8_countRules wsJx4a65c_size_8abf5 := goodIn_r _ [6, 7, 15, 16, 17] (by decide +kernel) (by decide +kernel)
set_option maxRecDepth 20000 in
theorem gX8_countRules_Jx4a65c_size_8abf5 : GoodIn wsX8_countRules (wsV RX8 48 RJx4a65c yJx4a65c_size_8abf5 wsJx4a65c_size_8abf5) := goodIn_app (goodIn_of _ (by decide +kernel)) ggX8_countRules_Jx4a65c_size_8abf5
theorem dX8_countRules_0 : decode cX8_countRules 0 = .ok (.iconst 1, 1) := by decide +kernel
theorem dX8_countRules_1 : decode cX8_countRules 1 = .ok (.aload_n 0, 1) := by decide +kernel
theorem dX8_countRules_2 : decode cX8_countRules 2 = .ok (.getfield 34, 3) := by decide +kernel
theorem dX8_countRules_5 : decode cX8_countRules 5 = .ok (.invokevirtual 48, 3) := by decide +kernel
theorem dX8_countRules_8 : decode cX8_countRules 8 = .ok (.iadd, 1) := by decide +kernel
theorem dX8_countRules_9 : decode cX8_countRules 9 = .ok (.ireturn, 1) := by decide +kernel
set_option maxRecDepth 20000 in
theorem ggX8_ruleToday_Jx4a65c_size_8abf5 : GoodIn wsX8_ruleToday wsJx4a65c_size_8abf5 := goodIn_r _ [10, 11, 39, 40, 41] (by decide +kernel) (by decide +kernel)
set_option maxRecDepth 20000 in
theorem gX8_ruleToday_Jx4a65c_size_8abf5 : GoodIn wsX8_ruleToday (wsV RX8 48 RJx4a65c yJx4a65c_size_8abf5 wsJx4a65c_size_8abf5) := goodIn_app (goodIn_of _ (by decide +kernel)) ggX8_ruleToday_Jx4a65c_size_8abf5
set_option maxRecDepth 20000 in
theorem ggX8_ruleToday_Jx4a65c_get_915e3 : GoodIn wsX8_ruleToday wsJx4a65c_get_915e3 := goodIn_r _ [15, 11, 16, 17, 18, 19, 20, 21, 22, 23, 24, 25, 26, 9, 27, 28, 39, 40, 41] (by decide +kernel) (by decide +kernel)
set_option maxRecDepth 20000 in
theorem gX8_ruleToday_Jx4a65c_get_915e3 : GoodIn wsX8_ruleToday (wsV RX8 347 RJx4a65c yJx4a65c_get_915e3 wsJx4a65c_get_915e3) := goodIn_app (goodIn_of _ (by decide +kernel)) ggX8_ruleToday_Jx4a65c_get_915e3
theorem dX8_ruleToday_0 : decode cX8_ruleToday 0 = .ok (.aload_n 0, 1) := by decide +kernel
theorem dX8_ruleToday_1 : decode cX8_ruleToday 1 = .ok (.getfield 30, 3) := by decide +kernel
theorem dX8_ruleToday_4 : decode cX8_ruleToday 4 = .ok (.astore_n 1, 1) := by decide +kernel
theorem dX8_ruleToday_5 : decode cX8_ruleToday 5 = .ok (.iconst 0, 1) := by decide +kernel
theorem dX8_ruleToday_6 : decode cX8_ruleToday 6 = .ok (.istore_n 2, 1) := by decide +kernel
theorem dX8_ruleToday_7 : decode cX8_ruleToday 7 = .ok (.iload_n 2, 1) := by decide +kernel
theorem dX8_ruleToday_8 : decode cX8_ruleToday 8 = .ok (.aload_n 0, 1) := by decide +kernel
theorem dX8_ruleToday_9 : decode cX8_ruleToday 9 = .ok (.getfield 34, 3) := by decide +kernel
theorem dX8_ruleToday_12 : decode cX8_ruleToday 12 = .ok (.invokevirtual 48, 3) := by decide +kernel
theorem dX8_ruleToday_15 : decode cX8_ruleToday 15 = .ok (.if_icmp .ge 45, 3) := by decide +kernel
theorem dX8_ruleToday_18 : decode cX8_ruleToday 18 = .ok (.aload_n 0, 1) := by decide +kernel
theorem dX8_ruleToday_19 : decode cX8_ruleToday 19 = .ok (.getfield 34, 3) := by decide +kernel
theorem dX8_ruleToday_22 : decode cX8_ruleToday 22 = .ok (.iload_n 2, 1) := by decide +kernel
theorem dX8_ruleToday_23 : decode cX8_ruleToday 23 = .ok (.invokevirtual 347, 3) := by decide +kernel
theorem dX8_ruleToday_26 : decode cX8_ruleToday 26 = .ok (.checkcast 25, 3) := by decide +kernel
theorem dX8_ruleToday_29 : decode cX8_ruleToday 29 = .ok (.astore_n 3, 1) := by decide +kernel
theorem dX8_ruleToday_30 : decode cX8_ruleToday 30 = .ok (.aload_n 3, 1) := by decide +kernel
theorem dX8_ruleToday_31 : decode cX8_ruleToday 31 = .ok (.getfield 400, 3) := by decide +kernel
theorem dX8_ruleToday_34 : decode cX8_ruleToday 34 = .ok (.aload_n 0, 1) := by decide +kernel
theorem dX8_ruleToday_35 : decode cX8_ruleToday 35 = .ok (.getfield 37, 3) := by decide +kernel
theorem dX8_ruleToday_38 : decode cX8_ruleToday 38 = .ok (.if_icmp .gt 16, 3) := by decide +kernel
theorem dX8_ruleToday_41 : decode cX8_ruleToday 41 = .ok (.aload_n 3, 1) := by decide +kernel
theorem dX8_ruleToday_42 : decode cX8_ruleToday 42 = .ok (.getfield 400, 3) := by decide +kernel
theorem dX8_ruleToday_45 : decode cX8_ruleToday 45 = .ok (.aload_n 1, 1) := by decide +kernel
theorem dX8_ruleToday_46 : decode cX8_ruleToday 46 = .ok (.getfield 400, 3) := by decide +kernel
theorem dX8_ruleToday_49 : decode cX8_ruleToday 49 = .ok (.if_icmp .lt 5, 3) := by decide +kernel
theorem dX8_ruleToday_52 : decode cX8_ruleToday 52 = .ok (.aload_n 3, 1) := by decide +kernel
theorem dX8_ruleToday_53 : decode cX8_ruleToday 53 = .ok (.astore_n 1, 1) := by decide +kernel
theorem dX8_ruleToday_54 : decode cX8_ruleToday 54 = .ok (.iinc 2 1, 3) := by decide +kernel
theorem dX8_ruleToday_57 : decode cX8_ruleToday 57 = .ok (.goto (-50), 3) := by decide +kernel
theorem dX8_ruleToday_60 : decode cX8_ruleToday 60 = .ok (.aload_n 1, 1) := by decide +kernel
theorem dX8_ruleToday_61 : decode cX8_ruleToday 61 = .ok (.areturn, 1) := by decide +kernel
set_option maxRecDepth 20000 in
theorem ggX8_whyNot_X8_isRootedIn : GoodIn wsX8_whyNot wsX8_isRootedIn := goodIn_r _ [6, 7, 8, 1, 9, 10, 11, 12, 13, 14, 15, 16, 17, 18, 19, 20, 21, 22, 23, 24, 25, 26, 27, 28, 29, 30, 31, 32, 33, 144, 145, 146, 147, 148, 149, 150, 151, 152, 153, 154, 155, 156, 157, 158, 159, 160, 161, 162, 163, 137, 138, 139, 140, 141, 142, 143, 164, 165, 166, 167] (by decide +kernel) (by decide +kernel)
set_option maxRecDepth 20000 in
theorem gX8_whyNot_X8_isRootedIn : GoodIn wsX8_whyNot (wsV RX8 371 RX8 yX8_isRootedIn wsX8_isRootedIn) := goodIn_app (goodIn_of _ (by decide +kernel)) ggX8_whyNot_X8_isRootedIn
set_option maxRecDepth 20000 in
theorem ggX8_whyNot_X8_isBannedAt : GoodIn wsX8_whyNot wsX8_isBannedAt := goodIn_r _ [37, 38, 39, 1, 40, 41, 42, 43, 44, 45, 46, 47, 48, 49, 50, 51, 52, 53, 28, 29, 30, 31, 32, 33, 54, 55, 56, 57, 58, 59, 60, 61, 62, 63, 64, 65, 66, 67, 68, 69, 70, 71, 72, 73, 74, 75, 76, 77, 78, 5, 79, 80, 81, 8, 82, 83, 137, 138, 139, 140, 141, 142, 143, 144, 145, 146, 147, 148, 149, 150, 151, 152, 153, 154, 155, 156, 168, 169, 170, 171, 172, 173, 166, 167, 157, 158, 159, 160, 161, 162, 163] (by decide +kernel) (by decide +kernel)
set_option maxRecDepth 20000 in
theorem gX8_whyNot_X8_isBannedAt : GoodIn wsX8_whyNot (wsV RX8 403 RX8 yX8_isBannedAt wsX8_isBannedAt) := goodIn_app (goodIn_of _ (by decide +kernel)) ggX8_whyNot_X8_isBannedAt
set_option maxRecDepth 20000 in
theorem ggX8_whyNot_X8_needsVisa : GoodIn wsX8_whyNot wsX8_needsVisa := goodIn_r _ [87, 2, 3, 4, 5, 6, 7, 8, 1, 9, 10, 11, 12, 13, 14, 15, 16, 17, 18, 19, 20, 21, 22, 23, 24, 25, 26, 27, 28, 29, 30, 31, 32, 33, 88, 89, 90, 91, 92, 38, 80, 40, 93, 94, 95, 96, 97, 41, 42, 43, 44, 45, 46, 59, 60, 61, 62, 63, 64, 65, 66, 67, 68, 69, 70, 71, 72, 73, 74, 75, 144, 145, 146, 147, 148, 149, 150, 151, 152, 153, 154, 155, 156, 157, 158, 159, 160, 161, 162, 163, 137, 138, 139, 140, 141, 142, 143, 164, 165, 166, 167, 168, 169, 170] (by decide +kernel) (by decide +kernel)
set_option maxRecDepth 20000 in
theorem gX8_whyNot_X8_needsVisa : GoodIn wsX8_whyNot (wsV RX8 153 RX8 yX8_needsVisa wsX8_needsVisa) := goodIn_app (goodIn_of _ (by decide +kernel)) ggX8_whyNot_X8_needsVisa
set_option maxRecDepth 20000 in
theorem ggX8_whyNot_X8_lowestVisa : GoodIn wsX8_whyNot wsX8_lowestVisa := goodIn_r _ [101, 102, 103, 104, 105, 106, 1, 41, 42, 43, 44, 45, 46, 59, 60, 61, 62, 63, 64, 65, 66, 67, 68, 69, 70, 71, 72, 73, 74, 75, 107, 108, 109, 110, 111, 112, 113, 114, 115, 116, 117, 118, 119, 120, 121, 137, 138, 139, 140, 141, 142, 143, 174, 175, 176, 177, 178, 179, 180, 181, 144, 145, 146, 147, 148, 149, 150, 151, 152, 153, 154, 155, 156, 168, 169, 170, 157, 158, 159, 160, 161, 162, 163] (by decide +kernel) (by decide +kernel)
set_option maxRecDepth 20000 in
theorem gX8_whyNot_X8_lowestVisa : GoodIn wsX8_whyNot (wsV RX8 157 RX8 yX8_lowestVisa wsX8_lowestVisa) := goodIn_app (goodIn_of _ (by decide +kernel)) ggX8_whyNot_X8_lowestVisa
set_option maxRecDepth 20000 in
theorem ggX8_whyNot_X8_hasDaysLeft : GoodIn wsX8_whyNot wsX8_hasDaysLeft := goodIn_r _ [125, 80, 1, 126, 127, 128, 129, 130, 131, 5, 132, 133, 134, 135, 136, 41, 42, 43, 44, 45, 46, 59, 60, 61, 62, 63, 64, 65, 66, 67, 68, 69, 70, 71, 72, 73, 74, 75, 83, 28, 29, 30, 31, 32, 33, 157, 158, 159, 160, 161, 162, 163, 137, 138, 139, 140, 141, 142, 143, 144, 145, 146, 147, 148, 149, 150, 151, 152, 153, 154, 155, 156, 182, 183, 184, 168, 169, 170, 166, 167] (by decide +kernel) (by decide +kernel)
set_option maxRecDepth 20000 in
theorem gX8_whyNot_X8_hasDaysLeft : GoodIn wsX8_whyNot (wsV RX8 389 RX8 yX8_hasDaysLeft wsX8_hasDaysLeft) := goodIn_app (goodIn_of _ (by decide +kernel)) ggX8_whyNot_X8_hasDaysLeft
theorem dX8_whyNot_0 : decode cX8_whyNot 0 = .ok (.aload_n 0, 1) := by decide +kernel
theorem dX8_whyNot_1 : decode cX8_whyNot 1 = .ok (.aload_n 1, 1) := by decide +kernel
theorem dX8_whyNot_2 : decode cX8_whyNot 2 = .ok (.aload_n 2, 1) := by decide +kernel
theorem dX8_whyNot_3 : decode cX8_whyNot 3 = .ok (.invokevirtual 371, 3) := by decide +kernel
theorem dX8_whyNot_6 : decode cX8_whyNot 6 = .ok (.ifCond .eq 5, 3) := by decide +kernel
theorem dX8_whyNot_9 : decode cX8_whyNot 9 = .ok (.iconst 0, 1) := by decide +kernel
theorem dX8_whyNot_10 : decode cX8_whyNot 10 = .ok (.ireturn, 1) := by decide +kernel
theorem dX8_whyNot_11 : decode cX8_whyNot 11 = .ok (.aload_n 0, 1) := by decide +kernel
theorem dX8_whyNot_12 : decode cX8_whyNot 12 = .ok (.aload_n 1, 1) := by decide +kernel
theorem dX8_whyNot_13 : decode cX8_whyNot 13 = .ok (.aload_n 2, 1) := by decide +kernel
theorem dX8_whyNot_14 : decode cX8_whyNot 14 = .ok (.invokevirtual 403, 3) := by decide +kernel
theorem dX8_whyNot_17 : decode cX8_whyNot 17 = .ok (.ifCond .eq 5, 3) := by decide +kernel
theorem dX8_whyNot_20 : decode cX8_whyNot 20 = .ok (.iconst 1, 1) := by decide +kernel
theorem dX8_whyNot_21 : decode cX8_whyNot 21 = .ok (.ireturn, 1) := by decide +kernel
theorem dX8_whyNot_22 : decode cX8_whyNot 22 = .ok (.aload_n 0, 1) := by decide +kernel
theorem dX8_whyNot_23 : decode cX8_whyNot 23 = .ok (.aload_n 1, 1) := by decide +kernel
theorem dX8_whyNot_24 : decode cX8_whyNot 24 = .ok (.aload_n 2, 1) := by decide +kernel
theorem dX8_whyNot_25 : decode cX8_whyNot 25 = .ok (.invokevirtual 153, 3) := by decide +kernel
theorem dX8_whyNot_28 : decode cX8_whyNot 28 = .ok (.ifCond .eq 14, 3) := by decide +kernel
theorem dX8_whyNot_31 : decode cX8_whyNot 31 = .ok (.aload_n 0, 1) := by decide +kernel
theorem dX8_whyNot_32 : decode cX8_whyNot 32 = .ok (.aload_n 1, 1) := by decide +kernel
theorem dX8_whyNot_33 : decode cX8_whyNot 33 = .ok (.aload_n 2, 1) := by decide +kernel
theorem dX8_whyNot_34 : decode cX8_whyNot 34 = .ok (.invokevirtual 157, 3) := by decide +kernel
theorem dX8_whyNot_37 : decode cX8_whyNot 37 = .ok (.ifnonnull 5, 3) := by decide +kernel
theorem dX8_whyNot_40 : decode cX8_whyNot 40 = .ok (.iconst 2, 1) := by decide +kernel
theorem dX8_whyNot_41 : decode cX8_whyNot 41 = .ok (.ireturn, 1) := by decide +kernel
theorem dX8_whyNot_42 : decode cX8_whyNot 42 = .ok (.aload_n 0, 1) := by decide +kernel
theorem dX8_whyNot_43 : decode cX8_whyNot 43 = .ok (.aload_n 1, 1) := by decide +kernel
theorem dX8_whyNot_44 : decode cX8_whyNot 44 = .ok (.aload_n 2, 1) := by decide +kernel
theorem dX8_whyNot_45 : decode cX8_whyNot 45 = .ok (.aload_n 0, 1) := by decide +kernel
theorem dX8_whyNot_46 : decode cX8_whyNot 46 = .ok (.getfield 37, 3) := by decide +kernel
theorem dX8_whyNot_49 : decode cX8_whyNot 49 = .ok (.invokevirtual 389, 3) := by decide +kernel
theorem dX8_whyNot_52 : decode cX8_whyNot 52 = .ok (.ifCond .eq 7, 3) := by decide +kernel
theorem dX8_whyNot_55 : decode cX8_whyNot 55 = .ok (.iconst 0, 1) := by decide +kernel
theorem dX8_whyNot_56 : decode cX8_whyNot 56 = .ok (.goto 4, 3) := by decide +kernel
theorem dX8_whyNot_59 : decode cX8_whyNot 59 = .ok (.iconst 3, 1) := by decide +kernel
theorem dX8_whyNot_60 : decode cX8_whyNot 60 = .ok (.ireturn, 1) := by decide +kernel
set_option maxRecDepth 20000 in
theorem ggX8_needsVisa_X8_isRootedIn : GoodIn wsX8_needsVisa wsX8_isRootedIn := goodIn_r _ [5, 6, 7, 8, 9, 10, 11, 12, 13, 14, 15, 16, 17, 18, 19, 20, 21, 22, 23, 24, 25, 26, 27, 28, 29, 30, 31, 32, 33, 70, 71, 72, 73, 74, 75, 76, 77, 78, 79, 80, 81, 82, 83, 84, 85, 86, 87, 88, 89, 90, 91, 92, 93, 94, 95, 96, 97, 98, 99, 100] (by decide +kernel) (by decide +kernel)
set_option maxRecDepth 20000 in
theorem gX8_needsVisa_X8_isRootedIn : GoodIn wsX8_needsVisa (wsV RX8 371 RX8 yX8_isRootedIn wsX8_isRootedIn) := goodIn_app (goodIn_of _ (by decide +kernel)) ggX8_needsVisa_X8_isRootedIn
set_option maxRecDepth 20000 in
theorem ggX8_needsVisa_X8_isFreeOfVisas : GoodIn wsX8_needsVisa wsX8_isFreeOfVisas := goodIn_r _ [37, 38, 39, 40, 41, 6, 8, 42, 43, 44, 18, 45, 46, 47, 48, 49, 50, 51, 52, 53, 54, 55, 56, 57, 58, 59, 60, 61, 62, 63, 64, 65, 66, 67, 68, 69, 21, 22, 23, 24, 25, 26, 27, 28, 29, 30, 31, 32, 33, 70, 71, 72, 73, 74, 75, 76, 77, 78, 79, 80, 81, 82, 90, 91, 92, 93, 94, 95, 96, 83, 84, 85, 86, 87, 88, 89, 101, 102, 103, 97, 98, 99, 100] (by decide +kernel) (by decide +kernel)
set_option maxRecDepth 20000 in
theorem gX8_needsVisa_X8_isFreeOfVisas : GoodIn wsX8_needsVisa (wsV RX8 383 RX8 yX8_isFreeOfVisas wsX8_isFreeOfVisas) := goodIn_app (goodIn_of _ (by decide +kernel)) ggX8_needsVisa_X8_isFreeOfVisas
theorem dX8_needsVisa_0 : decode cX8_needsVisa 0 = .ok (.aload_n 0, 1) := by decide +kernel
theorem dX8_needsVisa_1 : decode cX8_needsVisa 1 = .ok (.aload_n 1, 1) := by decide +kernel
theorem dX8_needsVisa_2 : decode cX8_needsVisa 2 = .ok (.aload_n 2, 1) := by decide +kernel
theorem dX8_needsVisa_3 : decode cX8_needsVisa 3 = .ok (.invokevirtual 371, 3) := by decide +kernel
theorem dX8_needsVisa_6 : decode cX8_needsVisa 6 = .ok (.ifCond .ne 16, 3) := by decide +kernel
theorem dX8_needsVisa_9 : decode cX8_needsVisa 9 = .ok (.aload_n 0, 1) := by decide +kernel
theorem dX8_needsVisa_10 : decode cX8_needsVisa 10 = .ok (.aload_n 1, 1) := by decide +kernel
theorem dX8_needsVisa_11 : decode cX8_needsVisa 11 = .ok (.aload_n 2, 1) := by decide +kernel
theorem dX8_needsVisa_12 : decode cX8_needsVisa 12 = .ok (.invokevirtual 383, 3) := by decide +kernel
theorem dX8_needsVisa_15 : decode cX8_needsVisa 15 = .ok (.ifCond .ne 7, 3) := by decide +kernel
theorem dX8_needsVisa_18 : decode cX8_needsVisa 18 = .ok (.iconst 1, 1) := by decide +kernel
theorem dX8_needsVisa_19 : decode cX8_needsVisa 19 = .ok (.goto 4, 3) := by decide +kernel
theorem dX8_needsVisa_22 : decode cX8_needsVisa 22 = .ok (.iconst 0, 1) := by decide +kernel
theorem dX8_needsVisa_23 : decode cX8_needsVisa 23 = .ok (.ireturn, 1) := by decide +kernel
set_option maxRecDepth 20000 in
theorem ggX8_lowestVisa_Jx4a65c_size_8abf5 : GoodIn wsX8_lowestVisa wsJx4a65c_size_8abf5 := goodIn_r _ [11, 12, 73, 74, 75] (by decide +kernel) (by decide +kernel)
set_option maxRecDepth 20000 in
theorem gX8_lowestVisa_Jx4a65c_size_8abf5 : GoodIn wsX8_lowestVisa (wsV RX8 48 RJx4a65c yJx4a65c_size_8abf5 wsJx4a65c_size_8abf5) := goodIn_app (goodIn_of _ (by decide +kernel)) ggX8_lowestVisa_Jx4a65c_size_8abf5
set_option maxRecDepth 20000 in
theorem ggX8_lowestVisa_Jx4a65c_get_915e3 : GoodIn wsX8_lowestVisa wsJx4a65c_get_915e3 := goodIn_r _ [16, 12, 17, 18, 19, 20, 21, 22, 23, 24, 25, 26, 27, 10, 28, 29, 73, 74, 75] (by decide +kernel) (by decide +kernel)
set_option maxRecDepth 20000 in
theorem gX8_lowestVisa_Jx4a65c_get_915e3 : GoodIn wsX8_lowestVisa (wsV RX8 347 RJx4a65c yJx4a65c_get_915e3 wsJx4a65c_get_915e3) := goodIn_app (goodIn_of _ (by decide +kernel)) ggX8_lowestVisa_Jx4a65c_get_915e3
set_option maxRecDepth 20000 in
theorem ggX8_lowestVisa_X7_doesFor : GoodIn wsX8_lowestVisa wsX7_doesFor := goodIn_r _ [34, 35, 36, 37, 38, 39, 40, 41, 33, 42, 43, 44, 52, 53, 54, 55, 56, 57, 58, 59, 76, 77, 78, 79, 80, 81, 82] (by decide +kernel) (by decide +kernel)
set_option maxRecDepth 20000 in
theorem gX8_lowestVisa_X7_doesFor : GoodIn wsX8_lowestVisa (wsV RX8 393 RX7 yX7_doesFor wsX7_doesFor) := goodIn_app (goodIn_of _ (by decide +kernel)) ggX8_lowestVisa_X7_doesFor
theorem dX8_lowestVisa_0 : decode cX8_lowestVisa 0 = .ok (.iconst 0, 1) := by decide +kernel
theorem dX8_lowestVisa_1 : decode cX8_lowestVisa 1 = .ok (.istore_n 3, 1) := by decide +kernel
theorem dX8_lowestVisa_2 : decode cX8_lowestVisa 2 = .ok (.iload_n 3, 1) := by decide +kernel
theorem dX8_lowestVisa_3 : decode cX8_lowestVisa 3 = .ok (.aload_n 0, 1) := by decide +kernel
theorem dX8_lowestVisa_4 : decode cX8_lowestVisa 4 = .ok (.getfield 19, 3) := by decide +kernel
theorem dX8_lowestVisa_7 : decode cX8_lowestVisa 7 = .ok (.invokevirtual 48, 3) := by decide +kernel
theorem dX8_lowestVisa_10 : decode cX8_lowestVisa 10 = .ok (.if_icmp .ge 58, 3) := by decide +kernel
theorem dX8_lowestVisa_13 : decode cX8_lowestVisa 13 = .ok (.aload_n 0, 1) := by decide +kernel
theorem dX8_lowestVisa_14 : decode cX8_lowestVisa 14 = .ok (.getfield 19, 3) := by decide +kernel
theorem dX8_lowestVisa_17 : decode cX8_lowestVisa 17 = .ok (.iload_n 3, 1) := by decide +kernel
theorem dX8_lowestVisa_18 : decode cX8_lowestVisa 18 = .ok (.invokevirtual 347, 3) := by decide +kernel
theorem dX8_lowestVisa_21 : decode cX8_lowestVisa 21 = .ok (.checkcast 133, 3) := by decide +kernel
theorem dX8_lowestVisa_24 : decode cX8_lowestVisa 24 = .ok (.astore 4, 2) := by decide +kernel
theorem dX8_lowestVisa_26 : decode cX8_lowestVisa 26 = .ok (.aload 4, 2) := by decide +kernel
theorem dX8_lowestVisa_28 : decode cX8_lowestVisa 28 = .ok (.getfield 337, 3) := by decide +kernel
theorem dX8_lowestVisa_31 : decode cX8_lowestVisa 31 = .ok (.aload_n 1, 1) := by decide +kernel
theorem dX8_lowestVisa_32 : decode cX8_lowestVisa 32 = .ok (.getfield 101, 3) := by decide +kernel
theorem dX8_lowestVisa_35 : decode cX8_lowestVisa 35 = .ok (.if_icmp .ne 27, 3) := by decide +kernel
theorem dX8_lowestVisa_38 : decode cX8_lowestVisa 38 = .ok (.aload 4, 2) := by decide +kernel
theorem dX8_lowestVisa_40 : decode cX8_lowestVisa 40 = .ok (.getfield 138, 3) := by decide +kernel
theorem dX8_lowestVisa_43 : decode cX8_lowestVisa 43 = .ok (.ifCond .le 19, 3) := by decide +kernel
theorem dX8_lowestVisa_46 : decode cX8_lowestVisa 46 = .ok (.aload 4, 2) := by decide +kernel
theorem dX8_lowestVisa_48 : decode cX8_lowestVisa 48 = .ok (.aload_n 2, 1) := by decide +kernel
theorem dX8_lowestVisa_49 : decode cX8_lowestVisa 49 = .ok (.aload_n 0, 1) := by decide +kernel
theorem dX8_lowestVisa_50 : decode cX8_lowestVisa 50 = .ok (.getfield 37, 3) := by decide +kernel
theorem dX8_lowestVisa_53 : decode cX8_lowestVisa 53 = .ok (.invokevirtual 393, 3) := by decide +kernel
theorem dX8_lowestVisa_56 : decode cX8_lowestVisa 56 = .ok (.ifCond .eq 6, 3) := by decide +kernel
theorem dX8_lowestVisa_59 : decode cX8_lowestVisa 59 = .ok (.aload 4, 2) := by decide +kernel
theorem dX8_lowestVisa_61 : decode cX8_lowestVisa 61 = .ok (.areturn, 1) := by decide +kernel
theorem dX8_lowestVisa_62 : decode cX8_lowestVisa 62 = .ok (.iinc 3 1, 3) := by decide +kernel
theorem dX8_lowestVisa_65 : decode cX8_lowestVisa 65 = .ok (.goto (-63), 3) := by decide +kernel
theorem dX8_lowestVisa_68 : decode cX8_lowestVisa 68 = .ok (.aconst_null, 1) := by decide +kernel
theorem dX8_lowestVisa_69 : decode cX8_lowestVisa 69 = .ok (.areturn, 1) := by decide +kernel
set_option maxRecDepth 20000 in
theorem ggX8_isBannedAt_Jx4a65c_size_8abf5 : GoodIn wsX8_isBannedAt wsJx4a65c_size_8abf5 := goodIn_r _ [9, 10, 76, 77, 78] (by decide +kernel) (by decide +kernel)
set_option maxRecDepth 20000 in
theorem gX8_isBannedAt_Jx4a65c_size_8abf5 : GoodIn wsX8_isBannedAt (wsV RX8 48 RJx4a65c yJx4a65c_size_8abf5 wsJx4a65c_size_8abf5) := goodIn_app (goodIn_of _ (by decide +kernel)) ggX8_isBannedAt_Jx4a65c_size_8abf5
set_option maxRecDepth 20000 in
theorem ggX8_isBannedAt_X0_holds : GoodIn wsX8_isBannedAt wsX0_holds := goodIn_r _ [15, 16, 17, 18, 19, 20, 21, 22, 23, 24, 25, 26, 14, 27, 28, 79, 80, 81, 82, 83] (by decide +kernel) (by decide +kernel)
set_option maxRecDepth 20000 in
theorem gX8_isBannedAt_X0_holds : GoodIn wsX8_isBannedAt (wsV RX8 406 RX0 yX0_holds wsX0_holds) := goodIn_app (goodIn_of _ (by decide +kernel)) ggX8_isBannedAt_X0_holds
set_option maxRecDepth 20000 in
theorem ggX8_isBannedAt_Jx4a65c_get_915e3 : GoodIn wsX8_isBannedAt wsJx4a65c_get_915e3 := goodIn_r _ [32, 10, 33, 34, 35, 36, 37, 38, 39, 40, 41, 42, 43, 8, 44, 45, 76, 77, 78] (by decide +kernel) (by decide +kernel)
set_option maxRecDepth 20000 in
theorem gX8_isBannedAt_Jx4a65c_get_915e3 : GoodIn wsX8_isBannedAt (wsV RX8 347 RJx4a65c yJx4a65c_get_915e3 wsJx4a65c_get_915e3) := goodIn_app (goodIn_of _ (by decide +kernel)) ggX8_isBannedAt_Jx4a65c_get_915e3
set_option maxRecDepth 20000 in
theorem ggX8_isBannedAt_X8_isKnown : GoodIn wsX8_isBannedAt wsX8_isKnown := goodIn_r _ [50, 51, 3, 2, 52, 53, 54, 55, 18, 19, 20, 21, 22, 23, 84, 85, 86, 87, 88, 89, 90, 56, 57, 58, 59, 60, 61, 62, 63, 64, 65, 66, 67, 68, 69, 70, 71, 72, 73, 74, 75, 79, 80, 81, 82, 83] (by decide +kernel) (by decide +kernel)
set_option maxRecDepth 20000 in
theorem gX8_isBannedAt_X8_isKnown : GoodIn wsX8_isBannedAt (wsV RX8 329 RX8 yX8_isKnown wsX8_isKnown) := goodIn_app (goodIn_of _ (by decide +kernel)) ggX8_isBannedAt_X8_isKnown
theorem dX8_isBannedAt_0 : decode cX8_isBannedAt 0 = .ok (.iconst 0, 1) := by decide +kernel
theorem dX8_isBannedAt_1 : decode cX8_isBannedAt 1 = .ok (.istore_n 3, 1) := by decide +kernel
theorem dX8_isBannedAt_2 : decode cX8_isBannedAt 2 = .ok (.iload_n 3, 1) := by decide +kernel
theorem dX8_isBannedAt_3 : decode cX8_isBannedAt 3 = .ok (.aload_n 0, 1) := by decide +kernel
theorem dX8_isBannedAt_4 : decode cX8_isBannedAt 4 = .ok (.getfield 12, 3) := by decide +kernel
theorem dX8_isBannedAt_7 : decode cX8_isBannedAt 7 = .ok (.invokevirtual 48, 3) := by decide +kernel
theorem dX8_isBannedAt_10 : decode cX8_isBannedAt 10 = .ok (.if_icmp .ge 46, 3) := by decide +kernel
theorem dX8_isBannedAt_13 : decode cX8_isBannedAt 13 = .ok (.aload_n 1, 1) := by decide +kernel
theorem dX8_isBannedAt_14 : decode cX8_isBannedAt 14 = .ok (.getfield 189, 3) := by decide +kernel
theorem dX8_isBannedAt_17 : decode cX8_isBannedAt 17 = .ok (.iload_n 3, 1) := by decide +kernel
theorem dX8_isBannedAt_18 : decode cX8_isBannedAt 18 = .ok (.aload_n 0, 1) := by decide +kernel
theorem dX8_isBannedAt_19 : decode cX8_isBannedAt 19 = .ok (.getfield 37, 3) := by decide +kernel
theorem dX8_isBannedAt_22 : decode cX8_isBannedAt 22 = .ok (.invokevirtual 406, 3) := by decide +kernel
theorem dX8_isBannedAt_25 : decode cX8_isBannedAt 25 = .ok (.ifCond .eq 25, 3) := by decide +kernel
theorem dX8_isBannedAt_28 : decode cX8_isBannedAt 28 = .ok (.aload_n 0, 1) := by decide +kernel
theorem dX8_isBannedAt_29 : decode cX8_isBannedAt 29 = .ok (.aload_n 1, 1) := by decide +kernel
theorem dX8_isBannedAt_30 : decode cX8_isBannedAt 30 = .ok (.aload_n 0, 1) := by decide +kernel
theorem dX8_isBannedAt_31 : decode cX8_isBannedAt 31 = .ok (.getfield 12, 3) := by decide +kernel
theorem dX8_isBannedAt_34 : decode cX8_isBannedAt 34 = .ok (.iload_n 3, 1) := by decide +kernel
theorem dX8_isBannedAt_35 : decode cX8_isBannedAt 35 = .ok (.invokevirtual 347, 3) := by decide +kernel
theorem dX8_isBannedAt_38 : decode cX8_isBannedAt 38 = .ok (.checkcast 57, 3) := by decide +kernel
theorem dX8_isBannedAt_41 : decode cX8_isBannedAt 41 = .ok (.aload_n 2, 1) := by decide +kernel
theorem dX8_isBannedAt_42 : decode cX8_isBannedAt 42 = .ok (.invokevirtual 329, 3) := by decide +kernel
theorem dX8_isBannedAt_45 : decode cX8_isBannedAt 45 = .ok (.ifCond .eq 5, 3) := by decide +kernel
theorem dX8_isBannedAt_48 : decode cX8_isBannedAt 48 = .ok (.iconst 1, 1) := by decide +kernel
theorem dX8_isBannedAt_49 : decode cX8_isBannedAt 49 = .ok (.ireturn, 1) := by decide +kernel
theorem dX8_isBannedAt_50 : decode cX8_isBannedAt 50 = .ok (.iinc 3 1, 3) := by decide +kernel
theorem dX8_isBannedAt_53 : decode cX8_isBannedAt 53 = .ok (.goto (-51), 3) := by decide +kernel
theorem dX8_isBannedAt_56 : decode cX8_isBannedAt 56 = .ok (.iconst 0, 1) := by decide +kernel
theorem dX8_isBannedAt_57 : decode cX8_isBannedAt 57 = .ok (.ireturn, 1) := by decide +kernel
set_option maxRecDepth 20000 in
theorem ggX8_isKnown_X5_at : GoodIn wsX8_isKnown wsX5_at := goodIn_r _ [11, 12, 13, 44, 45] (by decide +kernel) (by decide +kernel)
set_option maxRecDepth 20000 in
theorem gX8_isKnown_X5_at : GoodIn wsX8_isKnown (wsV RX8 202 RX5 yX5_at wsX5_at) := goodIn_app (goodIn_of _ (by decide +kernel)) ggX8_isKnown_X5_at
theorem dX8_isKnown_0 : decode cX8_isKnown 0 = .ok (.aload_n 2, 1) := by decide +kernel
theorem dX8_isKnown_1 : decode cX8_isKnown 1 = .ok (.aload_n 3, 1) := by decide +kernel
theorem dX8_isKnown_2 : decode cX8_isKnown 2 = .ok (.if_acmp .eq 43, 3) := by decide +kernel
theorem dX8_isKnown_5 : decode cX8_isKnown 5 = .ok (.aload_n 2, 1) := by decide +kernel
theorem dX8_isKnown_6 : decode cX8_isKnown 6 = .ok (.getfield 165, 3) := by decide +kernel
theorem dX8_isKnown_9 : decode cX8_isKnown 9 = .ok (.ifCond .eq 10, 3) := by decide +kernel
theorem dX8_isKnown_12 : decode cX8_isKnown 12 = .ok (.aload_n 3, 1) := by decide +kernel
theorem dX8_isKnown_13 : decode cX8_isKnown 13 = .ok (.getfield 165, 3) := by decide +kernel
theorem dX8_isKnown_16 : decode cX8_isKnown 16 = .ok (.ifCond .ne 29, 3) := by decide +kernel
theorem dX8_isKnown_19 : decode cX8_isKnown 19 = .ok (.aload_n 0, 1) := by decide +kernel
theorem dX8_isKnown_20 : decode cX8_isKnown 20 = .ok (.getfield 37, 3) := by decide +kernel
theorem dX8_isKnown_23 : decode cX8_isKnown 23 = .ok (.aload_n 1, 1) := by decide +kernel
theorem dX8_isKnown_24 : decode cX8_isKnown 24 = .ok (.getfield 189, 3) := by decide +kernel
theorem dX8_isKnown_27 : decode cX8_isKnown 27 = .ok (.getfield 409, 3) := by decide +kernel
theorem dX8_isKnown_30 : decode cX8_isKnown 30 = .ok (.aload_n 2, 1) := by decide +kernel
theorem dX8_isKnown_31 : decode cX8_isKnown 31 = .ok (.getfield 66, 3) := by decide +kernel
theorem dX8_isKnown_34 : decode cX8_isKnown 34 = .ok (.invokevirtual 202, 3) := by decide +kernel
theorem dX8_isKnown_37 : decode cX8_isKnown 37 = .ok (.aload_n 3, 1) := by decide +kernel
theorem dX8_isKnown_38 : decode cX8_isKnown 38 = .ok (.getfield 412, 3) := by decide +kernel
theorem dX8_isKnown_41 : decode cX8_isKnown 41 = .ok (.iadd, 1) := by decide +kernel
theorem dX8_isKnown_42 : decode cX8_isKnown 42 = .ok (.if_icmp .lt 7, 3) := by decide +kernel
theorem dX8_isKnown_45 : decode cX8_isKnown 45 = .ok (.iconst 1, 1) := by decide +kernel
theorem dX8_isKnown_46 : decode cX8_isKnown 46 = .ok (.goto 4, 3) := by decide +kernel
theorem dX8_isKnown_49 : decode cX8_isKnown 49 = .ok (.iconst 0, 1) := by decide +kernel
theorem dX8_isKnown_50 : decode cX8_isKnown 50 = .ok (.ireturn, 1) := by decide +kernel
set_option maxRecDepth 20000 in
theorem ggX8_hasOpenRequest_Jx4a65c_size_8abf5 : GoodIn wsX8_hasOpenRequest wsJx4a65c_size_8abf5 := goodIn_r _ [11, 12, 71, 72, 73] (by decide +kernel) (by decide +kernel)
set_option maxRecDepth 20000 in
theorem gX8_hasOpenRequest_Jx4a65c_size_8abf5 : GoodIn wsX8_hasOpenRequest (wsV RX8 48 RJx4a65c yJx4a65c_size_8abf5 wsJx4a65c_size_8abf5) := goodIn_app (goodIn_of _ (by decide +kernel)) ggX8_hasOpenRequest_Jx4a65c_size_8abf5
set_option maxRecDepth 20000 in
theorem ggX8_hasOpenRequest_Jx4a65c_get_915e3 : GoodIn wsX8_hasOpenRequest wsJx4a65c_get_915e3 := goodIn_r _ [16, 12, 17, 18, 19, 20, 21, 22, 23, 24, 25, 26, 27, 10, 28, 29, 71, 72, 73] (by decide +kernel) (by decide +kernel)
set_option maxRecDepth 20000 in
theorem gX8_hasOpenRequest_Jx4a65c_get_915e3 : GoodIn wsX8_hasOpenRequest (wsV RX8 347 RJx4a65c yJx4a65c_get_915e3 wsJx4a65c_get_915e3) := goodIn_app (goodIn_of _ (by decide +kernel)) ggX8_hasOpenRequest_Jx4a65c_get_915e3
set_option maxRecDepth 20000 in
theorem ggX8_hasOpenRequest_X4_isOpen : GoodIn wsX8_hasOpenRequest wsX4_isOpen := goodIn_r _ [34, 35, 43, 44, 45, 46, 47, 48, 49, 50] (by decide +kernel) (by decide +kernel)
set_option maxRecDepth 20000 in
theorem gX8_hasOpenRequest_X4_isOpen : GoodIn wsX8_hasOpenRequest (wsV RX8 418 RX4 yX4_isOpen wsX4_isOpen) := goodIn_app (goodIn_of _ (by decide +kernel)) ggX8_hasOpenRequest_X4_isOpen
theorem dX8_hasOpenRequest_0 : decode cX8_hasOpenRequest 0 = .ok (.iconst 0, 1) := by decide +kernel
theorem dX8_hasOpenRequest_1 : decode cX8_hasOpenRequest 1 = .ok (.istore_n 3, 1) := by decide +kernel
theorem dX8_hasOpenRequest_2 : decode cX8_hasOpenRequest 2 = .ok (.iload_n 3, 1) := by decide +kernel
theorem dX8_hasOpenRequest_3 : decode cX8_hasOpenRequest 3 = .ok (.aload_n 0, 1) := by decide +kernel
theorem dX8_hasOpenRequest_4 : decode cX8_hasOpenRequest 4 = .ok (.getfield 22, 3) := by decide +kernel
theorem dX8_hasOpenRequest_7 : decode cX8_hasOpenRequest 7 = .ok (.invokevirtual 48, 3) := by decide +kernel
theorem dX8_hasOpenRequest_10 : decode cX8_hasOpenRequest 10 = .ok (.if_icmp .ge 56, 3) := by decide +kernel
theorem dX8_hasOpenRequest_13 : decode cX8_hasOpenRequest 13 = .ok (.aload_n 0, 1) := by decide +kernel
theorem dX8_hasOpenRequest_14 : decode cX8_hasOpenRequest 14 = .ok (.getfield 22, 3) := by decide +kernel
theorem dX8_hasOpenRequest_17 : decode cX8_hasOpenRequest 17 = .ok (.iload_n 3, 1) := by decide +kernel
theorem dX8_hasOpenRequest_18 : decode cX8_hasOpenRequest 18 = .ok (.invokevirtual 347, 3) := by decide +kernel
theorem dX8_hasOpenRequest_21 : decode cX8_hasOpenRequest 21 = .ok (.checkcast 238, 3) := by decide +kernel
theorem dX8_hasOpenRequest_24 : decode cX8_hasOpenRequest 24 = .ok (.astore 4, 2) := by decide +kernel
theorem dX8_hasOpenRequest_26 : decode cX8_hasOpenRequest 26 = .ok (.aload 4, 2) := by decide +kernel
theorem dX8_hasOpenRequest_28 : decode cX8_hasOpenRequest 28 = .ok (.getfield 255, 3) := by decide +kernel
theorem dX8_hasOpenRequest_31 : decode cX8_hasOpenRequest 31 = .ok (.aload_n 1, 1) := by decide +kernel
theorem dX8_hasOpenRequest_32 : decode cX8_hasOpenRequest 32 = .ok (.getfield 101, 3) := by decide +kernel
theorem dX8_hasOpenRequest_35 : decode cX8_hasOpenRequest 35 = .ok (.if_icmp .ne 25, 3) := by decide +kernel
theorem dX8_hasOpenRequest_38 : decode cX8_hasOpenRequest 38 = .ok (.aload 4, 2) := by decide +kernel
theorem dX8_hasOpenRequest_40 : decode cX8_hasOpenRequest 40 = .ok (.getfield 415, 3) := by decide +kernel
theorem dX8_hasOpenRequest_43 : decode cX8_hasOpenRequest 43 = .ok (.aload_n 2, 1) := by decide +kernel
theorem dX8_hasOpenRequest_44 : decode cX8_hasOpenRequest 44 = .ok (.getfield 66, 3) := by decide +kernel
theorem dX8_hasOpenRequest_47 : decode cX8_hasOpenRequest 47 = .ok (.if_icmp .ne 13, 3) := by decide +kernel
theorem dX8_hasOpenRequest_50 : decode cX8_hasOpenRequest 50 = .ok (.aload 4, 2) := by decide +kernel
theorem dX8_hasOpenRequest_52 : decode cX8_hasOpenRequest 52 = .ok (.invokevirtual 418, 3) := by decide +kernel
theorem dX8_hasOpenRequest_55 : decode cX8_hasOpenRequest 55 = .ok (.ifCond .eq 5, 3) := by decide +kernel
theorem dX8_hasOpenRequest_58 : decode cX8_hasOpenRequest 58 = .ok (.iconst 1, 1) := by decide +kernel
theorem dX8_hasOpenRequest_59 : decode cX8_hasOpenRequest 59 = .ok (.ireturn, 1) := by decide +kernel
theorem dX8_hasOpenRequest_60 : decode cX8_hasOpenRequest 60 = .ok (.iinc 3 1, 3) := by decide +kernel
theorem dX8_hasOpenRequest_63 : decode cX8_hasOpenRequest 63 = .ok (.goto (-61), 3) := by decide +kernel
theorem dX8_hasOpenRequest_66 : decode cX8_hasOpenRequest 66 = .ok (.iconst 0, 1) := by decide +kernel
theorem dX8_hasOpenRequest_67 : decode cX8_hasOpenRequest 67 = .ok (.ireturn, 1) := by decide +kernel
theorem dX8_isTooOldFor_0 : decode cX8_isTooOldFor 0 = .ok (.aload_n 2, 1) := by decide +kernel
theorem dX8_isTooOldFor_1 : decode cX8_isTooOldFor 1 = .ok (.getfield 422, 3) := by decide +kernel
theorem dX8_isTooOldFor_4 : decode cX8_isTooOldFor 4 = .ok (.aload_n 1, 1) := by decide +kernel
theorem dX8_isTooOldFor_5 : decode cX8_isTooOldFor 5 = .ok (.getfield 255, 3) := by decide +kernel
theorem dX8_isTooOldFor_8 : decode cX8_isTooOldFor 8 = .ok (.if_icmp .eq 14, 3) := by decide +kernel
theorem dX8_isTooOldFor_11 : decode cX8_isTooOldFor 11 = .ok (.aload_n 2, 1) := by decide +kernel
theorem dX8_isTooOldFor_12 : decode cX8_isTooOldFor 12 = .ok (.getfield 425, 3) := by decide +kernel
theorem dX8_isTooOldFor_15 : decode cX8_isTooOldFor 15 = .ok (.aload_n 1, 1) := by decide +kernel
theorem dX8_isTooOldFor_16 : decode cX8_isTooOldFor 16 = .ok (.getfield 255, 3) := by decide +kernel
theorem dX8_isTooOldFor_19 : decode cX8_isTooOldFor 19 = .ok (.if_icmp .ne 7, 3) := by decide +kernel
theorem dX8_isTooOldFor_22 : decode cX8_isTooOldFor 22 = .ok (.iconst 1, 1) := by decide +kernel
theorem dX8_isTooOldFor_23 : decode cX8_isTooOldFor 23 = .ok (.goto 4, 3) := by decide +kernel
theorem dX8_isTooOldFor_26 : decode cX8_isTooOldFor 26 = .ok (.iconst 0, 1) := by decide +kernel
theorem dX8_isTooOldFor_27 : decode cX8_isTooOldFor 27 = .ok (.istore_n 3, 1) := by decide +kernel
theorem dX8_isTooOldFor_28 : decode cX8_isTooOldFor 28 = .ok (.iload_n 3, 1) := by decide +kernel
theorem dX8_isTooOldFor_29 : decode cX8_isTooOldFor 29 = .ok (.ifCond .eq 22, 3) := by decide +kernel
theorem dX8_isTooOldFor_32 : decode cX8_isTooOldFor 32 = .ok (.aload_n 1, 1) := by decide +kernel
theorem dX8_isTooOldFor_33 : decode cX8_isTooOldFor 33 = .ok (.getfield 276, 3) := by decide +kernel
theorem dX8_isTooOldFor_36 : decode cX8_isTooOldFor 36 = .ok (.aload_n 2, 1) := by decide +kernel
theorem dX8_isTooOldFor_37 : decode cX8_isTooOldFor 37 = .ok (.getfield 428, 3) := by decide +kernel
theorem dX8_isTooOldFor_40 : decode cX8_isTooOldFor 40 = .ok (.isub, 1) := by decide +kernel
theorem dX8_isTooOldFor_41 : decode cX8_isTooOldFor 41 = .ok (.sipush 6480, 3) := by decide +kernel
theorem dX8_isTooOldFor_44 : decode cX8_isTooOldFor 44 = .ok (.if_icmp .lt 7, 3) := by decide +kernel
theorem dX8_isTooOldFor_47 : decode cX8_isTooOldFor 47 = .ok (.iconst 1, 1) := by decide +kernel
theorem dX8_isTooOldFor_48 : decode cX8_isTooOldFor 48 = .ok (.goto 4, 3) := by decide +kernel
theorem dX8_isTooOldFor_51 : decode cX8_isTooOldFor 51 = .ok (.iconst 0, 1) := by decide +kernel
theorem dX8_isTooOldFor_52 : decode cX8_isTooOldFor 52 = .ok (.ireturn, 1) := by decide +kernel
set_option maxRecDepth 20000 in
theorem ggX8_placeOf_Jx4a65c_size_8abf5 : GoodIn wsX8_placeOf wsJx4a65c_size_8abf5 := goodIn_r _ [11, 12, 53, 54, 55] (by decide +kernel) (by decide +kernel)
set_option maxRecDepth 20000 in
theorem gX8_placeOf_Jx4a65c_size_8abf5 : GoodIn wsX8_placeOf (wsV RX8 48 RJx4a65c yJx4a65c_size_8abf5 wsJx4a65c_size_8abf5) := goodIn_app (goodIn_of _ (by decide +kernel)) ggX8_placeOf_Jx4a65c_size_8abf5
set_option maxRecDepth 20000 in
theorem ggX8_placeOf_Jx4a65c_get_915e3 : GoodIn wsX8_placeOf wsJx4a65c_get_915e3 := goodIn_r _ [16, 12, 17, 18, 19, 20, 21, 22, 23, 24, 25, 26, 27, 10, 28, 29, 53, 54, 55] (by decide +kernel) (by decide +kernel)
set_option maxRecDepth 20000 in
theorem gX8_placeOf_Jx4a65c_get_915e3 : GoodIn wsX8_placeOf (wsV RX8 347 RJx4a65c yJx4a65c_get_915e3 wsJx4a65c_get_915e3) := goodIn_app (goodIn_of _ (by decide +kernel)) ggX8_placeOf_Jx4a65c_get_915e3
set_option maxRecDepth 20000 in
theorem ggX8_placeOf_X4_isWaitingFor : GoodIn wsX8_placeOf wsX4_isWaitingFor := goodIn_r _ [34, 35, 36, 37, 38, 39, 40, 41, 42, 43, 44, 45] (by decide +kernel) (by decide +kernel)
set_option maxRecDepth 20000 in
theorem gX8_placeOf_X4_isWaitingFor : GoodIn wsX8_placeOf (wsV RX8 434 RX4 yX4_isWaitingFor wsX4_isWaitingFor) := goodIn_app (goodIn_of _ (by decide +kernel)) ggX8_placeOf_X4_isWaitingFor
theorem dX8_placeOf_0 : decode cX8_placeOf 0 = .ok (.aload_n 1, 1) := by decide +kernel
theorem dX8_placeOf_1 : decode cX8_placeOf 1 = .ok (.getfield 248, 3) := by decide +kernel
theorem dX8_placeOf_4 : decode cX8_placeOf 4 = .ok (.ifCond .eq 5, 3) := by decide +kernel
theorem dX8_placeOf_7 : decode cX8_placeOf 7 = .ok (.iconst (-1), 1) := by decide +kernel
theorem dX8_placeOf_8 : decode cX8_placeOf 8 = .ok (.ireturn, 1) := by decide +kernel
theorem dX8_placeOf_9 : decode cX8_placeOf 9 = .ok (.iconst 0, 1) := by decide +kernel
theorem dX8_placeOf_10 : decode cX8_placeOf 10 = .ok (.istore_n 2, 1) := by decide +kernel
theorem dX8_placeOf_11 : decode cX8_placeOf 11 = .ok (.iconst 0, 1) := by decide +kernel
theorem dX8_placeOf_12 : decode cX8_placeOf 12 = .ok (.istore_n 3, 1) := by decide +kernel
theorem dX8_placeOf_13 : decode cX8_placeOf 13 = .ok (.iload_n 3, 1) := by decide +kernel
theorem dX8_placeOf_14 : decode cX8_placeOf 14 = .ok (.aload_n 1, 1) := by decide +kernel
theorem dX8_placeOf_15 : decode cX8_placeOf 15 = .ok (.getfield 243, 3) := by decide +kernel
theorem dX8_placeOf_18 : decode cX8_placeOf 18 = .ok (.if_icmp .ge 48, 3) := by decide +kernel
theorem dX8_placeOf_21 : decode cX8_placeOf 21 = .ok (.iload_n 3, 1) := by decide +kernel
theorem dX8_placeOf_22 : decode cX8_placeOf 22 = .ok (.aload_n 0, 1) := by decide +kernel
theorem dX8_placeOf_23 : decode cX8_placeOf 23 = .ok (.getfield 22, 3) := by decide +kernel
theorem dX8_placeOf_26 : decode cX8_placeOf 26 = .ok (.invokevirtual 48, 3) := by decide +kernel
theorem dX8_placeOf_29 : decode cX8_placeOf 29 = .ok (.if_icmp .ge 37, 3) := by decide +kernel
theorem dX8_placeOf_32 : decode cX8_placeOf 32 = .ok (.aload_n 0, 1) := by decide +kernel
theorem dX8_placeOf_33 : decode cX8_placeOf 33 = .ok (.getfield 22, 3) := by decide +kernel
theorem dX8_placeOf_36 : decode cX8_placeOf 36 = .ok (.iload_n 3, 1) := by decide +kernel
theorem dX8_placeOf_37 : decode cX8_placeOf 37 = .ok (.invokevirtual 347, 3) := by decide +kernel
theorem dX8_placeOf_40 : decode cX8_placeOf 40 = .ok (.checkcast 238, 3) := by decide +kernel
theorem dX8_placeOf_43 : decode cX8_placeOf 43 = .ok (.aload_n 1, 1) := by decide +kernel
theorem dX8_placeOf_44 : decode cX8_placeOf 44 = .ok (.getfield 415, 3) := by decide +kernel
theorem dX8_placeOf_47 : decode cX8_placeOf 47 = .ok (.aload_n 1, 1) := by decide +kernel
theorem dX8_placeOf_48 : decode cX8_placeOf 48 = .ok (.getfield 431, 3) := by decide +kernel
theorem dX8_placeOf_51 : decode cX8_placeOf 51 = .ok (.invokevirtual 434, 3) := by decide +kernel
theorem dX8_placeOf_54 : decode cX8_placeOf 54 = .ok (.ifCond .eq 6, 3) := by decide +kernel
theorem dX8_placeOf_57 : decode cX8_placeOf 57 = .ok (.iinc 2 1, 3) := by decide +kernel
theorem dX8_placeOf_60 : decode cX8_placeOf 60 = .ok (.iinc 3 1, 3) := by decide +kernel
theorem dX8_placeOf_63 : decode cX8_placeOf 63 = .ok (.goto (-50), 3) := by decide +kernel
theorem dX8_placeOf_66 : decode cX8_placeOf 66 = .ok (.iload_n 2, 1) := by decide +kernel
theorem dX8_placeOf_67 : decode cX8_placeOf 67 = .ok (.ireturn, 1) := by decide +kernel
set_option maxRecDepth 20000 in
theorem ggX8_beginDay_Jx4a65c_size_8abf5 : GoodIn wsX8_beginDay wsJx4a65c_size_8abf5 := goodIn_r _ [12, 13, 174, 175, 176] (by decide +kernel) (by decide +kernel)
set_option maxRecDepth 20000 in
theorem gX8_beginDay_Jx4a65c_size_8abf5 : GoodIn wsX8_beginDay (wsV RX8 48 RJx4a65c yJx4a65c_size_8abf5 wsJx4a65c_size_8abf5) := goodIn_app (goodIn_of _ (by decide +kernel)) ggX8_beginDay_Jx4a65c_size_8abf5
set_option maxRecDepth 20000 in
theorem ggX8_beginDay_Jx4a65c_get_915e3 : GoodIn wsX8_beginDay wsJx4a65c_get_915e3 := goodIn_r _ [17, 13, 18, 19, 20, 21, 22, 23, 24, 25, 26, 27, 28, 11, 29, 30, 174, 175, 176] (by decide +kernel) (by decide +kernel)
set_option maxRecDepth 20000 in
theorem gX8_beginDay_Jx4a65c_get_915e3 : GoodIn wsX8_beginDay (wsV RX8 347 RJx4a65c yJx4a65c_get_915e3 wsJx4a65c_get_915e3) := goodIn_app (goodIn_of _ (by decide +kernel)) ggX8_beginDay_Jx4a65c_get_915e3
set_option maxRecDepth 20000 in
theorem ggX8_beginDay_X4_endIfLate : GoodIn wsX8_beginDay wsX4_endIfLate := goodIn_r _ [35, 36, 37, 177, 178, 179, 180, 181, 182, 183, 184] (by decide +kernel) (by decide +kernel)
set_option maxRecDepth 20000 in
theorem gX8_beginDay_X4_endIfLate : GoodIn wsX8_beginDay (wsV RX8 437 RX4 yX4_endIfLate wsX4_endIfLate) := goodIn_app (goodIn_of _ (by decide +kernel)) ggX8_beginDay_X4_endIfLate
set_option maxRecDepth 20000 in
theorem ggX8_beginDay_X8_lookAt : GoodIn wsX8_beginDay wsX8_lookAt := goodIn_r _ [42, 43, 44, 1, 45, 46, 47, 48, 49, 50, 41, 51, 52, 53, 54, 55, 56, 57, 58, 59, 60, 61, 62, 63, 64, 65, 66, 67, 68, 69, 70, 71, 72, 73, 74, 75, 76, 77, 78, 79, 80, 81, 82, 83, 84, 85, 86, 87, 88, 89, 90, 91, 92, 93, 94, 8, 9, 10, 11, 12, 13, 14, 15, 16, 17, 18, 19, 20, 21, 22, 23, 24, 25, 26, 27, 28, 29, 30, 95, 96, 97, 98, 99, 100, 6, 7, 101, 102, 103, 104, 105, 106, 107, 108, 109, 110, 111, 112, 113, 114, 115, 116, 117, 118, 119, 120, 121, 122, 123, 124, 125, 126, 127, 128, 129, 130, 131, 132, 185, 186, 187, 188, 189, 190, 191, 192, 193, 194, 195, 196, 197, 167, 168, 169, 170, 171, 172, 173, 198, 199, 200, 201, 202, 203, 204, 205, 206, 207, 208, 209, 210, 211, 174, 175, 176, 212, 213, 214, 215, 216, 217, 218, 219] (by decide +kernel) (by decide +kernel)
set_option maxRecDepth 20000 in
theorem gX8_beginDay_X8_lookAt : GoodIn wsX8_beginDay (wsV RX8 171 RX8 yX8_lookAt wsX8_lookAt) := goodIn_app (goodIn_of _ (by decide +kernel)) ggX8_beginDay_X8_lookAt
set_option maxRecDepth 20000 in
theorem ggX8_beginDay_X8_grantByQuotas : GoodIn wsX8_beginDay wsX8_grantByQuotas := goodIn_r _ [136, 137, 2, 3, 46, 95, 74, 75, 76, 77, 78, 79, 8, 9, 10, 11, 12, 13, 14, 15, 16, 17, 18, 19, 20, 21, 22, 23, 24, 25, 26, 27, 28, 29, 30, 138, 139, 140, 34, 141, 36, 142, 143, 144, 145, 146, 41, 147, 148, 4, 149, 5, 52, 150, 1, 151, 152, 153, 154, 155, 156, 157, 158, 70, 159, 160, 72, 161, 162, 163, 164, 165, 68, 69, 71, 73, 166, 126, 127, 128, 198, 199, 200, 201, 202, 203, 204, 167, 168, 169, 170, 171, 172, 173, 207, 208, 174, 175, 176, 177, 178, 179, 180, 181, 182, 183, 184, 185, 186, 187, 188, 189, 190, 191, 192, 193, 194, 195, 196, 197, 205, 206] (by decide +kernel) (by decide +kernel)
set_option maxRecDepth 20000 in
theorem gX8_beginDay_X8_grantByQuotas : GoodIn wsX8_beginDay (wsV RX8 440 RX8 yX8_grantByQuotas wsX8_grantByQuotas) := goodIn_app (goodIn_of _ (by decide +kernel)) ggX8_beginDay_X8_grantByQuotas
theorem dX8_beginDay_0 : decode cX8_beginDay 0 = .ok (.aload_n 0, 1) := by decide +kernel
theorem dX8_beginDay_1 : decode cX8_beginDay 1 = .ok (.dup, 1) := by decide +kernel
theorem dX8_beginDay_2 : decode cX8_beginDay 2 = .ok (.getfield 37, 3) := by decide +kernel
theorem dX8_beginDay_5 : decode cX8_beginDay 5 = .ok (.iconst 1, 1) := by decide +kernel
theorem dX8_beginDay_6 : decode cX8_beginDay 6 = .ok (.iadd, 1) := by decide +kernel
theorem dX8_beginDay_7 : decode cX8_beginDay 7 = .ok (.putfield 37, 3) := by decide +kernel
theorem dX8_beginDay_10 : decode cX8_beginDay 10 = .ok (.iconst 0, 1) := by decide +kernel
theorem dX8_beginDay_11 : decode cX8_beginDay 11 = .ok (.istore_n 1, 1) := by decide +kernel
theorem dX8_beginDay_12 : decode cX8_beginDay 12 = .ok (.iload_n 1, 1) := by decide +kernel
theorem dX8_beginDay_13 : decode cX8_beginDay 13 = .ok (.aload_n 0, 1) := by decide +kernel
theorem dX8_beginDay_14 : decode cX8_beginDay 14 = .ok (.getfield 22, 3) := by decide +kernel
theorem dX8_beginDay_17 : decode cX8_beginDay 17 = .ok (.invokevirtual 48, 3) := by decide +kernel
theorem dX8_beginDay_20 : decode cX8_beginDay 20 = .ok (.if_icmp .ge 27, 3) := by decide +kernel
theorem dX8_beginDay_23 : decode cX8_beginDay 23 = .ok (.aload_n 0, 1) := by decide +kernel
theorem dX8_beginDay_24 : decode cX8_beginDay 24 = .ok (.getfield 22, 3) := by decide +kernel
theorem dX8_beginDay_27 : decode cX8_beginDay 27 = .ok (.iload_n 1, 1) := by decide +kernel
theorem dX8_beginDay_28 : decode cX8_beginDay 28 = .ok (.invokevirtual 347, 3) := by decide +kernel
theorem dX8_beginDay_31 : decode cX8_beginDay 31 = .ok (.checkcast 238, 3) := by decide +kernel
theorem dX8_beginDay_34 : decode cX8_beginDay 34 = .ok (.aload_n 0, 1) := by decide +kernel
theorem dX8_beginDay_35 : decode cX8_beginDay 35 = .ok (.getfield 37, 3) := by decide +kernel
theorem dX8_beginDay_38 : decode cX8_beginDay 38 = .ok (.invokevirtual 437, 3) := by decide +kernel
theorem dX8_beginDay_41 : decode cX8_beginDay 41 = .ok (.iinc 1 1, 3) := by decide +kernel
theorem dX8_beginDay_44 : decode cX8_beginDay 44 = .ok (.goto (-32), 3) := by decide +kernel
theorem dX8_beginDay_47 : decode cX8_beginDay 47 = .ok (.iconst 0, 1) := by decide +kernel
theorem dX8_beginDay_48 : decode cX8_beginDay 48 = .ok (.istore_n 1, 1) := by decide +kernel
theorem dX8_beginDay_49 : decode cX8_beginDay 49 = .ok (.iload_n 1, 1) := by decide +kernel
theorem dX8_beginDay_50 : decode cX8_beginDay 50 = .ok (.aload_n 0, 1) := by decide +kernel
theorem dX8_beginDay_51 : decode cX8_beginDay 51 = .ok (.getfield 16, 3) := by decide +kernel
theorem dX8_beginDay_54 : decode cX8_beginDay 54 = .ok (.invokevirtual 48, 3) := by decide +kernel
theorem dX8_beginDay_57 : decode cX8_beginDay 57 = .ok (.if_icmp .ge 24, 3) := by decide +kernel
theorem dX8_beginDay_60 : decode cX8_beginDay 60 = .ok (.aload_n 0, 1) := by decide +kernel
theorem dX8_beginDay_61 : decode cX8_beginDay 61 = .ok (.aload_n 0, 1) := by decide +kernel
theorem dX8_beginDay_62 : decode cX8_beginDay 62 = .ok (.getfield 16, 3) := by decide +kernel
theorem dX8_beginDay_65 : decode cX8_beginDay 65 = .ok (.iload_n 1, 1) := by decide +kernel
theorem dX8_beginDay_66 : decode cX8_beginDay 66 = .ok (.invokevirtual 347, 3) := by decide +kernel
theorem dX8_beginDay_69 : decode cX8_beginDay 69 = .ok (.checkcast 102, 3) := by decide +kernel
theorem dX8_beginDay_72 : decode cX8_beginDay 72 = .ok (.invokevirtual 171, 3) := by decide +kernel
theorem dX8_beginDay_75 : decode cX8_beginDay 75 = .ok (.iinc 1 1, 3) := by decide +kernel
theorem dX8_beginDay_78 : decode cX8_beginDay 78 = .ok (.goto (-29), 3) := by decide +kernel
theorem dX8_beginDay_81 : decode cX8_beginDay 81 = .ok (.aload_n 0, 1) := by decide +kernel
theorem dX8_beginDay_82 : decode cX8_beginDay 82 = .ok (.getfield 37, 3) := by decide +kernel
theorem dX8_beginDay_85 : decode cX8_beginDay 85 = .ok (.sipush 360, 3) := by decide +kernel
theorem dX8_beginDay_88 : decode cX8_beginDay 88 = .ok (.irem, 1) := by decide +kernel
theorem dX8_beginDay_89 : decode cX8_beginDay 89 = .ok (.ifCond .ne 37, 3) := by decide +kernel
theorem dX8_beginDay_92 : decode cX8_beginDay 92 = .ok (.iconst 0, 1) := by decide +kernel
theorem dX8_beginDay_93 : decode cX8_beginDay 93 = .ok (.istore_n 1, 1) := by decide +kernel
theorem dX8_beginDay_94 : decode cX8_beginDay 94 = .ok (.iload_n 1, 1) := by decide +kernel
theorem dX8_beginDay_95 : decode cX8_beginDay 95 = .ok (.aload_n 0, 1) := by decide +kernel
theorem dX8_beginDay_96 : decode cX8_beginDay 96 = .ok (.getfield 12, 3) := by decide +kernel
theorem dX8_beginDay_99 : decode cX8_beginDay 99 = .ok (.invokevirtual 48, 3) := by decide +kernel
theorem dX8_beginDay_102 : decode cX8_beginDay 102 = .ok (.if_icmp .ge 24, 3) := by decide +kernel
theorem dX8_beginDay_105 : decode cX8_beginDay 105 = .ok (.aload_n 0, 1) := by decide +kernel
theorem dX8_beginDay_106 : decode cX8_beginDay 106 = .ok (.aload_n 0, 1) := by decide +kernel
theorem dX8_beginDay_107 : decode cX8_beginDay 107 = .ok (.getfield 12, 3) := by decide +kernel
theorem dX8_beginDay_110 : decode cX8_beginDay 110 = .ok (.iload_n 1, 1) := by decide +kernel
theorem dX8_beginDay_111 : decode cX8_beginDay 111 = .ok (.invokevirtual 347, 3) := by decide +kernel
theorem dX8_beginDay_114 : decode cX8_beginDay 114 = .ok (.checkcast 57, 3) := by decide +kernel
theorem dX8_beginDay_117 : decode cX8_beginDay 117 = .ok (.invokevirtual 440, 3) := by decide +kernel
theorem dX8_beginDay_120 : decode cX8_beginDay 120 = .ok (.iinc 1 1, 3) := by decide +kernel
theorem dX8_beginDay_123 : decode cX8_beginDay 123 = .ok (.goto (-29), 3) := by decide +kernel
theorem dX8_beginDay_126 : decode cX8_beginDay 126 = .ok (.return_, 1) := by decide +kernel
set_option maxRecDepth 20000 in
theorem ggX8_grantByQuotas_X5_at : GoodIn wsX8_grantByQuotas wsX5_at := goodIn_r _ [9, 10, 11, 94, 95] (by decide +kernel) (by decide +kernel)
set_option maxRecDepth 20000 in
theorem gX8_grantByQuotas_X5_at : GoodIn wsX8_grantByQuotas (wsV RX8 202 RX5 yX5_at wsX5_at) := goodIn_app (goodIn_of _ (by decide +kernel)) ggX8_grantByQuotas_X5_at
set_option maxRecDepth 20000 in
theorem ggX8_grantByQuotas_Jx4a65c_size_8abf5 : GoodIn wsX8_grantByQuotas wsJx4a65c_size_8abf5 := goodIn_r _ [16, 17, 96, 97, 98] (by decide +kernel) (by decide +kernel)
set_option maxRecDepth 20000 in
theorem gX8_grantByQuotas_Jx4a65c_size_8abf5 : GoodIn wsX8_grantByQuotas (wsV RX8 48 RJx4a65c yJx4a65c_size_8abf5 wsJx4a65c_size_8abf5) := goodIn_app (goodIn_of _ (by decide +kernel)) ggX8_grantByQuotas_Jx4a65c_size_8abf5
set_option maxRecDepth 20000 in
theorem ggX8_grantByQuotas_Jx4a65c_get_915e3 : GoodIn wsX8_grantByQuotas wsJx4a65c_get_915e3 := goodIn_r _ [21, 17, 22, 23, 24, 25, 26, 27, 28, 29, 30, 31, 32, 15, 33, 34, 96, 97, 98] (by decide +kernel) (by decide +kernel)
set_option maxRecDepth 20000 in
theorem gX8_grantByQuotas_Jx4a65c_get_915e3 : GoodIn wsX8_grantByQuotas (wsV RX8 347 RJx4a65c yJx4a65c_get_915e3 wsJx4a65c_get_915e3) := goodIn_app (goodIn_of _ (by decide +kernel)) ggX8_grantByQuotas_Jx4a65c_get_915e3
set_option maxRecDepth 20000 in
theorem ggX8_grantByQuotas_X4_isWaitingFor : GoodIn wsX8_grantByQuotas wsX4_isWaitingFor := goodIn_r _ [39, 40, 41, 42, 99, 100, 101, 102, 103, 104, 105, 106] (by decide +kernel) (by decide +kernel)
set_option maxRecDepth 20000 in
theorem gX8_grantByQuotas_X4_isWaitingFor : GoodIn wsX8_grantByQuotas (wsV RX8 434 RX4 yX4_isWaitingFor wsX4_isWaitingFor) := goodIn_app (goodIn_of _ (by decide +kernel)) ggX8_grantByQuotas_X4_isWaitingFor
set_option maxRecDepth 20000 in
theorem ggX8_grantByQuotas_X8_grant : GoodIn wsX8_grantByQuotas wsX8_grant := goodIn_r _ [47, 48, 49, 50, 51, 52, 53, 54, 12, 13, 14, 15, 16, 17, 55, 56, 57, 38, 58, 59, 18, 19, 20, 21, 22, 23, 24, 25, 26, 27, 28, 29, 30, 31, 32, 33, 34, 60, 61, 62, 63, 64, 65, 66, 67, 68, 69, 70, 71, 72, 73, 74, 75, 6, 7, 8, 9, 10, 11, 76, 77, 78, 79, 99, 100, 101, 102, 103, 104, 105, 106, 87, 88, 89, 90, 91, 92, 93, 107, 108, 109, 110, 111, 112, 113, 114, 115, 116, 117, 118, 119, 96, 97, 98, 120, 121, 94, 95] (by decide +kernel) (by decide +kernel)
set_option maxRecDepth 20000 in
theorem gX8_grantByQuotas_X8_grant : GoodIn wsX8_grantByQuotas (wsV RX8 444 RX8 yX8_grant wsX8_grant) := goodIn_app (goodIn_of _ (by decide +kernel)) ggX8_grantByQuotas_X8_grant
theorem dX8_grantByQuotas_0 : decode cX8_grantByQuotas 0 = .ok (.iconst 0, 1) := by decide +kernel
theorem dX8_grantByQuotas_1 : decode cX8_grantByQuotas 1 = .ok (.istore_n 2, 1) := by decide +kernel
theorem dX8_grantByQuotas_2 : decode cX8_grantByQuotas 2 = .ok (.iconst 0, 1) := by decide +kernel
theorem dX8_grantByQuotas_3 : decode cX8_grantByQuotas 3 = .ok (.istore_n 3, 1) := by decide +kernel
theorem dX8_grantByQuotas_4 : decode cX8_grantByQuotas 4 = .ok (.iload_n 3, 1) := by decide +kernel
theorem dX8_grantByQuotas_5 : decode cX8_grantByQuotas 5 = .ok (.iconst 3, 1) := by decide +kernel
theorem dX8_grantByQuotas_6 : decode cX8_grantByQuotas 6 = .ok (.if_icmp .ge 81, 3) := by decide +kernel
theorem dX8_grantByQuotas_9 : decode cX8_grantByQuotas 9 = .ok (.iload_n 2, 1) := by decide +kernel
theorem dX8_grantByQuotas_10 : decode cX8_grantByQuotas 10 = .ok (.aload_n 1, 1) := by decide +kernel
theorem dX8_grantByQuotas_11 : decode cX8_grantByQuotas 11 = .ok (.getfield 220, 3) := by decide +kernel
theorem dX8_grantByQuotas_14 : decode cX8_grantByQuotas 14 = .ok (.iload_n 3, 1) := by decide +kernel
theorem dX8_grantByQuotas_15 : decode cX8_grantByQuotas 15 = .ok (.invokevirtual 202, 3) := by decide +kernel
theorem dX8_grantByQuotas_18 : decode cX8_grantByQuotas 18 = .ok (.iadd, 1) := by decide +kernel
theorem dX8_grantByQuotas_19 : decode cX8_grantByQuotas 19 = .ok (.istore_n 2, 1) := by decide +kernel
theorem dX8_grantByQuotas_20 : decode cX8_grantByQuotas 20 = .ok (.iconst 0, 1) := by decide +kernel
theorem dX8_grantByQuotas_21 : decode cX8_grantByQuotas 21 = .ok (.istore 4, 2) := by decide +kernel
theorem dX8_grantByQuotas_23 : decode cX8_grantByQuotas 23 = .ok (.iload 4, 2) := by decide +kernel
theorem dX8_grantByQuotas_25 : decode cX8_grantByQuotas 25 = .ok (.aload_n 0, 1) := by decide +kernel
theorem dX8_grantByQuotas_26 : decode cX8_grantByQuotas 26 = .ok (.getfield 22, 3) := by decide +kernel
theorem dX8_grantByQuotas_29 : decode cX8_grantByQuotas 29 = .ok (.invokevirtual 48, 3) := by decide +kernel
theorem dX8_grantByQuotas_32 : decode cX8_grantByQuotas 32 = .ok (.if_icmp .ge 49, 3) := by decide +kernel
theorem dX8_grantByQuotas_35 : decode cX8_grantByQuotas 35 = .ok (.iload_n 2, 1) := by decide +kernel
theorem dX8_grantByQuotas_36 : decode cX8_grantByQuotas 36 = .ok (.ifCond .le 45, 3) := by decide +kernel
theorem dX8_grantByQuotas_39 : decode cX8_grantByQuotas 39 = .ok (.aload_n 0, 1) := by decide +kernel
theorem dX8_grantByQuotas_40 : decode cX8_grantByQuotas 40 = .ok (.getfield 22, 3) := by decide +kernel
theorem dX8_grantByQuotas_43 : decode cX8_grantByQuotas 43 = .ok (.iload 4, 2) := by decide +kernel
theorem dX8_grantByQuotas_45 : decode cX8_grantByQuotas 45 = .ok (.invokevirtual 347, 3) := by decide +kernel
theorem dX8_grantByQuotas_48 : decode cX8_grantByQuotas 48 = .ok (.checkcast 238, 3) := by decide +kernel
theorem dX8_grantByQuotas_51 : decode cX8_grantByQuotas 51 = .ok (.astore 5, 2) := by decide +kernel
theorem dX8_grantByQuotas_53 : decode cX8_grantByQuotas 53 = .ok (.aload 5, 2) := by decide +kernel
theorem dX8_grantByQuotas_55 : decode cX8_grantByQuotas 55 = .ok (.aload_n 1, 1) := by decide +kernel
theorem dX8_grantByQuotas_56 : decode cX8_grantByQuotas 56 = .ok (.getfield 66, 3) := by decide +kernel
theorem dX8_grantByQuotas_59 : decode cX8_grantByQuotas 59 = .ok (.iload_n 3, 1) := by decide +kernel
theorem dX8_grantByQuotas_60 : decode cX8_grantByQuotas 60 = .ok (.invokevirtual 434, 3) := by decide +kernel
theorem dX8_grantByQuotas_63 : decode cX8_grantByQuotas 63 = .ok (.ifCond .eq 12, 3) := by decide +kernel
theorem dX8_grantByQuotas_66 : decode cX8_grantByQuotas 66 = .ok (.aload_n 0, 1) := by decide +kernel
theorem dX8_grantByQuotas_67 : decode cX8_grantByQuotas 67 = .ok (.aload 5, 2) := by decide +kernel
theorem dX8_grantByQuotas_69 : decode cX8_grantByQuotas 69 = .ok (.invokevirtual 444, 3) := by decide +kernel
theorem dX8_grantByQuotas_72 : decode cX8_grantByQuotas 72 = .ok (.iinc 2 (-1), 3) := by decide +kernel
theorem dX8_grantByQuotas_75 : decode cX8_grantByQuotas 75 = .ok (.iinc 4 1, 3) := by decide +kernel
theorem dX8_grantByQuotas_78 : decode cX8_grantByQuotas 78 = .ok (.goto (-55), 3) := by decide +kernel
theorem dX8_grantByQuotas_81 : decode cX8_grantByQuotas 81 = .ok (.iinc 3 1, 3) := by decide +kernel
theorem dX8_grantByQuotas_84 : decode cX8_grantByQuotas 84 = .ok (.goto (-80), 3) := by decide +kernel
theorem dX8_grantByQuotas_87 : decode cX8_grantByQuotas 87 = .ok (.return_, 1) := by decide +kernel
set_option maxRecDepth 20000 in
theorem ggX8_grant_Jx4a65c_size_8abf5 : GoodIn wsX8_grant wsJx4a65c_size_8abf5 := goodIn_r _ [12, 13, 91, 92, 93] (by decide +kernel) (by decide +kernel)
set_option maxRecDepth 20000 in
theorem gX8_grant_Jx4a65c_size_8abf5 : GoodIn wsX8_grant (wsV RX8 48 RJx4a65c yJx4a65c_size_8abf5 wsJx4a65c_size_8abf5) := goodIn_app (goodIn_of _ (by decide +kernel)) ggX8_grant_Jx4a65c_size_8abf5
set_option maxRecDepth 20000 in
theorem ggX8_grant_X4_isFollowedBy : GoodIn wsX8_grant wsX4_isFollowedBy := goodIn_r _ [18, 19, 63, 64, 65, 66, 67, 68, 69, 70] (by decide +kernel) (by decide +kernel)
set_option maxRecDepth 20000 in
theorem gX8_grant_X4_isFollowedBy : GoodIn wsX8_grant (wsV RX8 258 RX4 yX4_isFollowedBy wsX4_isFollowedBy) := goodIn_app (goodIn_of _ (by decide +kernel)) ggX8_grant_X4_isFollowedBy
set_option maxRecDepth 20000 in
theorem ggX8_grant_Jx4a65c_get_915e3 : GoodIn wsX8_grant wsJx4a65c_get_915e3 := goodIn_r _ [23, 13, 24, 25, 26, 27, 28, 29, 30, 31, 32, 33, 34, 11, 35, 36, 91, 92, 93] (by decide +kernel) (by decide +kernel)
set_option maxRecDepth 20000 in
theorem gX8_grant_Jx4a65c_get_915e3 : GoodIn wsX8_grant (wsV RX8 347 RJx4a65c yJx4a65c_get_915e3 wsJx4a65c_get_915e3) := goodIn_app (goodIn_of _ (by decide +kernel)) ggX8_grant_Jx4a65c_get_915e3
set_option maxRecDepth 20000 in
theorem ggX8_grant_X2_grantOn : GoodIn wsX8_grant wsX2_grantOn := goodIn_r _ [41, 42, 43, 44, 45, 46, 47, 48, 49, 50, 40, 51, 52, 53, 54, 55, 56, 57, 58, 59, 60, 61, 62, 94, 95, 96, 97] (by decide +kernel) (by decide +kernel)
set_option maxRecDepth 20000 in
theorem gX8_grant_X2_grantOn : GoodIn wsX8_grant (wsV RX8 448 RX2 yX2_grantOn wsX2_grantOn) := goodIn_app (goodIn_of _ (by decide +kernel)) ggX8_grant_X2_grantOn
theorem dX8_grant_0 : decode cX8_grant 0 = .ok (.aload_n 1, 1) := by decide +kernel
theorem dX8_grant_1 : decode cX8_grant 1 = .ok (.iconst 1, 1) := by decide +kernel
theorem dX8_grant_2 : decode cX8_grant 2 = .ok (.putfield 248, 3) := by decide +kernel
theorem dX8_grant_5 : decode cX8_grant 5 = .ok (.iconst 0, 1) := by decide +kernel
theorem dX8_grant_6 : decode cX8_grant 6 = .ok (.istore_n 2, 1) := by decide +kernel
theorem dX8_grant_7 : decode cX8_grant 7 = .ok (.iload_n 2, 1) := by decide +kernel
theorem dX8_grant_8 : decode cX8_grant 8 = .ok (.aload_n 0, 1) := by decide +kernel
theorem dX8_grant_9 : decode cX8_grant 9 = .ok (.getfield 16, 3) := by decide +kernel
theorem dX8_grant_12 : decode cX8_grant 12 = .ok (.invokevirtual 48, 3) := by decide +kernel
theorem dX8_grant_15 : decode cX8_grant 15 = .ok (.if_icmp .ge 50, 3) := by decide +kernel
theorem dX8_grant_18 : decode cX8_grant 18 = .ok (.aload_n 1, 1) := by decide +kernel
theorem dX8_grant_19 : decode cX8_grant 19 = .ok (.getfield 255, 3) := by decide +kernel
theorem dX8_grant_22 : decode cX8_grant 22 = .ok (.iload_n 2, 1) := by decide +kernel
theorem dX8_grant_23 : decode cX8_grant 23 = .ok (.if_icmp .eq 11, 3) := by decide +kernel
theorem dX8_grant_26 : decode cX8_grant 26 = .ok (.aload_n 1, 1) := by decide +kernel
theorem dX8_grant_27 : decode cX8_grant 27 = .ok (.iload_n 2, 1) := by decide +kernel
theorem dX8_grant_28 : decode cX8_grant 28 = .ok (.invokevirtual 258, 3) := by decide +kernel
theorem dX8_grant_31 : decode cX8_grant 31 = .ok (.ifCond .eq 28, 3) := by decide +kernel
theorem dX8_grant_34 : decode cX8_grant 34 = .ok (.aload_n 0, 1) := by decide +kernel
theorem dX8_grant_35 : decode cX8_grant 35 = .ok (.getfield 16, 3) := by decide +kernel
theorem dX8_grant_38 : decode cX8_grant 38 = .ok (.iload_n 2, 1) := by decide +kernel
theorem dX8_grant_39 : decode cX8_grant 39 = .ok (.invokevirtual 347, 3) := by decide +kernel
theorem dX8_grant_42 : decode cX8_grant 42 = .ok (.checkcast 102, 3) := by decide +kernel
theorem dX8_grant_45 : decode cX8_grant 45 = .ok (.getfield 279, 3) := by decide +kernel
theorem dX8_grant_48 : decode cX8_grant 48 = .ok (.aload_n 1, 1) := by decide +kernel
theorem dX8_grant_49 : decode cX8_grant 49 = .ok (.getfield 415, 3) := by decide +kernel
theorem dX8_grant_52 : decode cX8_grant 52 = .ok (.aload_n 0, 1) := by decide +kernel
theorem dX8_grant_53 : decode cX8_grant 53 = .ok (.getfield 37, 3) := by decide +kernel
theorem dX8_grant_56 : decode cX8_grant 56 = .ok (.invokevirtual 448, 3) := by decide +kernel
theorem dX8_grant_59 : decode cX8_grant 59 = .ok (.iinc 2 1, 3) := by decide +kernel
theorem dX8_grant_62 : decode cX8_grant 62 = .ok (.goto (-55), 3) := by decide +kernel
theorem dX8_grant_65 : decode cX8_grant 65 = .ok (.return_, 1) := by decide +kernel
