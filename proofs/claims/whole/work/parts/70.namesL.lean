set_option maxRecDepth 20000 in
theorem ggL_land_X8_land : GoodIn wsL_land wsX8_land := goodIn_ca (goodIn_ca (goodIn_r _ [7, 8, 9, 10, 11, 12, 13, 14, 15, 16, 17, 18, 19, 20, 21, 22, 23, 24, 25, 26, 27, 28, 29, 30, 31, 32, 33, 34, 35, 36, 37, 38, 39, 40, 41, 42, 43, 44, 45, 46, 47, 48, 49, 50, 51, 52, 53, 54, 55, 56, 57, 58, 59, 60, 61, 62, 63, 64, 65, 66, 67, 68, 69, 70, 71, 72, 73, 74, 75, 76, 77, 78, 79, 80, 81, 82, 83, 84, 85, 86, 87, 88, 89, 90, 91, 92, 93, 94, 95, 96, 97, 98, 99, 100, 101, 102, 103, 104, 105, 106, 107, 108, 109, 110, 111, 112, 113, 114, 115, 116, 117, 118, 119, 120] (by decide +kernel) (by decide +kernel)) (goodIn_sub (fun _ h => List.mem_cons_of_mem _ (List.mem_append_left _ (List.mem_append_right _ h))) (by decide +kernel))) (goodIn_sub (fun _ h => List.mem_cons_of_mem _ (List.mem_append_right _ h)) (by decide +kernel))
set_option maxRecDepth 20000 in
theorem gL_land_X8_land : GoodIn wsL_land (wsV RL 7 RX8 yX8_land wsX8_land) := goodIn_app (goodIn_of _ (by decide +kernel)) ggL_land_X8_land
theorem dL_land_0 : decode cL_land 0 = .ok (.aload 5, 2) := by decide +kernel
theorem dL_land_2 : decode cL_land 2 = .ok (.iconst 0, 1) := by decide +kernel
theorem dL_land_3 : decode cL_land 3 = .ok (.aload_n 0, 1) := by decide +kernel
theorem dL_land_4 : decode cL_land 4 = .ok (.iload_n 1, 1) := by decide +kernel
theorem dL_land_5 : decode cL_land 5 = .ok (.iload_n 2, 1) := by decide +kernel
theorem dL_land_6 : decode cL_land 6 = .ok (.iload_n 3, 1) := by decide +kernel
theorem dL_land_7 : decode cL_land 7 = .ok (.iload 4, 2) := by decide +kernel
theorem dL_land_9 : decode cL_land 9 = .ok (.invokevirtual 7, 3) := by decide +kernel
theorem dL_land_12 : decode cL_land 12 = .ok (.i2l, 1) := by decide +kernel
theorem dL_land_13 : decode cL_land 13 = .ok (.lastore, 1) := by decide +kernel
theorem dL_land_14 : decode cL_land 14 = .ok (.goto 11, 3) := by decide +kernel
theorem dL_land_17 : decode cL_land 17 = .ok (.astore 6, 2) := by decide +kernel
theorem dL_land_19 : decode cL_land 19 = .ok (.iconst 1, 1) := by decide +kernel
theorem dL_land_20 : decode cL_land 20 = .ok (.ireturn, 1) := by decide +kernel
theorem dL_land_21 : decode cL_land 21 = .ok (.astore 6, 2) := by decide +kernel
theorem dL_land_23 : decode cL_land 23 = .ok (.iconst 2, 1) := by decide +kernel
theorem dL_land_24 : decode cL_land 24 = .ok (.ireturn, 1) := by decide +kernel
theorem dL_land_25 : decode cL_land 25 = .ok (.iconst 0, 1) := by decide +kernel
theorem dL_land_26 : decode cL_land 26 = .ok (.ireturn, 1) := by decide +kernel
set_option maxRecDepth 20000 in
theorem ggL_waive_X8_waive : GoodIn wsL_waive wsX8_waive := goodIn_ca (goodIn_ca (goodIn_r _ [7, 8, 9, 10, 11, 12, 13, 6, 14, 15, 16, 17, 18, 19, 20, 21, 22, 23, 24, 25, 26, 27, 28, 29, 30, 31, 32, 33, 34, 35, 36, 37, 38, 39, 40, 41, 42, 43, 44, 45, 46, 47, 48, 49, 50, 51, 52, 53, 54, 55, 56, 57, 58, 59, 60, 61, 62, 63, 64, 65, 66, 67, 68, 69] (by decide +kernel) (by decide +kernel)) (goodIn_sub (fun _ h => List.mem_cons_of_mem _ (List.mem_append_left _ (List.mem_append_right _ h))) (by decide +kernel))) (goodIn_sub (fun _ h => List.mem_cons_of_mem _ (List.mem_append_right _ h)) (by decide +kernel))
set_option maxRecDepth 20000 in
theorem gL_waive_X8_waive : GoodIn wsL_waive (wsV RL 17 RX8 yX8_waive wsX8_waive) := goodIn_app (goodIn_of _ (by decide +kernel)) ggL_waive_X8_waive
theorem dL_waive_0 : decode cL_waive 0 = .ok (.aload 4, 2) := by decide +kernel
theorem dL_waive_2 : decode cL_waive 2 = .ok (.iconst 0, 1) := by decide +kernel
theorem dL_waive_3 : decode cL_waive 3 = .ok (.aload_n 0, 1) := by decide +kernel
theorem dL_waive_4 : decode cL_waive 4 = .ok (.iload_n 1, 1) := by decide +kernel
theorem dL_waive_5 : decode cL_waive 5 = .ok (.iload_n 2, 1) := by decide +kernel
theorem dL_waive_6 : decode cL_waive 6 = .ok (.iload_n 3, 1) := by decide +kernel
theorem dL_waive_7 : decode cL_waive 7 = .ok (.invokevirtual 17, 3) := by decide +kernel
theorem dL_waive_10 : decode cL_waive 10 = .ok (.ifCond .eq 7, 3) := by decide +kernel
theorem dL_waive_13 : decode cL_waive 13 = .ok (.lconst 1, 1) := by decide +kernel
theorem dL_waive_14 : decode cL_waive 14 = .ok (.goto 4, 3) := by decide +kernel
theorem dL_waive_17 : decode cL_waive 17 = .ok (.lconst 0, 1) := by decide +kernel
theorem dL_waive_18 : decode cL_waive 18 = .ok (.lastore, 1) := by decide +kernel
theorem dL_waive_19 : decode cL_waive 19 = .ok (.goto 11, 3) := by decide +kernel
theorem dL_waive_22 : decode cL_waive 22 = .ok (.astore 5, 2) := by decide +kernel
theorem dL_waive_24 : decode cL_waive 24 = .ok (.iconst 1, 1) := by decide +kernel
theorem dL_waive_25 : decode cL_waive 25 = .ok (.ireturn, 1) := by decide +kernel
theorem dL_waive_26 : decode cL_waive 26 = .ok (.astore 5, 2) := by decide +kernel
theorem dL_waive_28 : decode cL_waive 28 = .ok (.iconst 2, 1) := by decide +kernel
theorem dL_waive_29 : decode cL_waive 29 = .ok (.ireturn, 1) := by decide +kernel
theorem dL_waive_30 : decode cL_waive 30 = .ok (.iconst 0, 1) := by decide +kernel
theorem dL_waive_31 : decode cL_waive 31 = .ok (.ireturn, 1) := by decide +kernel
set_option maxRecDepth 20000 in
theorem ggL_rule_X8_rule : GoodIn wsL_rule wsX8_rule := goodIn_ca (goodIn_ca (goodIn_r _ [7, 8, 9, 10, 11, 12, 13, 14, 15, 16, 17, 18, 19, 6, 20, 21, 22, 23, 24, 25, 26, 27, 28, 29, 30, 31, 32, 33, 34, 35, 36, 37, 38, 39, 40, 41, 42, 43, 44, 45, 46, 47, 48, 49, 50, 51, 52, 53, 54, 55, 56, 57, 58, 59, 60, 61, 62, 63, 64, 65, 66, 67, 68, 69, 70, 71, 72, 73, 74, 75, 76, 77, 78, 79, 80, 81, 82, 83, 84, 85, 86, 87, 88, 89, 90, 91, 92, 93, 94, 95, 96, 97, 98, 99, 100, 101, 102] (by decide +kernel) (by decide +kernel)) (goodIn_sub (fun _ h => List.mem_cons_of_mem _ (List.mem_append_left _ (List.mem_append_right _ h))) (by decide +kernel))) (goodIn_sub (fun _ h => List.mem_cons_of_mem _ (List.mem_append_right _ h)) (by decide +kernel))
set_option maxRecDepth 20000 in
theorem gL_rule_X8_rule : GoodIn wsL_rule (wsV RL 23 RX8 yX8_rule wsX8_rule) := goodIn_app (goodIn_of _ (by decide +kernel)) ggL_rule_X8_rule
theorem dL_rule_0 : decode cL_rule 0 = .ok (.aload 4, 2) := by decide +kernel
theorem dL_rule_2 : decode cL_rule 2 = .ok (.iconst 0, 1) := by decide +kernel
theorem dL_rule_3 : decode cL_rule 3 = .ok (.aload_n 0, 1) := by decide +kernel
theorem dL_rule_4 : decode cL_rule 4 = .ok (.iload_n 1, 1) := by decide +kernel
theorem dL_rule_5 : decode cL_rule 5 = .ok (.iload_n 2, 1) := by decide +kernel
theorem dL_rule_6 : decode cL_rule 6 = .ok (.iload_n 3, 1) := by decide +kernel
theorem dL_rule_7 : decode cL_rule 7 = .ok (.invokevirtual 23, 3) := by decide +kernel
theorem dL_rule_10 : decode cL_rule 10 = .ok (.i2l, 1) := by decide +kernel
theorem dL_rule_11 : decode cL_rule 11 = .ok (.lastore, 1) := by decide +kernel
theorem dL_rule_12 : decode cL_rule 12 = .ok (.goto 11, 3) := by decide +kernel
theorem dL_rule_15 : decode cL_rule 15 = .ok (.astore 5, 2) := by decide +kernel
theorem dL_rule_17 : decode cL_rule 17 = .ok (.iconst 1, 1) := by decide +kernel
theorem dL_rule_18 : decode cL_rule 18 = .ok (.ireturn, 1) := by decide +kernel
theorem dL_rule_19 : decode cL_rule 19 = .ok (.astore 5, 2) := by decide +kernel
theorem dL_rule_21 : decode cL_rule 21 = .ok (.iconst 2, 1) := by decide +kernel
theorem dL_rule_22 : decode cL_rule 22 = .ok (.ireturn, 1) := by decide +kernel
theorem dL_rule_23 : decode cL_rule 23 = .ok (.iconst 0, 1) := by decide +kernel
theorem dL_rule_24 : decode cL_rule 24 = .ok (.ireturn, 1) := by decide +kernel
set_option maxRecDepth 20000 in
theorem ggL_person_X8_person : GoodIn wsL_person wsX8_person := goodIn_ca (goodIn_ca (goodIn_ca (goodIn_r _ [8, 9, 10, 11, 12, 13, 14, 15, 7, 16, 17, 18, 19, 20, 21, 22, 23, 24, 25, 26, 27, 28, 29, 30, 31, 32, 33, 34, 35, 36, 37, 38, 39, 40, 41, 42, 43, 44, 45, 46, 47, 48, 49, 50, 51, 52, 53, 54, 55, 56, 57, 58, 59, 60, 61, 62, 63, 64, 65, 66, 67, 68, 69, 70, 71, 72, 73, 74, 75, 76, 77, 78, 79, 80, 81, 82, 83, 84, 85, 86, 87, 88, 89, 90, 91, 92, 93, 94, 95, 96, 97, 98, 99, 100, 101, 102, 103, 104, 105, 106, 107, 108, 109, 110, 111, 112, 113, 114, 115, 116, 117, 118, 119, 120, 121, 122, 123, 124, 125, 126, 127, 128, 129, 130, 131, 132, 133, 134, 135, 136, 137, 138, 139, 140, 141, 142, 143, 144, 145, 146, 147, 148, 149, 150, 151, 152, 153, 154, 155, 156, 157, 158, 159, 160, 161, 162, 163, 164, 165, 166, 167, 168, 169, 170, 171, 172, 173, 174, 175, 176, 177, 178, 179, 180, 181, 182, 183, 184, 185, 186, 187, 188, 189, 190, 191, 192, 193, 194, 195, 196, 197, 198, 199, 200, 201, 202] (by decide +kernel) (by decide +kernel)) (goodIn_sub (fun _ h => List.mem_cons_of_mem _ (List.mem_append_left _ (List.mem_append_left _ (List.mem_append_right _ h)))) (by decide +kernel))) (goodIn_sub (fun _ h => List.mem_cons_of_mem _ (List.mem_append_left _ (List.mem_append_right _ h))) (by decide +kernel))) (goodIn_sub (fun _ h => List.mem_cons_of_mem _ (List.mem_append_right _ h)) (by decide +kernel))
set_option maxRecDepth 20000 in
theorem gL_person_X8_person : GoodIn wsL_person (wsV RL 27 RX8 yX8_person wsX8_person) := goodIn_app (goodIn_of _ (by decide +kernel)) ggL_person_X8_person
theorem dL_person_0 : decode cL_person 0 = .ok (.aload_n 3, 1) := by decide +kernel
theorem dL_person_1 : decode cL_person 1 = .ok (.iconst 0, 1) := by decide +kernel
theorem dL_person_2 : decode cL_person 2 = .ok (.aload_n 0, 1) := by decide +kernel
theorem dL_person_3 : decode cL_person 3 = .ok (.iload_n 1, 1) := by decide +kernel
theorem dL_person_4 : decode cL_person 4 = .ok (.iload_n 2, 1) := by decide +kernel
theorem dL_person_5 : decode cL_person 5 = .ok (.invokevirtual 27, 3) := by decide +kernel
theorem dL_person_8 : decode cL_person 8 = .ok (.i2l, 1) := by decide +kernel
theorem dL_person_9 : decode cL_person 9 = .ok (.lastore, 1) := by decide +kernel
theorem dL_person_10 : decode cL_person 10 = .ok (.goto 15, 3) := by decide +kernel
theorem dL_person_13 : decode cL_person 13 = .ok (.astore 4, 2) := by decide +kernel
theorem dL_person_15 : decode cL_person 15 = .ok (.iconst 1, 1) := by decide +kernel
theorem dL_person_16 : decode cL_person 16 = .ok (.ireturn, 1) := by decide +kernel
theorem dL_person_17 : decode cL_person 17 = .ok (.astore 4, 2) := by decide +kernel
theorem dL_person_19 : decode cL_person 19 = .ok (.iconst 2, 1) := by decide +kernel
theorem dL_person_20 : decode cL_person 20 = .ok (.ireturn, 1) := by decide +kernel
theorem dL_person_21 : decode cL_person 21 = .ok (.astore 4, 2) := by decide +kernel
theorem dL_person_23 : decode cL_person 23 = .ok (.iconst 3, 1) := by decide +kernel
theorem dL_person_24 : decode cL_person 24 = .ok (.ireturn, 1) := by decide +kernel
theorem dL_person_25 : decode cL_person 25 = .ok (.iconst 0, 1) := by decide +kernel
theorem dL_person_26 : decode cL_person 26 = .ok (.ireturn, 1) := by decide +kernel
set_option maxRecDepth 20000 in
theorem ggL_birth_X8_birth : GoodIn wsL_birth wsX8_birth := goodIn_ca (goodIn_ca (goodIn_ca (goodIn_r _ [8, 9, 10, 11, 12, 13, 14, 15, 16, 17, 18, 7, 19, 20, 21, 22, 23, 24, 25, 26, 27, 28, 29, 30, 31, 32, 33, 34, 35, 36, 37, 38, 39, 40, 41, 42, 43, 44, 45, 46, 47, 48, 49, 50, 51, 52, 53, 54, 55, 56, 57, 58, 59, 60, 61, 62, 63, 64, 65, 66, 67, 68, 69, 70, 71, 72, 73, 74, 75, 76, 77, 78, 79, 80, 81, 82, 83, 84, 85, 86, 87, 88, 89, 90, 91, 92, 93, 94, 95, 96, 97, 98, 99, 100, 101, 102, 103, 104, 105, 106, 107, 108, 109, 110, 111, 112, 113, 114, 115, 116, 117, 118, 119, 120, 121, 122, 123, 124, 125, 126, 127, 128, 129, 130, 131, 132, 133, 134, 135, 136, 137, 138, 139, 140, 141, 142, 143, 144, 145, 146, 147, 148, 149, 150, 151, 152, 153, 154, 155, 156, 157, 158, 159, 160, 161, 162, 163, 164, 165, 166, 167, 168, 169, 170, 171, 172, 173, 174, 175, 176, 177, 178, 179, 180, 181, 182, 183, 184, 185, 186, 187, 188, 189, 190, 191, 192, 193, 194, 195, 196, 197, 198, 199, 200, 201, 202, 203, 204, 205, 206, 207, 208, 209, 210, 211, 212, 213, 214, 215, 216, 217, 218, 219, 220, 221, 222, 223, 224, 225, 226, 227, 228, 229, 230, 231, 232, 233, 234, 235, 236, 237, 238, 239, 240, 241, 242, 243, 244, 245, 246, 247, 248, 249, 250, 251, 252, 253, 254, 255, 256, 257, 258, 259, 260, 261, 262, 263, 264, 265, 266, 267, 268, 269, 270, 271, 272, 273, 274, 275, 276, 277, 278, 279, 280, 281, 282, 283, 284, 285, 286, 287, 288, 289, 290, 291, 292, 293, 294, 295, 296, 297, 298, 299, 300, 301, 302, 303, 304, 305, 306, 307, 308, 309, 310] (by decide +kernel) (by decide +kernel)) (goodIn_sub (fun _ h => List.mem_cons_of_mem _ (List.mem_append_left _ (List.mem_append_left _ (List.mem_append_right _ h)))) (by decide +kernel))) (goodIn_sub (fun _ h => List.mem_cons_of_mem _ (List.mem_append_left _ (List.mem_append_right _ h))) (by decide +kernel))) (goodIn_sub (fun _ h => List.mem_cons_of_mem _ (List.mem_append_right _ h)) (by decide +kernel))
set_option maxRecDepth 20000 in
theorem gL_birth_X8_birth : GoodIn wsL_birth (wsV RL 31 RX8 yX8_birth wsX8_birth) := goodIn_app (goodIn_of _ (by decide +kernel)) ggL_birth_X8_birth
theorem dL_birth_0 : decode cL_birth 0 = .ok (.aload_n 3, 1) := by decide +kernel
theorem dL_birth_1 : decode cL_birth 1 = .ok (.iconst 0, 1) := by decide +kernel
theorem dL_birth_2 : decode cL_birth 2 = .ok (.aload_n 0, 1) := by decide +kernel
theorem dL_birth_3 : decode cL_birth 3 = .ok (.iload_n 1, 1) := by decide +kernel
theorem dL_birth_4 : decode cL_birth 4 = .ok (.iload_n 2, 1) := by decide +kernel
theorem dL_birth_5 : decode cL_birth 5 = .ok (.invokevirtual 31, 3) := by decide +kernel
theorem dL_birth_8 : decode cL_birth 8 = .ok (.i2l, 1) := by decide +kernel
theorem dL_birth_9 : decode cL_birth 9 = .ok (.lastore, 1) := by decide +kernel
theorem dL_birth_10 : decode cL_birth 10 = .ok (.goto 15, 3) := by decide +kernel
theorem dL_birth_13 : decode cL_birth 13 = .ok (.astore 4, 2) := by decide +kernel
theorem dL_birth_15 : decode cL_birth 15 = .ok (.iconst 1, 1) := by decide +kernel
theorem dL_birth_16 : decode cL_birth 16 = .ok (.ireturn, 1) := by decide +kernel
theorem dL_birth_17 : decode cL_birth 17 = .ok (.astore 4, 2) := by decide +kernel
theorem dL_birth_19 : decode cL_birth 19 = .ok (.iconst 2, 1) := by decide +kernel
theorem dL_birth_20 : decode cL_birth 20 = .ok (.ireturn, 1) := by decide +kernel
theorem dL_birth_21 : decode cL_birth 21 = .ok (.astore 4, 2) := by decide +kernel
theorem dL_birth_23 : decode cL_birth 23 = .ok (.iconst 3, 1) := by decide +kernel
theorem dL_birth_24 : decode cL_birth 24 = .ok (.ireturn, 1) := by decide +kernel
theorem dL_birth_25 : decode cL_birth 25 = .ok (.iconst 0, 1) := by decide +kernel
theorem dL_birth_26 : decode cL_birth 26 = .ok (.ireturn, 1) := by decide +kernel
set_option maxRecDepth 20000 in
theorem ggL_nation_X8_nation : GoodIn wsL_nation wsX8_nation := goodIn_ca (goodIn_r _ [6, 7, 8, 9, 10, 5, 11, 12, 13, 14, 15, 16, 17, 18, 19, 20, 21, 22, 23, 24, 25, 26, 27, 28, 29, 30, 31, 32, 33, 34, 35, 36, 37, 38, 39, 40, 41, 42, 43, 44, 45, 46, 47, 48, 49, 50, 51, 52, 53, 54, 55, 56, 57, 58, 59, 60, 61, 62, 63, 64, 65, 66, 67, 68, 69, 70, 71, 72, 73, 74, 75, 76, 77, 78, 79, 80] (by decide +kernel) (by decide +kernel)) (goodIn_sub (fun _ h => List.mem_cons_of_mem _ (List.mem_append_right _ h)) (by decide +kernel))
set_option maxRecDepth 20000 in
theorem gL_nation_X8_nation : GoodIn wsL_nation (wsV RL 34 RX8 yX8_nation wsX8_nation) := goodIn_app (goodIn_of _ (by decide +kernel)) ggL_nation_X8_nation
theorem dL_nation_0 : decode cL_nation 0 = .ok (.aload 4, 2) := by decide +kernel
theorem dL_nation_2 : decode cL_nation 2 = .ok (.iconst 0, 1) := by decide +kernel
theorem dL_nation_3 : decode cL_nation 3 = .ok (.aload_n 0, 1) := by decide +kernel
theorem dL_nation_4 : decode cL_nation 4 = .ok (.iload_n 1, 1) := by decide +kernel
theorem dL_nation_5 : decode cL_nation 5 = .ok (.iload_n 2, 1) := by decide +kernel
theorem dL_nation_6 : decode cL_nation 6 = .ok (.iload_n 3, 1) := by decide +kernel
theorem dL_nation_7 : decode cL_nation 7 = .ok (.invokevirtual 34, 3) := by decide +kernel
theorem dL_nation_10 : decode cL_nation 10 = .ok (.i2l, 1) := by decide +kernel
theorem dL_nation_11 : decode cL_nation 11 = .ok (.lastore, 1) := by decide +kernel
theorem dL_nation_12 : decode cL_nation 12 = .ok (.goto 7, 3) := by decide +kernel
theorem dL_nation_15 : decode cL_nation 15 = .ok (.astore 5, 2) := by decide +kernel
theorem dL_nation_17 : decode cL_nation 17 = .ok (.iconst 1, 1) := by decide +kernel
theorem dL_nation_18 : decode cL_nation 18 = .ok (.ireturn, 1) := by decide +kernel
theorem dL_nation_19 : decode cL_nation 19 = .ok (.iconst 0, 1) := by decide +kernel
theorem dL_nation_20 : decode cL_nation 20 = .ok (.ireturn, 1) := by decide +kernel
set_option maxRecDepth 20000 in
theorem ggL_visa_X8_visa : GoodIn wsL_visa wsX8_visa := goodIn_ca (goodIn_ca (goodIn_ca (goodIn_r _ [8, 9, 10, 11, 12, 13, 14, 15, 16, 17, 18, 19, 20, 21, 22, 23, 24, 7, 25, 26, 27, 28, 29, 30, 31, 32, 33, 34, 35, 36, 37, 38, 39, 40, 41, 42, 43, 44, 45, 46, 47, 48, 49, 50, 51, 52, 53, 54, 55, 56, 57, 58, 59, 60, 61, 62, 63, 64, 65, 66, 67, 68, 69, 70, 71, 72, 73, 74, 75, 76, 77, 78, 79, 80, 81, 82, 83, 84, 85, 86, 87, 88, 89, 90, 91, 92, 93, 94, 95, 96, 97, 98, 99, 100, 101, 102, 103, 104, 105, 106, 107, 108, 109, 110, 111, 112, 113, 114, 115, 116, 117, 118, 119, 120, 121, 122, 123, 124, 125, 126, 127, 128, 129, 130, 131, 132, 133, 134, 135, 136, 137, 138, 139, 140, 141, 142, 143, 144, 145, 146, 147, 148, 149, 150, 151, 152, 153, 154] (by decide +kernel) (by decide +kernel)) (goodIn_sub (fun _ h => List.mem_cons_of_mem _ (List.mem_append_left _ (List.mem_append_left _ (List.mem_append_right _ h)))) (by decide +kernel))) (goodIn_sub (fun _ h => List.mem_cons_of_mem _ (List.mem_append_left _ (List.mem_append_right _ h))) (by decide +kernel))) (goodIn_sub (fun _ h => List.mem_cons_of_mem _ (List.mem_append_right _ h)) (by decide +kernel))
set_option maxRecDepth 20000 in
theorem gL_visa_X8_visa : GoodIn wsL_visa (wsV RL 38 RX8 yX8_visa wsX8_visa) := goodIn_app (goodIn_of _ (by decide +kernel)) ggL_visa_X8_visa
theorem dL_visa_0 : decode cL_visa 0 = .ok (.aload 7, 2) := by decide +kernel
theorem dL_visa_2 : decode cL_visa 2 = .ok (.iconst 0, 1) := by decide +kernel
theorem dL_visa_3 : decode cL_visa 3 = .ok (.aload_n 0, 1) := by decide +kernel
theorem dL_visa_4 : decode cL_visa 4 = .ok (.iload_n 1, 1) := by decide +kernel
theorem dL_visa_5 : decode cL_visa 5 = .ok (.iload_n 2, 1) := by decide +kernel
theorem dL_visa_6 : decode cL_visa 6 = .ok (.iload_n 3, 1) := by decide +kernel
theorem dL_visa_7 : decode cL_visa 7 = .ok (.iload 4, 2) := by decide +kernel
theorem dL_visa_9 : decode cL_visa 9 = .ok (.iload 5, 2) := by decide +kernel
theorem dL_visa_11 : decode cL_visa 11 = .ok (.iload 6, 2) := by decide +kernel
theorem dL_visa_13 : decode cL_visa 13 = .ok (.invokevirtual 38, 3) := by decide +kernel
theorem dL_visa_16 : decode cL_visa 16 = .ok (.i2l, 1) := by decide +kernel
theorem dL_visa_17 : decode cL_visa 17 = .ok (.lastore, 1) := by decide +kernel
theorem dL_visa_18 : decode cL_visa 18 = .ok (.goto 15, 3) := by decide +kernel
theorem dL_visa_21 : decode cL_visa 21 = .ok (.astore 8, 2) := by decide +kernel
theorem dL_visa_23 : decode cL_visa 23 = .ok (.iconst 1, 1) := by decide +kernel
theorem dL_visa_24 : decode cL_visa 24 = .ok (.ireturn, 1) := by decide +kernel
theorem dL_visa_25 : decode cL_visa 25 = .ok (.astore 8, 2) := by decide +kernel
theorem dL_visa_27 : decode cL_visa 27 = .ok (.iconst 2, 1) := by decide +kernel
theorem dL_visa_28 : decode cL_visa 28 = .ok (.ireturn, 1) := by decide +kernel
theorem dL_visa_29 : decode cL_visa 29 = .ok (.astore 8, 2) := by decide +kernel
theorem dL_visa_31 : decode cL_visa 31 = .ok (.iconst 3, 1) := by decide +kernel
theorem dL_visa_32 : decode cL_visa 32 = .ok (.ireturn, 1) := by decide +kernel
theorem dL_visa_33 : decode cL_visa 33 = .ok (.iconst 0, 1) := by decide +kernel
theorem dL_visa_34 : decode cL_visa 34 = .ok (.ireturn, 1) := by decide +kernel
set_option maxRecDepth 20000 in
theorem ggL_enter_X8_enter : GoodIn wsL_enter wsX8_enter := goodIn_ca (goodIn_ca (goodIn_r _ [7, 8, 9, 10, 11, 6, 12, 13, 14, 15, 16, 17, 18, 19, 20, 21, 22, 23, 24, 25, 26, 27, 28, 29, 30, 31, 32, 33, 34, 35, 36, 37, 38, 39, 40, 41, 42, 43, 44, 45, 46, 47, 48, 49, 50, 51, 52, 53, 54, 55, 56, 57, 58, 59, 60, 61, 62, 63, 64, 65, 66, 67, 68, 69, 70, 71, 72, 73, 74, 75, 76, 77, 78, 79, 80, 81, 82, 83, 84, 85, 86, 87, 88, 89, 90, 91, 92, 93, 94, 95, 96, 97, 98, 99, 100, 101, 102, 103, 104, 105, 106, 107, 108, 109, 110, 111, 112, 113, 114, 115, 116, 117, 118, 119, 120, 121, 122, 123, 124, 125, 126, 127, 128, 129, 130, 131, 132, 133, 134, 135, 136, 137, 138, 139, 140, 141, 142, 143, 144, 145, 146, 147, 148, 149, 150, 151, 152, 153, 154, 155, 156, 157, 158, 159, 160, 161, 162, 163, 164, 165, 166, 167, 168, 169, 170, 171, 172, 173, 174, 175, 176, 177, 178, 179, 180, 181, 182, 183, 184, 185, 186, 187, 188, 189, 190, 191, 192, 193, 194, 195, 196, 197, 198, 199, 200, 201, 202, 203, 204, 205, 206, 207, 208, 209, 210, 211, 212, 213, 214, 215, 216, 217, 218, 219, 220, 221, 222, 223, 224, 225, 226, 227, 228, 229, 230, 231, 232, 233, 234, 235, 236, 237, 238, 239, 240, 241] (by decide +kernel) (by decide +kernel)) (goodIn_sub (fun _ h => List.mem_cons_of_mem _ (List.mem_append_left _ (List.mem_append_right _ h))) (by decide +kernel))) (goodIn_sub (fun _ h => List.mem_cons_of_mem _ (List.mem_append_right _ h)) (by decide +kernel))
set_option maxRecDepth 20000 in
theorem gL_enter_X8_enter : GoodIn wsL_enter (wsV RL 42 RX8 yX8_enter wsX8_enter) := goodIn_app (goodIn_of _ (by decide +kernel)) ggL_enter_X8_enter
theorem dL_enter_0 : decode cL_enter 0 = .ok (.aload_n 3, 1) := by decide +kernel
theorem dL_enter_1 : decode cL_enter 1 = .ok (.iconst 0, 1) := by decide +kernel
theorem dL_enter_2 : decode cL_enter 2 = .ok (.aload_n 0, 1) := by decide +kernel
theorem dL_enter_3 : decode cL_enter 3 = .ok (.iload_n 1, 1) := by decide +kernel
theorem dL_enter_4 : decode cL_enter 4 = .ok (.iload_n 2, 1) := by decide +kernel
theorem dL_enter_5 : decode cL_enter 5 = .ok (.invokevirtual 42, 3) := by decide +kernel
theorem dL_enter_8 : decode cL_enter 8 = .ok (.i2l, 1) := by decide +kernel
theorem dL_enter_9 : decode cL_enter 9 = .ok (.lastore, 1) := by decide +kernel
theorem dL_enter_10 : decode cL_enter 10 = .ok (.goto 11, 3) := by decide +kernel
theorem dL_enter_13 : decode cL_enter 13 = .ok (.astore 4, 2) := by decide +kernel
theorem dL_enter_15 : decode cL_enter 15 = .ok (.iconst 1, 1) := by decide +kernel
theorem dL_enter_16 : decode cL_enter 16 = .ok (.ireturn, 1) := by decide +kernel
theorem dL_enter_17 : decode cL_enter 17 = .ok (.astore 4, 2) := by decide +kernel
theorem dL_enter_19 : decode cL_enter 19 = .ok (.iconst 2, 1) := by decide +kernel
theorem dL_enter_20 : decode cL_enter 20 = .ok (.ireturn, 1) := by decide +kernel
theorem dL_enter_21 : decode cL_enter 21 = .ok (.iconst 0, 1) := by decide +kernel
theorem dL_enter_22 : decode cL_enter 22 = .ok (.ireturn, 1) := by decide +kernel
set_option maxRecDepth 20000 in
theorem ggL_slip_X8_slip : GoodIn wsL_slip wsX8_slip := goodIn_ca (goodIn_ca (goodIn_r _ [7, 8, 9, 10, 6, 11, 12, 13, 14, 15, 16, 17, 18, 19, 20, 21, 22, 23, 24, 25, 26, 27, 28, 29, 30, 31, 32, 33, 34, 35, 36, 37, 38, 39, 40, 41, 42, 43, 44, 45, 46, 47, 48, 49, 50, 51, 52, 53, 54, 55, 56, 57, 58, 59, 60, 61, 62, 63, 64, 65, 66, 67, 68, 69, 70, 71, 72, 73, 74, 75, 76, 77, 78, 79, 80, 81, 82, 83, 84, 85, 86, 87, 88, 89, 90, 91, 92, 93, 94, 95, 96, 97, 98, 99, 100, 101, 102, 103, 104, 105, 106, 107, 108, 109, 110, 111, 112, 113, 114, 115, 116, 117, 118, 119, 120, 121, 122, 123, 124, 125, 126, 127, 128, 129, 130, 131, 132, 133, 134, 135, 136, 137, 138, 139, 140, 141, 142, 143, 144, 145, 146, 147, 148, 149, 150, 151, 152, 153, 154, 155, 156, 157, 158, 159, 160, 161, 162, 163, 164, 165, 166, 167, 168, 169, 170, 171, 172, 173, 174, 175, 176, 177, 178, 179, 180, 181, 182, 183, 184, 185, 186, 187, 188, 189, 190, 191, 192, 193, 194, 195, 196, 197, 198] (by decide +kernel) (by decide +kernel)) (goodIn_sub (fun _ h => List.mem_cons_of_mem _ (List.mem_append_left _ (List.mem_append_right _ h))) (by decide +kernel))) (goodIn_sub (fun _ h => List.mem_cons_of_mem _ (List.mem_append_right _ h)) (by decide +kernel))
set_option maxRecDepth 20000 in
theorem gL_slip_X8_slip : GoodIn wsL_slip (wsV RL 45 RX8 yX8_slip wsX8_slip) := goodIn_app (goodIn_of _ (by decide +kernel)) ggL_slip_X8_slip
theorem dL_slip_0 : decode cL_slip 0 = .ok (.aload_n 3, 1) := by decide +kernel
theorem dL_slip_1 : decode cL_slip 1 = .ok (.iconst 0, 1) := by decide +kernel
theorem dL_slip_2 : decode cL_slip 2 = .ok (.aload_n 0, 1) := by decide +kernel
theorem dL_slip_3 : decode cL_slip 3 = .ok (.iload_n 1, 1) := by decide +kernel
theorem dL_slip_4 : decode cL_slip 4 = .ok (.iload_n 2, 1) := by decide +kernel
theorem dL_slip_5 : decode cL_slip 5 = .ok (.invokevirtual 45, 3) := by decide +kernel
theorem dL_slip_8 : decode cL_slip 8 = .ok (.i2l, 1) := by decide +kernel
theorem dL_slip_9 : decode cL_slip 9 = .ok (.lastore, 1) := by decide +kernel
theorem dL_slip_10 : decode cL_slip 10 = .ok (.goto 11, 3) := by decide +kernel
theorem dL_slip_13 : decode cL_slip 13 = .ok (.astore 4, 2) := by decide +kernel
theorem dL_slip_15 : decode cL_slip 15 = .ok (.iconst 1, 1) := by decide +kernel
theorem dL_slip_16 : decode cL_slip 16 = .ok (.ireturn, 1) := by decide +kernel
theorem dL_slip_17 : decode cL_slip 17 = .ok (.astore 4, 2) := by decide +kernel
theorem dL_slip_19 : decode cL_slip 19 = .ok (.iconst 2, 1) := by decide +kernel
theorem dL_slip_20 : decode cL_slip 20 = .ok (.ireturn, 1) := by decide +kernel
theorem dL_slip_21 : decode cL_slip 21 = .ok (.iconst 0, 1) := by decide +kernel
theorem dL_slip_22 : decode cL_slip 22 = .ok (.ireturn, 1) := by decide +kernel
set_option maxRecDepth 20000 in
theorem ggL_move_X8_move : GoodIn wsL_move wsX8_move := goodIn_ca (goodIn_ca (goodIn_r _ [7, 8, 9, 10, 11, 12, 13, 14, 6, 15, 16, 17, 18, 19, 20, 21, 22, 23, 24, 25, 26, 27, 28, 29, 30, 31, 32, 33, 34, 35, 36, 37, 38, 39, 40, 41, 42, 43, 44, 45, 46, 47, 48, 49, 50, 51, 52, 53, 54, 55, 56, 57, 58, 59, 60, 61, 62, 63, 64, 65, 66, 67, 68, 69, 70, 71, 72, 73, 74, 75, 76, 77, 78, 79, 80, 81, 82, 83, 84, 85, 86, 87, 88, 89, 90, 91, 92, 93, 94, 95, 96, 97, 98, 99, 100, 101, 102, 103, 104, 105, 106, 107, 108, 109, 110, 111, 112, 113, 114, 115, 116, 117, 118, 119, 120, 121, 122, 123, 124, 125, 126, 127, 128, 129, 130, 131, 132, 133, 134, 135, 136, 137, 138, 139, 140, 141, 142, 143, 144, 145, 146, 147, 148, 149, 150, 151, 152, 153, 154, 155, 156, 157, 158, 159, 160, 161, 162, 163, 164, 165, 166, 167, 168, 169, 170, 171, 172, 173, 174, 175, 176, 177, 178, 179, 180, 181, 182, 183, 184, 185, 186, 187, 188, 189, 190] (by decide +kernel) (by decide +kernel)) (goodIn_sub (fun _ h => List.mem_cons_of_mem _ (List.mem_append_left _ (List.mem_append_right _ h))) (by decide +kernel))) (goodIn_sub (fun _ h => List.mem_cons_of_mem _ (List.mem_append_right _ h)) (by decide +kernel))
set_option maxRecDepth 20000 in
theorem gL_move_X8_move : GoodIn wsL_move (wsV RL 48 RX8 yX8_move wsX8_move) := goodIn_app (goodIn_of _ (by decide +kernel)) ggL_move_X8_move
theorem dL_move_0 : decode cL_move 0 = .ok (.aload_n 3, 1) := by decide +kernel
theorem dL_move_1 : decode cL_move 1 = .ok (.iconst 0, 1) := by decide +kernel
theorem dL_move_2 : decode cL_move 2 = .ok (.aload_n 0, 1) := by decide +kernel
theorem dL_move_3 : decode cL_move 3 = .ok (.iload_n 1, 1) := by decide +kernel
theorem dL_move_4 : decode cL_move 4 = .ok (.iload_n 2, 1) := by decide +kernel
theorem dL_move_5 : decode cL_move 5 = .ok (.invokevirtual 48, 3) := by decide +kernel
theorem dL_move_8 : decode cL_move 8 = .ok (.i2l, 1) := by decide +kernel
theorem dL_move_9 : decode cL_move 9 = .ok (.lastore, 1) := by decide +kernel
theorem dL_move_10 : decode cL_move 10 = .ok (.goto 11, 3) := by decide +kernel
theorem dL_move_13 : decode cL_move 13 = .ok (.astore 4, 2) := by decide +kernel
theorem dL_move_15 : decode cL_move 15 = .ok (.iconst 1, 1) := by decide +kernel
theorem dL_move_16 : decode cL_move 16 = .ok (.ireturn, 1) := by decide +kernel
theorem dL_move_17 : decode cL_move 17 = .ok (.astore 4, 2) := by decide +kernel
theorem dL_move_19 : decode cL_move 19 = .ok (.iconst 2, 1) := by decide +kernel
theorem dL_move_20 : decode cL_move 20 = .ok (.ireturn, 1) := by decide +kernel
theorem dL_move_21 : decode cL_move 21 = .ok (.iconst 0, 1) := by decide +kernel
theorem dL_move_22 : decode cL_move 22 = .ok (.ireturn, 1) := by decide +kernel
set_option maxRecDepth 20000 in
theorem ggL_leave_X8_leave : GoodIn wsL_leave wsX8_leave := goodIn_ca (goodIn_ca (goodIn_r _ [7, 8, 9, 10, 11, 12, 13, 14, 15, 16, 17, 18, 19, 20, 21, 22, 6, 23, 24, 25, 26, 27, 28, 29, 30, 31, 32, 33, 34, 35, 36, 37, 38, 39, 40, 41, 42, 43, 44, 45, 46, 47, 48, 49, 50, 51, 52, 53, 54, 55, 56, 57, 58, 59, 60, 61, 62, 63, 64, 65, 66, 67, 68, 69, 70, 71, 72, 73, 74, 75, 76, 77, 78, 79, 80, 81, 82, 83, 84, 85, 86, 87, 88, 89, 90, 91, 92, 93, 94, 95, 96, 97, 98, 99, 100, 101, 102, 103, 104, 105, 106, 107, 108, 109, 110, 111] (by decide +kernel) (by decide +kernel)) (goodIn_sub (fun _ h => List.mem_cons_of_mem _ (List.mem_append_left _ (List.mem_append_right _ h))) (by decide +kernel))) (goodIn_sub (fun _ h => List.mem_cons_of_mem _ (List.mem_append_right _ h)) (by decide +kernel))
set_option maxRecDepth 20000 in
theorem gL_leave_X8_leave : GoodIn wsL_leave (wsV RL 51 RX8 yX8_leave wsX8_leave) := goodIn_app (goodIn_of _ (by decide +kernel)) ggL_leave_X8_leave
theorem dL_leave_0 : decode cL_leave 0 = .ok (.aload_n 2, 1) := by decide +kernel
theorem dL_leave_1 : decode cL_leave 1 = .ok (.iconst 0, 1) := by decide +kernel
theorem dL_leave_2 : decode cL_leave 2 = .ok (.aload_n 0, 1) := by decide +kernel
theorem dL_leave_3 : decode cL_leave 3 = .ok (.iload_n 1, 1) := by decide +kernel
theorem dL_leave_4 : decode cL_leave 4 = .ok (.invokevirtual 51, 3) := by decide +kernel
theorem dL_leave_7 : decode cL_leave 7 = .ok (.i2l, 1) := by decide +kernel
theorem dL_leave_8 : decode cL_leave 8 = .ok (.lastore, 1) := by decide +kernel
theorem dL_leave_9 : decode cL_leave 9 = .ok (.goto 9, 3) := by decide +kernel
theorem dL_leave_12 : decode cL_leave 12 = .ok (.astore_n 3, 1) := by decide +kernel
theorem dL_leave_13 : decode cL_leave 13 = .ok (.iconst 1, 1) := by decide +kernel
theorem dL_leave_14 : decode cL_leave 14 = .ok (.ireturn, 1) := by decide +kernel
theorem dL_leave_15 : decode cL_leave 15 = .ok (.astore_n 3, 1) := by decide +kernel
theorem dL_leave_16 : decode cL_leave 16 = .ok (.iconst 2, 1) := by decide +kernel
theorem dL_leave_17 : decode cL_leave 17 = .ok (.ireturn, 1) := by decide +kernel
theorem dL_leave_18 : decode cL_leave 18 = .ok (.iconst 0, 1) := by decide +kernel
theorem dL_leave_19 : decode cL_leave 19 = .ok (.ireturn, 1) := by decide +kernel
set_option maxRecDepth 20000 in
theorem ggL_ban_X8_ban : GoodIn wsL_ban wsX8_ban := goodIn_ca (goodIn_ca (goodIn_r _ [7, 8, 9, 10, 11, 12, 13, 14, 15, 16, 6, 17, 18, 19, 20, 21, 22, 23, 24, 25, 26, 27, 28, 29, 30, 31, 32, 33, 34, 35, 36, 37, 38, 39, 40, 41, 42, 43, 44, 45, 46, 47, 48, 49, 50, 51, 52, 53, 54, 55, 56, 57, 58, 59, 60, 61, 62, 63, 64, 65, 66, 67, 68, 69, 70, 71, 72, 73, 74, 75, 76, 77, 78, 79, 80, 81, 82, 83, 84, 85, 86, 87, 88, 89, 90, 91, 92, 93, 94, 95, 96, 97, 98, 99, 100, 101, 102, 103, 104, 105] (by decide +kernel) (by decide +kernel)) (goodIn_sub (fun _ h => List.mem_cons_of_mem _ (List.mem_append_left _ (List.mem_append_right _ h))) (by decide +kernel))) (goodIn_sub (fun _ h => List.mem_cons_of_mem _ (List.mem_append_right _ h)) (by decide +kernel))
set_option maxRecDepth 20000 in
theorem gL_ban_X8_ban : GoodIn wsL_ban (wsV RL 55 RX8 yX8_ban wsX8_ban) := goodIn_app (goodIn_of _ (by decide +kernel)) ggL_ban_X8_ban
theorem dL_ban_0 : decode cL_ban 0 = .ok (.aload 4, 2) := by decide +kernel
theorem dL_ban_2 : decode cL_ban 2 = .ok (.iconst 0, 1) := by decide +kernel
theorem dL_ban_3 : decode cL_ban 3 = .ok (.aload_n 0, 1) := by decide +kernel
theorem dL_ban_4 : decode cL_ban 4 = .ok (.iload_n 1, 1) := by decide +kernel
theorem dL_ban_5 : decode cL_ban 5 = .ok (.iload_n 2, 1) := by decide +kernel
theorem dL_ban_6 : decode cL_ban 6 = .ok (.iload_n 3, 1) := by decide +kernel
theorem dL_ban_7 : decode cL_ban 7 = .ok (.invokevirtual 55, 3) := by decide +kernel
theorem dL_ban_10 : decode cL_ban 10 = .ok (.i2l, 1) := by decide +kernel
theorem dL_ban_11 : decode cL_ban 11 = .ok (.lastore, 1) := by decide +kernel
theorem dL_ban_12 : decode cL_ban 12 = .ok (.goto 11, 3) := by decide +kernel
theorem dL_ban_15 : decode cL_ban 15 = .ok (.astore 5, 2) := by decide +kernel
theorem dL_ban_17 : decode cL_ban 17 = .ok (.iconst 1, 1) := by decide +kernel
theorem dL_ban_18 : decode cL_ban 18 = .ok (.ireturn, 1) := by decide +kernel
theorem dL_ban_19 : decode cL_ban 19 = .ok (.astore 5, 2) := by decide +kernel
theorem dL_ban_21 : decode cL_ban 21 = .ok (.iconst 2, 1) := by decide +kernel
theorem dL_ban_22 : decode cL_ban 22 = .ok (.ireturn, 1) := by decide +kernel
theorem dL_ban_23 : decode cL_ban 23 = .ok (.iconst 0, 1) := by decide +kernel
theorem dL_ban_24 : decode cL_ban 24 = .ok (.ireturn, 1) := by decide +kernel
set_option maxRecDepth 20000 in
theorem ggL_lift_X8_lift : GoodIn wsL_lift wsX8_lift := goodIn_ca (goodIn_r _ [6, 7, 8, 9, 10, 11, 12, 5, 13, 14, 15, 16, 17, 18, 19, 20, 21, 22, 23, 24, 25, 26, 27, 28, 29, 30, 31, 32, 33, 34, 35, 36, 37, 38, 39, 40, 41, 42, 43, 44, 45, 46, 47, 48, 49, 50, 51, 52, 53, 54, 55, 56, 57, 58, 59, 60, 61, 62, 63, 64, 65, 66, 67, 68, 69, 70, 71, 72, 73, 74, 75, 76, 77, 78, 79, 80, 81, 82, 83, 84, 85, 86, 87, 88, 89, 90, 91, 92, 93, 94, 95, 96, 97, 98, 99, 100, 101, 102] (by decide +kernel) (by decide +kernel)) (goodIn_sub (fun _ h => List.mem_cons_of_mem _ (List.mem_append_right _ h)) (by decide +kernel))
set_option maxRecDepth 20000 in
theorem gL_lift_X8_lift : GoodIn wsL_lift (wsV RL 58 RX8 yX8_lift wsX8_lift) := goodIn_app (goodIn_of _ (by decide +kernel)) ggL_lift_X8_lift
theorem dL_lift_0 : decode cL_lift 0 = .ok (.aload_n 3, 1) := by decide +kernel
theorem dL_lift_1 : decode cL_lift 1 = .ok (.iconst 0, 1) := by decide +kernel
theorem dL_lift_2 : decode cL_lift 2 = .ok (.aload_n 0, 1) := by decide +kernel
theorem dL_lift_3 : decode cL_lift 3 = .ok (.iload_n 1, 1) := by decide +kernel
theorem dL_lift_4 : decode cL_lift 4 = .ok (.iload_n 2, 1) := by decide +kernel
theorem dL_lift_5 : decode cL_lift 5 = .ok (.invokevirtual 58, 3) := by decide +kernel
theorem dL_lift_8 : decode cL_lift 8 = .ok (.ifCond .eq 7, 3) := by decide +kernel
theorem dL_lift_11 : decode cL_lift 11 = .ok (.lconst 1, 1) := by decide +kernel
theorem dL_lift_12 : decode cL_lift 12 = .ok (.goto 4, 3) := by decide +kernel
theorem dL_lift_15 : decode cL_lift 15 = .ok (.lconst 0, 1) := by decide +kernel
theorem dL_lift_16 : decode cL_lift 16 = .ok (.lastore, 1) := by decide +kernel
theorem dL_lift_17 : decode cL_lift 17 = .ok (.goto 7, 3) := by decide +kernel
theorem dL_lift_20 : decode cL_lift 20 = .ok (.astore 4, 2) := by decide +kernel
theorem dL_lift_22 : decode cL_lift 22 = .ok (.iconst 1, 1) := by decide +kernel
theorem dL_lift_23 : decode cL_lift 23 = .ok (.ireturn, 1) := by decide +kernel
theorem dL_lift_24 : decode cL_lift 24 = .ok (.iconst 0, 1) := by decide +kernel
theorem dL_lift_25 : decode cL_lift 25 = .ok (.ireturn, 1) := by decide +kernel
set_option maxRecDepth 20000 in
theorem ggL_quota_X8_quota : GoodIn wsL_quota wsX8_quota := goodIn_ca (goodIn_ca (goodIn_r _ [7, 8, 9, 10, 11, 12, 13, 6, 14, 15, 16, 17, 18, 19, 20, 21, 22, 23, 24, 25, 26, 27, 28, 29, 30, 31, 32, 33, 34, 35, 36, 37, 38, 39, 40, 41, 42, 43, 44, 45, 46, 47, 48, 49, 50, 51, 52, 53, 54, 55, 56, 57, 58, 59, 60, 61, 62, 63, 64, 65, 66, 67, 68, 69, 70, 71] (by decide +kernel) (by decide +kernel)) (goodIn_sub (fun _ h => List.mem_cons_of_mem _ (List.mem_append_left _ (List.mem_append_right _ h))) (by decide +kernel))) (goodIn_sub (fun _ h => List.mem_cons_of_mem _ (List.mem_append_right _ h)) (by decide +kernel))
set_option maxRecDepth 20000 in
theorem gL_quota_X8_quota : GoodIn wsL_quota (wsV RL 62 RX8 yX8_quota wsX8_quota) := goodIn_app (goodIn_of _ (by decide +kernel)) ggL_quota_X8_quota
theorem dL_quota_0 : decode cL_quota 0 = .ok (.aload 4, 2) := by decide +kernel
theorem dL_quota_2 : decode cL_quota 2 = .ok (.iconst 0, 1) := by decide +kernel
theorem dL_quota_3 : decode cL_quota 3 = .ok (.aload_n 0, 1) := by decide +kernel
theorem dL_quota_4 : decode cL_quota 4 = .ok (.iload_n 1, 1) := by decide +kernel
theorem dL_quota_5 : decode cL_quota 5 = .ok (.iload_n 2, 1) := by decide +kernel
theorem dL_quota_6 : decode cL_quota 6 = .ok (.iload_n 3, 1) := by decide +kernel
theorem dL_quota_7 : decode cL_quota 7 = .ok (.invokevirtual 62, 3) := by decide +kernel
theorem dL_quota_10 : decode cL_quota 10 = .ok (.i2l, 1) := by decide +kernel
theorem dL_quota_11 : decode cL_quota 11 = .ok (.lastore, 1) := by decide +kernel
theorem dL_quota_12 : decode cL_quota 12 = .ok (.goto 11, 3) := by decide +kernel
theorem dL_quota_15 : decode cL_quota 15 = .ok (.astore 5, 2) := by decide +kernel
theorem dL_quota_17 : decode cL_quota 17 = .ok (.iconst 1, 1) := by decide +kernel
theorem dL_quota_18 : decode cL_quota 18 = .ok (.ireturn, 1) := by decide +kernel
theorem dL_quota_19 : decode cL_quota 19 = .ok (.astore 5, 2) := by decide +kernel
theorem dL_quota_21 : decode cL_quota 21 = .ok (.iconst 2, 1) := by decide +kernel
theorem dL_quota_22 : decode cL_quota 22 = .ok (.ireturn, 1) := by decide +kernel
theorem dL_quota_23 : decode cL_quota 23 = .ok (.iconst 0, 1) := by decide +kernel
theorem dL_quota_24 : decode cL_quota 24 = .ok (.ireturn, 1) := by decide +kernel
set_option maxRecDepth 20000 in
theorem ggL_ask_X8_ask : GoodIn wsL_ask wsX8_ask := goodIn_ca (goodIn_ca (goodIn_ca (goodIn_r _ [8, 9, 10, 11, 12, 13, 14, 15, 16, 17, 18, 19, 20, 21, 22, 23, 7, 24, 25, 26, 27, 28, 29, 30, 31, 32, 33, 34, 35, 36, 37, 38, 39, 40, 41, 42, 43, 44, 45, 46, 47, 48, 49, 50, 51, 52, 53, 54, 55, 56, 57, 58, 59, 60, 61, 62, 63, 64, 65, 66, 67, 68, 69, 70, 71, 72, 73, 74, 75, 76, 77, 78, 79, 80, 81, 82, 83, 84, 85, 86, 87, 88, 89, 90, 91, 92, 93, 94, 95, 96, 97, 98, 99, 100, 101, 102, 103, 104, 105, 106, 107, 108, 109, 110, 111, 112, 113, 114, 115, 116, 117, 118, 119, 120, 121, 122, 123, 124, 125, 126, 127, 128, 129, 130, 131, 132, 133, 134, 135, 136, 137, 138, 139, 140, 141, 142, 143, 144, 145, 146, 147, 148, 149, 150, 151, 152, 153, 154, 155, 156, 157, 158, 159, 160, 161, 162, 163, 164, 165, 166, 167, 168, 169, 170, 171, 172, 173, 174, 175, 176, 177, 178, 179, 180, 181, 182, 183] (by decide +kernel) (by decide +kernel)) (goodIn_sub (fun _ h => List.mem_cons_of_mem _ (List.mem_append_left _ (List.mem_append_left _ (List.mem_append_right _ h)))) (by decide +kernel))) (goodIn_sub (fun _ h => List.mem_cons_of_mem _ (List.mem_append_left _ (List.mem_append_right _ h))) (by decide +kernel))) (goodIn_sub (fun _ h => List.mem_cons_of_mem _ (List.mem_append_right _ h)) (by decide +kernel))
set_option maxRecDepth 20000 in
theorem gL_ask_X8_ask : GoodIn wsL_ask (wsV RL 65 RX8 yX8_ask wsX8_ask) := goodIn_app (goodIn_of _ (by decide +kernel)) ggL_ask_X8_ask
theorem dL_ask_0 : decode cL_ask 0 = .ok (.aload 4, 2) := by decide +kernel
theorem dL_ask_2 : decode cL_ask 2 = .ok (.iconst 0, 1) := by decide +kernel
theorem dL_ask_3 : decode cL_ask 3 = .ok (.aload_n 0, 1) := by decide +kernel
theorem dL_ask_4 : decode cL_ask 4 = .ok (.iload_n 1, 1) := by decide +kernel
theorem dL_ask_5 : decode cL_ask 5 = .ok (.iload_n 2, 1) := by decide +kernel
theorem dL_ask_6 : decode cL_ask 6 = .ok (.iload_n 3, 1) := by decide +kernel
theorem dL_ask_7 : decode cL_ask 7 = .ok (.invokevirtual 65, 3) := by decide +kernel
theorem dL_ask_10 : decode cL_ask 10 = .ok (.i2l, 1) := by decide +kernel
theorem dL_ask_11 : decode cL_ask 11 = .ok (.lastore, 1) := by decide +kernel
theorem dL_ask_12 : decode cL_ask 12 = .ok (.goto 15, 3) := by decide +kernel
theorem dL_ask_15 : decode cL_ask 15 = .ok (.astore 5, 2) := by decide +kernel
theorem dL_ask_17 : decode cL_ask 17 = .ok (.iconst 1, 1) := by decide +kernel
theorem dL_ask_18 : decode cL_ask 18 = .ok (.ireturn, 1) := by decide +kernel
theorem dL_ask_19 : decode cL_ask 19 = .ok (.astore 5, 2) := by decide +kernel
theorem dL_ask_21 : decode cL_ask 21 = .ok (.iconst 2, 1) := by decide +kernel
theorem dL_ask_22 : decode cL_ask 22 = .ok (.ireturn, 1) := by decide +kernel
theorem dL_ask_23 : decode cL_ask 23 = .ok (.astore 5, 2) := by decide +kernel
theorem dL_ask_25 : decode cL_ask 25 = .ok (.iconst 3, 1) := by decide +kernel
theorem dL_ask_26 : decode cL_ask 26 = .ok (.ireturn, 1) := by decide +kernel
theorem dL_ask_27 : decode cL_ask 27 = .ok (.iconst 0, 1) := by decide +kernel
theorem dL_ask_28 : decode cL_ask 28 = .ok (.ireturn, 1) := by decide +kernel
set_option maxRecDepth 20000 in
theorem ggL_join_X8_join : GoodIn wsL_join wsX8_join := goodIn_ca (goodIn_ca (goodIn_r _ [7, 8, 9, 10, 11, 12, 13, 14, 15, 16, 6, 17, 18, 19, 20, 21, 22, 23, 24, 25, 26, 27, 28, 29, 30, 31, 32, 33, 34, 35, 36, 37, 38, 39, 40, 41, 42, 43, 44, 45, 46, 47, 48, 49, 50, 51, 52, 53, 54, 55, 56, 57, 58, 59, 60, 61, 62, 63, 64, 65, 66, 67, 68, 69, 70, 71, 72, 73, 74, 75, 76, 77, 78, 79, 80, 81, 82, 83, 84, 85, 86, 87, 88, 89, 90, 91, 92, 93, 94, 95, 96, 97, 98, 99, 100, 101, 102, 103, 104, 105, 106, 107, 108, 109, 110] (by decide +kernel) (by decide +kernel)) (goodIn_sub (fun _ h => List.mem_cons_of_mem _ (List.mem_append_left _ (List.mem_append_right _ h))) (by decide +kernel))) (goodIn_sub (fun _ h => List.mem_cons_of_mem _ (List.mem_append_right _ h)) (by decide +kernel))
set_option maxRecDepth 20000 in
theorem gL_join_X8_join : GoodIn wsL_join (wsV RL 68 RX8 yX8_join wsX8_join) := goodIn_app (goodIn_of _ (by decide +kernel)) ggL_join_X8_join
theorem dL_join_0 : decode cL_join 0 = .ok (.aload_n 3, 1) := by decide +kernel
theorem dL_join_1 : decode cL_join 1 = .ok (.iconst 0, 1) := by decide +kernel
theorem dL_join_2 : decode cL_join 2 = .ok (.aload_n 0, 1) := by decide +kernel
theorem dL_join_3 : decode cL_join 3 = .ok (.iload_n 1, 1) := by decide +kernel
theorem dL_join_4 : decode cL_join 4 = .ok (.iload_n 2, 1) := by decide +kernel
theorem dL_join_5 : decode cL_join 5 = .ok (.invokevirtual 68, 3) := by decide +kernel
theorem dL_join_8 : decode cL_join 8 = .ok (.i2l, 1) := by decide +kernel
theorem dL_join_9 : decode cL_join 9 = .ok (.lastore, 1) := by decide +kernel
theorem dL_join_10 : decode cL_join 10 = .ok (.goto 11, 3) := by decide +kernel
theorem dL_join_13 : decode cL_join 13 = .ok (.astore 4, 2) := by decide +kernel
theorem dL_join_15 : decode cL_join 15 = .ok (.iconst 1, 1) := by decide +kernel
theorem dL_join_16 : decode cL_join 16 = .ok (.ireturn, 1) := by decide +kernel
theorem dL_join_17 : decode cL_join 17 = .ok (.astore 4, 2) := by decide +kernel
theorem dL_join_19 : decode cL_join 19 = .ok (.iconst 2, 1) := by decide +kernel
theorem dL_join_20 : decode cL_join 20 = .ok (.ireturn, 1) := by decide +kernel
theorem dL_join_21 : decode cL_join 21 = .ok (.iconst 0, 1) := by decide +kernel
theorem dL_join_22 : decode cL_join 22 = .ok (.ireturn, 1) := by decide +kernel
set_option maxRecDepth 20000 in
theorem ggL_refuse_X8_refuse : GoodIn wsL_refuse wsX8_refuse := goodIn_ca (goodIn_ca (goodIn_r _ [7, 8, 9, 10, 11, 12, 13, 6, 14, 15, 16, 17, 18, 19, 20, 21, 22, 23, 24, 25, 26, 27, 28, 29, 30, 31, 32, 33, 34, 35, 36, 37, 38, 39, 40, 41, 42, 43, 44, 45, 46, 47, 48, 49, 50, 51, 52, 53, 54, 55, 56, 57, 58, 59, 60, 61, 62, 63, 64, 65] (by decide +kernel) (by decide +kernel)) (goodIn_sub (fun _ h => List.mem_cons_of_mem _ (List.mem_append_left _ (List.mem_append_right _ h))) (by decide +kernel))) (goodIn_sub (fun _ h => List.mem_cons_of_mem _ (List.mem_append_right _ h)) (by decide +kernel))
set_option maxRecDepth 20000 in
theorem gL_refuse_X8_refuse : GoodIn wsL_refuse (wsV RL 71 RX8 yX8_refuse wsX8_refuse) := goodIn_app (goodIn_of _ (by decide +kernel)) ggL_refuse_X8_refuse
theorem dL_refuse_0 : decode cL_refuse 0 = .ok (.aload_n 2, 1) := by decide +kernel
theorem dL_refuse_1 : decode cL_refuse 1 = .ok (.iconst 0, 1) := by decide +kernel
theorem dL_refuse_2 : decode cL_refuse 2 = .ok (.aload_n 0, 1) := by decide +kernel
theorem dL_refuse_3 : decode cL_refuse 3 = .ok (.iload_n 1, 1) := by decide +kernel
theorem dL_refuse_4 : decode cL_refuse 4 = .ok (.invokevirtual 71, 3) := by decide +kernel
theorem dL_refuse_7 : decode cL_refuse 7 = .ok (.i2l, 1) := by decide +kernel
theorem dL_refuse_8 : decode cL_refuse 8 = .ok (.lastore, 1) := by decide +kernel
theorem dL_refuse_9 : decode cL_refuse 9 = .ok (.goto 9, 3) := by decide +kernel
theorem dL_refuse_12 : decode cL_refuse 12 = .ok (.astore_n 3, 1) := by decide +kernel
theorem dL_refuse_13 : decode cL_refuse 13 = .ok (.iconst 1, 1) := by decide +kernel
theorem dL_refuse_14 : decode cL_refuse 14 = .ok (.ireturn, 1) := by decide +kernel
theorem dL_refuse_15 : decode cL_refuse 15 = .ok (.astore_n 3, 1) := by decide +kernel
theorem dL_refuse_16 : decode cL_refuse 16 = .ok (.iconst 2, 1) := by decide +kernel
theorem dL_refuse_17 : decode cL_refuse 17 = .ok (.ireturn, 1) := by decide +kernel
theorem dL_refuse_18 : decode cL_refuse 18 = .ok (.iconst 0, 1) := by decide +kernel
theorem dL_refuse_19 : decode cL_refuse 19 = .ok (.ireturn, 1) := by decide +kernel
set_option maxRecDepth 20000 in
theorem ggL_appeal_X8_appeal : GoodIn wsL_appeal wsX8_appeal := goodIn_ca (goodIn_ca (goodIn_r _ [7, 8, 9, 10, 11, 12, 13, 6, 14, 15, 16, 17, 18, 19, 20, 21, 22, 23, 24, 25, 26, 27, 28, 29, 30, 31, 32, 33, 34, 35, 36, 37, 38, 39, 40, 41, 42, 43, 44, 45, 46, 47, 48, 49, 50, 51, 52, 53, 54, 55, 56, 57, 58, 59, 60, 61, 62, 63, 64, 65] (by decide +kernel) (by decide +kernel)) (goodIn_sub (fun _ h => List.mem_cons_of_mem _ (List.mem_append_left _ (List.mem_append_right _ h))) (by decide +kernel))) (goodIn_sub (fun _ h => List.mem_cons_of_mem _ (List.mem_append_right _ h)) (by decide +kernel))
set_option maxRecDepth 20000 in
theorem gL_appeal_X8_appeal : GoodIn wsL_appeal (wsV RL 74 RX8 yX8_appeal wsX8_appeal) := goodIn_app (goodIn_of _ (by decide +kernel)) ggL_appeal_X8_appeal
theorem dL_appeal_0 : decode cL_appeal 0 = .ok (.aload_n 2, 1) := by decide +kernel
theorem dL_appeal_1 : decode cL_appeal 1 = .ok (.iconst 0, 1) := by decide +kernel
theorem dL_appeal_2 : decode cL_appeal 2 = .ok (.aload_n 0, 1) := by decide +kernel
theorem dL_appeal_3 : decode cL_appeal 3 = .ok (.iload_n 1, 1) := by decide +kernel
theorem dL_appeal_4 : decode cL_appeal 4 = .ok (.invokevirtual 74, 3) := by decide +kernel
theorem dL_appeal_7 : decode cL_appeal 7 = .ok (.i2l, 1) := by decide +kernel
theorem dL_appeal_8 : decode cL_appeal 8 = .ok (.lastore, 1) := by decide +kernel
theorem dL_appeal_9 : decode cL_appeal 9 = .ok (.goto 9, 3) := by decide +kernel
theorem dL_appeal_12 : decode cL_appeal 12 = .ok (.astore_n 3, 1) := by decide +kernel
theorem dL_appeal_13 : decode cL_appeal 13 = .ok (.iconst 1, 1) := by decide +kernel
theorem dL_appeal_14 : decode cL_appeal 14 = .ok (.ireturn, 1) := by decide +kernel
theorem dL_appeal_15 : decode cL_appeal 15 = .ok (.astore_n 3, 1) := by decide +kernel
theorem dL_appeal_16 : decode cL_appeal 16 = .ok (.iconst 2, 1) := by decide +kernel
theorem dL_appeal_17 : decode cL_appeal 17 = .ok (.ireturn, 1) := by decide +kernel
theorem dL_appeal_18 : decode cL_appeal 18 = .ok (.iconst 0, 1) := by decide +kernel
theorem dL_appeal_19 : decode cL_appeal 19 = .ok (.ireturn, 1) := by decide +kernel
set_option maxRecDepth 20000 in
theorem ggL_judge_X8_judge : GoodIn wsL_judge wsX8_judge := goodIn_ca (goodIn_ca (goodIn_r _ [7, 8, 9, 10, 11, 6, 12, 13, 14, 15, 16, 17, 18, 19, 20, 21, 22, 23, 24, 25, 26, 27, 28, 29, 30, 31, 32, 33, 34, 35, 36, 37, 38, 39, 40, 41, 42, 43, 44, 45, 46, 47, 48, 49, 50, 51, 52, 53, 54, 55, 56, 57, 58, 59, 60, 61, 62, 63] (by decide +kernel) (by decide +kernel)) (goodIn_sub (fun _ h => List.mem_cons_of_mem _ (List.mem_append_left _ (List.mem_append_right _ h))) (by decide +kernel))) (goodIn_sub (fun _ h => List.mem_cons_of_mem _ (List.mem_append_right _ h)) (by decide +kernel))
set_option maxRecDepth 20000 in
theorem gL_judge_X8_judge : GoodIn wsL_judge (wsV RL 77 RX8 yX8_judge wsX8_judge) := goodIn_app (goodIn_of _ (by decide +kernel)) ggL_judge_X8_judge
theorem dL_judge_0 : decode cL_judge 0 = .ok (.aload_n 3, 1) := by decide +kernel
theorem dL_judge_1 : decode cL_judge 1 = .ok (.iconst 0, 1) := by decide +kernel
theorem dL_judge_2 : decode cL_judge 2 = .ok (.aload_n 0, 1) := by decide +kernel
theorem dL_judge_3 : decode cL_judge 3 = .ok (.iload_n 1, 1) := by decide +kernel
theorem dL_judge_4 : decode cL_judge 4 = .ok (.iload_n 2, 1) := by decide +kernel
theorem dL_judge_5 : decode cL_judge 5 = .ok (.invokevirtual 77, 3) := by decide +kernel
theorem dL_judge_8 : decode cL_judge 8 = .ok (.i2l, 1) := by decide +kernel
theorem dL_judge_9 : decode cL_judge 9 = .ok (.lastore, 1) := by decide +kernel
theorem dL_judge_10 : decode cL_judge 10 = .ok (.goto 11, 3) := by decide +kernel
theorem dL_judge_13 : decode cL_judge 13 = .ok (.astore 4, 2) := by decide +kernel
theorem dL_judge_15 : decode cL_judge 15 = .ok (.iconst 1, 1) := by decide +kernel
theorem dL_judge_16 : decode cL_judge 16 = .ok (.ireturn, 1) := by decide +kernel
theorem dL_judge_17 : decode cL_judge 17 = .ok (.astore 4, 2) := by decide +kernel
theorem dL_judge_19 : decode cL_judge 19 = .ok (.iconst 2, 1) := by decide +kernel
theorem dL_judge_20 : decode cL_judge 20 = .ok (.ireturn, 1) := by decide +kernel
theorem dL_judge_21 : decode cL_judge 21 = .ok (.iconst 0, 1) := by decide +kernel
theorem dL_judge_22 : decode cL_judge 22 = .ok (.ireturn, 1) := by decide +kernel
set_option maxRecDepth 20000 in
theorem ggL_withdraw_X8_withdraw : GoodIn wsL_withdraw wsX8_withdraw := goodIn_ca (goodIn_ca (goodIn_r _ [7, 8, 9, 10, 11, 12, 13, 6, 14, 15, 16, 17, 18, 19, 20, 21, 22, 23, 24, 25, 26, 27, 28, 29, 30, 31, 32, 33, 34, 35, 36, 37, 38, 39, 40, 41, 42, 43, 44, 45, 46, 47, 48, 49, 50, 51, 52, 53, 54, 55, 56, 57, 58, 59, 60, 61, 62, 63, 64, 65] (by decide +kernel) (by decide +kernel)) (goodIn_sub (fun _ h => List.mem_cons_of_mem _ (List.mem_append_left _ (List.mem_append_right _ h))) (by decide +kernel))) (goodIn_sub (fun _ h => List.mem_cons_of_mem _ (List.mem_append_right _ h)) (by decide +kernel))
set_option maxRecDepth 20000 in
theorem gL_withdraw_X8_withdraw : GoodIn wsL_withdraw (wsV RL 81 RX8 yX8_withdraw wsX8_withdraw) := goodIn_app (goodIn_of _ (by decide +kernel)) ggL_withdraw_X8_withdraw
theorem dL_withdraw_0 : decode cL_withdraw 0 = .ok (.aload_n 2, 1) := by decide +kernel
theorem dL_withdraw_1 : decode cL_withdraw 1 = .ok (.iconst 0, 1) := by decide +kernel
theorem dL_withdraw_2 : decode cL_withdraw 2 = .ok (.aload_n 0, 1) := by decide +kernel
theorem dL_withdraw_3 : decode cL_withdraw 3 = .ok (.iload_n 1, 1) := by decide +kernel
theorem dL_withdraw_4 : decode cL_withdraw 4 = .ok (.invokevirtual 81, 3) := by decide +kernel
theorem dL_withdraw_7 : decode cL_withdraw 7 = .ok (.i2l, 1) := by decide +kernel
theorem dL_withdraw_8 : decode cL_withdraw 8 = .ok (.lastore, 1) := by decide +kernel
theorem dL_withdraw_9 : decode cL_withdraw 9 = .ok (.goto 9, 3) := by decide +kernel
theorem dL_withdraw_12 : decode cL_withdraw 12 = .ok (.astore_n 3, 1) := by decide +kernel
theorem dL_withdraw_13 : decode cL_withdraw 13 = .ok (.iconst 1, 1) := by decide +kernel
theorem dL_withdraw_14 : decode cL_withdraw 14 = .ok (.ireturn, 1) := by decide +kernel
theorem dL_withdraw_15 : decode cL_withdraw 15 = .ok (.astore_n 3, 1) := by decide +kernel
theorem dL_withdraw_16 : decode cL_withdraw 16 = .ok (.iconst 2, 1) := by decide +kernel
theorem dL_withdraw_17 : decode cL_withdraw 17 = .ok (.ireturn, 1) := by decide +kernel
theorem dL_withdraw_18 : decode cL_withdraw 18 = .ok (.iconst 0, 1) := by decide +kernel
theorem dL_withdraw_19 : decode cL_withdraw 19 = .ok (.ireturn, 1) := by decide +kernel
set_option maxRecDepth 20000 in
theorem ggL_extend_X8_extend : GoodIn wsL_extend wsX8_extend := goodIn_ca (goodIn_ca (goodIn_r _ [7, 8, 9, 10, 11, 12, 13, 14, 15, 16, 6, 17, 18, 19, 20, 21, 22, 23, 24, 25, 26, 27, 28, 29, 30, 31, 32, 33, 34, 35, 36, 37, 38, 39, 40, 41, 42, 43, 44, 45, 46, 47, 48, 49, 50, 51, 52, 53, 54, 55, 56, 57, 58, 59, 60, 61, 62, 63, 64, 65, 66, 67, 68, 69, 70, 71, 72, 73, 74, 75, 76, 77, 78, 79, 80, 81, 82, 83, 84, 85, 86, 87, 88, 89, 90, 91, 92, 93, 94, 95, 96, 97, 98, 99, 100, 101, 102, 103, 104, 105, 106, 107, 108, 109, 110, 111, 112, 113, 114, 115] (by decide +kernel) (by decide +kernel)) (goodIn_sub (fun _ h => List.mem_cons_of_mem _ (List.mem_append_left _ (List.mem_append_right _ h))) (by decide +kernel))) (goodIn_sub (fun _ h => List.mem_cons_of_mem _ (List.mem_append_right _ h)) (by decide +kernel))
set_option maxRecDepth 20000 in
theorem gL_extend_X8_extend : GoodIn wsL_extend (wsV RL 84 RX8 yX8_extend wsX8_extend) := goodIn_app (goodIn_of _ (by decide +kernel)) ggL_extend_X8_extend
theorem dL_extend_0 : decode cL_extend 0 = .ok (.aload_n 3, 1) := by decide +kernel
theorem dL_extend_1 : decode cL_extend 1 = .ok (.iconst 0, 1) := by decide +kernel
theorem dL_extend_2 : decode cL_extend 2 = .ok (.aload_n 0, 1) := by decide +kernel
theorem dL_extend_3 : decode cL_extend 3 = .ok (.iload_n 1, 1) := by decide +kernel
theorem dL_extend_4 : decode cL_extend 4 = .ok (.iload_n 2, 1) := by decide +kernel
theorem dL_extend_5 : decode cL_extend 5 = .ok (.invokevirtual 84, 3) := by decide +kernel
theorem dL_extend_8 : decode cL_extend 8 = .ok (.i2l, 1) := by decide +kernel
theorem dL_extend_9 : decode cL_extend 9 = .ok (.lastore, 1) := by decide +kernel
theorem dL_extend_10 : decode cL_extend 10 = .ok (.goto 11, 3) := by decide +kernel
theorem dL_extend_13 : decode cL_extend 13 = .ok (.astore 4, 2) := by decide +kernel
theorem dL_extend_15 : decode cL_extend 15 = .ok (.iconst 1, 1) := by decide +kernel
theorem dL_extend_16 : decode cL_extend 16 = .ok (.ireturn, 1) := by decide +kernel
theorem dL_extend_17 : decode cL_extend 17 = .ok (.astore 4, 2) := by decide +kernel
theorem dL_extend_19 : decode cL_extend 19 = .ok (.iconst 2, 1) := by decide +kernel
theorem dL_extend_20 : decode cL_extend 20 = .ok (.ireturn, 1) := by decide +kernel
theorem dL_extend_21 : decode cL_extend 21 = .ok (.iconst 0, 1) := by decide +kernel
theorem dL_extend_22 : decode cL_extend 22 = .ok (.ireturn, 1) := by decide +kernel
set_option maxRecDepth 20000 in
theorem ggL_oath_X8_oath : GoodIn wsL_oath wsX8_oath := goodIn_ca (goodIn_ca (goodIn_r _ [7, 8, 9, 10, 11, 12, 13, 14, 15, 16, 17, 18, 6, 19, 20, 21, 22, 23, 24, 25, 26, 27, 28, 29, 30, 31, 32, 33, 34, 35, 36, 37, 38, 39, 40, 41, 42, 43, 44, 45, 46, 47, 48, 49, 50, 51, 52, 53, 54, 55, 56, 57, 58, 59, 60, 61, 62, 63, 64, 65, 66, 67, 68, 69, 70, 71, 72, 73, 74, 75, 76, 77, 78, 79, 80, 81, 82, 83, 84, 85, 86, 87, 88, 89, 90, 91, 92, 93, 94, 95, 96, 97, 98, 99, 100, 101, 102, 103, 104, 105, 106, 107, 108, 109, 110, 111, 112, 113] (by decide +kernel) (by decide +kernel)) (goodIn_sub (fun _ h => List.mem_cons_of_mem _ (List.mem_append_left _ (List.mem_append_right _ h))) (by decide +kernel))) (goodIn_sub (fun _ h => List.mem_cons_of_mem _ (List.mem_append_right _ h)) (by decide +kernel))
set_option maxRecDepth 20000 in
theorem gL_oath_X8_oath : GoodIn wsL_oath (wsV RL 87 RX8 yX8_oath wsX8_oath) := goodIn_app (goodIn_of _ (by decide +kernel)) ggL_oath_X8_oath
theorem dL_oath_0 : decode cL_oath 0 = .ok (.aload_n 3, 1) := by decide +kernel
theorem dL_oath_1 : decode cL_oath 1 = .ok (.iconst 0, 1) := by decide +kernel
theorem dL_oath_2 : decode cL_oath 2 = .ok (.aload_n 0, 1) := by decide +kernel
theorem dL_oath_3 : decode cL_oath 3 = .ok (.iload_n 1, 1) := by decide +kernel
theorem dL_oath_4 : decode cL_oath 4 = .ok (.iload_n 2, 1) := by decide +kernel
theorem dL_oath_5 : decode cL_oath 5 = .ok (.invokevirtual 87, 3) := by decide +kernel
theorem dL_oath_8 : decode cL_oath 8 = .ok (.i2l, 1) := by decide +kernel
theorem dL_oath_9 : decode cL_oath 9 = .ok (.lastore, 1) := by decide +kernel
theorem dL_oath_10 : decode cL_oath 10 = .ok (.goto 11, 3) := by decide +kernel
theorem dL_oath_13 : decode cL_oath 13 = .ok (.astore 4, 2) := by decide +kernel
theorem dL_oath_15 : decode cL_oath 15 = .ok (.iconst 1, 1) := by decide +kernel
theorem dL_oath_16 : decode cL_oath 16 = .ok (.ireturn, 1) := by decide +kernel
theorem dL_oath_17 : decode cL_oath 17 = .ok (.astore 4, 2) := by decide +kernel
theorem dL_oath_19 : decode cL_oath 19 = .ok (.iconst 2, 1) := by decide +kernel
theorem dL_oath_20 : decode cL_oath 20 = .ok (.ireturn, 1) := by decide +kernel
theorem dL_oath_21 : decode cL_oath 21 = .ok (.iconst 0, 1) := by decide +kernel
theorem dL_oath_22 : decode cL_oath 22 = .ok (.ireturn, 1) := by decide +kernel
set_option maxRecDepth 20000 in
theorem ggL_pass_X8_pass : GoodIn wsL_pass wsX8_pass := goodIn_ca (goodIn_ca (goodIn_r _ [7, 8, 9, 10, 11, 12, 13, 14, 15, 6, 16, 17, 18, 19, 20, 21, 22, 23, 24, 25, 26, 27, 28, 29, 30, 31, 32, 33, 34, 35, 36, 37, 38, 39, 40, 41, 42, 43, 44, 45, 46, 47, 48, 49, 50, 51, 52, 53, 54, 55, 56, 57, 58, 59, 60, 61, 62, 63, 64, 65, 66, 67, 68, 69, 70, 71, 72, 73, 74, 75, 76, 77, 78, 79, 80, 81, 82, 83, 84, 85, 86, 87, 88, 89, 90, 91, 92, 93, 94, 95, 96, 97, 98, 99, 100, 101, 102, 103, 104, 105, 106, 107, 108, 109, 110, 111, 112, 113, 114, 115, 116, 117, 118, 119, 120, 121, 122, 123, 124, 125, 126, 127, 128, 129, 130, 131, 132, 133, 134, 135, 136, 137, 138, 139, 140, 141, 142, 143, 144, 145, 146, 147, 148, 149, 150, 151, 152, 153, 154, 155, 156, 157, 158, 159, 160, 161, 162, 163, 164, 165, 166, 167, 168, 169, 170, 171, 172, 173, 174, 175, 176, 177, 178, 179, 180, 181, 182, 183, 184, 185, 186, 187, 188, 189, 190, 191, 192, 193, 194, 195, 196, 197, 198, 199, 200, 201, 202, 203, 204, 205, 206, 207, 208, 209, 210, 211, 212, 213, 214, 215, 216, 217, 218, 219, 220, 221, 222, 223, 224, 225, 226, 227, 228, 229, 230, 231, 232, 233] (by decide +kernel) (by decide +kernel)) (goodIn_sub (fun _ h => List.mem_cons_of_mem _ (List.mem_append_left _ (List.mem_append_right _ h))) (by decide +kernel))) (goodIn_sub (fun _ h => List.mem_cons_of_mem _ (List.mem_append_right _ h)) (by decide +kernel))
set_option maxRecDepth 20000 in
theorem gL_pass_X8_pass : GoodIn wsL_pass (wsV RL 90 RX8 yX8_pass wsX8_pass) := goodIn_app (goodIn_of _ (by decide +kernel)) ggL_pass_X8_pass
theorem dL_pass_0 : decode cL_pass 0 = .ok (.aload_n 2, 1) := by decide +kernel
theorem dL_pass_1 : decode cL_pass 1 = .ok (.iconst 0, 1) := by decide +kernel
theorem dL_pass_2 : decode cL_pass 2 = .ok (.aload_n 0, 1) := by decide +kernel
theorem dL_pass_3 : decode cL_pass 3 = .ok (.iload_n 1, 1) := by decide +kernel
theorem dL_pass_4 : decode cL_pass 4 = .ok (.invokevirtual 90, 3) := by decide +kernel
theorem dL_pass_7 : decode cL_pass 7 = .ok (.i2l, 1) := by decide +kernel
theorem dL_pass_8 : decode cL_pass 8 = .ok (.lastore, 1) := by decide +kernel
theorem dL_pass_9 : decode cL_pass 9 = .ok (.goto 9, 3) := by decide +kernel
theorem dL_pass_12 : decode cL_pass 12 = .ok (.astore_n 3, 1) := by decide +kernel
theorem dL_pass_13 : decode cL_pass 13 = .ok (.iconst 1, 1) := by decide +kernel
theorem dL_pass_14 : decode cL_pass 14 = .ok (.ireturn, 1) := by decide +kernel
theorem dL_pass_15 : decode cL_pass 15 = .ok (.astore_n 3, 1) := by decide +kernel
theorem dL_pass_16 : decode cL_pass 16 = .ok (.iconst 2, 1) := by decide +kernel
theorem dL_pass_17 : decode cL_pass 17 = .ok (.ireturn, 1) := by decide +kernel
theorem dL_pass_18 : decode cL_pass 18 = .ok (.iconst 0, 1) := by decide +kernel
theorem dL_pass_19 : decode cL_pass 19 = .ok (.ireturn, 1) := by decide +kernel
set_option maxRecDepth 20000 in
theorem ggL_status_X8_status : GoodIn wsL_status wsX8_status := goodIn_ca (goodIn_r _ [6, 7, 8, 9, 5, 10, 11, 12, 13, 14, 15, 16, 17, 18, 19, 20, 21, 22, 23, 24, 25, 26, 27, 28, 29, 30, 31, 32, 33, 34, 35, 36, 37, 38, 39, 40, 41, 42, 43, 44, 45, 46, 47, 48, 49, 50, 51, 52, 53, 54, 55, 56, 57, 58, 59, 60, 61, 62, 63, 64, 65, 66, 67, 68, 69, 70, 71, 72, 73, 74, 75, 76] (by decide +kernel) (by decide +kernel)) (goodIn_sub (fun _ h => List.mem_cons_of_mem _ (List.mem_append_right _ h)) (by decide +kernel))
set_option maxRecDepth 20000 in
theorem gL_status_X8_status : GoodIn wsL_status (wsV RL 93 RX8 yX8_status wsX8_status) := goodIn_app (goodIn_of _ (by decide +kernel)) ggL_status_X8_status
theorem dL_status_0 : decode cL_status 0 = .ok (.aload_n 2, 1) := by decide +kernel
theorem dL_status_1 : decode cL_status 1 = .ok (.iconst 0, 1) := by decide +kernel
theorem dL_status_2 : decode cL_status 2 = .ok (.aload_n 0, 1) := by decide +kernel
theorem dL_status_3 : decode cL_status 3 = .ok (.iload_n 1, 1) := by decide +kernel
theorem dL_status_4 : decode cL_status 4 = .ok (.invokevirtual 93, 3) := by decide +kernel
theorem dL_status_7 : decode cL_status 7 = .ok (.i2l, 1) := by decide +kernel
theorem dL_status_8 : decode cL_status 8 = .ok (.lastore, 1) := by decide +kernel
theorem dL_status_9 : decode cL_status 9 = .ok (.goto 6, 3) := by decide +kernel
theorem dL_status_12 : decode cL_status 12 = .ok (.astore_n 3, 1) := by decide +kernel
theorem dL_status_13 : decode cL_status 13 = .ok (.iconst 1, 1) := by decide +kernel
theorem dL_status_14 : decode cL_status 14 = .ok (.ireturn, 1) := by decide +kernel
theorem dL_status_15 : decode cL_status 15 = .ok (.iconst 0, 1) := by decide +kernel
theorem dL_status_16 : decode cL_status 16 = .ok (.ireturn, 1) := by decide +kernel
set_option maxRecDepth 20000 in
theorem ggL_about_X8_about : GoodIn wsL_about wsX8_about := goodIn_ca (goodIn_ca (goodIn_r _ [7, 8, 9, 10, 11, 12, 13, 14, 15, 16, 17, 18, 19, 20, 6, 21, 22, 23, 24, 25, 26, 27, 28, 29, 30, 31, 32, 33, 34, 35, 36, 37, 38, 39, 40, 41, 42, 43, 44, 45, 46, 47, 48, 49, 50, 51, 52, 53, 54, 55, 56, 57, 58, 59, 60, 61, 62, 63, 64, 65, 66, 67, 68, 69, 70, 71, 72, 73, 74, 75, 76, 77, 78, 79, 80, 81, 82, 83, 84, 85, 86, 87, 88, 89, 90, 91, 92, 93, 94, 95, 96, 97, 98, 99, 100, 101, 102, 103, 104, 105, 106, 107, 108, 109, 110, 111, 112] (by decide +kernel) (by decide +kernel)) (goodIn_sub (fun _ h => List.mem_cons_of_mem _ (List.mem_append_left _ (List.mem_append_right _ h))) (by decide +kernel))) (goodIn_sub (fun _ h => List.mem_cons_of_mem _ (List.mem_append_right _ h)) (by decide +kernel))
set_option maxRecDepth 20000 in
theorem gL_about_X8_about : GoodIn wsL_about (wsV RL 96 RX8 yX8_about wsX8_about) := goodIn_app (goodIn_of _ (by decide +kernel)) ggL_about_X8_about
theorem dL_about_0 : decode cL_about 0 = .ok (.aload_n 3, 1) := by decide +kernel
theorem dL_about_1 : decode cL_about 1 = .ok (.iconst 0, 1) := by decide +kernel
theorem dL_about_2 : decode cL_about 2 = .ok (.aload_n 0, 1) := by decide +kernel
theorem dL_about_3 : decode cL_about 3 = .ok (.iload_n 1, 1) := by decide +kernel
theorem dL_about_4 : decode cL_about 4 = .ok (.iload_n 2, 1) := by decide +kernel
theorem dL_about_5 : decode cL_about 5 = .ok (.invokevirtual 96, 3) := by decide +kernel
theorem dL_about_8 : decode cL_about 8 = .ok (.i2l, 1) := by decide +kernel
theorem dL_about_9 : decode cL_about 9 = .ok (.lastore, 1) := by decide +kernel
theorem dL_about_10 : decode cL_about 10 = .ok (.goto 11, 3) := by decide +kernel
theorem dL_about_13 : decode cL_about 13 = .ok (.astore 4, 2) := by decide +kernel
theorem dL_about_15 : decode cL_about 15 = .ok (.iconst 1, 1) := by decide +kernel
theorem dL_about_16 : decode cL_about 16 = .ok (.ireturn, 1) := by decide +kernel
theorem dL_about_17 : decode cL_about 17 = .ok (.astore 4, 2) := by decide +kernel
theorem dL_about_19 : decode cL_about 19 = .ok (.iconst 2, 1) := by decide +kernel
theorem dL_about_20 : decode cL_about 20 = .ok (.ireturn, 1) := by decide +kernel
theorem dL_about_21 : decode cL_about 21 = .ok (.iconst 0, 1) := by decide +kernel
theorem dL_about_22 : decode cL_about 22 = .ok (.ireturn, 1) := by decide +kernel
set_option maxRecDepth 20000 in
theorem ggL_daysAnew_X8_daysAnew : GoodIn wsL_daysAnew wsX8_daysAnew := goodIn_ca (goodIn_r _ [6, 7, 8, 9, 10, 11, 12, 13, 14, 15, 16, 5, 17, 18, 19, 20, 21, 22, 23, 24, 25, 26, 27, 28, 29, 30, 31, 32, 33, 34, 35, 36, 37, 38, 39, 40, 41, 42, 43, 44, 45, 46, 47, 48, 49, 50, 51, 52, 53, 54, 55, 56, 57, 58, 59, 60, 61, 62, 63, 64, 65, 66, 67, 68, 69, 70, 71, 72, 73, 74, 75, 76, 77, 78, 79, 80, 81, 82, 83, 84, 85, 86, 87, 88, 89, 90, 91, 92, 93, 94, 95, 96, 97, 98, 99, 100, 101] (by decide +kernel) (by decide +kernel)) (goodIn_sub (fun _ h => List.mem_cons_of_mem _ (List.mem_append_right _ h)) (by decide +kernel))
set_option maxRecDepth 20000 in
theorem gL_daysAnew_X8_daysAnew : GoodIn wsL_daysAnew (wsV RL 99 RX8 yX8_daysAnew wsX8_daysAnew) := goodIn_app (goodIn_of _ (by decide +kernel)) ggL_daysAnew_X8_daysAnew
theorem dL_daysAnew_0 : decode cL_daysAnew 0 = .ok (.aload_n 2, 1) := by decide +kernel
theorem dL_daysAnew_1 : decode cL_daysAnew 1 = .ok (.iconst 0, 1) := by decide +kernel
theorem dL_daysAnew_2 : decode cL_daysAnew 2 = .ok (.aload_n 0, 1) := by decide +kernel
theorem dL_daysAnew_3 : decode cL_daysAnew 3 = .ok (.iload_n 1, 1) := by decide +kernel
theorem dL_daysAnew_4 : decode cL_daysAnew 4 = .ok (.invokevirtual 99, 3) := by decide +kernel
theorem dL_daysAnew_7 : decode cL_daysAnew 7 = .ok (.i2l, 1) := by decide +kernel
theorem dL_daysAnew_8 : decode cL_daysAnew 8 = .ok (.lastore, 1) := by decide +kernel
theorem dL_daysAnew_9 : decode cL_daysAnew 9 = .ok (.goto 6, 3) := by decide +kernel
theorem dL_daysAnew_12 : decode cL_daysAnew 12 = .ok (.astore_n 3, 1) := by decide +kernel
theorem dL_daysAnew_13 : decode cL_daysAnew 13 = .ok (.iconst 1, 1) := by decide +kernel
theorem dL_daysAnew_14 : decode cL_daysAnew 14 = .ok (.ireturn, 1) := by decide +kernel
theorem dL_daysAnew_15 : decode cL_daysAnew 15 = .ok (.iconst 0, 1) := by decide +kernel
theorem dL_daysAnew_16 : decode cL_daysAnew 16 = .ok (.ireturn, 1) := by decide +kernel
set_option maxRecDepth 20000 in
theorem ggL_was_X8_was : GoodIn wsL_was wsX8_was := goodIn_ca (goodIn_ca (goodIn_r _ [7, 8, 9, 10, 11, 12, 13, 14, 6, 15, 16, 17, 18, 19, 20, 21, 22, 23, 24, 25, 26, 27, 28, 29, 30, 31, 32, 33, 34, 35, 36, 37, 38, 39, 40, 41, 42, 43, 44, 45, 46, 47, 48, 49, 50, 51, 52, 53, 54, 55, 56, 57, 58, 59, 60, 61, 62, 63, 64, 65, 66, 67, 68, 69, 70, 71, 72, 73, 74] (by decide +kernel) (by decide +kernel)) (goodIn_sub (fun _ h => List.mem_cons_of_mem _ (List.mem_append_left _ (List.mem_append_right _ h))) (by decide +kernel))) (goodIn_sub (fun _ h => List.mem_cons_of_mem _ (List.mem_append_right _ h)) (by decide +kernel))
set_option maxRecDepth 20000 in
theorem gL_was_X8_was : GoodIn wsL_was (wsV RL 102 RX8 yX8_was wsX8_was) := goodIn_app (goodIn_of _ (by decide +kernel)) ggL_was_X8_was
theorem dL_was_0 : decode cL_was 0 = .ok (.aload_n 3, 1) := by decide +kernel
theorem dL_was_1 : decode cL_was 1 = .ok (.iconst 0, 1) := by decide +kernel
theorem dL_was_2 : decode cL_was 2 = .ok (.aload_n 0, 1) := by decide +kernel
theorem dL_was_3 : decode cL_was 3 = .ok (.iload_n 1, 1) := by decide +kernel
theorem dL_was_4 : decode cL_was 4 = .ok (.iload_n 2, 1) := by decide +kernel
theorem dL_was_5 : decode cL_was 5 = .ok (.invokevirtual 102, 3) := by decide +kernel
theorem dL_was_8 : decode cL_was 8 = .ok (.i2l, 1) := by decide +kernel
theorem dL_was_9 : decode cL_was 9 = .ok (.lastore, 1) := by decide +kernel
theorem dL_was_10 : decode cL_was 10 = .ok (.goto 11, 3) := by decide +kernel
theorem dL_was_13 : decode cL_was 13 = .ok (.astore 4, 2) := by decide +kernel
theorem dL_was_15 : decode cL_was 15 = .ok (.iconst 1, 1) := by decide +kernel
theorem dL_was_16 : decode cL_was 16 = .ok (.ireturn, 1) := by decide +kernel
theorem dL_was_17 : decode cL_was 17 = .ok (.astore 4, 2) := by decide +kernel
theorem dL_was_19 : decode cL_was 19 = .ok (.iconst 2, 1) := by decide +kernel
theorem dL_was_20 : decode cL_was 20 = .ok (.ireturn, 1) := by decide +kernel
theorem dL_was_21 : decode cL_was 21 = .ok (.iconst 0, 1) := by decide +kernel
theorem dL_was_22 : decode cL_was 22 = .ok (.ireturn, 1) := by decide +kernel
set_option maxRecDepth 20000 in
theorem ggL_reason_X8_reason : GoodIn wsL_reason wsX8_reason := goodIn_ca (goodIn_r _ [6, 7, 8, 9, 5, 10, 11, 12, 13, 14, 15, 16, 17, 18, 19, 20, 21, 22, 23, 24, 25, 26, 27, 28, 29, 30, 31, 32, 33, 34, 35, 36, 37, 38, 39, 40, 41, 42, 43, 44, 45, 46, 47, 48, 49, 50, 51, 52, 53, 54, 55, 56, 57, 58, 59, 60, 61, 62, 63, 64, 65, 66, 67, 68, 69, 70, 71, 72, 73, 74, 75, 76, 77, 78, 79, 80, 81, 82, 83, 84, 85, 86, 87, 88, 89, 90, 91, 92, 93, 94, 95, 96, 97, 98, 99, 100, 101, 102, 103, 104, 105, 106, 107, 108, 109, 110, 111, 112, 113, 114, 115, 116, 117, 118, 119, 120, 121, 122, 123, 124, 125, 126, 127, 128, 129, 130, 131, 132, 133, 134, 135, 136, 137, 138, 139, 140, 141, 142, 143, 144, 145, 146, 147, 148, 149, 150, 151, 152, 153, 154, 155, 156, 157, 158, 159, 160, 161, 162, 163, 164, 165, 166, 167, 168, 169, 170, 171, 172, 173, 174, 175, 176, 177, 178, 179, 180, 181, 182, 183, 184, 185, 186, 187, 188, 189, 190, 191, 192, 193, 194, 195, 196, 197, 198, 199, 200, 201, 202, 203, 204, 205] (by decide +kernel) (by decide +kernel)) (goodIn_sub (fun _ h => List.mem_cons_of_mem _ (List.mem_append_right _ h)) (by decide +kernel))
set_option maxRecDepth 20000 in
theorem gL_reason_X8_reason : GoodIn wsL_reason (wsV RL 105 RX8 yX8_reason wsX8_reason) := goodIn_app (goodIn_of _ (by decide +kernel)) ggL_reason_X8_reason
theorem dL_reason_0 : decode cL_reason 0 = .ok (.aload_n 3, 1) := by decide +kernel
theorem dL_reason_1 : decode cL_reason 1 = .ok (.iconst 0, 1) := by decide +kernel
theorem dL_reason_2 : decode cL_reason 2 = .ok (.aload_n 0, 1) := by decide +kernel
theorem dL_reason_3 : decode cL_reason 3 = .ok (.iload_n 1, 1) := by decide +kernel
theorem dL_reason_4 : decode cL_reason 4 = .ok (.iload_n 2, 1) := by decide +kernel
theorem dL_reason_5 : decode cL_reason 5 = .ok (.invokevirtual 105, 3) := by decide +kernel
theorem dL_reason_8 : decode cL_reason 8 = .ok (.i2l, 1) := by decide +kernel
theorem dL_reason_9 : decode cL_reason 9 = .ok (.lastore, 1) := by decide +kernel
theorem dL_reason_10 : decode cL_reason 10 = .ok (.goto 7, 3) := by decide +kernel
theorem dL_reason_13 : decode cL_reason 13 = .ok (.astore 4, 2) := by decide +kernel
theorem dL_reason_15 : decode cL_reason 15 = .ok (.iconst 1, 1) := by decide +kernel
theorem dL_reason_16 : decode cL_reason 16 = .ok (.ireturn, 1) := by decide +kernel
theorem dL_reason_17 : decode cL_reason 17 = .ok (.iconst 0, 1) := by decide +kernel
theorem dL_reason_18 : decode cL_reason 18 = .ok (.ireturn, 1) := by decide +kernel
set_option maxRecDepth 20000 in
theorem ggL_banned_X8_banned : GoodIn wsL_banned wsX8_banned := goodIn_ca (goodIn_r _ [6, 7, 8, 9, 10, 11, 12, 13, 5, 14, 15, 16, 17, 18, 19, 20, 21, 22, 23, 24, 25, 26, 27, 28, 29, 30, 31, 32, 33, 34, 35, 36, 37, 38, 39, 40, 41, 42, 43, 44, 45, 46, 47, 48, 49, 50, 51, 52, 53, 54, 55, 56, 57, 58, 59, 60, 61, 62, 63, 64, 65, 66, 67, 68, 69, 70, 71, 72, 73, 74, 75, 76, 77, 78, 79, 80, 81, 82, 83, 84, 85, 86, 87, 88, 89, 90, 91, 92, 93, 94, 95, 96, 97, 98, 99, 100, 101, 102, 103] (by decide +kernel) (by decide +kernel)) (goodIn_sub (fun _ h => List.mem_cons_of_mem _ (List.mem_append_right _ h)) (by decide +kernel))
set_option maxRecDepth 20000 in
theorem gL_banned_X8_banned : GoodIn wsL_banned (wsV RL 108 RX8 yX8_banned wsX8_banned) := goodIn_app (goodIn_of _ (by decide +kernel)) ggL_banned_X8_banned
theorem dL_banned_0 : decode cL_banned 0 = .ok (.aload 4, 2) := by decide +kernel
theorem dL_banned_2 : decode cL_banned 2 = .ok (.iconst 0, 1) := by decide +kernel
theorem dL_banned_3 : decode cL_banned 3 = .ok (.aload_n 0, 1) := by decide +kernel
theorem dL_banned_4 : decode cL_banned 4 = .ok (.iload_n 1, 1) := by decide +kernel
theorem dL_banned_5 : decode cL_banned 5 = .ok (.iload_n 2, 1) := by decide +kernel
theorem dL_banned_6 : decode cL_banned 6 = .ok (.iload_n 3, 1) := by decide +kernel
theorem dL_banned_7 : decode cL_banned 7 = .ok (.invokevirtual 108, 3) := by decide +kernel
theorem dL_banned_10 : decode cL_banned 10 = .ok (.i2l, 1) := by decide +kernel
theorem dL_banned_11 : decode cL_banned 11 = .ok (.lastore, 1) := by decide +kernel
theorem dL_banned_12 : decode cL_banned 12 = .ok (.goto 7, 3) := by decide +kernel
theorem dL_banned_15 : decode cL_banned 15 = .ok (.astore 5, 2) := by decide +kernel
theorem dL_banned_17 : decode cL_banned 17 = .ok (.iconst 1, 1) := by decide +kernel
theorem dL_banned_18 : decode cL_banned 18 = .ok (.ireturn, 1) := by decide +kernel
theorem dL_banned_19 : decode cL_banned 19 = .ok (.iconst 0, 1) := by decide +kernel
theorem dL_banned_20 : decode cL_banned 20 = .ok (.ireturn, 1) := by decide +kernel
set_option maxRecDepth 20000 in
theorem ggL_ofVisa_X8_ofVisa : GoodIn wsL_ofVisa wsX8_ofVisa := goodIn_ca (goodIn_ca (goodIn_r _ [7, 8, 9, 10, 11, 12, 13, 14, 15, 6, 16, 17, 18, 19, 20, 21, 22, 23, 24, 25, 26, 27, 28, 29, 30, 31, 32, 33, 34, 35, 36, 37, 38, 39, 40, 41, 42, 43, 44, 45, 46, 47, 48, 49, 50, 51, 52, 53, 54, 55, 56, 57, 58, 59, 60, 61] (by decide +kernel) (by decide +kernel)) (goodIn_sub (fun _ h => List.mem_cons_of_mem _ (List.mem_append_left _ (List.mem_append_right _ h))) (by decide +kernel))) (goodIn_sub (fun _ h => List.mem_cons_of_mem _ (List.mem_append_right _ h)) (by decide +kernel))
set_option maxRecDepth 20000 in
theorem gL_ofVisa_X8_ofVisa : GoodIn wsL_ofVisa (wsV RL 111 RX8 yX8_ofVisa wsX8_ofVisa) := goodIn_app (goodIn_of _ (by decide +kernel)) ggL_ofVisa_X8_ofVisa
theorem dL_ofVisa_0 : decode cL_ofVisa 0 = .ok (.aload_n 3, 1) := by decide +kernel
theorem dL_ofVisa_1 : decode cL_ofVisa 1 = .ok (.iconst 0, 1) := by decide +kernel
theorem dL_ofVisa_2 : decode cL_ofVisa 2 = .ok (.aload_n 0, 1) := by decide +kernel
theorem dL_ofVisa_3 : decode cL_ofVisa 3 = .ok (.iload_n 1, 1) := by decide +kernel
theorem dL_ofVisa_4 : decode cL_ofVisa 4 = .ok (.iload_n 2, 1) := by decide +kernel
theorem dL_ofVisa_5 : decode cL_ofVisa 5 = .ok (.invokevirtual 111, 3) := by decide +kernel
theorem dL_ofVisa_8 : decode cL_ofVisa 8 = .ok (.i2l, 1) := by decide +kernel
theorem dL_ofVisa_9 : decode cL_ofVisa 9 = .ok (.lastore, 1) := by decide +kernel
theorem dL_ofVisa_10 : decode cL_ofVisa 10 = .ok (.goto 11, 3) := by decide +kernel
theorem dL_ofVisa_13 : decode cL_ofVisa 13 = .ok (.astore 4, 2) := by decide +kernel
theorem dL_ofVisa_15 : decode cL_ofVisa 15 = .ok (.iconst 1, 1) := by decide +kernel
theorem dL_ofVisa_16 : decode cL_ofVisa 16 = .ok (.ireturn, 1) := by decide +kernel
theorem dL_ofVisa_17 : decode cL_ofVisa 17 = .ok (.astore 4, 2) := by decide +kernel
theorem dL_ofVisa_19 : decode cL_ofVisa 19 = .ok (.iconst 2, 1) := by decide +kernel
theorem dL_ofVisa_20 : decode cL_ofVisa 20 = .ok (.ireturn, 1) := by decide +kernel
theorem dL_ofVisa_21 : decode cL_ofVisa 21 = .ok (.iconst 0, 1) := by decide +kernel
theorem dL_ofVisa_22 : decode cL_ofVisa 22 = .ok (.ireturn, 1) := by decide +kernel
set_option maxRecDepth 20000 in
theorem ggL_ofRequest_X8_ofRequest : GoodIn wsL_ofRequest wsX8_ofRequest := goodIn_ca (goodIn_ca (goodIn_r _ [7, 8, 9, 10, 11, 12, 13, 14, 6, 15, 16, 17, 18, 19, 20, 21, 22, 23, 24, 25, 26, 27, 28, 29, 30, 31, 32, 33, 34, 35, 36, 37, 38, 39, 40, 41, 42, 43, 44, 45, 46, 47, 48, 49, 50, 51, 52, 53, 54, 55, 56, 57, 58, 59, 60, 61, 62, 63, 64, 65, 66, 67, 68, 69, 70, 71, 72, 73, 74, 75, 76, 77, 78, 79, 80, 81, 82, 83, 84, 85, 86, 87] (by decide +kernel) (by decide +kernel)) (goodIn_sub (fun _ h => List.mem_cons_of_mem _ (List.mem_append_left _ (List.mem_append_right _ h))) (by decide +kernel))) (goodIn_sub (fun _ h => List.mem_cons_of_mem _ (List.mem_append_right _ h)) (by decide +kernel))
set_option maxRecDepth 20000 in
theorem gL_ofRequest_X8_ofRequest : GoodIn wsL_ofRequest (wsV RL 114 RX8 yX8_ofRequest wsX8_ofRequest) := goodIn_app (goodIn_of _ (by decide +kernel)) ggL_ofRequest_X8_ofRequest
theorem dL_ofRequest_0 : decode cL_ofRequest 0 = .ok (.aload_n 3, 1) := by decide +kernel
theorem dL_ofRequest_1 : decode cL_ofRequest 1 = .ok (.iconst 0, 1) := by decide +kernel
theorem dL_ofRequest_2 : decode cL_ofRequest 2 = .ok (.aload_n 0, 1) := by decide +kernel
theorem dL_ofRequest_3 : decode cL_ofRequest 3 = .ok (.iload_n 1, 1) := by decide +kernel
theorem dL_ofRequest_4 : decode cL_ofRequest 4 = .ok (.iload_n 2, 1) := by decide +kernel
theorem dL_ofRequest_5 : decode cL_ofRequest 5 = .ok (.invokevirtual 114, 3) := by decide +kernel
theorem dL_ofRequest_8 : decode cL_ofRequest 8 = .ok (.i2l, 1) := by decide +kernel
theorem dL_ofRequest_9 : decode cL_ofRequest 9 = .ok (.lastore, 1) := by decide +kernel
theorem dL_ofRequest_10 : decode cL_ofRequest 10 = .ok (.goto 11, 3) := by decide +kernel
theorem dL_ofRequest_13 : decode cL_ofRequest 13 = .ok (.astore 4, 2) := by decide +kernel
theorem dL_ofRequest_15 : decode cL_ofRequest 15 = .ok (.iconst 1, 1) := by decide +kernel
theorem dL_ofRequest_16 : decode cL_ofRequest 16 = .ok (.ireturn, 1) := by decide +kernel
theorem dL_ofRequest_17 : decode cL_ofRequest 17 = .ok (.astore 4, 2) := by decide +kernel
theorem dL_ofRequest_19 : decode cL_ofRequest 19 = .ok (.iconst 2, 1) := by decide +kernel
theorem dL_ofRequest_20 : decode cL_ofRequest 20 = .ok (.ireturn, 1) := by decide +kernel
theorem dL_ofRequest_21 : decode cL_ofRequest 21 = .ok (.iconst 0, 1) := by decide +kernel
theorem dL_ofRequest_22 : decode cL_ofRequest 22 = .ok (.ireturn, 1) := by decide +kernel
set_option maxRecDepth 20000 in
theorem ggL_permit_X8_permit : GoodIn wsL_permit wsX8_permit := goodIn_ca (goodIn_r _ [6, 7, 8, 9, 10, 11, 12, 13, 5, 14, 15, 16, 17, 18, 19, 20, 21, 22, 23, 24, 25, 26, 27, 28, 29, 30, 31, 32, 33, 34, 35, 36, 37, 38, 39, 40, 41, 42, 43, 44, 45, 46, 47, 48, 49, 50, 51, 52, 53, 54, 55, 56, 57, 58, 59, 60, 61, 62, 63, 64, 65, 66, 67, 68, 69, 70, 71, 72, 73, 74, 75, 76, 77, 78, 79, 80, 81, 82, 83, 84, 85, 86, 87, 88, 89, 90, 91, 92, 93, 94, 95] (by decide +kernel) (by decide +kernel)) (goodIn_sub (fun _ h => List.mem_cons_of_mem _ (List.mem_append_right _ h)) (by decide +kernel))
set_option maxRecDepth 20000 in
theorem gL_permit_X8_permit : GoodIn wsL_permit (wsV RL 117 RX8 yX8_permit wsX8_permit) := goodIn_app (goodIn_of _ (by decide +kernel)) ggL_permit_X8_permit
theorem dL_permit_0 : decode cL_permit 0 = .ok (.aload_n 3, 1) := by decide +kernel
theorem dL_permit_1 : decode cL_permit 1 = .ok (.iconst 0, 1) := by decide +kernel
theorem dL_permit_2 : decode cL_permit 2 = .ok (.aload_n 0, 1) := by decide +kernel
theorem dL_permit_3 : decode cL_permit 3 = .ok (.iload_n 1, 1) := by decide +kernel
theorem dL_permit_4 : decode cL_permit 4 = .ok (.iload_n 2, 1) := by decide +kernel
theorem dL_permit_5 : decode cL_permit 5 = .ok (.invokevirtual 117, 3) := by decide +kernel
theorem dL_permit_8 : decode cL_permit 8 = .ok (.i2l, 1) := by decide +kernel
theorem dL_permit_9 : decode cL_permit 9 = .ok (.lastore, 1) := by decide +kernel
theorem dL_permit_10 : decode cL_permit 10 = .ok (.goto 7, 3) := by decide +kernel
theorem dL_permit_13 : decode cL_permit 13 = .ok (.astore 4, 2) := by decide +kernel
theorem dL_permit_15 : decode cL_permit 15 = .ok (.iconst 1, 1) := by decide +kernel
theorem dL_permit_16 : decode cL_permit 16 = .ok (.ireturn, 1) := by decide +kernel
theorem dL_permit_17 : decode cL_permit 17 = .ok (.iconst 0, 1) := by decide +kernel
theorem dL_permit_18 : decode cL_permit 18 = .ok (.ireturn, 1) := by decide +kernel
