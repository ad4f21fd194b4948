set_option maxRecDepth 20000 in
theorem ggL_addApplicant_X5_addApplicant : GoodIn wsL_addApplicant wsX5_addApplicant := goodIn_ca (goodIn_ca (goodIn_ca (goodIn_r _ [7, 8, 9, 10, 11, 12, 13, 14, 15, 6, 16, 17, 18, 19, 20, 21, 22, 23, 24, 25, 26, 27, 28, 29, 30, 31, 32] (by decide +kernel) (by decide +kernel)) (goodIn_sub (fun _ h => List.mem_cons_of_mem _ (List.mem_append_left _ (List.mem_append_right _ h))) (by decide +kernel))) (goodIn_sub (fun _ h => List.mem_cons_of_mem _ (List.mem_append_left _ (List.mem_append_left _ (List.mem_append_right _ h)))) (by decide +kernel))) (goodIn_sub (fun _ h => List.mem_cons_of_mem _ (List.mem_append_right _ h)) (by decide +kernel))
set_option maxRecDepth 20000 in
theorem gL_addApplicant_X5_addApplicant : GoodIn wsL_addApplicant (wsV RL 7 RX5 yX5_addApplicant wsX5_addApplicant) := goodIn_app (goodIn_of _ (by decide +kernel)) ggL_addApplicant_X5_addApplicant
theorem dL_addApplicant_0 : decode cL_addApplicant 0 = .ok (.aload_n 2, 1) := by decide +kernel
theorem dL_addApplicant_1 : decode cL_addApplicant 1 = .ok (.iconst 0, 1) := by decide +kernel
theorem dL_addApplicant_2 : decode cL_addApplicant 2 = .ok (.aload_n 0, 1) := by decide +kernel
theorem dL_addApplicant_3 : decode cL_addApplicant 3 = .ok (.iload_n 1, 1) := by decide +kernel
theorem dL_addApplicant_4 : decode cL_addApplicant 4 = .ok (.invokevirtual 7, 3) := by decide +kernel
theorem dL_addApplicant_7 : decode cL_addApplicant 7 = .ok (.i2l, 1) := by decide +kernel
theorem dL_addApplicant_8 : decode cL_addApplicant 8 = .ok (.lastore, 1) := by decide +kernel
theorem dL_addApplicant_9 : decode cL_addApplicant 9 = .ok (.goto 9, 3) := by decide +kernel
theorem dL_addApplicant_12 : decode cL_addApplicant 12 = .ok (.astore_n 3, 1) := by decide +kernel
theorem dL_addApplicant_13 : decode cL_addApplicant 13 = .ok (.iconst 1, 1) := by decide +kernel
theorem dL_addApplicant_14 : decode cL_addApplicant 14 = .ok (.ireturn, 1) := by decide +kernel
theorem dL_addApplicant_15 : decode cL_addApplicant 15 = .ok (.astore_n 3, 1) := by decide +kernel
theorem dL_addApplicant_16 : decode cL_addApplicant 16 = .ok (.iconst 2, 1) := by decide +kernel
theorem dL_addApplicant_17 : decode cL_addApplicant 17 = .ok (.ireturn, 1) := by decide +kernel
theorem dL_addApplicant_18 : decode cL_addApplicant 18 = .ok (.iconst 0, 1) := by decide +kernel
theorem dL_addApplicant_19 : decode cL_addApplicant 19 = .ok (.ireturn, 1) := by decide +kernel
set_option maxRecDepth 20000 in
theorem ggL_addPost_X5_addPost : GoodIn wsL_addPost wsX5_addPost := goodIn_ca (goodIn_ca (goodIn_ca (goodIn_r _ [7, 8, 9, 10, 11, 12, 13, 14, 15, 6, 16, 17, 18, 19, 20, 21, 22, 23, 24, 25, 26, 27, 28, 29, 30, 31, 32] (by decide +kernel) (by decide +kernel)) (goodIn_sub (fun _ h => List.mem_cons_of_mem _ (List.mem_append_left _ (List.mem_append_right _ h))) (by decide +kernel))) (goodIn_sub (fun _ h => List.mem_cons_of_mem _ (List.mem_append_left _ (List.mem_append_left _ (List.mem_append_right _ h)))) (by decide +kernel))) (goodIn_sub (fun _ h => List.mem_cons_of_mem _ (List.mem_append_right _ h)) (by decide +kernel))
set_option maxRecDepth 20000 in
theorem gL_addPost_X5_addPost : GoodIn wsL_addPost (wsV RL 17 RX5 yX5_addPost wsX5_addPost) := goodIn_app (goodIn_of _ (by decide +kernel)) ggL_addPost_X5_addPost
theorem dL_addPost_0 : decode cL_addPost 0 = .ok (.aload_n 2, 1) := by decide +kernel
theorem dL_addPost_1 : decode cL_addPost 1 = .ok (.iconst 0, 1) := by decide +kernel
theorem dL_addPost_2 : decode cL_addPost 2 = .ok (.aload_n 0, 1) := by decide +kernel
theorem dL_addPost_3 : decode cL_addPost 3 = .ok (.iload_n 1, 1) := by decide +kernel
theorem dL_addPost_4 : decode cL_addPost 4 = .ok (.invokevirtual 17, 3) := by decide +kernel
theorem dL_addPost_7 : decode cL_addPost 7 = .ok (.i2l, 1) := by decide +kernel
theorem dL_addPost_8 : decode cL_addPost 8 = .ok (.lastore, 1) := by decide +kernel
theorem dL_addPost_9 : decode cL_addPost 9 = .ok (.goto 9, 3) := by decide +kernel
theorem dL_addPost_12 : decode cL_addPost 12 = .ok (.astore_n 3, 1) := by decide +kernel
theorem dL_addPost_13 : decode cL_addPost 13 = .ok (.iconst 1, 1) := by decide +kernel
theorem dL_addPost_14 : decode cL_addPost 14 = .ok (.ireturn, 1) := by decide +kernel
theorem dL_addPost_15 : decode cL_addPost 15 = .ok (.astore_n 3, 1) := by decide +kernel
theorem dL_addPost_16 : decode cL_addPost 16 = .ok (.iconst 2, 1) := by decide +kernel
theorem dL_addPost_17 : decode cL_addPost 17 = .ok (.ireturn, 1) := by decide +kernel
theorem dL_addPost_18 : decode cL_addPost 18 = .ok (.iconst 0, 1) := by decide +kernel
theorem dL_addPost_19 : decode cL_addPost 19 = .ok (.ireturn, 1) := by decide +kernel
set_option maxRecDepth 20000 in
theorem ggL_setWeight_X5_setWeight : GoodIn wsL_setWeight wsX5_setWeight := goodIn_ca (goodIn_ca (goodIn_ca (goodIn_r _ [7, 8, 9, 10, 11, 12, 6, 13, 14, 15, 16, 17, 18, 19, 20, 21, 22, 23, 24, 25, 26, 27, 28, 29, 30, 31, 32, 33, 34, 35, 36] (by decide +kernel) (by decide +kernel)) (goodIn_sub (fun _ h => List.mem_cons_of_mem _ (List.mem_append_left _ (List.mem_append_left _ (List.mem_append_right _ h)))) (by decide +kernel))) (goodIn_sub (fun _ h => List.mem_cons_of_mem _ (List.mem_append_left _ (List.mem_append_right _ h))) (by decide +kernel))) (goodIn_sub (fun _ h => List.mem_cons_of_mem _ (List.mem_append_right _ h)) (by decide +kernel))
set_option maxRecDepth 20000 in
theorem gL_setWeight_X5_setWeight : GoodIn wsL_setWeight (wsV RL 20 RX5 yX5_setWeight wsX5_setWeight) := goodIn_app (goodIn_of _ (by decide +kernel)) ggL_setWeight_X5_setWeight
theorem dL_setWeight_0 : decode cL_setWeight 0 = .ok (.aload_n 3, 1) := by decide +kernel
theorem dL_setWeight_1 : decode cL_setWeight 1 = .ok (.iconst 0, 1) := by decide +kernel
theorem dL_setWeight_2 : decode cL_setWeight 2 = .ok (.aload_n 0, 1) := by decide +kernel
theorem dL_setWeight_3 : decode cL_setWeight 3 = .ok (.iload_n 1, 1) := by decide +kernel
theorem dL_setWeight_4 : decode cL_setWeight 4 = .ok (.iload_n 2, 1) := by decide +kernel
theorem dL_setWeight_5 : decode cL_setWeight 5 = .ok (.invokevirtual 20, 3) := by decide +kernel
theorem dL_setWeight_8 : decode cL_setWeight 8 = .ok (.i2l, 1) := by decide +kernel
theorem dL_setWeight_9 : decode cL_setWeight 9 = .ok (.lastore, 1) := by decide +kernel
theorem dL_setWeight_10 : decode cL_setWeight 10 = .ok (.goto 11, 3) := by decide +kernel
theorem dL_setWeight_13 : decode cL_setWeight 13 = .ok (.astore 4, 2) := by decide +kernel
theorem dL_setWeight_15 : decode cL_setWeight 15 = .ok (.iconst 1, 1) := by decide +kernel
theorem dL_setWeight_16 : decode cL_setWeight 16 = .ok (.ireturn, 1) := by decide +kernel
theorem dL_setWeight_17 : decode cL_setWeight 17 = .ok (.astore 4, 2) := by decide +kernel
theorem dL_setWeight_19 : decode cL_setWeight 19 = .ok (.iconst 2, 1) := by decide +kernel
theorem dL_setWeight_20 : decode cL_setWeight 20 = .ok (.ireturn, 1) := by decide +kernel
theorem dL_setWeight_21 : decode cL_setWeight 21 = .ok (.iconst 0, 1) := by decide +kernel
theorem dL_setWeight_22 : decode cL_setWeight 22 = .ok (.ireturn, 1) := by decide +kernel
set_option maxRecDepth 20000 in
theorem ggL_setPlaces_X5_setPlaces : GoodIn wsL_setPlaces wsX5_setPlaces := goodIn_ca (goodIn_ca (goodIn_ca (goodIn_ca (goodIn_r _ [8, 9, 10, 11, 12, 13, 14, 15, 16, 7, 17, 18, 19, 20, 21, 22, 23, 24, 25, 26, 27, 28, 29, 30, 31, 32, 33, 34, 35, 36, 37, 38, 39, 40, 41, 42, 43, 44, 45, 46] (by decide +kernel) (by decide +kernel)) (goodIn_sub (fun _ h => List.mem_cons_of_mem _ (List.mem_append_left _ (List.mem_append_left _ (List.mem_append_right _ h)))) (by decide +kernel))) (goodIn_sub (fun _ h => List.mem_cons_of_mem _ (List.mem_append_left _ (List.mem_append_left _ (List.mem_append_left _ (List.mem_append_right _ h))))) (by decide +kernel))) (goodIn_sub (fun _ h => List.mem_cons_of_mem _ (List.mem_append_left _ (List.mem_append_right _ h))) (by decide +kernel))) (goodIn_sub (fun _ h => List.mem_cons_of_mem _ (List.mem_append_right _ h)) (by decide +kernel))
set_option maxRecDepth 20000 in
theorem gL_setPlaces_X5_setPlaces : GoodIn wsL_setPlaces (wsV RL 26 RX5 yX5_setPlaces wsX5_setPlaces) := goodIn_app (goodIn_of _ (by decide +kernel)) ggL_setPlaces_X5_setPlaces
theorem dL_setPlaces_0 : decode cL_setPlaces 0 = .ok (.aload_n 3, 1) := by decide +kernel
theorem dL_setPlaces_1 : decode cL_setPlaces 1 = .ok (.iconst 0, 1) := by decide +kernel
theorem dL_setPlaces_2 : decode cL_setPlaces 2 = .ok (.aload_n 0, 1) := by decide +kernel
theorem dL_setPlaces_3 : decode cL_setPlaces 3 = .ok (.iload_n 1, 1) := by decide +kernel
theorem dL_setPlaces_4 : decode cL_setPlaces 4 = .ok (.iload_n 2, 1) := by decide +kernel
theorem dL_setPlaces_5 : decode cL_setPlaces 5 = .ok (.invokevirtual 26, 3) := by decide +kernel
theorem dL_setPlaces_8 : decode cL_setPlaces 8 = .ok (.i2l, 1) := by decide +kernel
theorem dL_setPlaces_9 : decode cL_setPlaces 9 = .ok (.lastore, 1) := by decide +kernel
theorem dL_setPlaces_10 : decode cL_setPlaces 10 = .ok (.goto 15, 3) := by decide +kernel
theorem dL_setPlaces_13 : decode cL_setPlaces 13 = .ok (.astore 4, 2) := by decide +kernel
theorem dL_setPlaces_15 : decode cL_setPlaces 15 = .ok (.iconst 1, 1) := by decide +kernel
theorem dL_setPlaces_16 : decode cL_setPlaces 16 = .ok (.ireturn, 1) := by decide +kernel
theorem dL_setPlaces_17 : decode cL_setPlaces 17 = .ok (.astore 4, 2) := by decide +kernel
theorem dL_setPlaces_19 : decode cL_setPlaces 19 = .ok (.iconst 2, 1) := by decide +kernel
theorem dL_setPlaces_20 : decode cL_setPlaces 20 = .ok (.ireturn, 1) := by decide +kernel
theorem dL_setPlaces_21 : decode cL_setPlaces 21 = .ok (.astore 4, 2) := by decide +kernel
theorem dL_setPlaces_23 : decode cL_setPlaces 23 = .ok (.iconst 3, 1) := by decide +kernel
theorem dL_setPlaces_24 : decode cL_setPlaces 24 = .ok (.ireturn, 1) := by decide +kernel
theorem dL_setPlaces_25 : decode cL_setPlaces 25 = .ok (.iconst 0, 1) := by decide +kernel
theorem dL_setPlaces_26 : decode cL_setPlaces 26 = .ok (.ireturn, 1) := by decide +kernel
set_option maxRecDepth 20000 in
theorem ggL_setRank_X5_setRank : GoodIn wsL_setRank wsX5_setRank := goodIn_ca (goodIn_ca (goodIn_ca (goodIn_r _ [7, 8, 9, 10, 11, 12, 6, 13, 14, 15, 16, 17, 18, 19, 20, 21, 22, 23, 24, 25, 26, 27, 28, 29, 30, 31, 32, 33, 34, 35, 36, 37, 38, 39, 40, 41, 42, 43, 44, 45, 46, 47, 48, 49, 50, 51, 52, 53, 54, 55, 56, 57] (by decide +kernel) (by decide +kernel)) (goodIn_sub (fun _ h => List.mem_cons_of_mem _ (List.mem_append_left _ (List.mem_append_left _ (List.mem_append_right _ h)))) (by decide +kernel))) (goodIn_sub (fun _ h => List.mem_cons_of_mem _ (List.mem_append_left _ (List.mem_append_right _ h))) (by decide +kernel))) (goodIn_sub (fun _ h => List.mem_cons_of_mem _ (List.mem_append_right _ h)) (by decide +kernel))
set_option maxRecDepth 20000 in
theorem gL_setRank_X5_setRank : GoodIn wsL_setRank (wsV RL 31 RX5 yX5_setRank wsX5_setRank) := goodIn_app (goodIn_of _ (by decide +kernel)) ggL_setRank_X5_setRank
theorem dL_setRank_0 : decode cL_setRank 0 = .ok (.aload 4, 2) := by decide +kernel
theorem dL_setRank_2 : decode cL_setRank 2 = .ok (.iconst 0, 1) := by decide +kernel
theorem dL_setRank_3 : decode cL_setRank 3 = .ok (.aload_n 0, 1) := by decide +kernel
theorem dL_setRank_4 : decode cL_setRank 4 = .ok (.iload_n 1, 1) := by decide +kernel
theorem dL_setRank_5 : decode cL_setRank 5 = .ok (.iload_n 2, 1) := by decide +kernel
theorem dL_setRank_6 : decode cL_setRank 6 = .ok (.iload_n 3, 1) := by decide +kernel
theorem dL_setRank_7 : decode cL_setRank 7 = .ok (.invokevirtual 31, 3) := by decide +kernel
theorem dL_setRank_10 : decode cL_setRank 10 = .ok (.i2l, 1) := by decide +kernel
theorem dL_setRank_11 : decode cL_setRank 11 = .ok (.lastore, 1) := by decide +kernel
theorem dL_setRank_12 : decode cL_setRank 12 = .ok (.goto 11, 3) := by decide +kernel
theorem dL_setRank_15 : decode cL_setRank 15 = .ok (.astore 5, 2) := by decide +kernel
theorem dL_setRank_17 : decode cL_setRank 17 = .ok (.iconst 1, 1) := by decide +kernel
theorem dL_setRank_18 : decode cL_setRank 18 = .ok (.ireturn, 1) := by decide +kernel
theorem dL_setRank_19 : decode cL_setRank 19 = .ok (.astore 5, 2) := by decide +kernel
theorem dL_setRank_21 : decode cL_setRank 21 = .ok (.iconst 2, 1) := by decide +kernel
theorem dL_setRank_22 : decode cL_setRank 22 = .ok (.ireturn, 1) := by decide +kernel
theorem dL_setRank_23 : decode cL_setRank 23 = .ok (.iconst 0, 1) := by decide +kernel
theorem dL_setRank_24 : decode cL_setRank 24 = .ok (.ireturn, 1) := by decide +kernel
set_option maxRecDepth 20000 in
theorem ggL_rankOf_X5_rankOf : GoodIn wsL_rankOf wsX5_rankOf := goodIn_ca (goodIn_ca (goodIn_r _ [6, 7, 8, 9, 10, 11, 5, 12, 13, 14, 15, 16, 17, 18, 19, 20, 21, 22, 23, 24, 25, 26, 27, 28, 29, 30, 31, 32, 33, 34] (by decide +kernel) (by decide +kernel)) (goodIn_sub (fun _ h => List.mem_cons_of_mem _ (List.mem_append_left _ (List.mem_append_right _ h))) (by decide +kernel))) (goodIn_sub (fun _ h => List.mem_cons_of_mem _ (List.mem_append_right _ h)) (by decide +kernel))
set_option maxRecDepth 20000 in
theorem gL_rankOf_X5_rankOf : GoodIn wsL_rankOf (wsV RL 35 RX5 yX5_rankOf wsX5_rankOf) := goodIn_app (goodIn_of _ (by decide +kernel)) ggL_rankOf_X5_rankOf
theorem dL_rankOf_0 : decode cL_rankOf 0 = .ok (.aload_n 3, 1) := by decide +kernel
theorem dL_rankOf_1 : decode cL_rankOf 1 = .ok (.iconst 0, 1) := by decide +kernel
theorem dL_rankOf_2 : decode cL_rankOf 2 = .ok (.aload_n 0, 1) := by decide +kernel
theorem dL_rankOf_3 : decode cL_rankOf 3 = .ok (.iload_n 1, 1) := by decide +kernel
theorem dL_rankOf_4 : decode cL_rankOf 4 = .ok (.iload_n 2, 1) := by decide +kernel
theorem dL_rankOf_5 : decode cL_rankOf 5 = .ok (.invokevirtual 35, 3) := by decide +kernel
theorem dL_rankOf_8 : decode cL_rankOf 8 = .ok (.i2l, 1) := by decide +kernel
theorem dL_rankOf_9 : decode cL_rankOf 9 = .ok (.lastore, 1) := by decide +kernel
theorem dL_rankOf_10 : decode cL_rankOf 10 = .ok (.goto 7, 3) := by decide +kernel
theorem dL_rankOf_13 : decode cL_rankOf 13 = .ok (.astore 4, 2) := by decide +kernel
theorem dL_rankOf_15 : decode cL_rankOf 15 = .ok (.iconst 1, 1) := by decide +kernel
theorem dL_rankOf_16 : decode cL_rankOf 16 = .ok (.ireturn, 1) := by decide +kernel
theorem dL_rankOf_17 : decode cL_rankOf 17 = .ok (.iconst 0, 1) := by decide +kernel
theorem dL_rankOf_18 : decode cL_rankOf 18 = .ok (.ireturn, 1) := by decide +kernel
set_option maxRecDepth 20000 in
theorem ggL_type_X5_type : GoodIn wsL_type wsX5_type := goodIn_ca (goodIn_ca (goodIn_ca (goodIn_r _ [7, 8, 9, 10, 11, 12, 13, 14, 15, 16, 17, 18, 19, 20, 21, 22, 23, 24, 25, 26, 27, 28, 29, 30, 31, 32, 33, 34, 35, 36, 37] (by decide +kernel) (by decide +kernel)) (goodIn_sub (fun _ h => List.mem_cons_of_mem _ (List.mem_append_left _ (List.mem_append_right _ h))) (by decide +kernel))) (goodIn_sub (fun _ h => List.mem_cons_of_mem _ (List.mem_append_right _ h)) (by decide +kernel))) (goodIn_sub (fun _ h => List.mem_cons_of_mem _ (List.mem_append_left _ (List.mem_append_left _ (List.mem_append_right _ h)))) (by decide +kernel))
set_option maxRecDepth 20000 in
theorem gL_type_X5_type : GoodIn wsL_type (wsV RL 38 RX5 yX5_type wsX5_type) := goodIn_app (goodIn_of _ (by decide +kernel)) ggL_type_X5_type
theorem dL_type_0 : decode cL_type 0 = .ok (.aload_n 2, 1) := by decide +kernel
theorem dL_type_1 : decode cL_type 1 = .ok (.iconst 0, 1) := by decide +kernel
theorem dL_type_2 : decode cL_type 2 = .ok (.aload_n 0, 1) := by decide +kernel
theorem dL_type_3 : decode cL_type 3 = .ok (.iload_n 1, 1) := by decide +kernel
theorem dL_type_4 : decode cL_type 4 = .ok (.invokevirtual 38, 3) := by decide +kernel
theorem dL_type_7 : decode cL_type 7 = .ok (.i2l, 1) := by decide +kernel
theorem dL_type_8 : decode cL_type 8 = .ok (.lastore, 1) := by decide +kernel
theorem dL_type_9 : decode cL_type 9 = .ok (.goto 9, 3) := by decide +kernel
theorem dL_type_12 : decode cL_type 12 = .ok (.astore_n 3, 1) := by decide +kernel
theorem dL_type_13 : decode cL_type 13 = .ok (.iconst 1, 1) := by decide +kernel
theorem dL_type_14 : decode cL_type 14 = .ok (.ireturn, 1) := by decide +kernel
theorem dL_type_15 : decode cL_type 15 = .ok (.astore_n 3, 1) := by decide +kernel
theorem dL_type_16 : decode cL_type 16 = .ok (.iconst 2, 1) := by decide +kernel
theorem dL_type_17 : decode cL_type 17 = .ok (.ireturn, 1) := by decide +kernel
theorem dL_type_18 : decode cL_type 18 = .ok (.iconst 0, 1) := by decide +kernel
theorem dL_type_19 : decode cL_type 19 = .ok (.ireturn, 1) := by decide +kernel
set_option maxRecDepth 20000 in
theorem ggL_tell_X5_tell : GoodIn wsL_tell wsX5_tell := goodIn_ca (goodIn_ca (goodIn_ca (goodIn_r _ [7, 8, 9, 10, 11, 12, 13, 14, 15, 16, 17, 18, 6, 19, 20, 21, 22, 23, 24, 25, 26, 27, 28, 29, 30, 31, 32, 33, 34, 35, 36, 37, 38, 39, 40, 41, 42, 43, 44, 45, 46, 47, 48, 49, 50, 51, 52, 53, 54, 55, 56, 57, 58, 59, 60, 61, 62, 63, 64, 65, 66, 67] (by decide +kernel) (by decide +kernel)) (goodIn_sub (fun _ h => List.mem_cons_of_mem _ (List.mem_append_left _ (List.mem_append_right _ h))) (by decide +kernel))) (goodIn_sub (fun _ h => List.mem_cons_of_mem _ (List.mem_append_left _ (List.mem_append_left _ (List.mem_append_right _ h)))) (by decide +kernel))) (goodIn_sub (fun _ h => List.mem_cons_of_mem _ (List.mem_append_right _ h)) (by decide +kernel))
set_option maxRecDepth 20000 in
theorem gL_tell_X5_tell : GoodIn wsL_tell (wsV RL 42 RX5 yX5_tell wsX5_tell) := goodIn_app (goodIn_of _ (by decide +kernel)) ggL_tell_X5_tell
theorem dL_tell_0 : decode cL_tell 0 = .ok (.aload_n 2, 1) := by decide +kernel
theorem dL_tell_1 : decode cL_tell 1 = .ok (.iconst 0, 1) := by decide +kernel
theorem dL_tell_2 : decode cL_tell 2 = .ok (.aload_n 0, 1) := by decide +kernel
theorem dL_tell_3 : decode cL_tell 3 = .ok (.iload_n 1, 1) := by decide +kernel
theorem dL_tell_4 : decode cL_tell 4 = .ok (.invokevirtual 42, 3) := by decide +kernel
theorem dL_tell_7 : decode cL_tell 7 = .ok (.i2l, 1) := by decide +kernel
theorem dL_tell_8 : decode cL_tell 8 = .ok (.lastore, 1) := by decide +kernel
theorem dL_tell_9 : decode cL_tell 9 = .ok (.goto 9, 3) := by decide +kernel
theorem dL_tell_12 : decode cL_tell 12 = .ok (.astore_n 3, 1) := by decide +kernel
theorem dL_tell_13 : decode cL_tell 13 = .ok (.iconst 1, 1) := by decide +kernel
theorem dL_tell_14 : decode cL_tell 14 = .ok (.ireturn, 1) := by decide +kernel
theorem dL_tell_15 : decode cL_tell 15 = .ok (.astore_n 3, 1) := by decide +kernel
theorem dL_tell_16 : decode cL_tell 16 = .ok (.iconst 2, 1) := by decide +kernel
theorem dL_tell_17 : decode cL_tell 17 = .ok (.ireturn, 1) := by decide +kernel
theorem dL_tell_18 : decode cL_tell 18 = .ok (.iconst 0, 1) := by decide +kernel
theorem dL_tell_19 : decode cL_tell 19 = .ok (.ireturn, 1) := by decide +kernel
set_option maxRecDepth 20000 in
theorem ggL_textLength_X5_textLength : GoodIn wsL_textLength wsX5_textLength := goodIn_ca (goodIn_ca (goodIn_r _ [6, 7, 8, 9, 10, 5, 11, 12, 13, 14, 15, 16, 17, 18, 19, 20, 21, 22, 23, 24, 25, 26, 27, 28, 29, 30, 31, 32, 33, 34, 35, 36, 37, 38, 39, 40] (by decide +kernel) (by decide +kernel)) (goodIn_sub (fun _ h => List.mem_cons_of_mem _ (List.mem_append_right _ h)) (by decide +kernel))) (goodIn_sub (fun _ h => List.mem_cons_of_mem _ (List.mem_append_left _ (List.mem_append_right _ h))) (by decide +kernel))
set_option maxRecDepth 20000 in
theorem gL_textLength_X5_textLength : GoodIn wsL_textLength (wsV RL 45 RX5 yX5_textLength wsX5_textLength) := goodIn_app (goodIn_of _ (by decide +kernel)) ggL_textLength_X5_textLength
theorem dL_textLength_0 : decode cL_textLength 0 = .ok (.aload_n 2, 1) := by decide +kernel
theorem dL_textLength_1 : decode cL_textLength 1 = .ok (.iconst 0, 1) := by decide +kernel
theorem dL_textLength_2 : decode cL_textLength 2 = .ok (.aload_n 0, 1) := by decide +kernel
theorem dL_textLength_3 : decode cL_textLength 3 = .ok (.iload_n 1, 1) := by decide +kernel
theorem dL_textLength_4 : decode cL_textLength 4 = .ok (.invokevirtual 45, 3) := by decide +kernel
theorem dL_textLength_7 : decode cL_textLength 7 = .ok (.i2l, 1) := by decide +kernel
theorem dL_textLength_8 : decode cL_textLength 8 = .ok (.lastore, 1) := by decide +kernel
theorem dL_textLength_9 : decode cL_textLength 9 = .ok (.goto 6, 3) := by decide +kernel
theorem dL_textLength_12 : decode cL_textLength 12 = .ok (.astore_n 3, 1) := by decide +kernel
theorem dL_textLength_13 : decode cL_textLength 13 = .ok (.iconst 1, 1) := by decide +kernel
theorem dL_textLength_14 : decode cL_textLength 14 = .ok (.ireturn, 1) := by decide +kernel
theorem dL_textLength_15 : decode cL_textLength 15 = .ok (.iconst 0, 1) := by decide +kernel
theorem dL_textLength_16 : decode cL_textLength 16 = .ok (.ireturn, 1) := by decide +kernel
set_option maxRecDepth 20000 in
theorem ggL_textAt_X5_textAt : GoodIn wsL_textAt wsX5_textAt := goodIn_ca (goodIn_ca (goodIn_ca (goodIn_r _ [7, 8, 9, 10, 11, 12, 13, 14, 6, 15, 16, 17, 18, 19, 20, 21, 22, 23, 24, 25, 26, 27, 28, 29, 30, 31, 32, 33, 34, 35, 36, 37, 38, 39, 40, 41, 42, 43, 44] (by decide +kernel) (by decide +kernel)) (goodIn_sub (fun _ h => List.mem_cons_of_mem _ (List.mem_append_left _ (List.mem_append_right _ h))) (by decide +kernel))) (goodIn_sub (fun _ h => List.mem_cons_of_mem _ (List.mem_append_left _ (List.mem_append_left _ (List.mem_append_right _ h)))) (by decide +kernel))) (goodIn_sub (fun _ h => List.mem_cons_of_mem _ (List.mem_append_right _ h)) (by decide +kernel))
set_option maxRecDepth 20000 in
theorem gL_textAt_X5_textAt : GoodIn wsL_textAt (wsV RL 48 RX5 yX5_textAt wsX5_textAt) := goodIn_app (goodIn_of _ (by decide +kernel)) ggL_textAt_X5_textAt
theorem dL_textAt_0 : decode cL_textAt 0 = .ok (.aload_n 3, 1) := by decide +kernel
theorem dL_textAt_1 : decode cL_textAt 1 = .ok (.iconst 0, 1) := by decide +kernel
theorem dL_textAt_2 : decode cL_textAt 2 = .ok (.aload_n 0, 1) := by decide +kernel
theorem dL_textAt_3 : decode cL_textAt 3 = .ok (.iload_n 1, 1) := by decide +kernel
theorem dL_textAt_4 : decode cL_textAt 4 = .ok (.iload_n 2, 1) := by decide +kernel
theorem dL_textAt_5 : decode cL_textAt 5 = .ok (.invokevirtual 48, 3) := by decide +kernel
theorem dL_textAt_8 : decode cL_textAt 8 = .ok (.i2l, 1) := by decide +kernel
theorem dL_textAt_9 : decode cL_textAt 9 = .ok (.lastore, 1) := by decide +kernel
theorem dL_textAt_10 : decode cL_textAt 10 = .ok (.goto 11, 3) := by decide +kernel
theorem dL_textAt_13 : decode cL_textAt 13 = .ok (.astore 4, 2) := by decide +kernel
theorem dL_textAt_15 : decode cL_textAt 15 = .ok (.iconst 1, 1) := by decide +kernel
theorem dL_textAt_16 : decode cL_textAt 16 = .ok (.ireturn, 1) := by decide +kernel
theorem dL_textAt_17 : decode cL_textAt 17 = .ok (.astore 4, 2) := by decide +kernel
theorem dL_textAt_19 : decode cL_textAt 19 = .ok (.iconst 2, 1) := by decide +kernel
theorem dL_textAt_20 : decode cL_textAt 20 = .ok (.ireturn, 1) := by decide +kernel
theorem dL_textAt_21 : decode cL_textAt 21 = .ok (.iconst 0, 1) := by decide +kernel
theorem dL_textAt_22 : decode cL_textAt 22 = .ok (.ireturn, 1) := by decide +kernel
set_option maxRecDepth 20000 in
theorem ggL_assign_X5_assign : GoodIn wsL_assign wsX5_assign := goodIn_ca (goodIn_ca (goodIn_ca (goodIn_r _ [7, 8, 9, 10, 11, 12, 13, 14, 6, 15, 16, 17, 18, 19, 20, 21, 22, 23, 24, 25, 26, 27, 28, 29, 30, 31, 32, 33, 34, 35, 36, 37, 38, 39, 40, 41, 42, 43, 44, 45, 46, 47, 48, 49, 50, 51, 52, 53, 54, 55, 56, 57, 58] (by decide +kernel) (by decide +kernel)) (goodIn_sub (fun _ h => List.mem_cons_of_mem _ (List.mem_append_left _ (List.mem_append_left _ (List.mem_append_right _ h)))) (by decide +kernel))) (goodIn_sub (fun _ h => List.mem_cons_of_mem _ (List.mem_append_left _ (List.mem_append_right _ h))) (by decide +kernel))) (goodIn_sub (fun _ h => List.mem_cons_of_mem _ (List.mem_append_right _ h)) (by decide +kernel))
set_option maxRecDepth 20000 in
theorem gL_assign_X5_assign : GoodIn wsL_assign (wsV RL 54 RX5 yX5_assign wsX5_assign) := goodIn_app (goodIn_of _ (by decide +kernel)) ggL_assign_X5_assign
theorem dL_assign_0 : decode cL_assign 0 = .ok (.aload_n 3, 1) := by decide +kernel
theorem dL_assign_1 : decode cL_assign 1 = .ok (.iconst 0, 1) := by decide +kernel
theorem dL_assign_2 : decode cL_assign 2 = .ok (.aload_n 0, 1) := by decide +kernel
theorem dL_assign_3 : decode cL_assign 3 = .ok (.iload_n 1, 1) := by decide +kernel
theorem dL_assign_4 : decode cL_assign 4 = .ok (.iload_n 2, 1) := by decide +kernel
theorem dL_assign_5 : decode cL_assign 5 = .ok (.invokevirtual 54, 3) := by decide +kernel
theorem dL_assign_8 : decode cL_assign 8 = .ok (.i2l, 1) := by decide +kernel
theorem dL_assign_9 : decode cL_assign 9 = .ok (.lastore, 1) := by decide +kernel
theorem dL_assign_10 : decode cL_assign 10 = .ok (.goto 11, 3) := by decide +kernel
theorem dL_assign_13 : decode cL_assign 13 = .ok (.astore 4, 2) := by decide +kernel
theorem dL_assign_15 : decode cL_assign 15 = .ok (.iconst 1, 1) := by decide +kernel
theorem dL_assign_16 : decode cL_assign 16 = .ok (.ireturn, 1) := by decide +kernel
theorem dL_assign_17 : decode cL_assign 17 = .ok (.astore 4, 2) := by decide +kernel
theorem dL_assign_19 : decode cL_assign 19 = .ok (.iconst 2, 1) := by decide +kernel
theorem dL_assign_20 : decode cL_assign 20 = .ok (.ireturn, 1) := by decide +kernel
theorem dL_assign_21 : decode cL_assign 21 = .ok (.iconst 0, 1) := by decide +kernel
theorem dL_assign_22 : decode cL_assign 22 = .ok (.ireturn, 1) := by decide +kernel
set_option maxRecDepth 20000 in
theorem ggL_release_X5_release : GoodIn wsL_release wsX5_release := goodIn_ca (goodIn_ca (goodIn_ca (goodIn_r _ [7, 8, 9, 10, 11, 12, 13, 6, 14, 15, 16, 17, 18, 19, 20, 21, 22, 23, 24, 25, 26, 27, 28, 29, 30, 31, 32] (by decide +kernel) (by decide +kernel)) (goodIn_sub (fun _ h => List.mem_cons_of_mem _ (List.mem_append_left _ (List.mem_append_left _ (List.mem_append_right _ h)))) (by decide +kernel))) (goodIn_sub (fun _ h => List.mem_cons_of_mem _ (List.mem_append_left _ (List.mem_append_right _ h))) (by decide +kernel))) (goodIn_sub (fun _ h => List.mem_cons_of_mem _ (List.mem_append_right _ h)) (by decide +kernel))
set_option maxRecDepth 20000 in
theorem gL_release_X5_release : GoodIn wsL_release (wsV RL 57 RX5 yX5_release wsX5_release) := goodIn_app (goodIn_of _ (by decide +kernel)) ggL_release_X5_release
theorem dL_release_0 : decode cL_release 0 = .ok (.aload_n 2, 1) := by decide +kernel
theorem dL_release_1 : decode cL_release 1 = .ok (.iconst 0, 1) := by decide +kernel
theorem dL_release_2 : decode cL_release 2 = .ok (.aload_n 0, 1) := by decide +kernel
theorem dL_release_3 : decode cL_release 3 = .ok (.iload_n 1, 1) := by decide +kernel
theorem dL_release_4 : decode cL_release 4 = .ok (.invokevirtual 57, 3) := by decide +kernel
theorem dL_release_7 : decode cL_release 7 = .ok (.i2l, 1) := by decide +kernel
theorem dL_release_8 : decode cL_release 8 = .ok (.lastore, 1) := by decide +kernel
theorem dL_release_9 : decode cL_release 9 = .ok (.goto 9, 3) := by decide +kernel
theorem dL_release_12 : decode cL_release 12 = .ok (.astore_n 3, 1) := by decide +kernel
theorem dL_release_13 : decode cL_release 13 = .ok (.iconst 1, 1) := by decide +kernel
theorem dL_release_14 : decode cL_release 14 = .ok (.ireturn, 1) := by decide +kernel
theorem dL_release_15 : decode cL_release 15 = .ok (.astore_n 3, 1) := by decide +kernel
theorem dL_release_16 : decode cL_release 16 = .ok (.iconst 2, 1) := by decide +kernel
theorem dL_release_17 : decode cL_release 17 = .ok (.ireturn, 1) := by decide +kernel
theorem dL_release_18 : decode cL_release 18 = .ok (.iconst 0, 1) := by decide +kernel
theorem dL_release_19 : decode cL_release 19 = .ok (.ireturn, 1) := by decide +kernel
set_option maxRecDepth 20000 in
theorem ggL_postOf_X5_postOf : GoodIn wsL_postOf wsX5_postOf := goodIn_ca (goodIn_ca (goodIn_r _ [6, 7, 8, 9, 10, 5, 11, 12, 13, 14, 15, 16, 17, 18, 19, 20, 21, 22, 23, 24, 25, 26, 27, 28, 29] (by decide +kernel) (by decide +kernel)) (goodIn_sub (fun _ h => List.mem_cons_of_mem _ (List.mem_append_left _ (List.mem_append_right _ h))) (by decide +kernel))) (goodIn_sub (fun _ h => List.mem_cons_of_mem _ (List.mem_append_right _ h)) (by decide +kernel))
set_option maxRecDepth 20000 in
theorem gL_postOf_X5_postOf : GoodIn wsL_postOf (wsV RL 60 RX5 yX5_postOf wsX5_postOf) := goodIn_app (goodIn_of _ (by decide +kernel)) ggL_postOf_X5_postOf
theorem dL_postOf_0 : decode cL_postOf 0 = .ok (.aload_n 2, 1) := by decide +kernel
theorem dL_postOf_1 : decode cL_postOf 1 = .ok (.iconst 0, 1) := by decide +kernel
theorem dL_postOf_2 : decode cL_postOf 2 = .ok (.aload_n 0, 1) := by decide +kernel
theorem dL_postOf_3 : decode cL_postOf 3 = .ok (.iload_n 1, 1) := by decide +kernel
theorem dL_postOf_4 : decode cL_postOf 4 = .ok (.invokevirtual 60, 3) := by decide +kernel
theorem dL_postOf_7 : decode cL_postOf 7 = .ok (.i2l, 1) := by decide +kernel
theorem dL_postOf_8 : decode cL_postOf 8 = .ok (.lastore, 1) := by decide +kernel
theorem dL_postOf_9 : decode cL_postOf 9 = .ok (.goto 6, 3) := by decide +kernel
theorem dL_postOf_12 : decode cL_postOf 12 = .ok (.astore_n 3, 1) := by decide +kernel
theorem dL_postOf_13 : decode cL_postOf 13 = .ok (.iconst 1, 1) := by decide +kernel
theorem dL_postOf_14 : decode cL_postOf 14 = .ok (.ireturn, 1) := by decide +kernel
theorem dL_postOf_15 : decode cL_postOf 15 = .ok (.iconst 0, 1) := by decide +kernel
theorem dL_postOf_16 : decode cL_postOf 16 = .ok (.ireturn, 1) := by decide +kernel
set_option maxRecDepth 20000 in
theorem ggL_freeOf_X5_freeOf : GoodIn wsL_freeOf wsX5_freeOf := goodIn_ca (goodIn_ca (goodIn_r _ [6, 7, 8, 9, 5, 10, 11, 12, 13, 14, 15, 16, 17, 18, 19, 20, 21, 22, 23, 24, 25, 26, 27, 28, 29, 30, 31, 32, 33, 34, 35, 36, 37, 38, 39, 40] (by decide +kernel) (by decide +kernel)) (goodIn_sub (fun _ h => List.mem_cons_of_mem _ (List.mem_append_right _ h)) (by decide +kernel))) (goodIn_sub (fun _ h => List.mem_cons_of_mem _ (List.mem_append_left _ (List.mem_append_right _ h))) (by decide +kernel))
set_option maxRecDepth 20000 in
theorem gL_freeOf_X5_freeOf : GoodIn wsL_freeOf (wsV RL 63 RX5 yX5_freeOf wsX5_freeOf) := goodIn_app (goodIn_of _ (by decide +kernel)) ggL_freeOf_X5_freeOf
theorem dL_freeOf_0 : decode cL_freeOf 0 = .ok (.aload_n 2, 1) := by decide +kernel
theorem dL_freeOf_1 : decode cL_freeOf 1 = .ok (.iconst 0, 1) := by decide +kernel
theorem dL_freeOf_2 : decode cL_freeOf 2 = .ok (.aload_n 0, 1) := by decide +kernel
theorem dL_freeOf_3 : decode cL_freeOf 3 = .ok (.iload_n 1, 1) := by decide +kernel
theorem dL_freeOf_4 : decode cL_freeOf 4 = .ok (.invokevirtual 63, 3) := by decide +kernel
theorem dL_freeOf_7 : decode cL_freeOf 7 = .ok (.i2l, 1) := by decide +kernel
theorem dL_freeOf_8 : decode cL_freeOf 8 = .ok (.lastore, 1) := by decide +kernel
theorem dL_freeOf_9 : decode cL_freeOf 9 = .ok (.goto 6, 3) := by decide +kernel
theorem dL_freeOf_12 : decode cL_freeOf 12 = .ok (.astore_n 3, 1) := by decide +kernel
theorem dL_freeOf_13 : decode cL_freeOf 13 = .ok (.iconst 1, 1) := by decide +kernel
theorem dL_freeOf_14 : decode cL_freeOf 14 = .ok (.ireturn, 1) := by decide +kernel
theorem dL_freeOf_15 : decode cL_freeOf 15 = .ok (.iconst 0, 1) := by decide +kernel
theorem dL_freeOf_16 : decode cL_freeOf 16 = .ok (.ireturn, 1) := by decide +kernel
set_option maxRecDepth 20000 in
theorem ggL_keep_X5_keep : GoodIn wsL_keep wsX5_keep := goodIn_ca (goodIn_r _ [6, 7, 8, 9, 10, 11, 12, 13, 14, 15, 16, 17, 18, 19, 20, 21, 22] (by decide +kernel) (by decide +kernel)) (goodIn_sub (fun _ h => List.mem_cons_of_mem _ (List.mem_append_right _ h)) (by decide +kernel))
set_option maxRecDepth 20000 in
theorem gL_keep_X5_keep : GoodIn wsL_keep (wsV RL 66 RX5 yX5_keep wsX5_keep) := goodIn_app (goodIn_of _ (by decide +kernel)) ggL_keep_X5_keep
theorem dL_keep_0 : decode cL_keep 0 = .ok (.aload_n 1, 1) := by decide +kernel
theorem dL_keep_1 : decode cL_keep 1 = .ok (.iconst 0, 1) := by decide +kernel
theorem dL_keep_2 : decode cL_keep 2 = .ok (.aload_n 0, 1) := by decide +kernel
theorem dL_keep_3 : decode cL_keep 3 = .ok (.invokevirtual 66, 3) := by decide +kernel
theorem dL_keep_6 : decode cL_keep 6 = .ok (.i2l, 1) := by decide +kernel
theorem dL_keep_7 : decode cL_keep 7 = .ok (.lastore, 1) := by decide +kernel
theorem dL_keep_8 : decode cL_keep 8 = .ok (.goto 6, 3) := by decide +kernel
theorem dL_keep_11 : decode cL_keep 11 = .ok (.astore_n 2, 1) := by decide +kernel
theorem dL_keep_12 : decode cL_keep 12 = .ok (.iconst 1, 1) := by decide +kernel
theorem dL_keep_13 : decode cL_keep 13 = .ok (.ireturn, 1) := by decide +kernel
theorem dL_keep_14 : decode cL_keep 14 = .ok (.iconst 0, 1) := by decide +kernel
theorem dL_keep_15 : decode cL_keep 15 = .ok (.ireturn, 1) := by decide +kernel
set_option maxRecDepth 20000 in
theorem ggL_take_X5_take : GoodIn wsL_take wsX5_take := goodIn_ca (goodIn_ca (goodIn_ca (goodIn_r _ [7, 8, 9, 10, 11, 12, 13, 14, 15, 16, 17, 18, 19, 6, 20, 21, 22, 23, 24, 25, 26, 27, 28, 29, 30, 31, 32, 33, 34, 35, 36, 37, 38, 39, 40, 41, 42, 43, 44, 45, 46, 47, 48, 49, 50, 51, 52, 53, 54, 55, 56, 57, 58, 59, 60, 61, 62, 63, 64] (by decide +kernel) (by decide +kernel)) (goodIn_sub (fun _ h => List.mem_cons_of_mem _ (List.mem_append_left _ (List.mem_append_right _ h))) (by decide +kernel))) (goodIn_sub (fun _ h => List.mem_cons_of_mem _ (List.mem_append_right _ h)) (by decide +kernel))) (goodIn_sub (fun _ h => List.mem_cons_of_mem _ (List.mem_append_left _ (List.mem_append_left _ (List.mem_append_right _ h)))) (by decide +kernel))
set_option maxRecDepth 20000 in
theorem gL_take_X5_take : GoodIn wsL_take (wsV RL 70 RX5 yX5_take wsX5_take) := goodIn_app (goodIn_of _ (by decide +kernel)) ggL_take_X5_take
theorem dL_take_0 : decode cL_take 0 = .ok (.aload_n 2, 1) := by decide +kernel
theorem dL_take_1 : decode cL_take 1 = .ok (.iconst 0, 1) := by decide +kernel
theorem dL_take_2 : decode cL_take 2 = .ok (.aload_n 0, 1) := by decide +kernel
theorem dL_take_3 : decode cL_take 3 = .ok (.iload_n 1, 1) := by decide +kernel
theorem dL_take_4 : decode cL_take 4 = .ok (.invokevirtual 70, 3) := by decide +kernel
theorem dL_take_7 : decode cL_take 7 = .ok (.i2l, 1) := by decide +kernel
theorem dL_take_8 : decode cL_take 8 = .ok (.lastore, 1) := by decide +kernel
theorem dL_take_9 : decode cL_take 9 = .ok (.goto 9, 3) := by decide +kernel
theorem dL_take_12 : decode cL_take 12 = .ok (.astore_n 3, 1) := by decide +kernel
theorem dL_take_13 : decode cL_take 13 = .ok (.iconst 1, 1) := by decide +kernel
theorem dL_take_14 : decode cL_take 14 = .ok (.ireturn, 1) := by decide +kernel
theorem dL_take_15 : decode cL_take 15 = .ok (.astore_n 3, 1) := by decide +kernel
theorem dL_take_16 : decode cL_take 16 = .ok (.iconst 2, 1) := by decide +kernel
theorem dL_take_17 : decode cL_take 17 = .ok (.ireturn, 1) := by decide +kernel
theorem dL_take_18 : decode cL_take 18 = .ok (.iconst 0, 1) := by decide +kernel
theorem dL_take_19 : decode cL_take 19 = .ok (.ireturn, 1) := by decide +kernel
set_option maxRecDepth 20000 in
theorem ggL_keptPost_X5_keptPost : GoodIn wsL_keptPost wsX5_keptPost := goodIn_ca (goodIn_ca (goodIn_r _ [6, 7, 8, 9, 10, 5, 11, 12, 13, 14, 15, 16, 17, 18, 19, 20, 21, 22, 23, 24, 25, 26, 27, 28, 29, 30, 31, 32, 33, 34] (by decide +kernel) (by decide +kernel)) (goodIn_sub (fun _ h => List.mem_cons_of_mem _ (List.mem_append_left _ (List.mem_append_right _ h))) (by decide +kernel))) (goodIn_sub (fun _ h => List.mem_cons_of_mem _ (List.mem_append_right _ h)) (by decide +kernel))
set_option maxRecDepth 20000 in
theorem gL_keptPost_X5_keptPost : GoodIn wsL_keptPost (wsV RL 73 RX5 yX5_keptPost wsX5_keptPost) := goodIn_app (goodIn_of _ (by decide +kernel)) ggL_keptPost_X5_keptPost
theorem dL_keptPost_0 : decode cL_keptPost 0 = .ok (.aload_n 3, 1) := by decide +kernel
theorem dL_keptPost_1 : decode cL_keptPost 1 = .ok (.iconst 0, 1) := by decide +kernel
theorem dL_keptPost_2 : decode cL_keptPost 2 = .ok (.aload_n 0, 1) := by decide +kernel
theorem dL_keptPost_3 : decode cL_keptPost 3 = .ok (.iload_n 1, 1) := by decide +kernel
theorem dL_keptPost_4 : decode cL_keptPost 4 = .ok (.iload_n 2, 1) := by decide +kernel
theorem dL_keptPost_5 : decode cL_keptPost 5 = .ok (.invokevirtual 73, 3) := by decide +kernel
theorem dL_keptPost_8 : decode cL_keptPost 8 = .ok (.i2l, 1) := by decide +kernel
theorem dL_keptPost_9 : decode cL_keptPost 9 = .ok (.lastore, 1) := by decide +kernel
theorem dL_keptPost_10 : decode cL_keptPost 10 = .ok (.goto 7, 3) := by decide +kernel
theorem dL_keptPost_13 : decode cL_keptPost 13 = .ok (.astore 4, 2) := by decide +kernel
theorem dL_keptPost_15 : decode cL_keptPost 15 = .ok (.iconst 1, 1) := by decide +kernel
theorem dL_keptPost_16 : decode cL_keptPost 16 = .ok (.ireturn, 1) := by decide +kernel
theorem dL_keptPost_17 : decode cL_keptPost 17 = .ok (.iconst 0, 1) := by decide +kernel
theorem dL_keptPost_18 : decode cL_keptPost 18 = .ok (.ireturn, 1) := by decide +kernel
set_option maxRecDepth 20000 in
theorem ggL_votes_X5_votes : GoodIn wsL_votes wsX5_votes := goodIn_ca (goodIn_ca (goodIn_r _ [6, 7, 8, 9, 10, 5, 11, 12, 13, 14, 15, 16, 17, 18, 19, 20, 21, 22, 23, 24, 25, 26, 27, 28, 29, 30, 31, 32, 33, 34, 35, 36, 37, 38, 39, 40, 41, 42, 43, 44, 45, 46, 47, 48, 49, 50, 51] (by decide +kernel) (by decide +kernel)) (goodIn_sub (fun _ h => List.mem_cons_of_mem _ (List.mem_append_right _ h)) (by decide +kernel))) (goodIn_sub (fun _ h => List.mem_cons_of_mem _ (List.mem_append_left _ (List.mem_append_right _ h))) (by decide +kernel))
set_option maxRecDepth 20000 in
theorem gL_votes_X5_votes : GoodIn wsL_votes (wsV RL 76 RX5 yX5_votes wsX5_votes) := goodIn_app (goodIn_of _ (by decide +kernel)) ggL_votes_X5_votes
theorem dL_votes_0 : decode cL_votes 0 = .ok (.aload_n 3, 1) := by decide +kernel
theorem dL_votes_1 : decode cL_votes 1 = .ok (.iconst 0, 1) := by decide +kernel
theorem dL_votes_2 : decode cL_votes 2 = .ok (.aload_n 0, 1) := by decide +kernel
theorem dL_votes_3 : decode cL_votes 3 = .ok (.iload_n 1, 1) := by decide +kernel
theorem dL_votes_4 : decode cL_votes 4 = .ok (.iload_n 2, 1) := by decide +kernel
theorem dL_votes_5 : decode cL_votes 5 = .ok (.invokevirtual 76, 3) := by decide +kernel
theorem dL_votes_8 : decode cL_votes 8 = .ok (.i2l, 1) := by decide +kernel
theorem dL_votes_9 : decode cL_votes 9 = .ok (.lastore, 1) := by decide +kernel
theorem dL_votes_10 : decode cL_votes 10 = .ok (.goto 7, 3) := by decide +kernel
theorem dL_votes_13 : decode cL_votes 13 = .ok (.astore 4, 2) := by decide +kernel
theorem dL_votes_15 : decode cL_votes 15 = .ok (.iconst 1, 1) := by decide +kernel
theorem dL_votes_16 : decode cL_votes 16 = .ok (.ireturn, 1) := by decide +kernel
theorem dL_votes_17 : decode cL_votes 17 = .ok (.iconst 0, 1) := by decide +kernel
theorem dL_votes_18 : decode cL_votes 18 = .ok (.ireturn, 1) := by decide +kernel
set_option maxRecDepth 20000 in
theorem ggL_margin_X5_margin : GoodIn wsL_margin wsX5_margin := goodIn_ca (goodIn_ca (goodIn_r _ [6, 7, 8, 9, 10, 5, 11, 12, 13, 14, 15, 16, 17, 18, 19, 20, 21, 22, 23, 24, 25, 26, 27, 28, 29, 30, 31, 32, 33, 34, 35, 36, 37, 38, 39, 40, 41, 42, 43, 44, 45, 46, 47, 48, 49, 50, 51, 52, 53, 54, 55] (by decide +kernel) (by decide +kernel)) (goodIn_sub (fun _ h => List.mem_cons_of_mem _ (List.mem_append_right _ h)) (by decide +kernel))) (goodIn_sub (fun _ h => List.mem_cons_of_mem _ (List.mem_append_left _ (List.mem_append_right _ h))) (by decide +kernel))
set_option maxRecDepth 20000 in
theorem gL_margin_X5_margin : GoodIn wsL_margin (wsV RL 79 RX5 yX5_margin wsX5_margin) := goodIn_app (goodIn_of _ (by decide +kernel)) ggL_margin_X5_margin
theorem dL_margin_0 : decode cL_margin 0 = .ok (.aload_n 3, 1) := by decide +kernel
theorem dL_margin_1 : decode cL_margin 1 = .ok (.iconst 0, 1) := by decide +kernel
theorem dL_margin_2 : decode cL_margin 2 = .ok (.aload_n 0, 1) := by decide +kernel
theorem dL_margin_3 : decode cL_margin 3 = .ok (.iload_n 1, 1) := by decide +kernel
theorem dL_margin_4 : decode cL_margin 4 = .ok (.iload_n 2, 1) := by decide +kernel
theorem dL_margin_5 : decode cL_margin 5 = .ok (.invokevirtual 79, 3) := by decide +kernel
theorem dL_margin_8 : decode cL_margin 8 = .ok (.i2l, 1) := by decide +kernel
theorem dL_margin_9 : decode cL_margin 9 = .ok (.lastore, 1) := by decide +kernel
theorem dL_margin_10 : decode cL_margin 10 = .ok (.goto 7, 3) := by decide +kernel
theorem dL_margin_13 : decode cL_margin 13 = .ok (.astore 4, 2) := by decide +kernel
theorem dL_margin_15 : decode cL_margin 15 = .ok (.iconst 1, 1) := by decide +kernel
theorem dL_margin_16 : decode cL_margin 16 = .ok (.ireturn, 1) := by decide +kernel
theorem dL_margin_17 : decode cL_margin 17 = .ok (.iconst 0, 1) := by decide +kernel
theorem dL_margin_18 : decode cL_margin 18 = .ok (.ireturn, 1) := by decide +kernel
set_option maxRecDepth 20000 in
theorem ggL_differ_X5_differ : GoodIn wsL_differ wsX5_differ := goodIn_ca (goodIn_ca (goodIn_r _ [6, 7, 8, 9, 10, 11, 5, 12, 13, 14, 15, 16, 17, 18, 19, 20, 21, 22, 23, 24, 25, 26, 27, 28, 29, 30, 31, 32, 33, 34, 35, 36, 37, 38, 39] (by decide +kernel) (by decide +kernel)) (goodIn_sub (fun _ h => List.mem_cons_of_mem _ (List.mem_append_left _ (List.mem_append_right _ h))) (by decide +kernel))) (goodIn_sub (fun _ h => List.mem_cons_of_mem _ (List.mem_append_right _ h)) (by decide +kernel))
set_option maxRecDepth 20000 in
theorem gL_differ_X5_differ : GoodIn wsL_differ (wsV RL 82 RX5 yX5_differ wsX5_differ) := goodIn_app (goodIn_of _ (by decide +kernel)) ggL_differ_X5_differ
theorem dL_differ_0 : decode cL_differ 0 = .ok (.aload_n 3, 1) := by decide +kernel
theorem dL_differ_1 : decode cL_differ 1 = .ok (.iconst 0, 1) := by decide +kernel
theorem dL_differ_2 : decode cL_differ 2 = .ok (.aload_n 0, 1) := by decide +kernel
theorem dL_differ_3 : decode cL_differ 3 = .ok (.iload_n 1, 1) := by decide +kernel
theorem dL_differ_4 : decode cL_differ 4 = .ok (.iload_n 2, 1) := by decide +kernel
theorem dL_differ_5 : decode cL_differ 5 = .ok (.invokevirtual 82, 3) := by decide +kernel
theorem dL_differ_8 : decode cL_differ 8 = .ok (.i2l, 1) := by decide +kernel
theorem dL_differ_9 : decode cL_differ 9 = .ok (.lastore, 1) := by decide +kernel
theorem dL_differ_10 : decode cL_differ 10 = .ok (.goto 7, 3) := by decide +kernel
theorem dL_differ_13 : decode cL_differ 13 = .ok (.astore 4, 2) := by decide +kernel
theorem dL_differ_15 : decode cL_differ 15 = .ok (.iconst 1, 1) := by decide +kernel
theorem dL_differ_16 : decode cL_differ 16 = .ok (.ireturn, 1) := by decide +kernel
theorem dL_differ_17 : decode cL_differ 17 = .ok (.iconst 0, 1) := by decide +kernel
theorem dL_differ_18 : decode cL_differ 18 = .ok (.ireturn, 1) := by decide +kernel
set_option maxRecDepth 20000 in
theorem ggL_winner_X5_winner : GoodIn wsL_winner wsX5_winner := goodIn_ca (goodIn_ca (goodIn_r _ [6, 7, 8, 9, 10, 11, 12, 13, 14, 15, 16, 17, 18, 19, 20, 21, 22, 23, 24, 25, 26, 27, 28, 29, 30, 31, 32, 33, 34, 35, 36, 37, 38, 39, 40, 41, 42, 43, 44, 45, 46, 47, 48, 49, 50, 51, 52, 53, 54, 55, 56, 57, 58, 59, 60, 61] (by decide +kernel) (by decide +kernel)) (goodIn_sub (fun _ h => List.mem_cons_of_mem _ (List.mem_append_right _ h)) (by decide +kernel))) (goodIn_sub (fun _ h => List.mem_cons_of_mem _ (List.mem_append_left _ (List.mem_append_right _ h))) (by decide +kernel))
set_option maxRecDepth 20000 in
theorem gL_winner_X5_winner : GoodIn wsL_winner (wsV RL 85 RX5 yX5_winner wsX5_winner) := goodIn_app (goodIn_of _ (by decide +kernel)) ggL_winner_X5_winner
theorem dL_winner_0 : decode cL_winner 0 = .ok (.aload_n 1, 1) := by decide +kernel
theorem dL_winner_1 : decode cL_winner 1 = .ok (.iconst 0, 1) := by decide +kernel
theorem dL_winner_2 : decode cL_winner 2 = .ok (.aload_n 0, 1) := by decide +kernel
theorem dL_winner_3 : decode cL_winner 3 = .ok (.invokevirtual 85, 3) := by decide +kernel
theorem dL_winner_6 : decode cL_winner 6 = .ok (.i2l, 1) := by decide +kernel
theorem dL_winner_7 : decode cL_winner 7 = .ok (.lastore, 1) := by decide +kernel
theorem dL_winner_8 : decode cL_winner 8 = .ok (.goto 6, 3) := by decide +kernel
theorem dL_winner_11 : decode cL_winner 11 = .ok (.astore_n 2, 1) := by decide +kernel
theorem dL_winner_12 : decode cL_winner 12 = .ok (.iconst 1, 1) := by decide +kernel
theorem dL_winner_13 : decode cL_winner 13 = .ok (.ireturn, 1) := by decide +kernel
theorem dL_winner_14 : decode cL_winner 14 = .ok (.iconst 0, 1) := by decide +kernel
theorem dL_winner_15 : decode cL_winner 15 = .ok (.ireturn, 1) := by decide +kernel
set_option maxRecDepth 20000 in
theorem ggL_leadLength_X5_leadLength : GoodIn wsL_leadLength wsX5_leadLength := goodIn_ca (goodIn_ca (goodIn_ca (goodIn_r _ [7, 8, 9, 10, 11, 12, 13, 14, 15, 16, 6, 17, 18, 19, 20, 21, 22, 23, 24, 25, 26, 27, 28, 29, 30, 31, 32, 33, 34, 35, 36, 37, 38, 39, 40, 41, 42, 43, 44, 45, 46, 47, 48, 49, 50, 51, 52, 53, 54, 55, 56, 57, 58, 59, 60, 61, 62, 63, 64, 65, 66, 67, 68, 69, 70, 71, 72, 73] (by decide +kernel) (by decide +kernel)) (goodIn_sub (fun _ h => List.mem_cons_of_mem _ (List.mem_append_left _ (List.mem_append_right _ h))) (by decide +kernel))) (goodIn_sub (fun _ h => List.mem_cons_of_mem _ (List.mem_append_right _ h)) (by decide +kernel))) (goodIn_sub (fun _ h => List.mem_cons_of_mem _ (List.mem_append_left _ (List.mem_append_left _ (List.mem_append_right _ h)))) (by decide +kernel))
set_option maxRecDepth 20000 in
theorem gL_leadLength_X5_leadLength : GoodIn wsL_leadLength (wsV RL 88 RX5 yX5_leadLength wsX5_leadLength) := goodIn_app (goodIn_of _ (by decide +kernel)) ggL_leadLength_X5_leadLength
theorem dL_leadLength_0 : decode cL_leadLength 0 = .ok (.aload_n 3, 1) := by decide +kernel
theorem dL_leadLength_1 : decode cL_leadLength 1 = .ok (.iconst 0, 1) := by decide +kernel
theorem dL_leadLength_2 : decode cL_leadLength 2 = .ok (.aload_n 0, 1) := by decide +kernel
theorem dL_leadLength_3 : decode cL_leadLength 3 = .ok (.iload_n 1, 1) := by decide +kernel
theorem dL_leadLength_4 : decode cL_leadLength 4 = .ok (.iload_n 2, 1) := by decide +kernel
theorem dL_leadLength_5 : decode cL_leadLength 5 = .ok (.invokevirtual 88, 3) := by decide +kernel
theorem dL_leadLength_8 : decode cL_leadLength 8 = .ok (.i2l, 1) := by decide +kernel
theorem dL_leadLength_9 : decode cL_leadLength 9 = .ok (.lastore, 1) := by decide +kernel
theorem dL_leadLength_10 : decode cL_leadLength 10 = .ok (.goto 11, 3) := by decide +kernel
theorem dL_leadLength_13 : decode cL_leadLength 13 = .ok (.astore 4, 2) := by decide +kernel
theorem dL_leadLength_15 : decode cL_leadLength 15 = .ok (.iconst 1, 1) := by decide +kernel
theorem dL_leadLength_16 : decode cL_leadLength 16 = .ok (.ireturn, 1) := by decide +kernel
theorem dL_leadLength_17 : decode cL_leadLength 17 = .ok (.astore 4, 2) := by decide +kernel
theorem dL_leadLength_19 : decode cL_leadLength 19 = .ok (.iconst 2, 1) := by decide +kernel
theorem dL_leadLength_20 : decode cL_leadLength 20 = .ok (.ireturn, 1) := by decide +kernel
theorem dL_leadLength_21 : decode cL_leadLength 21 = .ok (.iconst 0, 1) := by decide +kernel
theorem dL_leadLength_22 : decode cL_leadLength 22 = .ok (.ireturn, 1) := by decide +kernel
set_option maxRecDepth 20000 in
theorem ggL_challenger_X5_challenger : GoodIn wsL_challenger wsX5_challenger := goodIn_ca (goodIn_ca (goodIn_r _ [6, 7, 8, 9, 10, 11, 12, 13, 5, 14, 15, 16, 17, 18, 19, 20, 21, 22, 23, 24, 25, 26, 27, 28, 29, 30, 31, 32, 33, 34, 35, 36, 37, 38, 39, 40, 41, 42, 43, 44, 45, 46, 47, 48, 49, 50, 51, 52, 53, 54, 55, 56, 57, 58, 59, 60, 61, 62, 63, 64, 65, 66, 67, 68, 69, 70, 71, 72, 73, 74, 75, 76, 77, 78, 79, 80, 81, 82, 83, 84, 85, 86, 87, 88, 89, 90, 91, 92, 93, 94, 95, 96, 97, 98, 99, 100, 101, 102, 103, 104, 105, 106, 107, 108, 109, 110, 111, 112, 113, 114, 115, 116, 117, 118, 119, 120] (by decide +kernel) (by decide +kernel)) (goodIn_sub (fun _ h => List.mem_cons_of_mem _ (List.mem_append_left _ (List.mem_append_right _ h))) (by decide +kernel))) (goodIn_sub (fun _ h => List.mem_cons_of_mem _ (List.mem_append_right _ h)) (by decide +kernel))
set_option maxRecDepth 20000 in
theorem gL_challenger_X5_challenger : GoodIn wsL_challenger (wsV RL 91 RX5 yX5_challenger wsX5_challenger) := goodIn_app (goodIn_of _ (by decide +kernel)) ggL_challenger_X5_challenger
theorem dL_challenger_0 : decode cL_challenger 0 = .ok (.aload_n 2, 1) := by decide +kernel
theorem dL_challenger_1 : decode cL_challenger 1 = .ok (.iconst 0, 1) := by decide +kernel
theorem dL_challenger_2 : decode cL_challenger 2 = .ok (.aload_n 0, 1) := by decide +kernel
theorem dL_challenger_3 : decode cL_challenger 3 = .ok (.iload_n 1, 1) := by decide +kernel
theorem dL_challenger_4 : decode cL_challenger 4 = .ok (.invokevirtual 91, 3) := by decide +kernel
theorem dL_challenger_7 : decode cL_challenger 7 = .ok (.i2l, 1) := by decide +kernel
theorem dL_challenger_8 : decode cL_challenger 8 = .ok (.lastore, 1) := by decide +kernel
theorem dL_challenger_9 : decode cL_challenger 9 = .ok (.goto 6, 3) := by decide +kernel
theorem dL_challenger_12 : decode cL_challenger 12 = .ok (.astore_n 3, 1) := by decide +kernel
theorem dL_challenger_13 : decode cL_challenger 13 = .ok (.iconst 1, 1) := by decide +kernel
theorem dL_challenger_14 : decode cL_challenger 14 = .ok (.ireturn, 1) := by decide +kernel
theorem dL_challenger_15 : decode cL_challenger 15 = .ok (.iconst 0, 1) := by decide +kernel
theorem dL_challenger_16 : decode cL_challenger 16 = .ok (.ireturn, 1) := by decide +kernel
set_option maxRecDepth 20000 in
theorem ggL_hasPopular_X5_hasPopular : GoodIn wsL_hasPopular wsX5_hasPopular := goodIn_ca (goodIn_ca (goodIn_r _ [6, 7, 8, 9, 10, 11, 5, 12, 13, 14, 15, 16, 17, 18, 19, 20, 21, 22, 23, 24, 25, 26, 27, 28, 29, 30, 31, 32, 33, 34, 35, 36, 37, 38, 39, 40, 41, 42, 43, 44, 45, 46, 47, 48, 49, 50, 51, 52, 53, 54, 55, 56, 57, 58, 59, 60, 61, 62, 63, 64, 65, 66, 67, 68, 69, 70, 71, 72, 73, 74, 75, 76, 77, 78, 79, 80, 81, 82, 83, 84, 85, 86, 87, 88, 89, 90, 91, 92, 93, 94, 95, 96, 97, 98, 99, 100, 101, 102, 103, 104, 105, 106, 107, 108, 109, 110, 111, 112, 113, 114, 115, 116, 117, 118, 119, 120, 121, 122, 123, 124, 125, 126, 127, 128, 129, 130, 131, 132, 133, 134, 135, 136, 137, 138, 139, 140, 141, 142, 143, 144] (by decide +kernel) (by decide +kernel)) (goodIn_sub (fun _ h => List.mem_cons_of_mem _ (List.mem_append_right _ h)) (by decide +kernel))) (goodIn_sub (fun _ h => List.mem_cons_of_mem _ (List.mem_append_left _ (List.mem_append_right _ h))) (by decide +kernel))
set_option maxRecDepth 20000 in
theorem gL_hasPopular_X5_hasPopular : GoodIn wsL_hasPopular (wsV RL 94 RX5 yX5_hasPopular wsX5_hasPopular) := goodIn_app (goodIn_of _ (by decide +kernel)) ggL_hasPopular_X5_hasPopular
theorem dL_hasPopular_0 : decode cL_hasPopular 0 = .ok (.aload_n 1, 1) := by decide +kernel
theorem dL_hasPopular_1 : decode cL_hasPopular 1 = .ok (.iconst 0, 1) := by decide +kernel
theorem dL_hasPopular_2 : decode cL_hasPopular 2 = .ok (.aload_n 0, 1) := by decide +kernel
theorem dL_hasPopular_3 : decode cL_hasPopular 3 = .ok (.invokevirtual 94, 3) := by decide +kernel
theorem dL_hasPopular_6 : decode cL_hasPopular 6 = .ok (.ifCond .eq 7, 3) := by decide +kernel
theorem dL_hasPopular_9 : decode cL_hasPopular 9 = .ok (.lconst 1, 1) := by decide +kernel
theorem dL_hasPopular_10 : decode cL_hasPopular 10 = .ok (.goto 4, 3) := by decide +kernel
theorem dL_hasPopular_13 : decode cL_hasPopular 13 = .ok (.lconst 0, 1) := by decide +kernel
theorem dL_hasPopular_14 : decode cL_hasPopular 14 = .ok (.lastore, 1) := by decide +kernel
theorem dL_hasPopular_15 : decode cL_hasPopular 15 = .ok (.goto 6, 3) := by decide +kernel
theorem dL_hasPopular_18 : decode cL_hasPopular 18 = .ok (.astore_n 2, 1) := by decide +kernel
theorem dL_hasPopular_19 : decode cL_hasPopular 19 = .ok (.iconst 1, 1) := by decide +kernel
theorem dL_hasPopular_20 : decode cL_hasPopular 20 = .ok (.ireturn, 1) := by decide +kernel
theorem dL_hasPopular_21 : decode cL_hasPopular 21 = .ok (.iconst 0, 1) := by decide +kernel
theorem dL_hasPopular_22 : decode cL_hasPopular 22 = .ok (.ireturn, 1) := by decide +kernel
set_option maxRecDepth 20000 in
theorem ggL_popularPost_X5_popularPost : GoodIn wsL_popularPost wsX5_popularPost := goodIn_ca (goodIn_ca (goodIn_ca (goodIn_ca (goodIn_r _ [8, 9, 10, 11, 12, 13, 14, 15, 16, 7, 17, 18, 19, 20, 21, 22, 23, 24, 25, 26, 27, 28, 29, 30, 31, 32, 33, 34, 35, 36, 37, 38, 39, 40, 41, 42, 43, 44, 45, 46, 47, 48, 49, 50, 51, 52, 53, 54, 55, 56, 57, 58, 59, 60, 61, 62, 63, 64, 65, 66, 67, 68, 69, 70, 71, 72, 73, 74, 75, 76, 77, 78, 79, 80, 81, 82, 83, 84, 85, 86, 87, 88, 89, 90, 91, 92, 93, 94, 95, 96, 97, 98, 99, 100, 101, 102, 103, 104, 105, 106, 107, 108, 109, 110, 111, 112, 113, 114, 115, 116, 117, 118, 119, 120, 121, 122, 123, 124, 125, 126, 127, 128, 129, 130, 131, 132, 133, 134, 135, 136, 137, 138, 139, 140, 141, 142, 143, 144, 145, 146, 147, 148, 149, 150, 151, 152, 153, 154, 155, 156] (by decide +kernel) (by decide +kernel)) (goodIn_sub (fun _ h => List.mem_cons_of_mem _ (List.mem_append_left _ (List.mem_append_left _ (List.mem_append_right _ h)))) (by decide +kernel))) (goodIn_sub (fun _ h => List.mem_cons_of_mem _ (List.mem_append_left _ (List.mem_append_left _ (List.mem_append_left _ (List.mem_append_right _ h))))) (by decide +kernel))) (goodIn_sub (fun _ h => List.mem_cons_of_mem _ (List.mem_append_left _ (List.mem_append_right _ h))) (by decide +kernel))) (goodIn_sub (fun _ h => List.mem_cons_of_mem _ (List.mem_append_right _ h)) (by decide +kernel))
set_option maxRecDepth 20000 in
theorem gL_popularPost_X5_popularPost : GoodIn wsL_popularPost (wsV RL 98 RX5 yX5_popularPost wsX5_popularPost) := goodIn_app (goodIn_of _ (by decide +kernel)) ggL_popularPost_X5_popularPost
theorem dL_popularPost_0 : decode cL_popularPost 0 = .ok (.aload_n 2, 1) := by decide +kernel
theorem dL_popularPost_1 : decode cL_popularPost 1 = .ok (.iconst 0, 1) := by decide +kernel
theorem dL_popularPost_2 : decode cL_popularPost 2 = .ok (.aload_n 0, 1) := by decide +kernel
theorem dL_popularPost_3 : decode cL_popularPost 3 = .ok (.iload_n 1, 1) := by decide +kernel
theorem dL_popularPost_4 : decode cL_popularPost 4 = .ok (.invokevirtual 98, 3) := by decide +kernel
theorem dL_popularPost_7 : decode cL_popularPost 7 = .ok (.i2l, 1) := by decide +kernel
theorem dL_popularPost_8 : decode cL_popularPost 8 = .ok (.lastore, 1) := by decide +kernel
theorem dL_popularPost_9 : decode cL_popularPost 9 = .ok (.goto 12, 3) := by decide +kernel
theorem dL_popularPost_12 : decode cL_popularPost 12 = .ok (.astore_n 3, 1) := by decide +kernel
theorem dL_popularPost_13 : decode cL_popularPost 13 = .ok (.iconst 1, 1) := by decide +kernel
theorem dL_popularPost_14 : decode cL_popularPost 14 = .ok (.ireturn, 1) := by decide +kernel
theorem dL_popularPost_15 : decode cL_popularPost 15 = .ok (.astore_n 3, 1) := by decide +kernel
theorem dL_popularPost_16 : decode cL_popularPost 16 = .ok (.iconst 2, 1) := by decide +kernel
theorem dL_popularPost_17 : decode cL_popularPost 17 = .ok (.ireturn, 1) := by decide +kernel
theorem dL_popularPost_18 : decode cL_popularPost 18 = .ok (.astore_n 3, 1) := by decide +kernel
theorem dL_popularPost_19 : decode cL_popularPost 19 = .ok (.iconst 3, 1) := by decide +kernel
theorem dL_popularPost_20 : decode cL_popularPost 20 = .ok (.ireturn, 1) := by decide +kernel
theorem dL_popularPost_21 : decode cL_popularPost 21 = .ok (.iconst 0, 1) := by decide +kernel
theorem dL_popularPost_22 : decode cL_popularPost 22 = .ok (.ireturn, 1) := by decide +kernel
set_option maxRecDepth 20000 in
theorem ggL_profile_X5_profile : GoodIn wsL_profile wsX5_profile := goodIn_ca (goodIn_ca (goodIn_r _ [6, 7, 8, 9, 10, 11, 5, 12, 13, 14, 15, 16, 17, 18, 19, 20, 21, 22, 23, 24, 25, 26, 27, 28, 29, 30, 31, 32, 33, 34, 35, 36, 37, 38, 39, 40] (by decide +kernel) (by decide +kernel)) (goodIn_sub (fun _ h => List.mem_cons_of_mem _ (List.mem_append_right _ h)) (by decide +kernel))) (goodIn_sub (fun _ h => List.mem_cons_of_mem _ (List.mem_append_left _ (List.mem_append_right _ h))) (by decide +kernel))
set_option maxRecDepth 20000 in
theorem gL_profile_X5_profile : GoodIn wsL_profile (wsV RL 101 RX5 yX5_profile wsX5_profile) := goodIn_app (goodIn_of _ (by decide +kernel)) ggL_profile_X5_profile
theorem dL_profile_0 : decode cL_profile 0 = .ok (.aload_n 2, 1) := by decide +kernel
theorem dL_profile_1 : decode cL_profile 1 = .ok (.iconst 0, 1) := by decide +kernel
theorem dL_profile_2 : decode cL_profile 2 = .ok (.aload_n 0, 1) := by decide +kernel
theorem dL_profile_3 : decode cL_profile 3 = .ok (.iload_n 1, 1) := by decide +kernel
theorem dL_profile_4 : decode cL_profile 4 = .ok (.invokevirtual 101, 3) := by decide +kernel
theorem dL_profile_7 : decode cL_profile 7 = .ok (.i2l, 1) := by decide +kernel
theorem dL_profile_8 : decode cL_profile 8 = .ok (.lastore, 1) := by decide +kernel
theorem dL_profile_9 : decode cL_profile 9 = .ok (.goto 6, 3) := by decide +kernel
theorem dL_profile_12 : decode cL_profile 12 = .ok (.astore_n 3, 1) := by decide +kernel
theorem dL_profile_13 : decode cL_profile 13 = .ok (.iconst 1, 1) := by decide +kernel
theorem dL_profile_14 : decode cL_profile 14 = .ok (.ireturn, 1) := by decide +kernel
theorem dL_profile_15 : decode cL_profile 15 = .ok (.iconst 0, 1) := by decide +kernel
theorem dL_profile_16 : decode cL_profile 16 = .ok (.ireturn, 1) := by decide +kernel
set_option maxRecDepth 20000 in
theorem ggL_bestProfile_X5_bestProfile : GoodIn wsL_bestProfile wsX5_bestProfile := goodIn_ca (goodIn_ca (goodIn_r _ [6, 7, 8, 9, 10, 11, 12, 5, 13, 14, 15, 16, 17, 18, 19, 20, 21, 22, 23, 24, 25, 26, 27, 28, 29, 30, 31, 32, 33, 34, 35, 36, 37, 38, 39, 40, 41, 42, 43, 44, 45, 46, 47, 48, 49, 50, 51, 52, 53, 54, 55, 56, 57, 58, 59, 60, 61, 62, 63, 64, 65, 66, 67, 68, 69, 70, 71, 72, 73, 74, 75, 76, 77, 78, 79, 80, 81, 82, 83, 84, 85, 86, 87, 88, 89, 90, 91, 92, 93, 94, 95, 96, 97, 98, 99, 100, 101, 102, 103, 104, 105, 106, 107, 108, 109, 110, 111, 112, 113, 114, 115, 116, 117, 118] (by decide +kernel) (by decide +kernel)) (goodIn_sub (fun _ h => List.mem_cons_of_mem _ (List.mem_append_right _ h)) (by decide +kernel))) (goodIn_sub (fun _ h => List.mem_cons_of_mem _ (List.mem_append_left _ (List.mem_append_right _ h))) (by decide +kernel))
set_option maxRecDepth 20000 in
theorem gL_bestProfile_X5_bestProfile : GoodIn wsL_bestProfile (wsV RL 104 RX5 yX5_bestProfile wsX5_bestProfile) := goodIn_app (goodIn_of _ (by decide +kernel)) ggL_bestProfile_X5_bestProfile
theorem dL_bestProfile_0 : decode cL_bestProfile 0 = .ok (.aload_n 2, 1) := by decide +kernel
theorem dL_bestProfile_1 : decode cL_bestProfile 1 = .ok (.iconst 0, 1) := by decide +kernel
theorem dL_bestProfile_2 : decode cL_bestProfile 2 = .ok (.aload_n 0, 1) := by decide +kernel
theorem dL_bestProfile_3 : decode cL_bestProfile 3 = .ok (.iload_n 1, 1) := by decide +kernel
theorem dL_bestProfile_4 : decode cL_bestProfile 4 = .ok (.invokevirtual 104, 3) := by decide +kernel
theorem dL_bestProfile_7 : decode cL_bestProfile 7 = .ok (.i2l, 1) := by decide +kernel
theorem dL_bestProfile_8 : decode cL_bestProfile 8 = .ok (.lastore, 1) := by decide +kernel
theorem dL_bestProfile_9 : decode cL_bestProfile 9 = .ok (.goto 6, 3) := by decide +kernel
theorem dL_bestProfile_12 : decode cL_bestProfile 12 = .ok (.astore_n 3, 1) := by decide +kernel
theorem dL_bestProfile_13 : decode cL_bestProfile 13 = .ok (.iconst 1, 1) := by decide +kernel
theorem dL_bestProfile_14 : decode cL_bestProfile 14 = .ok (.ireturn, 1) := by decide +kernel
theorem dL_bestProfile_15 : decode cL_bestProfile 15 = .ok (.iconst 0, 1) := by decide +kernel
theorem dL_bestProfile_16 : decode cL_bestProfile 16 = .ok (.ireturn, 1) := by decide +kernel
set_option maxRecDepth 20000 in
theorem ggL_bestPost_X5_bestPost : GoodIn wsL_bestPost wsX5_bestPost := goodIn_ca (goodIn_ca (goodIn_r _ [6, 7, 8, 9, 10, 11, 12, 5, 13, 14, 15, 16, 17, 18, 19, 20, 21, 22, 23, 24, 25, 26, 27, 28, 29, 30, 31, 32, 33, 34, 35, 36, 37, 38, 39, 40, 41, 42, 43, 44, 45, 46, 47, 48, 49, 50, 51, 52, 53, 54, 55, 56, 57, 58, 59, 60, 61, 62, 63, 64, 65, 66, 67, 68, 69, 70, 71, 72, 73, 74, 75, 76, 77, 78, 79, 80, 81, 82, 83, 84, 85, 86, 87, 88, 89, 90, 91, 92, 93, 94, 95, 96, 97, 98, 99, 100, 101, 102, 103, 104, 105, 106, 107] (by decide +kernel) (by decide +kernel)) (goodIn_sub (fun _ h => List.mem_cons_of_mem _ (List.mem_append_left _ (List.mem_append_right _ h))) (by decide +kernel))) (goodIn_sub (fun _ h => List.mem_cons_of_mem _ (List.mem_append_right _ h)) (by decide +kernel))
set_option maxRecDepth 20000 in
theorem gL_bestPost_X5_bestPost : GoodIn wsL_bestPost (wsV RL 107 RX5 yX5_bestPost wsX5_bestPost) := goodIn_app (goodIn_of _ (by decide +kernel)) ggL_bestPost_X5_bestPost
theorem dL_bestPost_0 : decode cL_bestPost 0 = .ok (.aload_n 2, 1) := by decide +kernel
theorem dL_bestPost_1 : decode cL_bestPost 1 = .ok (.iconst 0, 1) := by decide +kernel
theorem dL_bestPost_2 : decode cL_bestPost 2 = .ok (.aload_n 0, 1) := by decide +kernel
theorem dL_bestPost_3 : decode cL_bestPost 3 = .ok (.iload_n 1, 1) := by decide +kernel
theorem dL_bestPost_4 : decode cL_bestPost 4 = .ok (.invokevirtual 107, 3) := by decide +kernel
theorem dL_bestPost_7 : decode cL_bestPost 7 = .ok (.i2l, 1) := by decide +kernel
theorem dL_bestPost_8 : decode cL_bestPost 8 = .ok (.lastore, 1) := by decide +kernel
theorem dL_bestPost_9 : decode cL_bestPost 9 = .ok (.goto 6, 3) := by decide +kernel
theorem dL_bestPost_12 : decode cL_bestPost 12 = .ok (.astore_n 3, 1) := by decide +kernel
theorem dL_bestPost_13 : decode cL_bestPost 13 = .ok (.iconst 1, 1) := by decide +kernel
theorem dL_bestPost_14 : decode cL_bestPost 14 = .ok (.ireturn, 1) := by decide +kernel
theorem dL_bestPost_15 : decode cL_bestPost 15 = .ok (.iconst 0, 1) := by decide +kernel
theorem dL_bestPost_16 : decode cL_bestPost 16 = .ok (.ireturn, 1) := by decide +kernel
set_option maxRecDepth 20000 in
theorem ggL_isSure_X5_isSure : GoodIn wsL_isSure wsX5_isSure := goodIn_ca (goodIn_ca (goodIn_r _ [6, 7, 8, 9, 10, 11, 5, 12, 13, 14, 15, 16, 17, 18, 19, 20, 21, 22, 23, 24, 25, 26, 27, 28, 29, 30, 31, 32, 33, 34, 35, 36, 37, 38, 39, 40, 41, 42, 43, 44, 45, 46, 47, 48, 49, 50, 51, 52, 53, 54, 55, 56, 57, 58, 59, 60, 61, 62, 63, 64, 65, 66, 67, 68, 69, 70, 71, 72, 73, 74, 75, 76, 77, 78, 79, 80, 81, 82, 83, 84, 85, 86, 87, 88, 89, 90, 91, 92, 93, 94, 95, 96, 97, 98, 99, 100, 101, 102, 103, 104, 105] (by decide +kernel) (by decide +kernel)) (goodIn_sub (fun _ h => List.mem_cons_of_mem _ (List.mem_append_right _ h)) (by decide +kernel))) (goodIn_sub (fun _ h => List.mem_cons_of_mem _ (List.mem_append_left _ (List.mem_append_right _ h))) (by decide +kernel))
set_option maxRecDepth 20000 in
theorem gL_isSure_X5_isSure : GoodIn wsL_isSure (wsV RL 110 RX5 yX5_isSure wsX5_isSure) := goodIn_app (goodIn_of _ (by decide +kernel)) ggL_isSure_X5_isSure
theorem dL_isSure_0 : decode cL_isSure 0 = .ok (.aload_n 2, 1) := by decide +kernel
theorem dL_isSure_1 : decode cL_isSure 1 = .ok (.iconst 0, 1) := by decide +kernel
theorem dL_isSure_2 : decode cL_isSure 2 = .ok (.aload_n 0, 1) := by decide +kernel
theorem dL_isSure_3 : decode cL_isSure 3 = .ok (.iload_n 1, 1) := by decide +kernel
theorem dL_isSure_4 : decode cL_isSure 4 = .ok (.invokevirtual 110, 3) := by decide +kernel
theorem dL_isSure_7 : decode cL_isSure 7 = .ok (.ifCond .eq 7, 3) := by decide +kernel
theorem dL_isSure_10 : decode cL_isSure 10 = .ok (.lconst 1, 1) := by decide +kernel
theorem dL_isSure_11 : decode cL_isSure 11 = .ok (.goto 4, 3) := by decide +kernel
theorem dL_isSure_14 : decode cL_isSure 14 = .ok (.lconst 0, 1) := by decide +kernel
theorem dL_isSure_15 : decode cL_isSure 15 = .ok (.lastore, 1) := by decide +kernel
theorem dL_isSure_16 : decode cL_isSure 16 = .ok (.goto 6, 3) := by decide +kernel
theorem dL_isSure_19 : decode cL_isSure 19 = .ok (.astore_n 3, 1) := by decide +kernel
theorem dL_isSure_20 : decode cL_isSure 20 = .ok (.iconst 1, 1) := by decide +kernel
theorem dL_isSure_21 : decode cL_isSure 21 = .ok (.ireturn, 1) := by decide +kernel
theorem dL_isSure_22 : decode cL_isSure 22 = .ok (.iconst 0, 1) := by decide +kernel
theorem dL_isSure_23 : decode cL_isSure 23 = .ok (.ireturn, 1) := by decide +kernel
set_option maxRecDepth 20000 in
theorem ggL_gains_X5_gains : GoodIn wsL_gains wsX5_gains := goodIn_ca (goodIn_ca (goodIn_r _ [6, 7, 8, 9, 10, 11, 12, 5, 13, 14, 15, 16, 17, 18, 19, 20, 21, 22, 23, 24, 25, 26, 27, 28, 29, 30, 31, 32, 33, 34, 35, 36, 37, 38, 39, 40, 41, 42, 43, 44, 45, 46, 47, 48, 49, 50, 51, 52, 53, 54, 55, 56, 57, 58, 59, 60, 61, 62, 63, 64, 65, 66, 67, 68, 69, 70, 71, 72, 73, 74, 75, 76, 77, 78, 79, 80, 81, 82, 83, 84, 85, 86, 87, 88, 89, 90, 91, 92, 93, 94, 95, 96, 97, 98, 99, 100, 101, 102, 103, 104, 105, 106, 107, 108, 109, 110, 111, 112, 113, 114, 115, 116, 117, 118, 119, 120, 121, 122, 123, 124, 125, 126, 127, 128] (by decide +kernel) (by decide +kernel)) (goodIn_sub (fun _ h => List.mem_cons_of_mem _ (List.mem_append_left _ (List.mem_append_right _ h))) (by decide +kernel))) (goodIn_sub (fun _ h => List.mem_cons_of_mem _ (List.mem_append_right _ h)) (by decide +kernel))
set_option maxRecDepth 20000 in
theorem gL_gains_X5_gains : GoodIn wsL_gains (wsV RL 114 RX5 yX5_gains wsX5_gains) := goodIn_app (goodIn_of _ (by decide +kernel)) ggL_gains_X5_gains
theorem dL_gains_0 : decode cL_gains 0 = .ok (.aload_n 3, 1) := by decide +kernel
theorem dL_gains_1 : decode cL_gains 1 = .ok (.iconst 0, 1) := by decide +kernel
theorem dL_gains_2 : decode cL_gains 2 = .ok (.aload_n 0, 1) := by decide +kernel
theorem dL_gains_3 : decode cL_gains 3 = .ok (.iload_n 1, 1) := by decide +kernel
theorem dL_gains_4 : decode cL_gains 4 = .ok (.iload_n 2, 1) := by decide +kernel
theorem dL_gains_5 : decode cL_gains 5 = .ok (.invokevirtual 114, 3) := by decide +kernel
theorem dL_gains_8 : decode cL_gains 8 = .ok (.ifCond .eq 7, 3) := by decide +kernel
theorem dL_gains_11 : decode cL_gains 11 = .ok (.lconst 1, 1) := by decide +kernel
theorem dL_gains_12 : decode cL_gains 12 = .ok (.goto 4, 3) := by decide +kernel
theorem dL_gains_15 : decode cL_gains 15 = .ok (.lconst 0, 1) := by decide +kernel
theorem dL_gains_16 : decode cL_gains 16 = .ok (.lastore, 1) := by decide +kernel
theorem dL_gains_17 : decode cL_gains 17 = .ok (.goto 7, 3) := by decide +kernel
theorem dL_gains_20 : decode cL_gains 20 = .ok (.astore 4, 2) := by decide +kernel
theorem dL_gains_22 : decode cL_gains 22 = .ok (.iconst 1, 1) := by decide +kernel
theorem dL_gains_23 : decode cL_gains 23 = .ok (.ireturn, 1) := by decide +kernel
theorem dL_gains_24 : decode cL_gains 24 = .ok (.iconst 0, 1) := by decide +kernel
theorem dL_gains_25 : decode cL_gains 25 = .ok (.ireturn, 1) := by decide +kernel
set_option maxRecDepth 20000 in
theorem ggL_envies_X5_envies : GoodIn wsL_envies wsX5_envies := goodIn_ca (goodIn_ca (goodIn_r _ [6, 7, 8, 9, 5, 10, 11, 12, 13, 14, 15, 16, 17, 18, 19, 20, 21, 22, 23, 24, 25, 26, 27, 28, 29, 30, 31, 32, 33, 34, 35, 36, 37, 38, 39, 40] (by decide +kernel) (by decide +kernel)) (goodIn_sub (fun _ h => List.mem_cons_of_mem _ (List.mem_append_right _ h)) (by decide +kernel))) (goodIn_sub (fun _ h => List.mem_cons_of_mem _ (List.mem_append_left _ (List.mem_append_right _ h))) (by decide +kernel))
set_option maxRecDepth 20000 in
theorem gL_envies_X5_envies : GoodIn wsL_envies (wsV RL 118 RX5 yX5_envies wsX5_envies) := goodIn_app (goodIn_of _ (by decide +kernel)) ggL_envies_X5_envies
theorem dL_envies_0 : decode cL_envies 0 = .ok (.aload_n 3, 1) := by decide +kernel
theorem dL_envies_1 : decode cL_envies 1 = .ok (.iconst 0, 1) := by decide +kernel
theorem dL_envies_2 : decode cL_envies 2 = .ok (.aload_n 0, 1) := by decide +kernel
theorem dL_envies_3 : decode cL_envies 3 = .ok (.iload_n 1, 1) := by decide +kernel
theorem dL_envies_4 : decode cL_envies 4 = .ok (.iload_n 2, 1) := by decide +kernel
theorem dL_envies_5 : decode cL_envies 5 = .ok (.invokevirtual 118, 3) := by decide +kernel
theorem dL_envies_8 : decode cL_envies 8 = .ok (.ifCond .eq 7, 3) := by decide +kernel
theorem dL_envies_11 : decode cL_envies 11 = .ok (.lconst 1, 1) := by decide +kernel
theorem dL_envies_12 : decode cL_envies 12 = .ok (.goto 4, 3) := by decide +kernel
theorem dL_envies_15 : decode cL_envies 15 = .ok (.lconst 0, 1) := by decide +kernel
theorem dL_envies_16 : decode cL_envies 16 = .ok (.lastore, 1) := by decide +kernel
theorem dL_envies_17 : decode cL_envies 17 = .ok (.goto 7, 3) := by decide +kernel
theorem dL_envies_20 : decode cL_envies 20 = .ok (.astore 4, 2) := by decide +kernel
theorem dL_envies_22 : decode cL_envies 22 = .ok (.iconst 1, 1) := by decide +kernel
theorem dL_envies_23 : decode cL_envies 23 = .ok (.ireturn, 1) := by decide +kernel
theorem dL_envies_24 : decode cL_envies 24 = .ok (.iconst 0, 1) := by decide +kernel
theorem dL_envies_25 : decode cL_envies 25 = .ok (.ireturn, 1) := by decide +kernel
set_option maxRecDepth 20000 in
theorem ggL_matchedShare_X5_matchedShare : GoodIn wsL_matchedShare wsX5_matchedShare := goodIn_ca (goodIn_ca (goodIn_r _ [6, 7, 8, 9, 10, 11, 12, 13, 5, 14, 15, 16, 17, 18, 19, 20, 21, 22, 23, 24, 25, 26, 27, 28, 29] (by decide +kernel) (by decide +kernel)) (goodIn_sub (fun _ h => List.mem_cons_of_mem _ (List.mem_append_right _ h)) (by decide +kernel))) (goodIn_sub (fun _ h => List.mem_cons_of_mem _ (List.mem_append_left _ (List.mem_append_right _ h))) (by decide +kernel))
set_option maxRecDepth 20000 in
theorem gL_matchedShare_X5_matchedShare : GoodIn wsL_matchedShare (wsV RL 121 RX5 yX5_matchedShare wsX5_matchedShare) := goodIn_app (goodIn_of _ (by decide +kernel)) ggL_matchedShare_X5_matchedShare
theorem dL_matchedShare_0 : decode cL_matchedShare 0 = .ok (.aload_n 1, 1) := by decide +kernel
theorem dL_matchedShare_1 : decode cL_matchedShare 1 = .ok (.iconst 0, 1) := by decide +kernel
theorem dL_matchedShare_2 : decode cL_matchedShare 2 = .ok (.aload_n 0, 1) := by decide +kernel
theorem dL_matchedShare_3 : decode cL_matchedShare 3 = .ok (.invokevirtual 121, 3) := by decide +kernel
theorem dL_matchedShare_6 : decode cL_matchedShare 6 = .ok (.f2d, 1) := by decide +kernel
theorem dL_matchedShare_7 : decode cL_matchedShare 7 = .ok (.dastore, 1) := by decide +kernel
theorem dL_matchedShare_8 : decode cL_matchedShare 8 = .ok (.goto 6, 3) := by decide +kernel
theorem dL_matchedShare_11 : decode cL_matchedShare 11 = .ok (.astore_n 2, 1) := by decide +kernel
theorem dL_matchedShare_12 : decode cL_matchedShare 12 = .ok (.iconst 1, 1) := by decide +kernel
theorem dL_matchedShare_13 : decode cL_matchedShare 13 = .ok (.ireturn, 1) := by decide +kernel
theorem dL_matchedShare_14 : decode cL_matchedShare 14 = .ok (.iconst 0, 1) := by decide +kernel
theorem dL_matchedShare_15 : decode cL_matchedShare 15 = .ok (.ireturn, 1) := by decide +kernel
set_option maxRecDepth 20000 in
theorem ggL_meanRank_X5_meanRank : GoodIn wsL_meanRank wsX5_meanRank := goodIn_ca (goodIn_ca (goodIn_r _ [6, 7, 8, 9, 10, 11, 12, 13, 14, 5, 15, 16, 17, 18, 19, 20, 21, 22, 23, 24, 25, 26, 27, 28, 29, 30, 31, 32, 33, 34, 35, 36] (by decide +kernel) (by decide +kernel)) (goodIn_sub (fun _ h => List.mem_cons_of_mem _ (List.mem_append_right _ h)) (by decide +kernel))) (goodIn_sub (fun _ h => List.mem_cons_of_mem _ (List.mem_append_left _ (List.mem_append_right _ h))) (by decide +kernel))
set_option maxRecDepth 20000 in
theorem gL_meanRank_X5_meanRank : GoodIn wsL_meanRank (wsV RL 127 RX5 yX5_meanRank wsX5_meanRank) := goodIn_app (goodIn_of _ (by decide +kernel)) ggL_meanRank_X5_meanRank
theorem dL_meanRank_0 : decode cL_meanRank 0 = .ok (.aload_n 1, 1) := by decide +kernel
theorem dL_meanRank_1 : decode cL_meanRank 1 = .ok (.iconst 0, 1) := by decide +kernel
theorem dL_meanRank_2 : decode cL_meanRank 2 = .ok (.aload_n 0, 1) := by decide +kernel
theorem dL_meanRank_3 : decode cL_meanRank 3 = .ok (.invokevirtual 127, 3) := by decide +kernel
theorem dL_meanRank_6 : decode cL_meanRank 6 = .ok (.dastore, 1) := by decide +kernel
theorem dL_meanRank_7 : decode cL_meanRank 7 = .ok (.goto 6, 3) := by decide +kernel
theorem dL_meanRank_10 : decode cL_meanRank 10 = .ok (.astore_n 2, 1) := by decide +kernel
theorem dL_meanRank_11 : decode cL_meanRank 11 = .ok (.iconst 1, 1) := by decide +kernel
theorem dL_meanRank_12 : decode cL_meanRank 12 = .ok (.ireturn, 1) := by decide +kernel
theorem dL_meanRank_13 : decode cL_meanRank 13 = .ok (.iconst 0, 1) := by decide +kernel
theorem dL_meanRank_14 : decode cL_meanRank 14 = .ok (.ireturn, 1) := by decide +kernel
