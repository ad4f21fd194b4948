set_option maxRecDepth 20000 in
theorem ggL_addApplicant_X5_addApplicant : GoodIn wsL_addApplicant wsX5_addApplicant := goodIn_ca (goodIn_ca (goodIn_ca (goodIn_r _ [7, 8, 9, 10, 11, 12, 13, 14, 15, 6, 16, 17, 18, 19, 20, 21, 22, 23, 24, 25, 26, 27, 28, 29, 30, 31, 32] (by decide +kernel) (by decide +kernel)) (goodIn_sub (fun _ h => List.mem_cons_of_mem _ (List.mem_append_left _ (List.mem_append_right _ h))) (by decide +kernel))) (goodIn_sub (fun _ h => List.mem_cons_of_mem _ (List.mem_append_left _ (List.mem_append_left _ (List.mem_append_right _ h)))) (by decide +kernel))) (goodIn_sub (fun _ h => List.mem_cons_of_mem _ (List.mem_append_right _ h)) (by decide +kernel))
set_option maxRecDepth 20000 in
theorem gL_addApplicant_X5_addApplicant : GoodIn wsL_addApplicant (wsV RL 7 RX5 yX5_addApplicant wsX5_addApplicant) := goodIn_app (goodIn_of _ (by decide +kernel)) ggL_addApplicant_X5_addApplicant
theorem dL_addApplicant_0 : decode cL_addApplicant 0 = .ok (.aload_n 2, 1) := by decide +kernel
theorem dL_addApplicant_1 : decode cL_addApplicant 1 = .ok (.iconst 0, 1) := by decide +kernel
theorem dL_addApplicant_2 : decode cL_addApplicant 2 = .ok (.aload_n 0, 1) := by decide +kernel
theorem dL_addApplicant_3 : decode cL_addApplicant 3 = .ok (.iload_n 1, 1) := by decide +kernel
theorem dL_addApplicant_4 : decode cL_addApplicant 4 = .ok (.invokevirtual 7, 3) := by decide +kernel
theorem dL_addApplicant_7 : decode cL_addApplicant 7 = .ok (.i2l, 1) := by decide +kernel
theorem dL_addApplicant_8 : decode cL_addApplicant 8 = .ok (.lastore, 1) := by decide +kernel
theorem dL_addApplicant_9 : decode cL_addApplicant 9 = .ok (.goto 9, 3) := by decide +kernel
theorem dL_addApplicant_12 : decode cL_addApplicant 12 = .ok (.astore_n 3, 1) := by decide +kernel
theorem dL_addApplicant_13 : decode cL_addApplicant 13 = .ok (.iconst 1, 1) := by decide +kernel
theorem dL_addApplicant_14 : decode cL_addApplicant 14 = .ok (.ireturn, 1) := by decide +kernel
theorem dL_addApplicant_15 : decode cL_addApplicant 15 = .ok (.astore_n 3, 1) := by decide +kernel
theorem dL_addApplicant_16 : decode cL_addApplicant 16 = .ok (.iconst 2, 1) := by decide +kernel
theorem dL_addApplicant_17 : decode cL_addApplicant 17 = .ok (.ireturn, 1) := by decide +kernel
theorem dL_addApplicant_18 : decode cL_addApplicant 18 = .ok (.iconst 0, 1) := by decide +kernel
theorem dL_addApplicant_19 : decode cL_addApplicant 19 = .ok (.ireturn, 1) := by decide +kernel
set_option maxRecDepth 20000 in
theorem ggL_addPost_X5_addPost : GoodIn wsL_addPost wsX5_addPost := goodIn_ca (goodIn_ca (goodIn_ca (goodIn_r _ [7, 8, 9, 10, 11, 12, 13, 14, 15, 6, 16, 17, 18, 19, 20, 21, 22, 23, 24, 25, 26, 27, 28, 29, 30, 31, 32] (by decide +kernel) (by decide +kernel)) (goodIn_sub (fun _ h => List.mem_cons_of_mem _ (List.mem_append_left _ (List.mem_append_right _ h))) (by decide +kernel))) (goodIn_sub (fun _ h => List.mem_cons_of_mem _ (List.mem_append_left _ (List.mem_append_left _ (List.mem_append_right _ h)))) (by decide +kernel))) (goodIn_sub (fun _ h => List.mem_cons_of_mem _ (List.mem_append_right _ h)) (by decide +kernel))
set_option maxRecDepth 20000 in
theorem gL_addPost_X5_addPost : GoodIn wsL_addPost (wsV RL 17 RX5 yX5_addPost wsX5_addPost) := goodIn_app (goodIn_of _ (by decide +kernel)) ggL_addPost_X5_addPost
theorem dL_addPost_0 : decode cL_addPost 0 = .ok (.aload_n 2, 1) := by decide +kernel
theorem dL_addPost_1 : decode cL_addPost 1 = .ok (.iconst 0, 1) := by decide +kernel
theorem dL_addPost_2 : decode cL_addPost 2 = .ok (.aload_n 0, 1) := by decide +kernel
theorem dL_addPost_3 : decode cL_addPost 3 = .ok (.iload_n 1, 1) := by decide +kernel
theorem dL_addPost_4 : decode cL_addPost 4 = .ok (.invokevirtual 17, 3) := by decide +kernel
theorem dL_addPost_7 : decode cL_addPost 7 = .ok (.i2l, 1) := by decide +kernel
theorem dL_addPost_8 : decode cL_addPost 8 = .ok (.lastore, 1) := by decide +kernel
theorem dL_addPost_9 : decode cL_addPost 9 = .ok (.goto 9, 3) := by decide +kernel
theorem dL_addPost_12 : decode cL_addPost 12 = .ok (.astore_n 3, 1) := by decide +kernel
theorem dL_addPost_13 : decode cL_addPost 13 = .ok (.iconst 1, 1) := by decide +kernel
theorem dL_addPost_14 : decode cL_addPost 14 = .ok (.ireturn, 1) := by decide +kernel
theorem dL_addPost_15 : decode cL_addPost 15 = .ok (.astore_n 3, 1) := by decide +kernel
theorem dL_addPost_16 : decode cL_addPost 16 = .ok (.iconst 2, 1) := by decide +kernel
theorem dL_addPost_17 : decode cL_addPost 17 = .ok (.ireturn, 1) := by decide +kernel
theorem dL_addPost_18 : decode cL_addPost 18 = .ok (.iconst 0, 1) := by decide +kernel
theorem dL_addPost_19 : decode cL_addPost 19 = .ok (.ireturn, 1) := by decide +kernel
set_option maxRecDepth 20000 in
theorem ggL_setWeight_X5_setWeight : GoodIn wsL_setWeight wsX5_setWeight := goodIn_ca (goodIn_ca (goodIn_ca (goodIn_r _ [7, 8, 9, 10, 11, 12, 6, 13, 14, 15, 16, 17, 18, 19, 20, 21, 22, 23, 24, 25, 26, 27, 28, 29, 30, 31, 32, 33, 34, 35, 36] (by decide +kernel) (by decide +kernel)) (goodIn_sub (fun _ h => List.mem_cons_of_mem _ (List.mem_append_left _ (List.mem_append_left _ (List.mem_append_right _ h)))) (by decide +kernel))) (goodIn_sub (fun _ h => List.mem_cons_of_mem _ (List.mem_append_left _ (List.mem_append_right _ h))) (by decide +kernel))) (goodIn_sub (fun _ h => List.mem_cons_of_mem _ (List.mem_append_right _ h)) (by decide +kernel))
set_option maxRecDepth 20000 in
theorem gL_setWeight_X5_setWeight : GoodIn wsL_setWeight (wsV RL 20 RX5 yX5_setWeight wsX5_setWeight) := goodIn_app (goodIn_of _ (by decide +kernel)) ggL_setWeight_X5_setWeight
theorem dL_setWeight_0 : decode cL_setWeight 0 = .ok (.aload_n 3, 1) := by decide +kernel
theorem dL_setWeight_1 : decode cL_setWeight 1 = .ok (.iconst 0, 1) := by decide +kernel
theorem dL_setWeight_2 : decode cL_setWeight 2 = .ok (.aload_n 0, 1) := by decide +kernel
theorem dL_setWeight_3 : decode cL_setWeight 3 = .ok (.iload_n 1, 1) := by decide +kernel
theorem dL_setWeight_4 : decode cL_setWeight 4 = .ok (.iload_n 2, 1) := by decide +kernel
theorem dL_setWeight_5 : decode cL_setWeight 5 = .ok (.invokevirtual 20, 3) := by decide +kernel
theorem dL_setWeight_8 : decode cL_setWeight 8 = .ok (.i2l, 1) := by decide +kernel
theorem dL_setWeight_9 : decode cL_setWeight 9 = .ok (.lastore, 1) := by decide +kernel
theorem dL_setWeight_10 : decode cL_setWeight 10 = .ok (.goto 11, 3) := by decide +kernel
theorem dL_setWeight_13 : decode cL_setWeight 13 = .ok (.astore 4, 2) := by decide +kernel
theorem dL_setWeight_15 : decode cL_setWeight 15 = .ok (.iconst 1, 1) := by decide +kernel
theorem dL_setWeight_16 : decode cL_setWeight 16 = .ok (.ireturn, 1) := by decide +kernel
theorem dL_setWeight_17 : decode cL_setWeight 17 = .ok (.astore 4, 2) := by decide +kernel
theorem dL_setWeight_19 : decode cL_setWeight 19 = .ok (.iconst 2, 1) := by decide +kernel
theorem dL_setWeight_20 : decode cL_setWeight 20 = .ok (.ireturn, 1) := by decide +kernel
theorem dL_setWeight_21 : decode cL_setWeight 21 = .ok (.iconst 0, 1) := by decide +kernel
theorem dL_setWeight_22 : decode cL_setWeight 22 = .ok (.ireturn, 1) := by decide +kernel
set_option maxRecDepth 20000 in
theorem ggL_setPlaces_X5_setPlaces : GoodIn wsL_setPlaces wsX5_setPlaces := goodIn_ca (goodIn_ca (goodIn_ca (goodIn_ca (goodIn_r _ [8, 9, 10, 11, 12, 13, 14, 15, 16, 7, 17, 18, 19, 20, 21, 22, 23, 24, 25, 26, 27, 28, 29, 30, 31, 32, 33, 34, 35, 36, 37, 38, 39, 40, 41, 42, 43, 44, 45, 46] (by decide +kernel) (by decide +kernel)) (goodIn_sub (fun _ h => List.mem_cons_of_mem _ (List.mem_append_left _ (List.mem_append_left _ (List.mem_append_right _ h)))) (by decide +kernel))) (goodIn_sub (fun _ h => List.mem_cons_of_mem _ (List.mem_append_left _ (List.mem_append_left _ (List.mem_append_left _ (List.mem_append_right _ h))))) (by decide +kernel))) (goodIn_sub (fun _ h => List.mem_cons_of_mem _ (List.mem_append_left _ (List.mem_append_right _ h))) (by decide +kernel))) (goodIn_sub (fun _ h => List.mem_cons_of_mem _ (List.mem_append_right _ h)) (by decide +kernel))
set_option maxRecDepth 20000 in
theorem gL_setPlaces_X5_setPlaces : GoodIn wsL_setPlaces (wsV RL 26 RX5 yX5_setPlaces wsX5_setPlaces) := goodIn_app (goodIn_of _ (by decide +kernel)) ggL_setPlaces_X5_setPlaces
theorem dL_setPlaces_0 : decode cL_setPlaces 0 = .ok (.aload_n 3, 1) := by decide +kernel
theorem dL_setPlaces_1 : decode cL_setPlaces 1 = .ok (.iconst 0, 1) := by decide +kernel
theorem dL_setPlaces_2 : decode cL_setPlaces 2 = .ok (.aload_n 0, 1) := by decide +kernel
theorem dL_setPlaces_3 : decode cL_setPlaces 3 = .ok (.iload_n 1, 1) := by decide +kernel
theorem dL_setPlaces_4 : decode cL_setPlaces 4 = .ok (.iload_n 2, 1) := by decide +kernel
theorem dL_setPlaces_5 : decode cL_setPlaces 5 = .ok (.invokevirtual 26, 3) := by decide +kernel
theorem dL_setPlaces_8 : decode cL_setPlaces 8 = .ok (.i2l, 1) := by decide +kernel
theorem dL_setPlaces_9 : decode cL_setPlaces 9 = .ok (.lastore, 1) := by decide +kernel
theorem dL_setPlaces_10 : decode cL_setPlaces 10 = .ok (.goto 15, 3) := by decide +kernel
theorem dL_setPlaces_13 : decode cL_setPlaces 13 = .ok (.astore 4, 2) := by decide +kernel
theorem dL_setPlaces_15 : decode cL_setPlaces 15 = .ok (.iconst 1, 1) := by decide +kernel
theorem dL_setPlaces_16 : decode cL_setPlaces 16 = .ok (.ireturn, 1) := by decide +kernel
theorem dL_setPlaces_17 : decode cL_setPlaces 17 = .ok (.astore 4, 2) := by decide +kernel
theorem dL_setPlaces_19 : decode cL_setPlaces 19 = .ok (.iconst 2, 1) := by decide +kernel
theorem dL_setPlaces_20 : decode cL_setPlaces 20 = .ok (.ireturn, 1) := by decide +kernel
theorem dL_setPlaces_21 : decode cL_setPlaces 21 = .ok (.astore 4, 2) := by decide +kernel
theorem dL_setPlaces_23 : decode cL_setPlaces 23 = .ok (.iconst 3, 1) := by decide +kernel
theorem dL_setPlaces_24 : decode cL_setPlaces 24 = .ok (.ireturn, 1) := by decide +kernel
theorem dL_setPlaces_25 : decode cL_setPlaces 25 = .ok (.iconst 0, 1) := by decide +kernel
theorem dL_setPlaces_26 : decode cL_setPlaces 26 = .ok (.ireturn, 1) := by decide +kernel
set_option maxRecDepth 20000 in
theorem ggL_setRank_X5_setRank : GoodIn wsL_setRank wsX5_setRank := goodIn_ca (goodIn_ca (goodIn_ca (goodIn_r _ [7, 8, 9, 10, 11, 12, 6, 13, 14, 15, 16, 17, 18, 19, 20, 21, 22, 23, 24, 25, 26, 27, 28, 29, 30, 31, 32, 33, 34, 35, 36, 37, 38, 39, 40, 41, 42, 43, 44, 45, 46, 47, 48, 49, 50, 51, 52, 53, 54, 55, 56, 57] (by decide +kernel) (by decide +kernel)) (goodIn_sub (fun _ h => List.mem_cons_of_mem _ (List.mem_append_left _ (List.mem_append_left _ (List.mem_append_right _ h)))) (by decide +kernel))) (goodIn_sub (fun _ h => List.mem_cons_of_mem _ (List.mem_append_left _ (List.mem_append_right _ h))) (by decide +kernel))) (goodIn_sub (fun _ h => List.mem_cons_of_mem _ (List.mem_append_right _ h)) (by decide +kernel))
set_option maxRecDepth 20000 in
theorem gL_setRank_X5_setRank : GoodIn wsL_setRank (wsV RL 31 RX5 yX5_setRank wsX5_setRank) := goodIn_app (goodIn_of _ (by decide +kernel)) ggL_setRank_X5_setRank
theorem dL_setRank_0 : decode cL_setRank 0 = .ok (.aload 4, 2) := by decide +kernel
theorem dL_setRank_2 : decode cL_setRank 2 = .ok (.iconst 0, 1) := by decide +kernel
theorem dL_setRank_3 : decode cL_setRank 3 = .ok (.aload_n 0, 1) := by decide +kernel
theorem dL_setRank_4 : decode cL_setRank 4 = .ok (.iload_n 1, 1) := by decide +kernel
theorem dL_setRank_5 : decode cL_setRank 5 = .ok (.iload_n 2, 1) := by decide +kernel
theorem dL_setRank_6 : decode cL_setRank 6 = .ok (.iload_n 3, 1) := by decide +kernel
theorem dL_setRank_7 : decode cL_setRank 7 = .ok (.invokevirtual 31, 3) := by decide +kernel
theorem dL_setRank_10 : decode cL_setRank 10 = .ok (.i2l, 1) := by decide +kernel
theorem dL_setRank_11 : decode cL_setRank 11 = .ok (.lastore, 1) := by decide +kernel
theorem dL_setRank_12 : decode cL_setRank 12 = .ok (.goto 11, 3) := by decide +kernel
theorem dL_setRank_15 : decode cL_setRank 15 = .ok (.astore 5, 2) := by decide +kernel
theorem dL_setRank_17 : decode cL_setRank 17 = .ok (.iconst 1, 1) := by decide +kernel
theorem dL_setRank_18 : decode cL_setRank 18 = .ok (.ireturn, 1) := by decide +kernel
theorem dL_setRank_19 : decode cL_setRank 19 = .ok (.astore 5, 2) := by decide +kernel
theorem dL_setRank_21 : decode cL_setRank 21 = .ok (.iconst 2, 1) := by decide +kernel
theorem dL_setRank_22 : decode cL_setRank 22 = .ok (.ireturn, 1) := by decide +kernel
theorem dL_setRank_23 : decode cL_setRank 23 = .ok (.iconst 0, 1) := by decide +kernel
theorem dL_setRank_24 : decode cL_setRank 24 = .ok (.ireturn, 1) := by decide +kernel
set_option maxRecDepth 20000 in
theorem ggL_rankOf_X5_rankOf : GoodIn wsL_rankOf wsX5_rankOf := goodIn_ca (goodIn_ca (goodIn_r _ [6, 7, 8, 9, 10, 11, 5, 12, 13, 14, 15, 16, 17, 18, 19, 20, 21, 22, 23, 24, 25, 26, 27, 28, 29, 30, 31, 32, 33, 34] (by decide +kernel) (by decide +kernel)) (goodIn_sub (fun _ h => List.mem_cons_of_mem _ (List.mem_append_left _ (List.mem_append_right _ h))) (by decide +kernel))) (goodIn_sub (fun _ h => List.mem_cons_of_mem _ (List.mem_append_right _ h)) (by decide +kernel))
set_option maxRecDepth 20000 in
theorem gL_rankOf_X5_rankOf : GoodIn wsL_rankOf (wsV RL 35 RX5 yX5_rankOf wsX5_rankOf) := goodIn_app (goodIn_of _ (by decide +kernel)) ggL_rankOf_X5_rankOf
theorem dL_rankOf_0 : decode cL_rankOf 0 = .ok (.aload_n 3, 1) := by decide +kernel
theorem dL_rankOf_1 : decode cL_rankOf 1 = .ok (.iconst 0, 1) := by decide +kernel
theorem dL_rankOf_2 : decode cL_rankOf 2 = .ok (.aload_n 0, 1) := by decide +kernel
theorem dL_rankOf_3 : decode cL_rankOf 3 = .ok (.iload_n 1, 1) := by decide +kernel
theorem dL_rankOf_4 : decode cL_rankOf 4 = .ok (.iload_n 2, 1) := by decide +kernel
theorem dL_rankOf_5 : decode cL_rankOf 5 = .ok (.invokevirtual 35, 3) := by decide +kernel
theorem dL_rankOf_8 : decode cL_rankOf 8 = .ok (.i2l, 1) := by decide +kernel
theorem dL_rankOf_9 : decode cL_rankOf 9 = .ok (.lastore, 1) := by decide +kernel
theorem dL_rankOf_10 : decode cL_rankOf 10 = .ok (.goto 7, 3) := by decide +kernel
theorem dL_rankOf_13 : decode cL_rankOf 13 = .ok (.astore 4, 2) := by decide +kernel
theorem dL_rankOf_15 : decode cL_rankOf 15 = .ok (.iconst 1, 1) := by decide +kernel
theorem dL_rankOf_16 : decode cL_rankOf 16 = .ok (.ireturn, 1) := by decide +kernel
theorem dL_rankOf_17 : decode cL_rankOf 17 = .ok (.iconst 0, 1) := by decide +kernel
theorem dL_rankOf_18 : decode cL_rankOf 18 = .ok (.ireturn, 1) := by decide +kernel
set_option maxRecDepth 20000 in
theorem ggL_type_X5_type : GoodIn wsL_type wsX5_type := goodIn_ca (goodIn_ca (goodIn_ca (goodIn_r _ [7, 8, 9, 10, 11, 12, 13, 14, 15, 16, 17, 18, 19, 20, 21, 22, 23, 24, 25, 26, 27, 28, 29, 30, 31, 32, 33, 34, 35, 36, 37] (by decide +kernel) (by decide +kernel)) (goodIn_sub (fun _ h => List.mem_cons_of_mem _ (List.mem_append_left _ (List.mem_append_right _ h))) (by decide +kernel))) (goodIn_sub (fun _ h => List.mem_cons_of_mem _ (List.mem_append_right _ h)) (by decide +kernel))) (goodIn_sub (fun _ h => List.mem_cons_of_mem _ (List.mem_append_left _ (List.mem_append_left _ (List.mem_append_right _ h)))) (by decide +kernel))
set_option maxRecDepth 20000 in
theorem gL_type_X5_type : GoodIn wsL_type (wsV RL 38 RX5 yX5_type wsX5_type) := goodIn_app (goodIn_of _ (by decide +kernel)) ggL_type_X5_type
theorem dL_type_0 : decode cL_type 0 = .ok (.aload_n 2, 1) := by decide +kernel
theorem dL_type_1 : decode cL_type 1 = .ok (.iconst 0, 1) := by decide +kernel
theorem dL_type_2 : decode cL_type 2 = .ok (.aload_n 0, 1) := by decide +kernel
theorem dL_type_3 : decode cL_type 3 = .ok (.iload_n 1, 1) := by decide +kernel
theorem dL_type_4 : decode cL_type 4 = .ok (.invokevirtual 38, 3) := by decide +kernel
theorem dL_type_7 : decode cL_type 7 = .ok (.i2l, 1) := by decide +kernel
theorem dL_type_8 : decode cL_type 8 = .ok (.lastore, 1) := by decide +kernel
theorem dL_type_9 : decode cL_type 9 = .ok (.goto 9, 3) := by decide +kernel
theorem dL_type_12 : decode cL_type 12 = .ok (.astore_n 3, 1) := by decide +kernel
theorem dL_type_13 : decode cL_type 13 = .ok (.iconst 1, 1) := by decide +kernel
theorem dL_type_14 : decode cL_type 14 = .ok (.ireturn, 1) := by decide +kernel
theorem dL_type_15 : decode cL_type 15 = .ok (.astore_n 3, 1) := by decide +kernel
theorem dL_type_16 : decode cL_type 16 = .ok (.iconst 2, 1) := by decide +kernel
theorem dL_type_17 : decode cL_type 17 = .ok (.ireturn, 1) := by decide +kernel
theorem dL_type_18 : decode cL_type 18 = .ok (.iconst 0, 1) := by decide +kernel
theorem dL_type_19 : decode cL_type 19 = .ok (.ireturn, 1) := by decide +kernel
set_option maxRecDepth 20000 in
theorem ggL_tell_X5_tell : GoodIn wsL_tell wsX5_tell := goodIn_ca (goodIn_ca (goodIn_ca (goodIn_r _ [7, 8, 9, 10, 11, 12, 13, 14, 15, 16, 17, 18, 6, 19, 20, 21, 22, 23, 24, 25, 26, 27, 28, 29, 30, 31, 32, 33, 34, 35, 36, 37, 38, 39, 40, 41, 42, 43, 44, 45, 46, 47, 48, 49, 50, 51, 52, 53, 54, 55, 56, 57, 58, 59, 60, 61, 62, 63, 64, 65, 66, 67] (by decide +kernel) (by decide +kernel)) (goodIn_sub (fun _ h => List.mem_cons_of_mem _ (List.mem_append_left _ (List.mem_append_right _ h))) (by decide +kernel))) (goodIn_sub (fun _ h => List.mem_cons_of_mem _ (List.mem_append_left _ (List.mem_append_left _ (List.mem_append_right _ h)))) (by decide +kernel))) (goodIn_sub (fun _ h => List.mem_cons_of_mem _ (List.mem_append_right _ h)) (by decide +kernel))
set_option maxRecDepth 20000 in
theorem gL_tell_X5_tell : GoodIn wsL_tell (wsV RL 42 RX5 yX5_tell wsX5_tell) := goodIn_app (goodIn_of _ (by decide +kernel)) ggL_tell_X5_tell
theorem dL_tell_0 : decode cL_tell 0 = .ok (.aload_n 2, 1) := by decide +kernel
theorem dL_tell_1 : decode cL_tell 1 = .ok (.iconst 0, 1) := by decide +kernel
theorem dL_tell_2 : decode cL_tell 2 = .ok (.aload_n 0, 1) := by decide +kernel
theorem dL_tell_3 : decode cL_tell 3 = .ok (.iload_n 1, 1) := by decide +kernel
theorem dL_tell_4 : decode cL_tell 4 = .ok (.invokevirtual 42, 3) := by decide +kernel
theorem dL_tell_7 : decode cL_tell 7 = .ok (.i2l, 1) := by decide +kernel
theorem dL_tell_8 : decode cL_tell 8 = .ok (.lastore, 1) := by decide +kernel
theorem dL_tell_9 : decode cL_tell 9 = .ok (.goto 9, 3) := by decide +kernel
theorem dL_tell_12 : decode cL_tell 12 = .ok (.astore_n 3, 1) := by decide +kernel
theorem dL_tell_13 : decode cL_tell 13 = .ok (.iconst 1, 1) := by decide +kernel
theorem dL_tell_14 : decode cL_tell 14 = .ok (.ireturn, 1) := by decide +kernel
theorem dL_tell_15 : decode cL_tell 15 = .ok (.astore_n 3, 1) := by decide +kernel
theorem dL_tell_16 : decode cL_tell 16 = .ok (.iconst 2, 1) := by decide +kernel
theorem dL_tell_17 : decode cL_tell 17 = .ok (.ireturn, 1) := by decide +kernel
theorem dL_tell_18 : decode cL_tell 18 = .ok (.iconst 0, 1) := by decide +kernel
theorem dL_tell_19 : decode cL_tell 19 = .ok (.ireturn, 1) := by decide +kernel
set_option maxRecDepth 20000 in
theorem ggL_textLength_X5_textLength : GoodIn wsL_textLength wsX5_textLength := goodIn_ca (goodIn_ca (goodIn_r _ [6, 7, 8, 9, 10, 5, 11, 12, 13, 14, 15, 16, 17, 18, 19, 20, 21, 22, 23, 24, 25, 26, 27, 28, 29, 30, 31, 32, 33, 34, 35, 36, 37, 38, 39, 40] (by decide +kernel) (by decide +kernel)) (goodIn_sub (fun _ h => List.mem_cons_of_mem _ (List.mem_append_right _ h)) (by decide +kernel))) (goodIn_sub (fun _ h => List.mem_cons_of_mem _ (List.mem_append_left _ (List.mem_append_right _ h))) (by decide +kernel))
set_option maxRecDepth 20000 in
theorem gL_textLength_X5_textLength : GoodIn wsL_textLength (wsV RL 45 RX5 yX5_textLength wsX5_textLength) := goodIn_app (goodIn_of _ (by decide +kernel)) ggL_textLength_X5_textLength
theorem dL_textLength_0 : decode cL_textLength 0 = .ok (.aload_n 2, 1) := by decide +kernel
theorem dL_textLength_1 : decode cL_textLength 1 = .ok (.iconst 0, 1) := by decide +kernel
theorem dL_textLength_2 : decode cL_textLength 2 = .ok (.aload_n 0, 1) := by decide +kernel
theorem dL_textLength_3 : decode cL_textLength 3 = .ok (.iload_n 1, 1) := by decide +kernel
theorem dL_textLength_4 : decode cL_textLength 4 = .ok (.invokevirtual 45, 3) := by decide +kernel
theorem dL_textLength_7 : decode cL_textLength 7 = .ok (.i2l, 1) := by decide +kernel
theorem dL_textLength_8 : decode cL_textLength 8 = .ok (.lastore, 1) := by decide +kernel
theorem dL_textLength_9 : decode cL_textLength 9 = .ok (.goto 6, 3) := by decide +kernel
theorem dL_textLength_12 : decode cL_textLength 12 = .ok (.astore_n 3, 1) := by decide +kernel
theorem dL_textLength_13 : decode cL_textLength 13 = .ok (.iconst 1, 1) := by decide +kernel
theorem dL_textLength_14 : decode cL_textLength 14 = .ok (.ireturn, 1) := by decide +kernel
theorem dL_textLength_15 : decode cL_textLength 15 = .ok (.iconst 0, 1) := by decide +kernel
theorem dL_textLength_16 : decode cL_textLength 16 = .ok (.ireturn, 1) := by decide +kernel
set_option maxRecDepth 20000 in
theorem ggL_textAt_X5_textAt : GoodIn wsL_textAt wsX5_textAt := goodIn_ca (goodIn_ca (goodIn_ca (goodIn_r _ [7, 8, 9, 10, 11, 12, 13, 14, 6, 15, 16, 17, 18, 19, 20, 21, 22, 23, 24, 25, 26, 27, 28, 29, 30, 31, 32, 33, 34, 35, 36, 37, 38, 39, 40, 41, 42, 43, 44] (by decide +kernel) (by decide +kernel)) (goodIn_sub (fun _ h => List.mem_cons_of_mem _ (List.mem_append_left _ (List.mem_append_right _ h))) (by decide +kernel))) (goodIn_sub (fun _ h => List.mem_cons_of_mem _ (List.mem_append_left _ (List.mem_append_left _ (List.mem_append_right _ h)))) (by decide +kernel))) (goodIn_sub (fun _ h => List.mem_cons_of_mem _ (List.mem_append_right _ h)) (by decide +kernel))
set_option maxRecDepth 20000 in
theorem gL_textAt_X5_textAt : GoodIn wsL_textAt (wsV RL 48 RX5 yX5_textAt wsX5_textAt) := goodIn_app (goodIn_of _ (by decide +kernel)) ggL_textAt_X5_textAt
theorem dL_textAt_0 : decode cL_textAt 0 = .ok (.aload_n 3, 1) := by decide +kernel
theorem dL_textAt_1 : decode cL_textAt 1 = .ok (.iconst 0, 1) := by decide +kernel
theorem dL_textAt_2 : decode cL_textAt 2 = .ok (.aload_n 0, 1) := by decide +kernel
theorem dL_textAt_3 : decode cL_textAt 3 = .ok (.iload_n 1, 1) := by decide +kernel
theorem dL_textAt_4 : decode cL_textAt 4 = .ok (.iload_n 2, 1) := by decide +kernel
theorem dL_textAt_5 : decode cL_textAt 5 = .ok (.invokevirtual 48, 3) := by decide +kernel
theorem dL_textAt_8 : decode cL_textAt 8 = .ok (.i2l, 1) := by decide +kernel
theorem dL_textAt_9 : decode cL_textAt 9 = .ok (.lastore, 1) := by decide +kernel
theorem dL_textAt_10 : decode cL_textAt 10 = .ok (.goto 11, 3) := by decide +kernel
theorem dL_textAt_13 : decode cL_textAt 13 = .ok (.astore 4, 2) := by decide +kernel
theorem dL_textAt_15 : decode cL_textAt 15 = .ok (.iconst 1, 1) := by decide +kernel
theorem dL_textAt_16 : decode cL_textAt 16 = .ok (.ireturn, 1) := by decide +kernel
theorem dL_textAt_17 : decode cL_textAt 17 = .ok (.astore 4, 2) := by decide +kernel
theorem dL_textAt_19 : decode cL_textAt 19 = .ok (.iconst 2, 1) := by decide +kernel
theorem dL_textAt_20 : decode cL_textAt 20 = .ok (.ireturn, 1) := by decide +kernel
theorem dL_textAt_21 : decode cL_textAt 21 = .ok (.iconst 0, 1) := by decide +kernel
theorem dL_textAt_22 : decode cL_textAt 22 = .ok (.ireturn, 1) := by decide +kernel
set_option maxRecDepth 20000 in
theorem ggL_assign_X5_assign : GoodIn wsL_assign wsX5_assign := goodIn_ca (goodIn_ca (goodIn_ca (goodIn_r _ [7, 8, 9, 10, 11, 12, 13, 14, 6, 15, 16, 17, 18, 19, 20, 21, 22, 23, 24, 25, 26, 27, 28, 29, 30, 31, 32, 33, 34, 35, 36, 37, 38, 39, 40, 41, 42, 43, 44, 45, 46, 47, 48, 49, 50, 51, 52, 53, 54, 55, 56, 57, 58] (by decide +kernel) (by decide +kernel)) (goodIn_sub (fun _ h => List.mem_cons_of_mem _ (List.mem_append_left _ (List.mem_append_left _ (List.mem_append_right _ h)))) (by decide +kernel))) (goodIn_sub (fun _ h => List.mem_cons_of_mem _ (List.mem_append_left _ (List.mem_append_right _ h))) (by decide +kernel))) (goodIn_sub (fun _ h => List.mem_cons_of_mem _ (List.mem_append_right _ h)) (by decide +kernel))
set_option maxRecDepth 20000 in
theorem gL_assign_X5_assign : GoodIn wsL_assign (wsV RL 54 RX5 yX5_assign wsX5_assign) := goodIn_app (goodIn_of _ (by decide +kernel)) ggL_assign_X5_assign
theorem dL_assign_0 : decode cL_assign 0 = .ok (.aload_n 3, 1) := by decide +kernel
theorem dL_assign_1 : decode cL_assign 1 = .ok (.iconst 0, 1) := by decide +kernel
theorem dL_assign_2 : decode cL_assign 2 = .ok (.aload_n 0, 1) := by decide +kernel
theorem dL_assign_3 : decode cL_assign 3 = .ok (.iload_n 1, 1) := by decide +kernel
theorem dL_assign_4 : decode cL_assign 4 = .ok (.iload_n 2, 1) := by decide +kernel
theorem dL_assign_5 : decode cL_assign 5 = .ok (.invokevirtual 54, 3) := by decide +kernel
theorem dL_assign_8 : decode cL_assign 8 = .ok (.i2l, 1) := by decide +kernel
theorem dL_assign_9 : decode cL_assign 9 = .ok (.lastore, 1) := by decide +kernel
theorem dL_assign_10 : decode cL_assign 10 = .ok (.goto 11, 3) := by decide +kernel
theorem dL_assign_13 : decode cL_assign 13 = .ok (.astore 4, 2) := by decide +kernel
theorem dL_assign_15 : decode cL_assign 15 = .ok (.iconst 1, 1) := by decide +kernel
theorem dL_assign_16 : decode cL_assign 16 = .ok (.ireturn, 1) := by decide +kernel
theorem dL_assign_17 : decode cL_assign 17 = .ok (.astore 4, 2) := by decide +kernel
theorem dL_assign_19 : decode cL_assign 19 = .ok (.iconst 2, 1) := by decide +kernel
theorem dL_assign_20 : decode cL_assign 20 = .ok (.ireturn, 1) := by decide +kernel
theorem dL_assign_21 : decode cL_assign 21 = .ok (.iconst 0, 1) := by decide +kernel
theorem dL_assign_22 : decode cL_assign 22 = .ok (.ireturn, 1) := by decide +kernel
set_option maxRecDepth 20000 in
theorem ggL_release_X5_release : GoodIn wsL_release wsX5_release := goodIn_ca (goodIn_ca (goodIn_ca (goodIn_r _ [7, 8, 9, 10, 11, 12, 13, 6, 14, 15, 16, 17, 18, 19, 20, 21, 22, 23, 24, 25, 26, 27, 28, 29, 30, 31, 32] (by decide +kernel) (by decide +kernel)) (goodIn_sub (fun _ h => List.mem_cons_of_mem _ (List.mem_append_left _ (List.mem_append_left _ (List.mem_append_right _ h)))) (by decide +kernel))) (goodIn_sub (fun _ h => List.mem_cons_of_mem _ (List.mem_append_left _ (List.mem_append_right _ h))) (by decide +kernel))) (goodIn_sub (fun _ h => List.mem_cons_of_mem _ (List.mem_append_right _ h)) (by decide +kernel))
set_option maxRecDepth 20000 in
theorem gL_release_X5_release : GoodIn wsL_release (wsV RL 57 RX5 yX5_release wsX5_release) := goodIn_app (goodIn_of _ (by decide +kernel)) ggL_release_X5_release
theorem dL_release_0 : decode cL_release 0 = .ok (.aload_n 2, 1) := by decide +kernel
theorem dL_release_1 : decode cL_release 1 = .ok (.iconst 0, 1) := by decide +kernel
theorem dL_release_2 : decode cL_release 2 = .ok (.aload_n 0, 1) := by decide +kernel
theorem dL_release_3 : decode cL_release 3 = .ok (.iload_n 1, 1) := by decide +kernel
theorem dL_release_4 : decode cL_release 4 = .ok (.invokevirtual 57, 3) := by decide +kernel
theorem dL_release_7 : decode cL_release 7 = .ok (.i2l, 1) := by decide +kernel
theorem dL_release_8 : decode cL_release 8 = .ok (.lastore, 1) := by decide +kernel
theorem dL_release_9 : decode cL_release 9 = .ok (.goto 9, 3) := by decide +kernel
theorem dL_release_12 : decode cL_release 12 = .ok (.astore_n 3, 1) := by decide +kernel
theorem dL_release_13 : decode cL_release 13 = .ok (.iconst 1, 1) := by decide +kernel
theorem dL_release_14 : decode cL_release 14 = .ok (.ireturn, 1) := by decide +kernel
theorem dL_release_15 : decode cL_release 15 = .ok (.astore_n 3, 1) := by decide +kernel
theorem dL_release_16 : decode cL_release 16 = .ok (.iconst 2, 1) := by decide +kernel
theorem dL_release_17 : decode cL_release 17 = .ok (.ireturn, 1) := by decide +kernel
theorem dL_release_18 : decode cL_release 18 = .ok (.iconst 0, 1) := by decide +kernel
theorem dL_release_19 : decode cL_release 19 = .ok (.ireturn, 1) := by decide +kernel
set_option maxRecDepth 20000 in
theorem ggL_postOf_X5_postOf : GoodIn wsL_postOf wsX5_postOf := goodIn_ca (goodIn_ca (goodIn_r _ [6, 7, 8, 9, 10, 5, 11, 12, 13, 14, 15, 16, 17, 18, 19, 20, 21, 22, 23, 24, 25, 26, 27, 28, 29] (by decide +kernel) (by decide +kernel)) (goodIn_sub (fun _ h => List.mem_cons_of_mem _ (List.mem_append_left _ (List.mem_append_right _ h))) (by decide +kernel))) (goodIn_sub (fun _ h => List.mem_cons_of_mem _ (List.mem_append_right _ h)) (by decide +kernel))
set_option maxRecDepth 20000 in
theorem gL_postOf_X5_postOf : GoodIn wsL_postOf (wsV RL 60 RX5 yX5_postOf wsX5_postOf) := goodIn_app (goodIn_of _ (by decide +kernel)) ggL_postOf_X5_postOf
theorem dL_postOf_0 : decode cL_postOf 0 = .ok (.aload_n 2, 1) := by decide +kernel
theorem dL_postOf_1 : decode cL_postOf 1 = .ok (.iconst 0, 1) := by decide +kernel
theorem dL_postOf_2 : decode cL_postOf 2 = .ok (.aload_n 0, 1) := by decide +kernel
theorem dL_postOf_3 : decode cL_postOf 3 = .ok (.iload_n 1, 1) := by decide +kernel
theorem dL_postOf_4 : decode cL_postOf 4 = .ok (.invokevirtual 60, 3) := by decide +kernel
theorem dL_postOf_7 : decode cL_postOf 7 = .ok (.i2l, 1) := by decide +kernel
theorem dL_postOf_8 : decode cL_postOf 8 = .ok (.lastore, 1) := by decide +kernel
theorem dL_postOf_9 : decode cL_postOf 9 = .ok (.goto 6, 3) := by decide +kernel
theorem dL_postOf_12 : decode cL_postOf 12 = .ok (.astore_n 3, 1) := by decide +kernel
theorem dL_postOf_13 : decode cL_postOf 13 = .ok (.iconst 1, 1) := by decide +kernel
theorem dL_postOf_14 : decode cL_postOf 14 = .ok (.ireturn, 1) := by decide +kernel
theorem dL_postOf_15 : decode cL_postOf 15 = .ok (.iconst 0, 1) := by decide +kernel
theorem dL_postOf_16 : decode cL_postOf 16 = .ok (.ireturn, 1) := by decide +kernel
set_option maxRecDepth 20000 in
theorem ggL_freeOf_X5_freeOf : GoodIn wsL_freeOf wsX5_freeOf := goodIn_ca (goodIn_ca (goodIn_r _ [6, 7, 8, 9, 5, 10, 11, 12, 13, 14, 15, 16, 17, 18, 19, 20, 21, 22, 23, 24, 25, 26, 27, 28, 29, 30, 31, 32, 33, 34, 35, 36, 37, 38, 39, 40] (by decide +kernel) (by decide +kernel)) (goodIn_sub (fun _ h => List.mem_cons_of_mem _ (List.mem_append_right _ h)) (by decide +kernel))) (goodIn_sub (fun _ h => List.mem_cons_of_mem _ (List.mem_append_left _ (List.mem_append_right _ h))) (by decide +kernel))
set_option maxRecDepth 20000 in
theorem gL_freeOf_X5_freeOf : GoodIn wsL_freeOf (wsV RL 63 RX5 yX5_freeOf wsX5_freeOf) := goodIn_app (goodIn_of _ (by decide +kernel)) ggL_freeOf_X5_freeOf
theorem dL_freeOf_0 : decode cL_freeOf 0 = .ok (.aload_n 2, 1) := by decide +kernel
theorem dL_freeOf_1 : decode cL_freeOf 1 = .ok (.iconst 0, 1) := by decide +kernel
theorem dL_freeOf_2 : decode cL_freeOf 2 = .ok (.aload_n 0, 1) := by decide +kernel
theorem dL_freeOf_3 : decode cL_freeOf 3 = .ok (.iload_n 1, 1) := by decide +kernel
theorem dL_freeOf_4 : decode cL_freeOf 4 = .ok (.invokevirtual 63, 3) := by decide +kernel
theorem dL_freeOf_7 : decode cL_freeOf 7 = .ok (.i2l, 1) := by decide +kernel
theorem dL_freeOf_8 : decode cL_freeOf 8 = .ok (.lastore, 1) := by decide +kernel
theorem dL_freeOf_9 : decode cL_freeOf 9 = .ok (.goto 6, 3) := by decide +kernel
theorem dL_freeOf_12 : decode cL_freeOf 12 = .ok (.astore_n 3, 1) := by decide +kernel
theorem dL_freeOf_13 : decode cL_freeOf 13 = .ok (.iconst 1, 1) := by decide +kernel
theorem dL_freeOf_14 : decode cL_freeOf 14 = .ok (.ireturn, 1) := by decide +kernel
theorem dL_freeOf_15 : decode cL_freeOf 15 = .ok (.iconst 0, 1) := by decide +kernel
theorem dL_freeOf_16 : decode cL_freeOf 16 = .ok (.ireturn, 1) := by decide +kernel
set_option maxRecDepth 20000 in
theorem ggL_keep_X5_keep : GoodIn wsL_keep wsX5_keep := goodIn_ca (goodIn_r _ [6, 7, 8, 9, 10, 11, 12, 13, 14, 15, 16, 17, 18, 19, 20, 21, 22] (by decide +kernel) (by decide +kernel)) (goodIn_sub (fun _ h => List.mem_cons_of_mem _ (List.mem_append_right _ h)) (by decide +kernel))
set_option maxRecDepth 20000 in
theorem gL_keep_X5_keep : GoodIn wsL_keep (wsV RL 66 RX5 yX5_keep wsX5_keep) := goodIn_app (goodIn_of _ (by decide +kernel)) ggL_keep_X5_keep
theorem dL_keep_0 : decode cL_keep 0 = .ok (.aload_n 1, 1) := by decide +kernel
theorem dL_keep_1 : decode cL_keep 1 = .ok (.iconst 0, 1) := by decide +kernel
theorem dL_keep_2 : decode cL_keep 2 = .ok (.aload_n 0, 1) := by decide +kernel
theorem dL_keep_3 : decode cL_keep 3 = .ok (.invokevirtual 66, 3) := by decide +kernel
theorem dL_keep_6 : decode cL_keep 6 = .ok (.i2l, 1) := by decide +kernel
theorem dL_keep_7 : decode cL_keep 7 = .ok (.lastore, 1) := by decide +kernel
theorem dL_keep_8 : decode cL_keep 8 = .ok (.goto 6, 3) := by decide +kernel
theorem dL_keep_11 : decode cL_keep 11 = .ok (.astore_n 2, 1) := by decide +kernel
theorem dL_keep_12 : decode cL_keep 12 = .ok (.iconst 1, 1) := by decide +kernel
theorem dL_keep_13 : decode cL_keep 13 = .ok (.ireturn, 1) := by decide +kernel
theorem dL_keep_14 : decode cL_keep 14 = .ok (.iconst 0, 1) := by decide +kernel
theorem dL_keep_15 : decode cL_keep 15 = .ok (.ireturn, 1) := by decide +kernel
set_option maxRecDepth 20000 in
theorem ggL_take_X5_take : GoodIn wsL_take wsX5_take := goodIn_ca (goodIn_ca (goodIn_ca (goodIn_r _ [7, 8, 9, 10, 11, 12, 13, 14, 15, 16, 17, 18, 19, 6, 20, 21, 22, 23, 24, 25, 26, 27, 28, 29, 30, 31, 32, 33, 34, 35, 36, 37, 38, 39, 40, 41, 42, 43, 44, 45, 46, 47, 48, 49, 50, 51, 52, 53, 54, 55, 56, 57, 58, 59, 60, 61, 62, 63, 64] (by decide +kernel) (by decide +kernel)) (goodIn_sub (fun _ h => List.mem_cons_of_mem _ (List.mem_append_left _ (List.mem_append_right _ h))) (by decide +kernel))) (goodIn_sub (fun _ h => List.mem_cons_of_mem _ (List.mem_append_right _ h)) (by decide +kernel))) (goodIn_sub (fun _ h => List.mem_cons_of_mem _ (List.mem_append_left _ (List.mem_append_left _ (List.mem_append_right _ h)))) (by decide +kernel))
set_option maxRecDepth 20000 in
theorem gL_take_X5_take : GoodIn wsL_take (wsV RL 70 RX5 yX5_take wsX5_take) := goodIn_app (goodIn_of _ (by decide +kernel)) ggL_take_X5_take
theorem dL_take_0 : decode cL_take 0 = .ok (.aload_n 2, 1) := by decide +kernel
theorem dL_take_1 : decode cL_take 1 = .ok (.iconst 0, 1) := by decide +kernel
theorem dL_take_2 : decode cL_take 2 = .ok (.aload_n 0, 1) := by decide +kernel
theorem dL_take_3 : decode cL_take 3 = .ok (.iload_n 1, 1) := by decide +kernel
theorem dL_take_4 : decode cL_take 4 = .ok (.invokevirtual 70, 3) := by decide +kernel
theorem dL_take_7 : decode cL_take 7 = .ok (.i2l, 1) := by decide +kernel
theorem dL_take_8 : decode cL_take 8 = .ok (.lastore, 1) := by decide +kernel
theorem dL_take_9 : decode cL_take 9 = .ok (.goto 9, 3) := by decide +kernel
theorem dL_take_12 : decode cL_take 12 = .ok (.astore_n 3, 1) := by decide +kernel
theorem dL_take_13 : decode cL_take 13 = .ok (.iconst 1, 1) := by decide +kernel
theorem dL_take_14 : decode cL_take 14 = .ok (.ireturn, 1) := by decide +kernel
theorem dL_take_15 : decode cL_take 15 = .ok (.astore_n 3, 1) := by decide +kernel
theorem dL_take_16 : decode cL_take 16 = .ok (.iconst 2, 1) := by decide +kernel
theorem dL_take_17 : decode cL_take 17 = .ok (.ireturn, 1) := by decide +kernel
theorem dL_take_18 : decode cL_take 18 = .ok (.iconst 0, 1) := by decide +kernel
theorem dL_take_19 : decode cL_take 19 = .ok (.ireturn, 1) := by decide +kernel
set_option maxRecDepth 20000 in
theorem ggL_keptPost_X5_keptPost : GoodIn wsL_keptPost wsX5_keptPost := goodIn_ca (goodIn_ca (goodIn_r _ [6, 7, 8, 9, 10, 5, 11, 12, 13, 14, 15, 16, 17, 18, 19, 20, 21, 22, 23, 24, 25, 26, 27, 28, 29, 30, 31, 32, 33, 34] (by decide +kernel) (by decide +kernel)) (goodIn_sub (fun _ h => List.mem_cons_of_mem _ (List.mem_append_left _ (List.mem_append_right _ h))) (by decide +kernel))) (goodIn_sub (fun _ h => List.mem_cons_of_mem _ (List.mem_append_right _ h)) (by decide +kernel))
set_option maxRecDepth 20000 in
theorem gL_keptPost_X5_keptPost : GoodIn wsL_keptPost (wsV RL 73 RX5 yX5_keptPost wsX5_keptPost) := goodIn_app (goodIn_of _ (by decide +kernel)) ggL_keptPost_X5_keptPost
theorem dL_keptPost_0 : decode cL_keptPost 0 = .ok (.aload_n 3, 1) := by decide +kernel
theorem dL_keptPost_1 : decode cL_keptPost 1 = .ok (.iconst 0, 1) := by decide +kernel
theorem dL_keptPost_2 : decode cL_keptPost 2 = .ok (.aload_n 0, 1) := by decide +kernel
theorem dL_keptPost_3 : decode cL_keptPost 3 = .ok (.iload_n 1, 1) := by decide +kernel
theorem dL_keptPost_4 : decode cL_keptPost 4 = .ok (.iload_n 2, 1) := by decide +kernel
theorem dL_keptPost_5 : decode cL_keptPost 5 = .ok (.invokevirtual 73, 3) := by decide +kernel
theorem dL_keptPost_8 : decode cL_keptPost 8 = .ok (.i2l, 1) := by decide +kernel
theorem dL_keptPost_9 : decode cL_keptPost 9 = .ok (.lastore, 1) := by decide +kernel
theorem dL_keptPost_10 : decode cL_keptPost 10 = .ok (.goto 7, 3) := by decide +kernel
theorem dL_keptPost_13 : decode cL_keptPost 13 = .ok (.astore 4, 2) := by decide +kernel
theorem dL_keptPost_15 : decode cL_keptPost 15 = .ok (.iconst 1, 1) := by decide +kernel
theorem dL_keptPost_16 : decode cL_keptPost 16 = .ok (.ireturn, 1) := by decide +kernel
theorem dL_keptPost_17 : decode cL_keptPost 17 = .ok (.iconst 0, 1) := by decide +kernel
theorem dL_keptPost_18 : decode cL_keptPost 18 = .ok (.ireturn, 1) := by decide +kernel
set_option maxRecDepth 20000 in
theorem ggL_votes_X5_votes : GoodIn wsL_votes wsX5_votes := goodIn_ca (goodIn_ca (goodIn_r _ [6, 7, 8, 9, 10, 5, 11, 12, 13, 14, 15, 16, 17, 18, 19, 20, 21, 22, 23, 24, 25, 26, 27, 28, 29, 30, 31, 32, 33, 34, 35, 36, 37, 38, 39, 40, 41, 42, 43, 44, 45, 46, 47, 48, 49, 50, 51] (by decide +kernel) (by decide +kernel)) (goodIn_sub (fun _ h => List.mem_cons_of_mem _ (List.mem_append_right _ h)) (by decide +kernel))) (goodIn_sub (fun _ h => List.mem_cons_of_mem _ (List.mem_append_left _ (List.mem_append_right _ h))) (by decide +kernel))
set_option maxRecDepth 20000 in
theorem gL_votes_X5_votes : GoodIn wsL_votes (wsV RL 76 RX5 yX5_votes wsX5_votes) := goodIn_app (goodIn_of _ (by decide +kernel)) ggL_votes_X5_votes
theorem dL_votes_0 : decode cL_votes 0 = .ok (.aload_n 3, 1) := by decide +kernel
theorem dL_votes_1 : decode cL_votes 1 = .ok (.iconst 0, 1) := by decide +kernel
theorem dL_votes_2 : decode cL_votes 2 = .ok (.aload_n 0, 1) := by decide +kernel
theorem dL_votes_3 : decode cL_votes 3 = .ok (.iload_n 1, 1) := by decide +kernel
theorem dL_votes_4 : decode cL_votes 4 = .ok (.iload_n 2, 1) := by decide +kernel
theorem dL_votes_5 : decode cL_votes 5 = .ok (.invokevirtual 76, 3) := by decide +kernel
theorem dL_votes_8 : decode cL_votes 8 = .ok (.i2l, 1) := by decide +kernel
theorem dL_votes_9 : decode cL_votes 9 = .ok (.lastore, 1) := by decide +kernel
theorem dL_votes_10 : decode cL_votes 10 = .ok (.goto 7, 3) := by decide +kernel
theorem dL_votes_13 : decode cL_votes 13 = .ok (.astore 4, 2) := by decide +kernel
theorem dL_votes_15 : decode cL_votes 15 = .ok (.iconst 1, 1) := by decide +kernel
theorem dL_votes_16 : decode cL_votes 16 = .ok (.ireturn, 1) := by decide +kernel
theorem dL_votes_17 : decode cL_votes 17 = .ok (.iconst 0, 1) := by decide +kernel
theorem dL_votes_18 : decode cL_votes 18 = .ok (.ireturn, 1) := by decide +kernel
set_option maxRecDepth 20000 in
theorem ggL_margin_X5_margin : GoodIn wsL_margin wsX5_margin := goodIn_ca (goodIn_ca (goodIn_r _ [6, 7, 8, 9, 10, 5, 11, 12, 13, 14, 15, 16, 17, 18, 19, 20, 21, 22, 23, 24, 25, 26, 27, 28, 29, 30, 31, 32, 33, 34, 35, 36, 37, 38, 39, 40, 41, 42, 43, 44, 45, 46, 47, 48, 49, 50, 51, 52, 53, 54, 55] (by decide +kernel) (by decide +kernel)) (goodIn_sub (fun _ h => List.mem_cons_of_mem _ (List.mem_append_right _ h)) (by decide +kernel))) (goodIn_sub (fun _ h => List.mem_cons_of_mem _ (List.mem_append_left _ (List.mem_append_right _ h))) (by decide +kernel))
set_option maxRecDepth 20000 in
theorem gL_margin_X5_margin : GoodIn wsL_margin (wsV RL 79 RX5 yX5_margin wsX5_margin) := goodIn_app (goodIn_of _ (by decide +kernel)) ggL_margin_X5_margin
theorem dL_margin_0 : decode cL_margin 0 = .ok (.aload_n 3, 1) := by decide +kernel
theorem dL_margin_1 : decode cL_margin 1 = .ok (.iconst 0, 1) := by decide +kernel
theorem dL_margin_2 : decode cL_margin 2 = .ok (.aload_n 0, 1) := by decide +kernel
theorem dL_margin_3 : decode cL_margin 3 = .ok (.iload_n 1, 1) := by decide +kernel
theorem dL_margin_4 : decode cL_margin 4 = .ok (.iload_n 2, 1) := by decide +kernel
theorem dL_margin_5 : decode cL_margin 5 = .ok (.invokevirtual 79, 3) := by decide +kernel
theorem dL_margin_8 : decode cL_margin 8 = .ok (.i2l, 1) := by decide +kernel
theorem dL_margin_9 : decode cL_margin 9 = .ok (.lastore, 1) := by decide +kernel
theorem dL_margin_10 : decode cL_margin 10 = .ok (.goto 7, 3) := by decide +kernel
theorem dL_margin_13 : decode cL_margin 13 = .ok (.astore 4, 2) := by decide +kernel
theorem dL_margin_15 : decode cL_margin 15 = .ok (.iconst 1, 1) := by decide +kernel
theorem dL_margin_16 : decode cL_margin 16 = .ok (.ireturn, 1) := by decide +kernel
theorem dL_margin_17 : decode cL_margin 17 = .ok (.iconst 0, 1) := by decide +kernel
theorem dL_margin_18 : decode cL_margin 18 = .ok (.ireturn, 1) := by decide +kernel
set_option maxRecDepth 20000 in
theorem ggL_differ_X5_differ : GoodIn wsL_differ wsX5_differ := goodIn_ca (goodIn_ca (goodIn_r _ [6, 7, 8, 9, 10, 11, 5, 12, 13, 14, 15, 16, 17, 18, 19, 20, 21, 22, 23, 24, 25, 26, 27, 28, 29, 30, 31, 32, 33, 34, 35, 36, 37, 38, 39] (by decide +kernel) (by decide +kernel)) (goodIn_sub (fun _ h => List.mem_cons_of_mem _ (List.mem_append_left _ (List.mem_append_right _ h))) (by decide +kernel))) (goodIn_sub (fun _ h => List.mem_cons_of_mem _ (List.mem_append_right _ h)) (by decide +kernel))
set_option maxRecDepth 20000 in
theorem gL_differ_X5_differ : GoodIn wsL_differ (wsV RL 82 RX5 yX5_differ wsX5_differ) := goodIn_app (goodIn_of _ (by decide +kernel)) ggL_differ_X5_differ
theorem dL_differ_0 : decode cL_differ 0 = .ok (.aload_n 3, 1) := by decide +kernel
theorem dL_differ_1 : decode cL_differ 1 = .ok (.iconst 0, 1) := by decide +kernel
theorem dL_differ_2 : decode cL_differ 2 = .ok (.aload_n 0, 1) := by decide +kernel
theorem dL_differ_3 : decode cL_differ 3 = .ok (.iload_n 1, 1) := by decide +kernel
theorem dL_differ_4 : decode cL_differ 4 = .ok (.iload_n 2, 1) := by decide +kernel
theorem dL_differ_5 : decode cL_differ 5 = .ok (.invokevirtual 82, 3) := by decide +kernel
theorem dL_differ_8 : decode cL_differ 8 = .ok (.i2l, 1) := by decide +kernel
theorem dL_differ_9 : decode cL_differ 9 = .ok (.lastore, 1) := by decide +kernel
theorem dL_differ_10 : decode cL_differ 10 = .ok (.goto 7, 3) := by decide +kernel
theorem dL_differ_13 : decode cL_differ 13 = .ok (.astore 4, 2) := by decide +kernel
theorem dL_differ_15 : decode cL_differ 15 = .ok (.iconst 1, 1) := by decide +kernel
theorem dL_differ_16 : decode cL_differ 16 = .ok (.ireturn, 1) := by decide +kernel
theorem dL_differ_17 : decode cL_differ 17 = .ok (.iconst 0, 1) := by decide +kernel
theorem dL_differ_18 : decode cL_differ 18 = .ok (.ireturn, 1) := by decide +kernel
set_option maxRecDepth 20000 in
theorem ggL_winner_X5_winner : GoodIn wsL_winner wsX5_winner := goodIn_ca (goodIn_ca (goodIn_r _ [6, 7, 8, 9, 10, 11, 12, 13, 14, 15, 16, 17, 18, 19, 20, 21, 22, 23, 24, 25, 26, 27, 28, 29, 30, 31, 32, 33, 34, 35, 36, 37, 38, 39, 40, 41, 42, 43, 44, 45, 46, 47, 48, 49, 50, 51, 52, 53, 54, 55, 56, 57, 58, 59, 60, 61] (by decide +kernel) (by decide +kernel)) (goodIn_sub (fun _ h => List.mem_cons_of_mem _ (List.mem_append_right _ h)) (by decide +kernel))) (goodIn_sub (fun _ h => List.mem_cons_of_mem _ (List.mem_append_left _ (List.mem_append_right _ h))) (by decide +kernel))
set_option maxRecDepth 20000 in
theorem gL_winner_X5_winner : GoodIn wsL_winner (wsV RL 85 RX5 yX5_winner wsX5_winner) := goodIn_app (goodIn_of _ (by decide +kernel)) ggL_winner_X5_winner
theorem dL_winner_0 : decode cL_winner 0 = .ok (.aload_n 1, 1) := by decide +kernel
theorem dL_winner_1 : decode cL_winner 1 = .ok (.iconst 0, 1) := by decide +kernel
theorem dL_winner_2 : decode cL_winner 2 = .ok (.aload_n 0, 1) := by decide +kernel
theorem dL_winner_3 : decode cL_winner 3 = .ok (.invokevirtual 85, 3) := by decide +kernel
theorem dL_winner_6 : decode cL_winner 6 = .ok (.i2l, 1) := by decide +kernel
theorem dL_winner_7 : decode cL_winner 7 = .ok (.lastore, 1) := by decide +kernel
theorem dL_winner_8 : decode cL_winner 8 = .ok (.goto 6, 3) := by decide +kernel
theorem dL_winner_11 : decode cL_winner 11 = .ok (.astore_n 2, 1) := by decide +kernel
theorem dL_winner_12 : decode cL_winner 12 = .ok (.iconst 1, 1) := by decide +kernel
theorem dL_winner_13 : decode cL_winner 13 = .ok (.ireturn, 1) := by decide +kernel
theorem dL_winner_14 : decode cL_winner 14 = .ok (.iconst 0, 1) := by decide +kernel
theorem dL_winner_15 : decode cL_winner 15 = .ok (.ireturn, 1) := by decide +kernel
set_option maxRecDepth 20000 in
theorem ggL_leadLength_X5_leadLength : GoodIn wsL_leadLength wsX5_leadLength := goodIn_ca (goodIn_ca (goodIn_ca (goodIn_r _ [7, 8, 9, 10, 11, 12, 13, 14, 15, 16, 6, 17, 18, 19, 20, 21, 22, 23, 24, 25, 26, 27, 28, 29, 30, 31, 32, 33, 34, 35, 36, 37, 38, 39, 40, 41, 42, 43, 44, 45, 46, 47, 48, 49, 50, 51, 52, 53, 54, 55, 56, 57, 58, 59, 60, 61, 62, 63, 64, 65, 66, 67, 68, 69, 70, 71, 72, 73] (by decide +kernel) (by decide +kernel)) (goodIn_sub (fun _ h => List.mem_cons_of_mem _ (List.mem_append_left _ (List.mem_append_right _ h))) (by decide +kernel))) (goodIn_sub (fun _ h => List.mem_cons_of_mem _ (List.mem_append_right _ h)) (by decide +kernel))) (goodIn_sub (fun _ h => List.mem_cons_of_mem _ (List.mem_append_left _ (List.mem_append_left _ (List.mem_append_right _ h)))) (by decide +kernel))
set_option maxRecDepth 20000 in
theorem gL_leadLength_X5_leadLength : GoodIn wsL_leadLength (wsV RL 88 RX5 yX5_leadLength wsX5_leadLength) := goodIn_app (goodIn_of _ (by decide +kernel)) ggL_leadLength_X5_leadLength
theorem dL_leadLength_0 : decode cL_leadLength 0 = .ok (.aload_n 3, 1) := by decide +kernel
theorem dL_leadLength_1 : decode cL_leadLength 1 = .ok (.iconst 0, 1) := by decide +kernel
theorem dL_leadLength_2 : decode cL_leadLength 2 = .ok (.aload_n 0, 1) := by decide +kernel
theorem dL_leadLength_3 : decode cL_leadLength 3 = .ok (.iload_n 1, 1) := by decide +kernel
theorem dL_leadLength_4 : decode cL_leadLength 4 = .ok (.iload_n 2, 1) := by decide +kernel
theorem dL_leadLength_5 : decode cL_leadLength 5 = .ok (.invokevirtual 88, 3) := by decide +kernel
theorem dL_leadLength_8 : decode cL_leadLength 8 = .ok (.i2l, 1) := by decide +kernel
theorem dL_leadLength_9 : decode cL_leadLength 9 = .ok (.lastore, 1) := by decide +kernel
theorem dL_leadLength_10 : decode cL_leadLength 10 = .ok (.goto 11, 3) := by decide +kernel
theorem dL_leadLength_13 : decode cL_leadLength 13 = .ok (.astore 4, 2) := by decide +kernel
theorem dL_leadLength_15 : decode cL_leadLength 15 = .ok (.iconst 1, 1) := by decide +kernel
theorem dL_leadLength_16 : decode cL_leadLength 16 = .ok (.ireturn, 1) := by decide +kernel
theorem dL_leadLength_17 : decode cL_leadLength 17 = .ok (.astore 4, 2) := by decide +kernel
theorem dL_leadLength_19 : decode cL_leadLength 19 = .ok (.iconst 2, 1) := by decide +kernel
theorem dL_leadLength_20 : decode cL_leadLength 20 = .ok (.ireturn, 1) := by decide +kernel
theorem dL_leadLength_21 : decode cL_leadLength 21 = .ok (.iconst 0, 1) := by decide +kernel
theorem dL_leadLength_22 : decode cL_leadLength 22 = .ok (.ireturn, 1) := by decide +kernel
set_option maxRecDepth 20000 in
theorem ggL_challenger_X5_challenger : GoodIn wsL_challenger wsX5_challenger := goodIn_ca (goodIn_ca (goodIn_r _ [6, 7, 8, 9, 10, 11, 12, 13, 5, 14, 15, 16, 17, 18, 19, 20, 21, 22, 23, 24, 25, 26, 27, 28, 29, 30, 31, 32, 33, 34, 35, 36, 37, 38, 39, 40, 41, 42, 43, 44, 45, 46, 47, 48, 49, 50, 51, 52, 53, 54, 55, 56, 57, 58, 59, 60, 61, 62, 63, 64, 65, 66, 67, 68, 69, 70, 71, 72, 73, 74, 75, 76, 77, 78, 79, 80, 81, 82, 83, 84, 85, 86, 87, 88, 89, 90, 91, 92, 93, 94, 95, 96, 97, 98, 99, 100, 101, 102, 103, 104, 105, 106, 107, 108, 109, 110, 111, 112, 113, 114, 115, 116, 117, 118, 119, 120] (by decide +kernel) (by decide +kernel)) (goodIn_sub (fun _ h => List.mem_cons_of_mem _ (List.mem_append_left _ (List.mem_append_right _ h))) (by decide +kernel))) (goodIn_sub (fun _ h => List.mem_cons_of_mem _ (List.mem_append_right _ h)) (by decide +kernel))
set_option maxRecDepth 20000 in
theorem gL_challenger_X5_challenger : GoodIn wsL_challenger (wsV RL 91 RX5 yX5_challenger wsX5_challenger) := goodIn_app (goodIn_of _ (by decide +kernel)) ggL_challenger_X5_challenger
theorem dL_challenger_0 : decode cL_challenger 0 = .ok (.aload_n 2, 1) := by decide +kernel
theorem dL_challenger_1 : decode cL_challenger 1 = .ok (.iconst 0, 1) := by decide +kernel
theorem dL_challenger_2 : decode cL_challenger 2 = .ok (.aload_n 0, 1) := by decide +kernel
theorem dL_challenger_3 : decode cL_challenger 3 = .ok (.iload_n 1, 1) := by decide +kernel
theorem dL_challenger_4 : decode cL_challenger 4 = .ok (.invokevirtual 91, 3) := by decide +kernel
theorem dL_challenger_7 : decode cL_challenger 7 = .ok (.i2l, 1) := by decide +kernel
theorem dL_challenger_8 : decode cL_challenger 8 = .ok (.lastore, 1) := by decide +kernel
theorem dL_challenger_9 : decode cL_challenger 9 = .ok (.goto 6, 3) := by decide +kernel
theorem dL_challenger_12 : decode cL_challenger 12 = .ok (.astore_n 3, 1) := by decide +kernel
theorem dL_challenger_13 : decode cL_challenger 13 = .ok (.iconst 1, 1) := by decide +kernel
theorem dL_challenger_14 : decode cL_challenger 14 = .ok (.ireturn, 1) := by decide +kernel
theorem dL_challenger_15 : decode cL_challenger 15 = .ok (.iconst 0, 1) := by decide +kernel
theorem dL_challenger_16 : decode cL_challenger 16 = .ok (.ireturn, 1) := by decide +kernel
set_option maxRecDepth 20000 in
theorem ggL_hasPopular_X5_hasPopular : GoodIn wsL_hasPopular wsX5_hasPopular := goodIn_ca (goodIn_ca (goodIn_r _ [6, 7, 8, 9, 10, 11, 5, 12, 13, 14, 15, 16, 17, 18, 19, 20, 21, 22, 23, 24, 25, 26, 27, 28, 29, 30, 31, 32, 33, 34, 35, 36, 37, 38, 39, 40, 41, 42, 43, 44, 45, 46, 47, 48, 49, 50, 51, 52, 53, 54, 55, 56, 57, 58, 59, 60, 61, 62, 63, 64, 65, 66, 67, 68, 69, 70, 71, 72, 73, 74, 75, 76, 77, 78, 79, 80, 81, 82, 83, 84, 85, 86, 87, 88, 89, 90, 91, 92, 93, 94, 95, 96, 97, 98, 99, 100, 101, 102, 103, 104, 105, 106, 107, 108, 109, 110, 111, 112, 113, 114, 115, 116, 117, 118, 119, 120, 121, 122, 123, 124, 125, 126, 127, 128, 129, 130, 131, 132, 133, 134, 135, 136, 137, 138, 139, 140, 141, 142, 143, 144] (by decide +kernel) (by decide +kernel)) (goodIn_sub (fun _ h => List.mem_cons_of_mem _ (List.mem_append_right _ h)) (by decide +kernel))) (goodIn_sub (fun _ h => List.mem_cons_of_mem _ (List.mem_append_left _ (List.mem_append_right _ h))) (by decide +kernel))
set_option maxRecDepth 20000 in
theorem gL_hasPopular_X5_hasPopular : GoodIn wsL_hasPopular (wsV RL 94 RX5 yX5_hasPopular wsX5_hasPopular) := goodIn_app (goodIn_of _ (by decide +kernel)) ggL_hasPopular_X5_hasPopular
theorem dL_hasPopular_0 : decode cL_hasPopular 0 = .ok (.aload_n 1, 1) := by decide +kernel
theorem dL_hasPopular_1 : decode cL_hasPopular 1 = .ok (.iconst 0, 1) := by decide +kernel
theorem dL_hasPopular_2 : decode cL_hasPopular 2 = .ok (.aload_n 0, 1) := by decide +kernel
theorem dL_hasPopular_3 : decode cL_hasPopular 3 = .ok (.invokevirtual 94, 3) := by decide +kernel
theorem dL_hasPopular_6 : decode cL_hasPopular 6 = .ok (.ifCond .eq 7, 3) := by decide +kernel
theorem dL_hasPopular_9 : decode cL_hasPopular 9 = .ok (.lconst 1, 1) := by decide +kernel
theorem dL_hasPopular_10 : decode cL_hasPopular 10 = .ok (.goto 4, 3) := by decide +kernel
theorem dL_hasPopular_13 : decode cL_hasPopular 13 = .ok (.lconst 0, 1) := by decide +kernel
theorem dL_hasPopular_14 : decode cL_hasPopular 14 = .ok (.lastore, 1) := by decide +kernel
theorem dL_hasPopular_15 : decode cL_hasPopular 15 = .ok (.goto 6, 3) := by decide +kernel
theorem dL_hasPopular_18 : decode cL_hasPopular 18 = .ok (.astore_n 2, 1) := by decide +kernel
theorem dL_hasPopular_19 : decode cL_hasPopular 19 = .ok (.iconst 1, 1) := by decide +kernel
theorem dL_hasPopular_20 : decode cL_hasPopular 20 = .ok (.ireturn, 1) := by decide +kernel
theorem dL_hasPopular_21 : decode cL_hasPopular 21 = .ok (.iconst 0, 1) := by decide +kernel
theorem dL_hasPopular_22 : decode cL_hasPopular 22 = .ok (.ireturn, 1) := by decide +kernel
set_option maxRecDepth 20000 in
theorem ggL_popularPost_X5_popularPost : GoodIn wsL_popularPost wsX5_popularPost := goodIn_ca (goodIn_ca (goodIn_ca (goodIn_ca (goodIn_r _ [8, 9, 10, 11, 12, 13, 14, 15, 16, 7, 17, 18, 19, 20, 21, 22, 23, 24, 25, 26, 27, 28, 29, 30, 31, 32, 33, 34, 35, 36, 37, 38, 39, 40, 41, 42, 43, 44, 45, 46, 47, 48, 49, 50, 51, 52, 53, 54, 55, 56, 57, 58, 59, 60, 61, 62, 63, 64, 65, 66, 67, 68, 69, 70, 71, 72, 73, 74, 75, 76, 77, 78, 79, 80, 81, 82, 83, 84, 85, 86, 87, 88, 89, 90, 91, 92, 93, 94, 95, 96, 97, 98, 99, 100, 101, 102, 103, 104, 105, 106, 107, 108, 109, 110, 111, 112, 113, 114, 115, 116, 117, 118, 119, 120, 121, 122, 123, 124, 125, 126, 127, 128, 129, 130, 131, 132, 133, 134, 135, 136, 137, 138, 139, 140, 141, 142, 143, 144, 145, 146, 147, 148, 149, 150, 151, 152, 153, 154, 155, 156] (by decide +kernel) (by decide +kernel)) (goodIn_sub (fun _ h => List.mem_cons_of_mem _ (List.mem_append_left _ (List.mem_append_left _ (List.mem_append_right _ h)))) (by decide +kernel))) (goodIn_sub (fun _ h => List.mem_cons_of_mem _ (List.mem_append_left _ (List.mem_append_left _ (List.mem_append_left _ (List.mem_append_right _ h))))) (by decide +kernel))) (goodIn_sub (fun _ h => List.mem_cons_of_mem _ (List.mem_append_left _ (List.mem_append_right _ h))) (by decide +kernel))) (goodIn_sub (fun _ h => List.mem_cons_of_mem _ (List.mem_append_right _ h)) (by decide +kernel))
set_option maxRecDepth 20000 in
theorem gL_popularPost_X5_popularPost : GoodIn wsL_popularPost (wsV RL 98 RX5 yX5_popularPost wsX5_popularPost) := goodIn_app (goodIn_of _ (by decide +kernel)) ggL_popularPost_X5_popularPost
theorem dL_popularPost_0 : decode cL_popularPost 0 = .ok (.aload_n 2, 1) := by decide +kernel
theorem dL_popularPost_1 : decode cL_popularPost 1 = .ok (.iconst 0, 1) := by decide +kernel
theorem dL_popularPost_2 : decode cL_popularPost 2 = .ok (.aload_n 0, 1) := by decide +kernel
theorem dL_popularPost_3 : decode cL_popularPost 3 = .ok (.iload_n 1, 1) := by decide +kernel
theorem dL_popularPost_4 : decode cL_popularPost 4 = .ok (.invokevirtual 98, 3) := by decide +kernel
theorem dL_popularPost_7 : decode cL_popularPost 7 = .ok (.i2l, 1) := by decide +kernel
theorem dL_popularPost_8 : decode cL_popularPost 8 = .ok (.lastore, 1) := by decide +kernel
theorem dL_popularPost_9 : decode cL_popularPost 9 = .ok (.goto 12, 3) := by decide +kernel
theorem dL_popularPost_12 : decode cL_popularPost 12 = .ok (.astore_n 3, 1) := by decide +kernel
theorem dL_popularPost_13 : decode cL_popularPost 13 = .ok (.iconst 1, 1) := by decide +kernel
theorem dL_popularPost_14 : decode cL_popularPost 14 = .ok (.ireturn, 1) := by decide +kernel
theorem dL_popularPost_15 : decode cL_popularPost 15 = .ok (.astore_n 3, 1) := by decide +kernel
theorem dL_popularPost_16 : decode cL_popularPost 16 = .ok (.iconst 2, 1) := by decide +kernel
theorem dL_popularPost_17 : decode cL_popularPost 17 = .ok (.ireturn, 1) := by decide +kernel
theorem dL_popularPost_18 : decode cL_popularPost 18 = .ok (.astore_n 3, 1) := by decide +kernel
theorem dL_popularPost_19 : decode cL_popularPost 19 = .ok (.iconst 3, 1) := by decide +kernel
theorem dL_popularPost_20 : decode cL_popularPost 20 = .ok (.ireturn, 1) := by decide +kernel
theorem dL_popularPost_21 : decode cL_popularPost 21 = .ok (.iconst 0, 1) := by decide +kernel
theorem dL_popularPost_22 : decode cL_popularPost 22 = .ok (.ireturn, 1) := by decide +kernel
set_option maxRecDepth 20000 in
theorem ggL_profile_X5_profile : GoodIn wsL_profile wsX5_profile := goodIn_ca (goodIn_ca (goodIn_r _ [6, 7, 8, 9, 10, 11, 5, 12, 13, 14, 15, 16, 17, 18, 19, 20, 21, 22, 23, 24, 25, 26, 27, 28, 29, 30, 31, 32, 33, 34, 35, 36, 37, 38, 39, 40] (by decide +kernel) (by decide +kernel)) (goodIn_sub (fun _ h => List.mem_cons_of_mem _ (List.mem_append_right _ h)) (by decide +kernel))) (goodIn_sub (fun _ h => List.mem_cons_of_mem _ (List.mem_append_left _ (List.mem_append_right _ h))) (by decide +kernel))
set_option maxRecDepth 20000 in
theorem gL_profile_X5_profile : GoodIn wsL_profile (wsV RL 101 RX5 yX5_profile wsX5_profile) := goodIn_app (goodIn_of _ (by decide +kernel)) ggL_profile_X5_profile
theorem dL_profile_0 : decode cL_profile 0 = .ok (.aload_n 2, 1) := by decide +kernel
theorem dL_profile_1 : decode cL_profile 1 = .ok (.iconst 0, 1) := by decide +kernel
theorem dL_profile_2 : decode cL_profile 2 = .ok (.aload_n 0, 1) := by decide +kernel
theorem dL_profile_3 : decode cL_profile 3 = .ok (.iload_n 1, 1) := by decide +kernel
theorem dL_profile_4 : decode cL_profile 4 = .ok (.invokevirtual 101, 3) := by decide +kernel
theorem dL_profile_7 : decode cL_profile 7 = .ok (.i2l, 1) := by decide +kernel
theorem dL_profile_8 : decode cL_profile 8 = .ok (.lastore, 1) := by decide +kernel
theorem dL_profile_9 : decode cL_profile 9 = .ok (.goto 6, 3) := by decide +kernel
theorem dL_profile_12 : decode cL_profile 12 = .ok (.astore_n 3, 1) := by decide +kernel
theorem dL_profile_13 : decode cL_profile 13 = .ok (.iconst 1, 1) := by decide +kernel
theorem dL_profile_14 : decode cL_profile 14 = .ok (.ireturn, 1) := by decide +kernel
theorem dL_profile_15 : decode cL_profile 15 = .ok (.iconst 0, 1) := by decide +kernel
theorem dL_profile_16 : decode cL_profile 16 = .ok (.ireturn, 1) := by decide +kernel
set_option maxRecDepth 20000 in
theorem ggL_bestProfile_X5_bestProfile : GoodIn wsL_bestProfile wsX5_bestProfile := goodIn_ca (goodIn_ca (goodIn_r _ [6, 7, 8, 9, 10, 11, 12, 5, 13, 14, 15, 16, 17, 18, 19, 20, 21, 22, 23, 24, 25, 26, 27, 28, 29, 30, 31, 32, 33, 34, 35, 36, 37, 38, 39, 40, 41, 42, 43, 44, 45, 46, 47, 48, 49, 50, 51, 52, 53, 54, 55, 56, 57, 58, 59, 60, 61, 62, 63, 64, 65, 66, 67, 68, 69, 70, 71, 72, 73, 74, 75, 76, 77, 78, 79, 80, 81, 82, 83, 84, 85, 86, 87, 88, 89, 90, 91, 92, 93, 94, 95, 96, 97, 98, 99, 100, 101, 102, 103, 104, 105, 106, 107, 108, 109, 110, 111, 112, 113, 114, 115, 116, 117, 118] (by decide +kernel) (by decide +kernel)) (goodIn_sub (fun _ h => List.mem_cons_of_mem _ (List.mem_append_right _ h)) (by decide +kernel))) (goodIn_sub (fun _ h => List.mem_cons_of_mem _ (List.mem_append_left _ (List.mem_append_right _ h))) (by decide +kernel))
set_option maxRecDepth 20000 in
theorem gL_bestProfile_X5_bestProfile : GoodIn wsL_bestProfile (wsV RL 104 RX5 yX5_bestProfile wsX5_bestProfile) := goodIn_app (goodIn_of _ (by decide +kernel)) ggL_bestProfile_X5_bestProfile
theorem dL_bestProfile_0 : decode cL_bestProfile 0 = .ok (.aload_n 2, 1) := by decide +kernel
theorem dL_bestProfile_1 : decode cL_bestProfile 1 = .ok (.iconst 0, 1) := by decide +kernel
theorem dL_bestProfile_2 : decode cL_bestProfile 2 = .ok (.aload_n 0, 1) := by decide +kernel
theorem dL_bestProfile_3 : decode cL_bestProfile 3 = .ok (.iload_n 1, 1) := by decide +kernel
theorem dL_bestProfile_4 : decode cL_bestProfile 4 = .ok (.invokevirtual 104, 3) := by decide +kernel
theorem dL_bestProfile_7 : decode cL_bestProfile 7 = .ok (.i2l, 1) := by decide +kernel
theorem dL_bestProfile_8 : decode cL_bestProfile 8 = .ok (.lastore, 1) := by decide +kernel
theorem dL_bestProfile_9 : decode cL_bestProfile 9 = .ok (.goto 6, 3) := by decide +kernel
theorem dL_bestProfile_12 : decode cL_bestProfile 12 = .ok (.astore_n 3, 1) := by decide +kernel
theorem dL_bestProfile_13 : decode cL_bestProfile 13 = .ok (.iconst 1, 1) := by decide +kernel
theorem dL_bestProfile_14 : decode cL_bestProfile 14 = .ok (.ireturn, 1) := by decide +kernel
theorem dL_bestProfile_15 : decode cL_bestProfile 15 = .ok (.iconst 0, 1) := by decide +kernel
theorem dL_bestProfile_16 : decode cL_bestProfile 16 = .ok (.ireturn, 1) := by decide +kernel
set_option maxRecDepth 20000 in
theorem ggL_bestPost_X5_bestPost : GoodIn wsL_bestPost wsX5_bestPost := goodIn_ca (goodIn_ca (goodIn_r _ [6, 7, 8, 9, 10, 11, 12, 5, 13, 14, 15, 16, 17, 18, 19, 20, 21, 22, 23, 24, 25, 26, 27, 28, 29, 30, 31, 32, 33, 34, 35, 36, 37, 38, 39, 40, 41, 42, 43, 44, 45, 46, 47, 48, 49, 50, 51, 52, 53, 54, 55, 56, 57, 58, 59, 60, 61, 62, 63, 64, 65, 66, 67, 68, 69, 70, 71, 72, 73, 74, 75, 76, 77, 78, 79, 80, 81, 82, 83, 84, 85, 86, 87, 88, 89, 90, 91, 92, 93, 94, 95, 96, 97, 98, 99, 100, 101, 102, 103, 104, 105, 106, 107] (by decide +kernel) (by decide +kernel)) (goodIn_sub (fun _ h => List.mem_cons_of_mem _ (List.mem_append_left _ (List.mem_append_right _ h))) (by decide +kernel))) (goodIn_sub (fun _ h => List.mem_cons_of_mem _ (List.mem_append_right _ h)) (by decide +kernel))
set_option maxRecDepth 20000 in
theorem gL_bestPost_X5_bestPost : GoodIn wsL_bestPost (wsV RL 107 RX5 yX5_bestPost wsX5_bestPost) := goodIn_app (goodIn_of _ (by decide +kernel)) ggL_bestPost_X5_bestPost
theorem dL_bestPost_0 : decode cL_bestPost 0 = .ok (.aload_n 2, 1) := by decide +kernel
theorem dL_bestPost_1 : decode cL_bestPost 1 = .ok (.iconst 0, 1) := by decide +kernel
theorem dL_bestPost_2 : decode cL_bestPost 2 = .ok (.aload_n 0, 1) := by decide +kernel
theorem dL_bestPost_3 : decode cL_bestPost 3 = .ok (.iload_n 1, 1) := by decide +kernel
theorem dL_bestPost_4 : decode cL_bestPost 4 = .ok (.invokevirtual 107, 3) := by decide +kernel
theorem dL_bestPost_7 : decode cL_bestPost 7 = .ok (.i2l, 1) := by decide +kernel
theorem dL_bestPost_8 : decode cL_bestPost 8 = .ok (.lastore, 1) := by decide +kernel
theorem dL_bestPost_9 : decode cL_bestPost 9 = .ok (.goto 6, 3) := by decide +kernel
theorem dL_bestPost_12 : decode cL_bestPost 12 = .ok (.astore_n 3, 1) := by decide +kernel
theorem dL_bestPost_13 : decode cL_bestPost 13 = .ok (.iconst 1, 1) := by decide +kernel
theorem dL_bestPost_14 : decode cL_bestPost 14 = .ok (.ireturn, 1) := by decide +kernel
theorem dL_bestPost_15 : decode cL_bestPost 15 = .ok (.iconst 0, 1) := by decide +kernel
theorem dL_bestPost_16 : decode cL_bestPost 16 = .ok (.ireturn, 1) := by decide +kernel
set_option maxRecDepth 20000 in
theorem ggL_isSure_X5_isSure : GoodIn wsL_isSure wsX5_isSure := goodIn_ca (goodIn_ca (goodIn_r _ [6, 7, 8, 9, 10, 11, 5, 12, 13, 14, 15, 16, 17, 18, 19, 20, 21, 22, 23, 24, 25, 26, 27, 28, 29, 30, 31, 32, 33, 34, 35, 36, 37, 38, 39, 40, 41, 42, 43, 44, 45, 46, 47, 48, 49, 50, 51, 52, 53, 54, 55, 56, 57, 58, 59, 60, 61, 62, 63, 64, 65, 66, 67, 68, 69, 70, 71, 72, 73, 74, 75, 76, 77, 78, 79, 80, 81, 82, 83, 84, 85, 86, 87, 88, 89, 90, 91, 92, 93, 94, 95, 96, 97, 98, 99, 100, 101, 102, 103, 104, 105] (by decide +kernel) (by decide +kernel)) (goodIn_sub (fun _ h => List.mem_cons_of_mem _ (List.mem_append_right _ h)) (by decide +kernel))) (goodIn_sub (fun _ h => List.mem_cons_of_mem _ (List.mem_append_left _ (List.mem_append_right _ h))) (by decide +kernel))
set_option maxRecDepth 20000 in
theorem gL_isSure_X5_isSure : GoodIn wsL_isSure (wsV RL 110 RX5 yX5_isSure wsX5_isSure) := goodIn_app (goodIn_of _ (by decide +kernel)) ggL_isSure_X5_isSure
theorem dL_isSure_0 : decode cL_isSure 0 = .ok (.aload_n 2, 1) := by decide +kernel
theorem dL_isSure_1 : decode cL_isSure 1 = .ok (.iconst 0, 1) := by decide +kernel
theorem dL_isSure_2 : decode cL_isSure 2 = .ok (.aload_n 0, 1) := by decide +kernel
theorem dL_isSure_3 : decode cL_isSure 3 = .ok (.iload_n 1, 1) := by decide +kernel
theorem dL_isSure_4 : decode cL_isSure 4 = .ok (.invokevirtual 110, 3) := by decide +kernel
theorem dL_isSure_7 : decode cL_isSure 7 = .ok (.ifCond .eq 7, 3) := by decide +kernel
theorem dL_isSure_10 : decode cL_isSure 10 = .ok (.lconst 1, 1) := by decide +kernel
theorem dL_isSure_11 : decode cL_isSure 11 = .ok (.goto 4, 3) := by decide +kernel
theorem dL_isSure_14 : decode cL_isSure 14 = .ok (.lconst 0, 1) := by decide +kernel
theorem dL_isSure_15 : decode cL_isSure 15 = .ok (.lastore, 1) := by decide +kernel
theorem dL_isSure_16 : decode cL_isSure 16 = .ok (.goto 6, 3) := by decide +kernel
theorem dL_isSure_19 : decode cL_isSure 19 = .ok (.astore_n 3, 1) := by decide +kernel
theorem dL_isSure_20 : decode cL_isSure 20 = .ok (.iconst 1, 1) := by decide +kernel
theorem dL_isSure_21 : decode cL_isSure 21 = .ok (.ireturn, 1) := by decide +kernel
theorem dL_isSure_22 : decode cL_isSure 22 = .ok (.iconst 0, 1) := by decide +kernel
theorem dL_isSure_23 : decode cL_isSure 23 = .ok (.ireturn, 1) := by decide +kernel
set_option maxRecDepth 20000 in
theorem ggL_gains_X5_gains : GoodIn wsL_gains wsX5_gains := goodIn_ca (goodIn_ca (goodIn_r _ [6, 7, 8, 9, 10, 11, 12, 5, 13, 14, 15, 16, 17, 18, 19, 20, 21, 22, 23, 24, 25, 26, 27, 28, 29, 30, 31, 32, 33, 34, 35, 36, 37, 38, 39, 40, 41, 42, 43, 44, 45, 46, 47, 48, 49, 50, 51, 52, 53, 54, 55, 56, 57, 58, 59, 60, 61, 62, 63, 64, 65, 66, 67, 68, 69, 70, 71, 72, 73, 74, 75, 76, 77, 78, 79, 80, 81, 82, 83, 84, 85, 86, 87, 88, 89, 90, 91, 92, 93, 94, 95, 96, 97, 98, 99, 100, 101, 102, 103, 104, 105, 106, 107, 108, 109, 110, 111, 112, 113, 114, 115, 116, 117, 118, 119, 120, 121, 122, 123, 124, 125, 126, 127, 128] (by decide +kernel) (by decide +kernel)) (goodIn_sub (fun _ h => List.mem_cons_of_mem _ (List.mem_append_left _ (List.mem_append_right _ h))) (by decide +kernel))) (goodIn_sub (fun _ h => List.mem_cons_of_mem _ (List.mem_append_right _ h)) (by decide +kernel))
set_option maxRecDepth 20000 in
theorem gL_gains_X5_gains : GoodIn wsL_gains (wsV RL 114 RX5 yX5_gains wsX5_gains) := goodIn_app (goodIn_of _ (by decide +kernel)) ggL_gains_X5_gains
theorem dL_gains_0 : decode cL_gains 0 = .ok (.aload_n 3, 1) := by decide +kernel
theorem dL_gains_1 : decode cL_gains 1 = .ok (.iconst 0, 1) := by decide +kernel
theorem dL_gains_2 : decode cL_gains 2 = .ok (.aload_n 0, 1) := by decide +kernel
theorem dL_gains_3 : decode cL_gains 3 = .ok (.iload_n 1, 1) := by decide +kernel
theorem dL_gains_4 : decode cL_gains 4 = .ok (.iload_n 2, 1) := by decide +kernel
theorem dL_gains_5 : decode cL_gains 5 = .ok (.invokevirtual 114, 3) := by decide +kernel
theorem dL_gains_8 : decode cL_gains 8 = .ok (.ifCond .eq 7, 3) := by decide +kernel
theorem dL_gains_11 : decode cL_gains 11 = .ok (.lconst 1, 1) := by decide +kernel
theorem dL_gains_12 : decode cL_gains 12 = .ok (.goto 4, 3) := by decide +kernel
theorem dL_gains_15 : decode cL_gains 15 = .ok (.lconst 0, 1) := by decide +kernel
theorem dL_gains_16 : decode cL_gains 16 = .ok (.lastore, 1) := by decide +kernel
theorem dL_gains_17 : decode cL_gains 17 = .ok (.goto 7, 3) := by decide +kernel
theorem dL_gains_20 : decode cL_gains 20 = .ok (.astore 4, 2) := by decide +kernel
theorem dL_gains_22 : decode cL_gains 22 = .ok (.iconst 1, 1) := by decide +kernel
theorem dL_gains_23 : decode cL_gains 23 = .ok (.ireturn, 1) := by decide +kernel
theorem dL_gains_24 : decode cL_gains 24 = .ok (.iconst 0, 1) := by decide +kernel
theorem dL_gains_25 : decode cL_gains 25 = .ok (.ireturn, 1) := by decide +kernel
set_option maxRecDepth 20000 in
theorem ggL_envies_X5_envies : GoodIn wsL_envies wsX5_envies := goodIn_ca (goodIn_ca (goodIn_r _ [6, 7, 8, 9, 5, 10, 11, 12, 13, 14, 15, 16, 17, 18, 19, 20, 21, 22, 23, 24, 25, 26, 27, 28, 29, 30, 31, 32, 33, 34, 35, 36, 37, 38, 39, 40] (by decide +kernel) (by decide +kernel)) (goodIn_sub (fun _ h => List.mem_cons_of_mem _ (List.mem_append_right _ h)) (by decide +kernel))) (goodIn_sub (fun _ h => List.mem_cons_of_mem _ (List.mem_append_left _ (List.mem_append_right _ h))) (by decide +kernel))
set_option maxRecDepth 20000 in
theorem gL_envies_X5_envies : GoodIn wsL_envies (wsV RL 118 RX5 yX5_envies wsX5_envies) := goodIn_app (goodIn_of _ (by decide +kernel)) ggL_envies_X5_envies
theorem dL_envies_0 : decode cL_envies 0 = .ok (.aload_n 3, 1) := by decide +kernel
theorem dL_envies_1 : decode cL_envies 1 = .ok (.iconst 0, 1) := by decide +kernel
theorem dL_envies_2 : decode cL_envies 2 = .ok (.aload_n 0, 1) := by decide +kernel
theorem dL_envies_3 : decode cL_envies 3 = .ok (.iload_n 1, 1) := by decide +kernel
theorem dL_envies_4 : decode cL_envies 4 = .ok (.iload_n 2, 1) := by decide +kernel
theorem dL_envies_5 : decode cL_envies 5 = .ok (.invokevirtual 118, 3) := by decide +kernel
theorem dL_envies_8 : decode cL_envies 8 = .ok (.ifCond .eq 7, 3) := by decide +kernel
theorem dL_envies_11 : decode cL_envies 11 = .ok (.lconst 1, 1) := by decide +kernel
theorem dL_envies_12 : decode cL_envies 12 = .ok (.goto 4, 3) := by decide +kernel
theorem dL_envies_15 : decode cL_envies 15 = .ok (.lconst 0, 1) := by decide +kernel
theorem dL_envies_16 : decode cL_envies 16 = .ok (.lastore, 1) := by decide +kernel
theorem dL_envies_17 : decode cL_envies 17 = .ok (.goto 7, 3) := by decide +kernel
theorem dL_envies_20 : decode cL_envies 20 = .ok (.astore 4, 2) := by decide +kernel
theorem dL_envies_22 : decode cL_envies 22 = .ok (.iconst 1, 1) := by decide +kernel
theorem dL_envies_23 : decode cL_envies 23 = .ok (.ireturn, 1) := by decide +kernel
theorem dL_envies_24 : decode cL_envies 24 = .ok (.iconst 0, 1) := by decide +kernel
theorem dL_envies_25 : decode cL_envies 25 = .ok (.ireturn, 1) := by decide +kernel
set_option maxRecDepth 20000 in
theorem ggL_matchedShare_X5_matchedShare : GoodIn wsL_matchedShare wsX5_matchedShare := goodIn_ca (goodIn_ca (goodIn_r _ [6, 7, 8, 9, 10, 11, 12, 13, 5, 14, 15, 16, 17, 18, 19, 20, 21, 22, 23, 24, 25, 26, 27, 28, 29] (by decide +kernel) (by decide +kernel)) (goodIn_sub (fun _ h => List.mem_cons_of_mem _ (List.mem_append_right _ h)) (by decide +kernel))) (goodIn_sub (fun _ h => List.mem_cons_of_mem _ (List.mem_append_left _ (List.mem_append_right _ h))) (by decide +kernel))
set_option maxRecDepth 20000 in
theorem gL_matchedShare_X5_matchedShare : GoodIn wsL_matchedShare (wsV RL 121 RX5 yX5_matchedShare wsX5_matchedShare) := goodIn_app (goodIn_of _ (by decide +kernel)) ggL_matchedShare_X5_matchedShare
theorem dL_matchedShare_0 : decode cL_matchedShare 0 = .ok (.aload_n 1, 1) := by decide +kernel
theorem dL_matchedShare_1 : decode cL_matchedShare 1 = .ok (.iconst 0, 1) := by decide +kernel
theorem dL_matchedShare_2 : decode cL_matchedShare 2 = .ok (.aload_n 0, 1) := by decide +kernel
theorem dL_matchedShare_3 : decode cL_matchedShare 3 = .ok (.invokevirtual 121, 3) := by decide +kernel
theorem dL_matchedShare_6 : decode cL_matchedShare 6 = .ok (.f2d, 1) := by decide +kernel
theorem dL_matchedShare_7 : decode cL_matchedShare 7 = .ok (.dastore, 1) := by decide +kernel
theorem dL_matchedShare_8 : decode cL_matchedShare 8 = .ok (.goto 6, 3) := by decide +kernel
theorem dL_matchedShare_11 : decode cL_matchedShare 11 = .ok (.astore_n 2, 1) := by decide +kernel
theorem dL_matchedShare_12 : decode cL_matchedShare 12 = .ok (.iconst 1, 1) := by decide +kernel
theorem dL_matchedShare_13 : decode cL_matchedShare 13 = .ok (.ireturn, 1) := by decide +kernel
theorem dL_matchedShare_14 : decode cL_matchedShare 14 = .ok (.iconst 0, 1) := by decide +kernel
theorem dL_matchedShare_15 : decode cL_matchedShare 15 = .ok (.ireturn, 1) := by decide +kernel
set_option maxRecDepth 20000 in
theorem ggL_meanRank_X5_meanRank : GoodIn wsL_meanRank wsX5_meanRank := goodIn_ca (goodIn_ca (goodIn_r _ [6, 7, 8, 9, 10, 11, 12, 13, 14, 5, 15, 16, 17, 18, 19, 20, 21, 22, 23, 24, 25, 26, 27, 28, 29, 30, 31, 32, 33, 34, 35, 36] (by decide +kernel) (by decide +kernel)) (goodIn_sub (fun _ h => List.mem_cons_of_mem _ (List.mem_append_right _ h)) (by decide +kernel))) (goodIn_sub (fun _ h => List.mem_cons_of_mem _ (List.mem_append_left _ (List.mem_append_right _ h))) (by decide +kernel))
set_option maxRecDepth 20000 in
theorem gL_meanRank_X5_meanRank : GoodIn wsL_meanRank (wsV RL 127 RX5 yX5_meanRank wsX5_meanRank) := goodIn_app (goodIn_of _ (by decide +kernel)) ggL_meanRank_X5_meanRank
theorem dL_meanRank_0 : decode cL_meanRank 0 = .ok (.aload_n 1, 1) := by decide +kernel
theorem dL_meanRank_1 : decode cL_meanRank 1 = .ok (.iconst 0, 1) := by decide +kernel
theorem dL_meanRank_2 : decode cL_meanRank 2 = .ok (.aload_n 0, 1) := by decide +kernel
theorem dL_meanRank_3 : decode cL_meanRank 3 = .ok (.invokevirtual 127, 3) := by decide +kernel
theorem dL_meanRank_6 : decode cL_meanRank 6 = .ok (.dastore, 1) := by decide +kernel
theorem dL_meanRank_7 : decode cL_meanRank 7 = .ok (.goto 6, 3) := by decide +kernel
theorem dL_meanRank_10 : decode cL_meanRank 10 = .ok (.astore_n 2, 1) := by decide +kernel
theorem dL_meanRank_11 : decode cL_meanRank 11 = .ok (.iconst 1, 1) := by decide +kernel
theorem dL_meanRank_12 : decode cL_meanRank 12 = .ok (.ireturn, 1) := by decide +kernel
theorem dL_meanRank_13 : decode cL_meanRank 13 = .ok (.iconst 0, 1) := by decide +kernel
theorem dL_meanRank_14 : decode cL_meanRank 14 = .ok (.ireturn, 1) := by decide +kernel
set_option maxRecDepth 20000 in
theorem ggL_law_X5_init : GoodIn wsL_law wsX5_init := goodIn_r _ [10, 11, 12, 13, 14, 15, 16, 17, 18, 19, 20, 21, 22, 23, 24, 25, 26, 27, 28, 29, 30, 31, 32, 33, 34, 35, 36, 37, 38, 39, 40, 41, 42, 43, 44, 45, 46, 47, 48, 49, 50, 51, 52, 53, 54, 55, 56, 57, 58, 59, 60, 61, 62, 63, 64, 65, 66, 67, 68, 69, 6, 70, 71, 72, 73, 74, 75, 76, 77, 78, 79, 80, 81, 82, 83, 84, 85, 86, 87, 1284, 1285, 1286, 1287, 1288, 1289, 1290, 1268, 1269, 1270, 1271, 1272, 1273, 1274, 1291, 1292, 1293, 1294, 1295, 1296, 1297, 1298, 1299, 1300, 1301, 1302, 1303, 1304, 1305, 1306, 1307, 1308, 1309] (by decide +kernel) (by decide +kernel)
set_option maxRecDepth 20000 in
theorem gL_law_X5_init : GoodIn wsL_law (wsX5_init) := ggL_law_X5_init
set_option maxRecDepth 20000 in
theorem ggL_law_X6_init : GoodIn wsL_law wsX6_init := goodIn_r _ [90, 91, 12, 13, 30, 92, 93, 94, 95, 96, 97, 98, 99, 100, 101, 102, 103, 104, 105, 106, 107, 108, 109, 110, 111, 112, 113, 114, 115, 116, 117, 118, 119, 120, 121, 122, 123, 124, 125, 126, 127, 128, 129, 130, 131, 132, 133, 134, 135, 136, 137, 138, 139, 140, 85, 86, 87, 1275, 1276, 1277, 1278, 1279, 1280, 1281, 1282, 1283, 1310, 1311, 1312, 1313, 1314, 1315, 1316] (by decide +kernel) (by decide +kernel)
set_option maxRecDepth 20000 in
theorem gL_law_X6_init : GoodIn wsL_law (wsX6_init) := ggL_law_X6_init
set_option maxRecDepth 20000 in
theorem ggL_law_L_addApplicant : GoodIn wsL_law wsL_addApplicant := goodIn_ca (goodIn_ca (goodIn_ca (goodIn_r _ [144, 145, 146, 147, 148, 149, 2, 150, 151, 152, 17, 153, 154, 155, 156, 157, 158, 159, 160, 1268, 1269, 1270, 1271, 1272, 1273, 1274, 1284, 1285, 1286, 1287, 1288, 1289, 1290] (by decide +kernel) (by decide +kernel)) (goodIn_sub (fun _ h => List.mem_append_left _ (List.mem_append_left _ (List.mem_append_left _ (List.mem_append_left _ (List.mem_append_left _ (List.mem_append_left _ (List.mem_append_right _ h))))))) (by decide +kernel))) (goodIn_sub (fun _ h => List.mem_append_left _ (List.mem_append_left _ (List.mem_append_left _ (List.mem_append_left _ (List.mem_append_left _ (List.mem_append_right _ h)))))) (by decide +kernel))) (goodIn_sub (fun _ h => List.mem_append_left _ (List.mem_append_left _ (List.mem_append_left _ (List.mem_append_left _ (List.mem_append_right _ h))))) (by decide +kernel))
set_option maxRecDepth 20000 in
theorem gL_law_L_addApplicant : GoodIn wsL_law (va_wsS RL 135 yL_addApplicant wsL_addApplicant) := goodIn_app (goodIn_of _ (by decide +kernel)) ggL_law_L_addApplicant
set_option maxRecDepth 20000 in
theorem ggL_law_X6_addApplicant : GoodIn wsL_law wsX6_addApplicant := goodIn_ca (goodIn_r _ [164, 165, 92, 166, 167, 5, 168, 169, 170, 171, 172, 173, 1275, 1276, 1277, 1278, 1279, 1280, 1281, 1282, 1283] (by decide +kernel) (by decide +kernel)) (goodIn_sub (fun _ h => List.mem_append_left _ (List.mem_append_left _ (List.mem_append_left _ (List.mem_append_left _ (List.mem_append_left _ (List.mem_append_left _ (List.mem_append_right _ h))))))) (by decide +kernel))
set_option maxRecDepth 20000 in
theorem gL_law_X6_addApplicant : GoodIn wsL_law (wsV RL 140 RX6 yX6_addApplicant wsX6_addApplicant) := goodIn_app (goodIn_of _ (by decide +kernel)) ggL_law_X6_addApplicant
set_option maxRecDepth 20000 in
theorem ggL_law_X6_thrown : GoodIn wsL_law wsX6_thrown := goodIn_r _ [177, 173, 1275, 1276, 1277, 1278, 1279, 1280, 1281, 1282, 1283] (by decide +kernel) (by decide +kernel)
set_option maxRecDepth 20000 in
theorem gL_law_X6_thrown : GoodIn wsL_law (wsV RL 141 RX6 yX6_thrown wsX6_thrown) := goodIn_app (goodIn_of _ (by decide +kernel)) ggL_law_X6_thrown
set_option maxRecDepth 20000 in
theorem ggL_law_L_addPost : GoodIn wsL_law wsL_addPost := goodIn_ca (goodIn_ca (goodIn_ca (goodIn_r _ [180, 145, 146, 181, 182, 183, 2, 184, 151, 152, 17, 185, 186, 155, 156, 157, 158, 159, 160, 1268, 1269, 1270, 1271, 1272, 1273, 1274, 1284, 1285, 1286, 1287, 1288, 1289, 1290] (by decide +kernel) (by decide +kernel)) (goodIn_sub (fun _ h => List.mem_append_left _ (List.mem_append_left _ (List.mem_append_left _ (List.mem_append_left _ (List.mem_append_left _ (List.mem_append_left _ (List.mem_append_right _ h))))))) (by decide +kernel))) (goodIn_sub (fun _ h => List.mem_append_left _ (List.mem_append_left _ (List.mem_append_left _ (List.mem_append_left _ (List.mem_append_left _ (List.mem_append_right _ h)))))) (by decide +kernel))) (goodIn_sub (fun _ h => List.mem_append_left _ (List.mem_append_left _ (List.mem_append_left _ (List.mem_append_left _ (List.mem_append_right _ h))))) (by decide +kernel))
set_option maxRecDepth 20000 in
theorem gL_law_L_addPost : GoodIn wsL_law (va_wsS RL 144 yL_addPost wsL_addPost) := goodIn_app (goodIn_of _ (by decide +kernel)) ggL_law_L_addPost
set_option maxRecDepth 20000 in
theorem ggL_law_X6_addPost : GoodIn wsL_law wsX6_addPost := goodIn_ca (goodIn_r _ [190, 191, 93, 166, 167, 5, 168, 169, 170, 171, 172, 173, 1275, 1276, 1277, 1278, 1279, 1280, 1281, 1282, 1283] (by decide +kernel) (by decide +kernel)) (goodIn_sub (fun _ h => List.mem_append_left _ (List.mem_append_left _ (List.mem_append_left _ (List.mem_append_left _ (List.mem_append_left _ (List.mem_append_left _ (List.mem_append_right _ h))))))) (by decide +kernel))
set_option maxRecDepth 20000 in
theorem gL_law_X6_addPost : GoodIn wsL_law (wsV RL 146 RX6 yX6_addPost wsX6_addPost) := goodIn_app (goodIn_of _ (by decide +kernel)) ggL_law_X6_addPost
set_option maxRecDepth 20000 in
theorem ggL_law_L_setWeight : GoodIn wsL_law wsL_setWeight := goodIn_ca (goodIn_ca (goodIn_ca (goodIn_r _ [194, 195, 145, 196, 197, 198, 2, 199, 17, 154, 200, 201, 202, 203, 204, 205, 153, 155, 156, 157, 158, 159, 160, 1268, 1269, 1270, 1271, 1272, 1273, 1274, 1284, 1285, 1286, 1287, 1288, 1289, 1290] (by decide +kernel) (by decide +kernel)) (goodIn_sub (fun _ h => List.mem_append_left _ (List.mem_append_left _ (List.mem_append_left _ (List.mem_append_left _ (List.mem_append_left _ (List.mem_append_left _ (List.mem_append_right _ h))))))) (by decide +kernel))) (goodIn_sub (fun _ h => List.mem_append_left _ (List.mem_append_left _ (List.mem_append_left _ (List.mem_append_right _ h)))) (by decide +kernel))) (goodIn_sub (fun _ h => List.mem_append_left _ (List.mem_append_left _ (List.mem_append_left _ (List.mem_append_left _ (List.mem_append_right _ h))))) (by decide +kernel))
set_option maxRecDepth 20000 in
theorem gL_law_L_setWeight : GoodIn wsL_law (va_wsS RL 147 yL_setWeight wsL_setWeight) := goodIn_app (goodIn_of _ (by decide +kernel)) ggL_law_L_setWeight
set_option maxRecDepth 20000 in
theorem ggL_law_X6_setWeight : GoodIn wsL_law wsX6_setWeight := goodIn_ca (goodIn_r _ [209, 92, 210, 211, 212, 5, 213, 165, 166, 167, 168, 169, 170, 171, 172, 173, 1275, 1276, 1277, 1278, 1279, 1280, 1281, 1282, 1283] (by decide +kernel) (by decide +kernel)) (goodIn_sub (fun _ h => List.mem_append_left _ (List.mem_append_left _ (List.mem_append_left _ (List.mem_append_left _ (List.mem_append_left _ (List.mem_append_left _ (List.mem_append_right _ h))))))) (by decide +kernel))
set_option maxRecDepth 20000 in
theorem gL_law_X6_setWeight : GoodIn wsL_law (wsV RL 150 RX6 yX6_setWeight wsX6_setWeight) := goodIn_app (goodIn_of _ (by decide +kernel)) ggL_law_X6_setWeight
set_option maxRecDepth 20000 in
theorem ggL_law_L_setPlaces : GoodIn wsL_law wsL_setPlaces := goodIn_ca (goodIn_ca (goodIn_ca (goodIn_ca (goodIn_r _ [216, 195, 145, 217, 218, 219, 220, 2, 221, 222, 223, 17, 31, 186, 224, 225, 226, 227, 204, 205, 185, 155, 156, 157, 158, 159, 160, 228, 229, 230, 16, 231, 38, 1268, 1269, 1270, 1271, 1272, 1273, 1274, 1284, 1285, 1286, 1287, 1288, 1289, 1290] (by decide +kernel) (by decide +kernel)) (goodIn_sub (fun _ h => List.mem_append_left _ (List.mem_append_left _ (List.mem_append_left _ (List.mem_append_left _ (List.mem_append_left _ (List.mem_append_left _ (List.mem_append_right _ h))))))) (by decide +kernel))) (goodIn_sub (fun _ h => List.mem_append_left _ (List.mem_append_left _ (List.mem_append_right _ h))) (by decide +kernel))) (goodIn_sub (fun _ h => List.mem_append_left _ (List.mem_append_left _ (List.mem_append_left _ (List.mem_append_right _ h)))) (by decide +kernel))) (goodIn_sub (fun _ h => List.mem_append_left _ (List.mem_append_left _ (List.mem_append_left _ (List.mem_append_left _ (List.mem_append_right _ h))))) (by decide +kernel))
set_option maxRecDepth 20000 in
theorem gL_law_L_setPlaces : GoodIn wsL_law (va_wsS RL 151 yL_setPlaces wsL_setPlaces) := goodIn_app (goodIn_of _ (by decide +kernel)) ggL_law_L_setPlaces
set_option maxRecDepth 20000 in
theorem ggL_law_X6_setPlaces : GoodIn wsL_law wsX6_setPlaces := goodIn_ca (goodIn_r _ [235, 94, 93, 236, 237, 238, 5, 239, 191, 166, 167, 168, 169, 170, 171, 172, 173, 240, 241, 242, 243, 165, 1275, 1276, 1277, 1278, 1279, 1280, 1281, 1282, 1283] (by decide +kernel) (by decide +kernel)) (goodIn_sub (fun _ h => List.mem_append_left _ (List.mem_append_left _ (List.mem_append_left _ (List.mem_append_left _ (List.mem_append_left _ (List.mem_append_left _ (List.mem_append_right _ h))))))) (by decide +kernel))
set_option maxRecDepth 20000 in
theorem gL_law_X6_setPlaces : GoodIn wsL_law (wsV RL 153 RX6 yX6_setPlaces wsX6_setPlaces) := goodIn_app (goodIn_of _ (by decide +kernel)) ggL_law_X6_setPlaces
set_option maxRecDepth 20000 in
theorem ggL_law_L_setRank : GoodIn wsL_law wsL_setRank := goodIn_ca (goodIn_ca (goodIn_ca (goodIn_r _ [246, 195, 145, 247, 248, 249, 2, 250, 17, 251, 200, 201, 202, 203, 204, 205, 153, 224, 225, 226, 227, 185, 155, 156, 157, 158, 159, 160, 252, 253, 254, 255, 31, 256, 257, 258, 16, 259, 260, 261, 262, 263, 39, 43, 1268, 1269, 1270, 1271, 1272, 1273, 1274, 1284, 1285, 1286, 1287, 1288, 1289, 1290] (by decide +kernel) (by decide +kernel)) (goodIn_sub (fun _ h => List.mem_append_left _ (List.mem_append_left _ (List.mem_append_left _ (List.mem_append_left _ (List.mem_append_left _ (List.mem_append_left _ (List.mem_append_right _ h))))))) (by decide +kernel))) (goodIn_sub (fun _ h => List.mem_append_left _ (List.mem_append_left _ (List.mem_append_left _ (List.mem_append_right _ h)))) (by decide +kernel))) (goodIn_sub (fun _ h => List.mem_append_left _ (List.mem_append_left _ (List.mem_append_left _ (List.mem_append_left _ (List.mem_append_right _ h))))) (by decide +kernel))
set_option maxRecDepth 20000 in
theorem gL_law_L_setRank : GoodIn wsL_law (va_wsS RL 154 yL_setRank wsL_setRank) := goodIn_app (goodIn_of _ (by decide +kernel)) ggL_law_L_setRank
set_option maxRecDepth 20000 in
theorem ggL_law_X6_setRank : GoodIn wsL_law wsX6_setRank := goodIn_ca (goodIn_r _ [267, 96, 210, 211, 212, 5, 213, 165, 166, 167, 168, 236, 237, 238, 239, 191, 169, 170, 171, 172, 173, 268, 269, 270, 271, 94, 1275, 1276, 1277, 1278, 1279, 1280, 1281, 1282, 1283] (by decide +kernel) (by decide +kernel)) (goodIn_sub (fun _ h => List.mem_append_left _ (List.mem_append_left _ (List.mem_append_left _ (List.mem_append_left _ (List.mem_append_left _ (List.mem_append_left _ (List.mem_append_right _ h))))))) (by decide +kernel))
set_option maxRecDepth 20000 in
theorem gL_law_X6_setRank : GoodIn wsL_law (wsV RL 157 RX6 yX6_setRank wsX6_setRank) := goodIn_app (goodIn_of _ (by decide +kernel)) ggL_law_X6_setRank
set_option maxRecDepth 20000 in
theorem ggL_law_L_rankOf : GoodIn wsL_law wsL_rankOf := goodIn_ca (goodIn_ca (goodIn_r _ [274, 195, 275, 276, 277, 2, 278, 17, 251, 200, 201, 202, 203, 204, 205, 153, 224, 225, 226, 227, 185, 1268, 1269, 1270, 1271, 1272, 1273, 1274, 1284, 1285, 1286, 1287, 1288, 1289, 1290] (by decide +kernel) (by decide +kernel)) (goodIn_sub (fun _ h => List.mem_append_left _ (List.mem_append_left _ (List.mem_append_left _ (List.mem_append_left _ (List.mem_append_left _ (List.mem_append_left _ (List.mem_append_right _ h))))))) (by decide +kernel))) (goodIn_sub (fun _ h => List.mem_append_left _ (List.mem_append_left _ (List.mem_append_left _ (List.mem_append_right _ h)))) (by decide +kernel))
set_option maxRecDepth 20000 in
theorem gL_law_L_rankOf : GoodIn wsL_law (va_wsS RL 158 yL_rankOf wsL_rankOf) := goodIn_app (goodIn_of _ (by decide +kernel)) ggL_law_L_rankOf
set_option maxRecDepth 20000 in
theorem ggL_law_X6_rankOf : GoodIn wsL_law wsX6_rankOf := goodIn_ca (goodIn_r _ [282, 96, 210, 211, 212, 5, 213, 165, 166, 167, 168, 236, 237, 238, 239, 191, 169, 170, 171, 172, 173, 1275, 1276, 1277, 1278, 1279, 1280, 1281, 1282, 1283] (by decide +kernel) (by decide +kernel)) (goodIn_sub (fun _ h => List.mem_append_left _ (List.mem_append_left _ (List.mem_append_left _ (List.mem_append_left _ (List.mem_append_left _ (List.mem_append_left _ (List.mem_append_right _ h))))))) (by decide +kernel))
set_option maxRecDepth 20000 in
theorem gL_law_X6_rankOf : GoodIn wsL_law (wsV RL 160 RX6 yX6_rankOf wsX6_rankOf) := goodIn_app (goodIn_of _ (by decide +kernel)) ggL_law_X6_rankOf
set_option maxRecDepth 20000 in
theorem ggL_law_L_type : GoodIn wsL_law wsL_type := goodIn_ca (goodIn_ca (goodIn_ca (goodIn_r _ [285, 145, 146, 286, 287, 288, 2, 289, 159, 160, 151, 152, 21, 290, 291, 20, 292, 293, 294, 295, 296, 50, 297, 298, 299, 300, 52, 301, 1268, 1269, 1270, 1271, 1272, 1273, 1274, 1291, 1292, 1293] (by decide +kernel) (by decide +kernel)) (goodIn_sub (fun _ h => List.mem_append_left _ (List.mem_append_left _ (List.mem_append_left _ (List.mem_append_left _ (List.mem_append_left _ (List.mem_append_left _ (List.mem_append_right _ h))))))) (by decide +kernel))) (goodIn_sub (fun _ h => List.mem_append_left _ (List.mem_append_left _ (List.mem_append_left _ (List.mem_append_left _ (List.mem_append_right _ h))))) (by decide +kernel))) (goodIn_sub (fun _ h => List.mem_append_left _ (List.mem_append_left _ (List.mem_append_left _ (List.mem_append_left _ (List.mem_append_left _ (List.mem_append_right _ h)))))) (by decide +kernel))
set_option maxRecDepth 20000 in
theorem gL_law_L_type : GoodIn wsL_law (va_wsS RL 161 yL_type wsL_type) := goodIn_app (goodIn_of _ (by decide +kernel)) ggL_law_L_type
set_option maxRecDepth 20000 in
theorem ggL_law_X6_type : GoodIn wsL_law wsX6_type := goodIn_r _ [305, 104, 169, 170, 171, 5, 172, 173, 306, 307, 308, 103, 309, 310, 311, 312, 313, 125, 314, 315, 316, 317, 318, 319, 320, 321, 322, 323, 130, 324, 325, 326, 327, 328, 131, 329, 330, 331, 332, 333, 334, 335, 336, 337, 338, 339, 340, 341, 342, 343, 344, 345, 346, 347, 348, 86, 349, 350, 351, 352, 353, 354, 355, 129, 356, 357, 358, 359, 360, 361, 362, 363, 364, 365, 366, 367, 128, 368, 369, 370, 371, 372, 373, 374, 375, 376, 132, 133, 134, 135, 136, 137, 138, 139, 377, 378, 379, 380, 381, 382, 383, 384, 385, 386, 387, 388, 389, 390, 391, 392, 393, 394, 395, 396, 397, 398, 399, 400, 401, 402, 403, 404, 405, 406, 407, 408, 409, 410, 411, 412, 413, 414, 415, 1275, 1276, 1277, 1278, 1279, 1280, 1281, 1282, 1283, 1313, 1314, 1315, 1316] (by decide +kernel) (by decide +kernel)
set_option maxRecDepth 20000 in
theorem gL_law_X6_type : GoodIn wsL_law (wsV RL 164 RX6 yX6_type wsX6_type) := goodIn_app (goodIn_of _ (by decide +kernel)) ggL_law_X6_type
set_option maxRecDepth 20000 in
theorem ggL_law_X5_wipe : GoodIn wsL_law wsX5_wipe := goodIn_r _ [419, 21, 420, 1268, 1269, 1270, 1271, 1272, 1273, 1274, 1291, 1292, 1293] (by decide +kernel) (by decide +kernel)
set_option maxRecDepth 20000 in
theorem gL_law_X5_wipe : GoodIn wsL_law (wsV RL 165 RX5 yX5_wipe wsX5_wipe) := goodIn_app (goodIn_of _ (by decide +kernel)) ggL_law_X5_wipe
set_option maxRecDepth 20000 in
theorem ggL_law_X6_wipe : GoodIn wsL_law wsX6_wipe := goodIn_r _ [424, 104, 306, 307, 308, 103, 309, 310, 311, 312, 313, 125, 314, 315, 425, 426, 427, 428, 429, 430, 431, 432, 433, 434, 435, 130, 436, 324, 325, 326, 327, 328, 131, 329, 330, 331, 332, 333, 334, 335, 336, 337, 338, 339, 340, 341, 342, 343, 344, 345, 346, 347, 348, 86, 349, 350, 351, 352, 353, 354, 355, 129, 356, 357, 358, 359, 360, 361, 362, 363, 364, 365, 366, 367, 128, 437, 438, 370, 439, 440, 441, 442, 443, 444, 445, 446, 102, 447, 448, 449, 450, 451, 134, 452, 453, 1275, 1276, 1277, 1278, 1279, 1280, 1281, 1282, 1283, 1313, 1314, 1315, 1316, 1317, 1318, 1319, 1320, 1321, 1322, 1323, 1324, 1325, 1326, 1327, 1328] (by decide +kernel) (by decide +kernel)
set_option maxRecDepth 20000 in
theorem gL_law_X6_wipe : GoodIn wsL_law (wsV RL 168 RX6 yX6_wipe wsX6_wipe) := goodIn_app (goodIn_of _ (by decide +kernel)) ggL_law_X6_wipe
set_option maxRecDepth 20000 in
theorem ggL_law_L_tell : GoodIn wsL_law wsL_tell := goodIn_ca (goodIn_ca (goodIn_ca (goodIn_r _ [456, 195, 217, 457, 458, 459, 2, 460, 222, 223, 21, 17, 185, 251, 461, 420, 200, 201, 202, 203, 204, 205, 153, 462, 463, 464, 20, 465, 51, 50, 52, 466, 85, 86, 87, 252, 253, 254, 255, 31, 256, 257, 258, 16, 259, 260, 261, 262, 263, 39, 43, 1268, 1269, 1270, 1271, 1272, 1273, 1274, 1284, 1285, 1286, 1287, 1288, 1289, 1290, 1291, 1292, 1293] (by decide +kernel) (by decide +kernel)) (goodIn_sub (fun _ h => List.mem_append_left _ (List.mem_append_left _ (List.mem_append_left _ (List.mem_append_left _ (List.mem_append_left _ (List.mem_append_left _ (List.mem_append_right _ h))))))) (by decide +kernel))) (goodIn_sub (fun _ h => List.mem_append_left _ (List.mem_append_left _ (List.mem_append_right _ h))) (by decide +kernel))) (goodIn_sub (fun _ h => List.mem_append_left _ (List.mem_append_left _ (List.mem_append_left _ (List.mem_append_right _ h)))) (by decide +kernel))
set_option maxRecDepth 20000 in
theorem gL_law_L_tell : GoodIn wsL_law (va_wsS RL 169 yL_tell wsL_tell) := goodIn_app (goodIn_of _ (by decide +kernel)) ggL_law_L_tell
set_option maxRecDepth 20000 in
theorem ggL_law_X6_tell : GoodIn wsL_law wsX6_tell := goodIn_ca (goodIn_r _ [470, 96, 471, 360, 361, 362, 104, 210, 211, 212, 5, 213, 165, 166, 167, 168, 169, 170, 171, 172, 173, 472, 473, 474, 475, 30, 306, 307, 308, 103, 309, 310, 311, 312, 313, 125, 314, 315, 476, 477, 478, 479, 480, 481, 482, 483, 131, 130, 484, 357, 341, 358, 485, 411, 391, 412, 393, 413, 414, 396, 415, 486, 487, 134, 488, 401, 402, 403, 386, 387, 388, 236, 237, 238, 239, 191, 268, 269, 270, 271, 94, 425, 426, 427, 428, 429, 430, 431, 432, 433, 434, 435, 436, 324, 325, 326, 327, 328, 329, 330, 331, 332, 333, 334, 335, 336, 337, 338, 339, 340, 342, 343, 344, 345, 346, 347, 348, 86, 349, 350, 351, 352, 353, 354, 355, 129, 356, 359, 363, 364, 365, 366, 367, 128, 437, 438, 370, 439, 440, 441, 442, 443, 444, 445, 446, 102, 447, 448, 449, 450, 451, 452, 453, 1275, 1276, 1277, 1278, 1279, 1280, 1281, 1282, 1283, 1313, 1314, 1315, 1316, 1317, 1318, 1319, 1320, 1321, 1322, 1323, 1324, 1325, 1326, 1327, 1328] (by decide +kernel) (by decide +kernel)) (goodIn_sub (fun _ h => List.mem_append_left _ (List.mem_append_left _ (List.mem_append_left _ (List.mem_append_left _ (List.mem_append_left _ (List.mem_append_left _ (List.mem_append_right _ h))))))) (by decide +kernel))
set_option maxRecDepth 20000 in
theorem gL_law_X6_tell : GoodIn wsL_law (wsV RL 171 RX6 yX6_tell wsX6_tell) := goodIn_app (goodIn_of _ (by decide +kernel)) ggL_law_X6_tell
set_option maxRecDepth 20000 in
theorem ggL_law_L_textLength : GoodIn wsL_law wsL_textLength := goodIn_ca (goodIn_ca (goodIn_r _ [491, 195, 492, 493, 494, 2, 495, 17, 200, 201, 202, 203, 204, 205, 153, 496, 497, 498, 16, 499, 39, 43, 500, 501, 502, 503, 45, 1268, 1269, 1270, 1271, 1272, 1273, 1274, 1284, 1285, 1286, 1287, 1288, 1289, 1290] (by decide +kernel) (by decide +kernel)) (goodIn_sub (fun _ h => List.mem_append_left _ (List.mem_append_left _ (List.mem_append_left _ (List.mem_append_left _ (List.mem_append_left _ (List.mem_append_left _ (List.mem_append_right _ h))))))) (by decide +kernel))) (goodIn_sub (fun _ h => List.mem_append_left _ (List.mem_append_left _ (List.mem_append_left _ (List.mem_append_right _ h)))) (by decide +kernel))
set_option maxRecDepth 20000 in
theorem gL_law_L_textLength : GoodIn wsL_law (va_wsS RL 172 yL_textLength wsL_textLength) := goodIn_app (goodIn_of _ (by decide +kernel)) ggL_law_L_textLength
set_option maxRecDepth 20000 in
theorem ggL_law_X6_textLength : GoodIn wsL_law wsX6_textLength := goodIn_ca (goodIn_r _ [507, 210, 211, 212, 5, 213, 165, 166, 167, 168, 169, 170, 171, 172, 173, 508, 509, 510, 511, 101, 102, 103, 191, 96, 120, 121, 122, 123, 124, 125, 126, 127, 12, 13, 128, 129, 130, 131, 132, 133, 134, 135, 136, 137, 138, 139, 316, 317, 318, 319, 320, 321, 312, 322, 323, 315, 324, 325, 326, 327, 328, 329, 330, 331, 332, 333, 334, 335, 336, 337, 338, 339, 340, 341, 342, 343, 344, 345, 346, 347, 348, 86, 349, 350, 351, 352, 353, 354, 355, 356, 357, 358, 359, 360, 361, 362, 363, 364, 365, 366, 367, 368, 369, 370, 371, 372, 373, 374, 375, 376, 377, 378, 379, 380, 381, 382, 383, 384, 385, 386, 387, 388, 389, 390, 391, 392, 393, 394, 395, 396, 397, 398, 399, 400, 401, 402, 403, 404, 405, 406, 407, 408, 409, 410, 411, 412, 413, 414, 415, 512, 513, 514, 515, 516, 517, 518, 519, 520, 521, 522, 523, 524, 525, 526, 527, 528, 529, 530, 531, 532, 533, 534, 311, 535, 536, 307, 309, 310, 313, 314, 537, 538, 539, 540, 541, 542, 543, 544, 545, 546, 446, 547, 548, 549, 550, 551, 552, 553, 487, 488, 554, 555, 556, 557, 558, 559, 560, 561, 562, 563, 564, 565, 1275, 1276, 1277, 1278, 1279, 1280, 1281, 1282, 1283, 1313, 1314, 1315, 1316, 1329, 1330, 1331, 1332] (by decide +kernel) (by decide +kernel)) (goodIn_sub (fun _ h => List.mem_append_left _ (List.mem_append_left _ (List.mem_append_left _ (List.mem_append_left _ (List.mem_append_left _ (List.mem_append_left _ (List.mem_append_right _ h))))))) (by decide +kernel))
set_option maxRecDepth 20000 in
theorem gL_law_X6_textLength : GoodIn wsL_law (wsV RL 174 RX6 yX6_textLength wsX6_textLength) := goodIn_app (goodIn_of _ (by decide +kernel)) ggL_law_X6_textLength
set_option maxRecDepth 20000 in
theorem ggL_law_L_textAt : GoodIn wsL_law wsL_textAt := goodIn_ca (goodIn_ca (goodIn_ca (goodIn_r _ [568, 195, 569, 570, 571, 572, 2, 573, 574, 575, 17, 576, 200, 201, 202, 203, 204, 205, 153, 496, 497, 498, 16, 499, 39, 43, 500, 501, 502, 503, 45, 1268, 1269, 1270, 1271, 1272, 1273, 1274, 1284, 1285, 1286, 1287, 1288, 1289, 1290] (by decide +kernel) (by decide +kernel)) (goodIn_sub (fun _ h => List.mem_append_left _ (List.mem_append_left _ (List.mem_append_left _ (List.mem_append_left _ (List.mem_append_left _ (List.mem_append_left _ (List.mem_append_right _ h))))))) (by decide +kernel))) (goodIn_sub (fun _ h => List.mem_append_left _ (List.mem_append_right _ h)) (by decide +kernel))) (goodIn_sub (fun _ h => List.mem_append_left _ (List.mem_append_left _ (List.mem_append_left _ (List.mem_append_right _ h)))) (by decide +kernel))
set_option maxRecDepth 20000 in
theorem gL_law_L_textAt : GoodIn wsL_law (va_wsS RL 175 yL_textAt wsL_textAt) := goodIn_app (goodIn_of _ (by decide +kernel)) ggL_law_L_textAt
set_option maxRecDepth 20000 in
theorem ggL_law_X6_textAt : GoodIn wsL_law wsX6_textAt := goodIn_ca (goodIn_r _ [580, 210, 211, 212, 5, 213, 165, 166, 167, 168, 169, 170, 171, 172, 173, 508, 509, 510, 511, 101, 102, 103, 191, 96, 120, 121, 122, 123, 124, 125, 126, 127, 12, 13, 128, 129, 130, 131, 132, 133, 134, 135, 136, 137, 138, 139, 316, 317, 318, 319, 320, 321, 312, 322, 323, 315, 324, 325, 326, 327, 328, 329, 330, 331, 332, 333, 334, 335, 336, 337, 338, 339, 340, 341, 342, 343, 344, 345, 346, 347, 348, 86, 349, 350, 351, 352, 353, 354, 355, 356, 357, 358, 359, 360, 361, 362, 363, 364, 365, 366, 367, 368, 369, 370, 371, 372, 373, 374, 375, 376, 377, 378, 379, 380, 381, 382, 383, 384, 385, 386, 387, 388, 389, 390, 391, 392, 393, 394, 395, 396, 397, 398, 399, 400, 401, 402, 403, 404, 405, 406, 407, 408, 409, 410, 411, 412, 413, 414, 415, 512, 513, 514, 515, 516, 517, 518, 519, 520, 521, 522, 523, 524, 525, 526, 527, 528, 529, 530, 531, 532, 533, 534, 311, 535, 536, 307, 309, 310, 313, 314, 537, 538, 539, 540, 541, 542, 543, 544, 545, 546, 446, 547, 548, 549, 550, 551, 552, 553, 487, 488, 554, 555, 556, 557, 558, 559, 560, 561, 562, 563, 564, 565, 581, 582, 583, 584, 585, 586, 587, 588, 589, 590, 591, 592, 593, 594, 595, 1275, 1276, 1277, 1278, 1279, 1280, 1281, 1282, 1283, 1313, 1314, 1315, 1316, 1329, 1330, 1331, 1332] (by decide +kernel) (by decide +kernel)) (goodIn_sub (fun _ h => List.mem_append_left _ (List.mem_append_left _ (List.mem_append_left _ (List.mem_append_left _ (List.mem_append_left _ (List.mem_append_left _ (List.mem_append_right _ h))))))) (by decide +kernel))
set_option maxRecDepth 20000 in
theorem gL_law_X6_textAt : GoodIn wsL_law (wsV RL 177 RX6 yX6_textAt wsX6_textAt) := goodIn_app (goodIn_of _ (by decide +kernel)) ggL_law_X6_textAt
set_option maxRecDepth 20000 in
theorem ggL_law_L_assign : GoodIn wsL_law wsL_assign := goodIn_ca (goodIn_ca (goodIn_ca (goodIn_r _ [598, 195, 217, 599, 600, 601, 2, 602, 222, 223, 31, 17, 200, 201, 202, 203, 204, 205, 153, 224, 225, 226, 227, 185, 256, 257, 258, 16, 259, 260, 261, 262, 263, 39, 43, 603, 604, 605, 606, 186, 228, 229, 230, 231, 38, 1268, 1269, 1270, 1271, 1272, 1273, 1274, 1284, 1285, 1286, 1287, 1288, 1289, 1290] (by decide +kernel) (by decide +kernel)) (goodIn_sub (fun _ h => List.mem_append_left _ (List.mem_append_left _ (List.mem_append_left _ (List.mem_append_left _ (List.mem_append_left _ (List.mem_append_left _ (List.mem_append_right _ h))))))) (by decide +kernel))) (goodIn_sub (fun _ h => List.mem_append_left _ (List.mem_append_left _ (List.mem_append_right _ h))) (by decide +kernel))) (goodIn_sub (fun _ h => List.mem_append_left _ (List.mem_append_left _ (List.mem_append_left _ (List.mem_append_right _ h)))) (by decide +kernel))
set_option maxRecDepth 20000 in
theorem gL_law_L_assign : GoodIn wsL_law (va_wsS RL 178 yL_assign wsL_assign) := goodIn_app (goodIn_of _ (by decide +kernel)) ggL_law_L_assign
set_option maxRecDepth 20000 in
theorem ggL_law_X6_assign : GoodIn wsL_law wsX6_assign := goodIn_ca (goodIn_r _ [610, 94, 96, 93, 210, 211, 212, 5, 213, 165, 166, 167, 168, 236, 237, 238, 239, 191, 169, 170, 171, 172, 173, 240, 241, 242, 243, 1275, 1276, 1277, 1278, 1279, 1280, 1281, 1282, 1283] (by decide +kernel) (by decide +kernel)) (goodIn_sub (fun _ h => List.mem_append_left _ (List.mem_append_left _ (List.mem_append_left _ (List.mem_append_left _ (List.mem_append_left _ (List.mem_append_left _ (List.mem_append_right _ h))))))) (by decide +kernel))
set_option maxRecDepth 20000 in
theorem gL_law_X6_assign : GoodIn wsL_law (wsV RL 180 RX6 yX6_assign wsX6_assign) := goodIn_app (goodIn_of _ (by decide +kernel)) ggL_law_X6_assign
set_option maxRecDepth 20000 in
theorem ggL_law_L_release : GoodIn wsL_law wsL_release := goodIn_ca (goodIn_ca (goodIn_ca (goodIn_r _ [613, 195, 569, 614, 615, 616, 2, 617, 574, 575, 31, 200, 201, 202, 203, 204, 205, 17, 153, 1268, 1269, 1270, 1271, 1272, 1273, 1274, 1284, 1285, 1286, 1287, 1288, 1289, 1290] (by decide +kernel) (by decide +kernel)) (goodIn_sub (fun _ h => List.mem_append_left _ (List.mem_append_left _ (List.mem_append_left _ (List.mem_append_left _ (List.mem_append_left _ (List.mem_append_left _ (List.mem_append_right _ h))))))) (by decide +kernel))) (goodIn_sub (fun _ h => List.mem_append_left _ (List.mem_append_right _ h)) (by decide +kernel))) (goodIn_sub (fun _ h => List.mem_append_left _ (List.mem_append_left _ (List.mem_append_left _ (List.mem_append_right _ h)))) (by decide +kernel))
set_option maxRecDepth 20000 in
theorem gL_law_L_release : GoodIn wsL_law (va_wsS RL 181 yL_release wsL_release) := goodIn_app (goodIn_of _ (by decide +kernel)) ggL_law_L_release
set_option maxRecDepth 20000 in
theorem ggL_law_X6_release : GoodIn wsL_law wsX6_release := goodIn_ca (goodIn_r _ [621, 94, 210, 211, 212, 5, 213, 165, 166, 167, 168, 169, 170, 171, 172, 173, 1275, 1276, 1277, 1278, 1279, 1280, 1281, 1282, 1283] (by decide +kernel) (by decide +kernel)) (goodIn_sub (fun _ h => List.mem_append_left _ (List.mem_append_left _ (List.mem_append_left _ (List.mem_append_left _ (List.mem_append_left _ (List.mem_append_left _ (List.mem_append_right _ h))))))) (by decide +kernel))
set_option maxRecDepth 20000 in
theorem gL_law_X6_release : GoodIn wsL_law (wsV RL 183 RX6 yX6_release wsX6_release) := goodIn_app (goodIn_of _ (by decide +kernel)) ggL_law_X6_release
set_option maxRecDepth 20000 in
theorem ggL_law_L_postOf : GoodIn wsL_law wsL_postOf := goodIn_ca (goodIn_ca (goodIn_r _ [624, 195, 625, 626, 627, 2, 628, 31, 200, 201, 202, 203, 204, 205, 17, 153, 1268, 1269, 1270, 1271, 1272, 1273, 1274, 1284, 1285, 1286, 1287, 1288, 1289, 1290] (by decide +kernel) (by decide +kernel)) (goodIn_sub (fun _ h => List.mem_append_left _ (List.mem_append_left _ (List.mem_append_left _ (List.mem_append_left _ (List.mem_append_left _ (List.mem_append_left _ (List.mem_append_right _ h))))))) (by decide +kernel))) (goodIn_sub (fun _ h => List.mem_append_left _ (List.mem_append_left _ (List.mem_append_left _ (List.mem_append_right _ h)))) (by decide +kernel))
set_option maxRecDepth 20000 in
theorem gL_law_L_postOf : GoodIn wsL_law (va_wsS RL 184 yL_postOf wsL_postOf) := goodIn_app (goodIn_of _ (by decide +kernel)) ggL_law_L_postOf
set_option maxRecDepth 20000 in
theorem ggL_law_X6_postOf : GoodIn wsL_law wsX6_postOf := goodIn_ca (goodIn_r _ [632, 94, 210, 211, 212, 5, 213, 165, 166, 167, 168, 169, 170, 171, 172, 173, 1275, 1276, 1277, 1278, 1279, 1280, 1281, 1282, 1283] (by decide +kernel) (by decide +kernel)) (goodIn_sub (fun _ h => List.mem_append_left _ (List.mem_append_left _ (List.mem_append_left _ (List.mem_append_left _ (List.mem_append_left _ (List.mem_append_left _ (List.mem_append_right _ h))))))) (by decide +kernel))
set_option maxRecDepth 20000 in
theorem gL_law_X6_postOf : GoodIn wsL_law (wsV RL 186 RX6 yX6_postOf wsX6_postOf) := goodIn_app (goodIn_of _ (by decide +kernel)) ggL_law_X6_postOf
set_option maxRecDepth 20000 in
theorem ggL_law_L_freeOf : GoodIn wsL_law wsL_freeOf := goodIn_ca (goodIn_ca (goodIn_r _ [635, 195, 636, 637, 638, 2, 639, 224, 225, 226, 227, 204, 205, 17, 185, 603, 604, 605, 606, 186, 31, 228, 229, 230, 16, 231, 38, 1268, 1269, 1270, 1271, 1272, 1273, 1274, 1284, 1285, 1286, 1287, 1288, 1289, 1290] (by decide +kernel) (by decide +kernel)) (goodIn_sub (fun _ h => List.mem_append_left _ (List.mem_append_left _ (List.mem_append_left _ (List.mem_append_left _ (List.mem_append_left _ (List.mem_append_left _ (List.mem_append_right _ h))))))) (by decide +kernel))) (goodIn_sub (fun _ h => List.mem_append_left _ (List.mem_append_left _ (List.mem_append_left _ (List.mem_append_right _ h)))) (by decide +kernel))
set_option maxRecDepth 20000 in
theorem gL_law_L_freeOf : GoodIn wsL_law (va_wsS RL 187 yL_freeOf wsL_freeOf) := goodIn_app (goodIn_of _ (by decide +kernel)) ggL_law_L_freeOf
set_option maxRecDepth 20000 in
theorem ggL_law_X6_freeOf : GoodIn wsL_law wsX6_freeOf := goodIn_ca (goodIn_r _ [643, 93, 94, 236, 237, 238, 5, 239, 191, 166, 167, 168, 169, 170, 171, 172, 173, 240, 241, 242, 243, 165, 1275, 1276, 1277, 1278, 1279, 1280, 1281, 1282, 1283] (by decide +kernel) (by decide +kernel)) (goodIn_sub (fun _ h => List.mem_append_left _ (List.mem_append_left _ (List.mem_append_left _ (List.mem_append_left _ (List.mem_append_left _ (List.mem_append_left _ (List.mem_append_right _ h))))))) (by decide +kernel))
set_option maxRecDepth 20000 in
theorem gL_law_X6_freeOf : GoodIn wsL_law (wsV RL 189 RX6 yX6_freeOf wsX6_freeOf) := goodIn_app (goodIn_of _ (by decide +kernel)) ggL_law_X6_freeOf
set_option maxRecDepth 20000 in
theorem ggL_law_L_keep : GoodIn wsL_law wsL_keep := goodIn_ca (goodIn_ca (goodIn_r _ [646, 146, 647, 648, 649, 2, 650, 151, 152, 34, 31, 33, 651, 360, 361, 362, 1268, 1269, 1270, 1271, 1272, 1273, 1274] (by decide +kernel) (by decide +kernel)) (goodIn_sub (fun _ h => List.mem_append_left _ (List.mem_append_left _ (List.mem_append_left _ (List.mem_append_left _ (List.mem_append_left _ (List.mem_append_left _ (List.mem_append_right _ h))))))) (by decide +kernel))) (goodIn_sub (fun _ h => List.mem_append_left _ (List.mem_append_left _ (List.mem_append_left _ (List.mem_append_left _ (List.mem_append_left _ (List.mem_append_right _ h)))))) (by decide +kernel))
set_option maxRecDepth 20000 in
theorem gL_law_L_keep : GoodIn wsL_law (va_wsS RL 190 yL_keep wsL_keep) := goodIn_app (goodIn_of _ (by decide +kernel)) ggL_law_L_keep
set_option maxRecDepth 20000 in
theorem ggL_law_X6_keep : GoodIn wsL_law wsX6_keep := goodIn_r _ [655, 100, 94, 656, 657, 352, 353, 658, 659, 660, 661, 662, 99, 663, 664, 169, 170, 171, 5, 172, 173, 665, 666, 667, 668, 669, 670, 109, 671, 672, 673, 674, 675, 676, 677, 678, 679, 680, 681, 682, 108, 683, 340, 341, 342, 684, 685, 336, 337, 338, 339, 343, 344, 345, 346, 686, 687, 86, 688, 689, 690, 691, 692, 693, 694, 695, 696, 697, 356, 357, 358, 359, 360, 361, 362, 1275, 1276, 1277, 1278, 1279, 1280, 1281, 1282, 1283, 1310, 1311, 1312] (by decide +kernel) (by decide +kernel)
set_option maxRecDepth 20000 in
theorem gL_law_X6_keep : GoodIn wsL_law (wsV RL 193 RX6 yX6_keep wsX6_keep) := goodIn_app (goodIn_of _ (by decide +kernel)) ggL_law_X6_keep
set_option maxRecDepth 20000 in
theorem ggL_law_L_take : GoodIn wsL_law wsL_take := goodIn_ca (goodIn_ca (goodIn_ca (goodIn_r _ [700, 195, 217, 701, 702, 703, 2, 704, 222, 223, 17, 33, 31, 651, 360, 361, 362, 705, 706, 707, 708, 204, 205, 34, 709, 710, 711, 16, 712, 46, 38, 41, 713, 85, 86, 87, 714, 257, 258, 259, 260, 261, 262, 263, 39, 43, 715, 716, 717, 718, 153, 1268, 1269, 1270, 1271, 1272, 1273, 1274, 1284, 1285, 1286, 1287, 1288, 1289, 1290] (by decide +kernel) (by decide +kernel)) (goodIn_sub (fun _ h => List.mem_append_left _ (List.mem_append_left _ (List.mem_append_left _ (List.mem_append_left _ (List.mem_append_left _ (List.mem_append_left _ (List.mem_append_right _ h))))))) (by decide +kernel))) (goodIn_sub (fun _ h => List.mem_append_left _ (List.mem_append_left _ (List.mem_append_right _ h))) (by decide +kernel))) (goodIn_sub (fun _ h => List.mem_append_left _ (List.mem_append_left _ (List.mem_append_left _ (List.mem_append_right _ h)))) (by decide +kernel))
set_option maxRecDepth 20000 in
theorem gL_law_L_take : GoodIn wsL_law (va_wsS RL 194 yL_take wsL_take) := goodIn_app (goodIn_of _ (by decide +kernel)) ggL_law_L_take
set_option maxRecDepth 20000 in
theorem ggL_law_X6_take : GoodIn wsL_law wsX6_take := goodIn_ca (goodIn_r _ [722, 100, 659, 94, 471, 360, 361, 362, 165, 723, 724, 725, 5, 726, 660, 661, 662, 99, 663, 664, 166, 167, 168, 169, 170, 171, 172, 173, 727, 728, 729, 730, 731, 732, 733, 734, 735, 414, 396, 415, 736, 737, 738, 739, 109, 740, 741, 742, 743, 96, 191, 93, 240, 241, 242, 243, 1275, 1276, 1277, 1278, 1279, 1280, 1281, 1282, 1283, 1310, 1311, 1312] (by decide +kernel) (by decide +kernel)) (goodIn_sub (fun _ h => List.mem_append_left _ (List.mem_append_left _ (List.mem_append_left _ (List.mem_append_left _ (List.mem_append_left _ (List.mem_append_left _ (List.mem_append_right _ h))))))) (by decide +kernel))
set_option maxRecDepth 20000 in
theorem gL_law_X6_take : GoodIn wsL_law (wsV RL 196 RX6 yX6_take wsX6_take) := goodIn_app (goodIn_of _ (by decide +kernel)) ggL_law_X6_take
set_option maxRecDepth 20000 in
theorem ggL_law_L_keptPost : GoodIn wsL_law wsL_keptPost := goodIn_ca (goodIn_ca (goodIn_r _ [746, 195, 747, 748, 749, 2, 750, 33, 705, 706, 707, 708, 204, 205, 34, 200, 201, 202, 203, 17, 153, 1268, 1269, 1270, 1271, 1272, 1273, 1274, 1284, 1285, 1286, 1287, 1288, 1289, 1290] (by decide +kernel) (by decide +kernel)) (goodIn_sub (fun _ h => List.mem_append_left _ (List.mem_append_left _ (List.mem_append_left _ (List.mem_append_left _ (List.mem_append_left _ (List.mem_append_left _ (List.mem_append_right _ h))))))) (by decide +kernel))) (goodIn_sub (fun _ h => List.mem_append_left _ (List.mem_append_left _ (List.mem_append_left _ (List.mem_append_right _ h)))) (by decide +kernel))
set_option maxRecDepth 20000 in
theorem gL_law_L_keptPost : GoodIn wsL_law (va_wsS RL 197 yL_keptPost wsL_keptPost) := goodIn_app (goodIn_of _ (by decide +kernel)) ggL_law_L_keptPost
set_option maxRecDepth 20000 in
theorem ggL_law_X6_keptPost : GoodIn wsL_law wsX6_keptPost := goodIn_ca (goodIn_r _ [754, 100, 659, 723, 724, 725, 5, 726, 660, 661, 662, 99, 663, 664, 166, 167, 168, 210, 211, 212, 213, 165, 169, 170, 171, 172, 173, 727, 728, 729, 730, 731, 732, 733, 734, 735, 414, 396, 415, 736, 737, 738, 739, 109, 1275, 1276, 1277, 1278, 1279, 1280, 1281, 1282, 1283, 1310, 1311, 1312] (by decide +kernel) (by decide +kernel)) (goodIn_sub (fun _ h => List.mem_append_left _ (List.mem_append_left _ (List.mem_append_left _ (List.mem_append_left _ (List.mem_append_left _ (List.mem_append_left _ (List.mem_append_right _ h))))))) (by decide +kernel))
set_option maxRecDepth 20000 in
theorem gL_law_X6_keptPost : GoodIn wsL_law (wsV RL 199 RX6 yX6_keptPost wsX6_keptPost) := goodIn_app (goodIn_of _ (by decide +kernel)) ggL_law_X6_keptPost
set_option maxRecDepth 20000 in
theorem ggL_law_L_votes : GoodIn wsL_law wsL_votes := goodIn_ca (goodIn_ca (goodIn_r _ [757, 195, 758, 759, 760, 2, 761, 17, 762, 763, 764, 765, 705, 706, 707, 708, 204, 205, 34, 766, 767, 768, 769, 33, 31, 770, 771, 772, 16, 773, 38, 40, 260, 261, 262, 263, 39, 43, 1268, 1269, 1270, 1271, 1272, 1273, 1274, 1284, 1285, 1286, 1287, 1288, 1289, 1290] (by decide +kernel) (by decide +kernel)) (goodIn_sub (fun _ h => List.mem_append_left _ (List.mem_append_left _ (List.mem_append_left _ (List.mem_append_left _ (List.mem_append_left _ (List.mem_append_left _ (List.mem_append_right _ h))))))) (by decide +kernel))) (goodIn_sub (fun _ h => List.mem_append_left _ (List.mem_append_left _ (List.mem_append_left _ (List.mem_append_right _ h)))) (by decide +kernel))
set_option maxRecDepth 20000 in
theorem gL_law_L_votes : GoodIn wsL_law (va_wsS RL 200 yL_votes wsL_votes) := goodIn_app (goodIn_of _ (by decide +kernel)) ggL_law_L_votes
set_option maxRecDepth 20000 in
theorem ggL_law_X6_votes : GoodIn wsL_law wsX6_votes := goodIn_ca (goodIn_r _ [777, 778, 779, 780, 5, 781, 723, 724, 725, 726, 100, 660, 661, 662, 99, 663, 664, 166, 167, 168, 169, 170, 171, 172, 173, 782, 783, 784, 785, 94, 659, 727, 728, 729, 730, 731, 732, 733, 734, 735, 414, 396, 415, 736, 737, 738, 739, 109, 786, 787, 788, 789, 165, 92, 790, 791, 792, 793, 96, 1275, 1276, 1277, 1278, 1279, 1280, 1281, 1282, 1283, 1310, 1311, 1312] (by decide +kernel) (by decide +kernel)) (goodIn_sub (fun _ h => List.mem_append_left _ (List.mem_append_left _ (List.mem_append_left _ (List.mem_append_left _ (List.mem_append_left _ (List.mem_append_left _ (List.mem_append_right _ h))))))) (by decide +kernel))
set_option maxRecDepth 20000 in
theorem gL_law_X6_votes : GoodIn wsL_law (wsV RL 202 RX6 yX6_votes wsX6_votes) := goodIn_app (goodIn_of _ (by decide +kernel)) ggL_law_X6_votes
set_option maxRecDepth 20000 in
theorem ggL_law_L_margin : GoodIn wsL_law wsL_margin := goodIn_ca (goodIn_ca (goodIn_r _ [796, 195, 797, 798, 799, 2, 800, 17, 762, 763, 764, 765, 705, 706, 707, 708, 204, 205, 34, 766, 767, 768, 769, 33, 31, 801, 802, 803, 16, 804, 805, 771, 772, 773, 38, 40, 260, 261, 262, 263, 39, 43, 1268, 1269, 1270, 1271, 1272, 1273, 1274, 1284, 1285, 1286, 1287, 1288, 1289, 1290] (by decide +kernel) (by decide +kernel)) (goodIn_sub (fun _ h => List.mem_append_left _ (List.mem_append_left _ (List.mem_append_left _ (List.mem_append_left _ (List.mem_append_left _ (List.mem_append_left _ (List.mem_append_right _ h))))))) (by decide +kernel))) (goodIn_sub (fun _ h => List.mem_append_left _ (List.mem_append_left _ (List.mem_append_left _ (List.mem_append_right _ h)))) (by decide +kernel))
set_option maxRecDepth 20000 in
theorem gL_law_L_margin : GoodIn wsL_law (va_wsS RL 203 yL_margin wsL_margin) := goodIn_app (goodIn_of _ (by decide +kernel)) ggL_law_L_margin
set_option maxRecDepth 20000 in
theorem ggL_law_X6_margin : GoodIn wsL_law wsX6_margin := goodIn_ca (goodIn_r _ [809, 778, 779, 780, 5, 781, 723, 724, 725, 726, 100, 660, 661, 662, 99, 663, 664, 166, 167, 168, 169, 170, 171, 172, 173, 782, 783, 784, 785, 94, 659, 727, 728, 729, 730, 731, 732, 733, 734, 735, 414, 396, 415, 736, 737, 738, 739, 109, 810, 811, 812, 813, 786, 787, 788, 789, 165, 92, 790, 791, 792, 793, 96, 1275, 1276, 1277, 1278, 1279, 1280, 1281, 1282, 1283, 1310, 1311, 1312] (by decide +kernel) (by decide +kernel)) (goodIn_sub (fun _ h => List.mem_append_left _ (List.mem_append_left _ (List.mem_append_left _ (List.mem_append_left _ (List.mem_append_left _ (List.mem_append_left _ (List.mem_append_right _ h))))))) (by decide +kernel))
set_option maxRecDepth 20000 in
theorem gL_law_X6_margin : GoodIn wsL_law (wsV RL 205 RX6 yX6_margin wsX6_margin) := goodIn_app (goodIn_of _ (by decide +kernel)) ggL_law_X6_margin
set_option maxRecDepth 20000 in
theorem ggL_law_L_differ : GoodIn wsL_law wsL_differ := goodIn_ca (goodIn_ca (goodIn_r _ [816, 195, 817, 818, 819, 2, 820, 17, 153, 762, 763, 764, 765, 705, 706, 707, 708, 204, 205, 34, 766, 767, 768, 769, 33, 31, 1268, 1269, 1270, 1271, 1272, 1273, 1274, 1284, 1285, 1286, 1287, 1288, 1289, 1290] (by decide +kernel) (by decide +kernel)) (goodIn_sub (fun _ h => List.mem_append_left _ (List.mem_append_left _ (List.mem_append_left _ (List.mem_append_left _ (List.mem_append_left _ (List.mem_append_left _ (List.mem_append_right _ h))))))) (by decide +kernel))) (goodIn_sub (fun _ h => List.mem_append_left _ (List.mem_append_left _ (List.mem_append_left _ (List.mem_append_right _ h)))) (by decide +kernel))
set_option maxRecDepth 20000 in
theorem gL_law_L_differ : GoodIn wsL_law (va_wsS RL 206 yL_differ wsL_differ) := goodIn_app (goodIn_of _ (by decide +kernel)) ggL_law_L_differ
set_option maxRecDepth 20000 in
theorem ggL_law_X6_differ : GoodIn wsL_law wsX6_differ := goodIn_ca (goodIn_r _ [824, 165, 778, 779, 780, 5, 781, 723, 724, 725, 726, 100, 660, 661, 662, 99, 663, 664, 166, 167, 168, 169, 170, 171, 172, 173, 782, 783, 784, 785, 94, 659, 727, 728, 729, 730, 731, 732, 733, 734, 735, 414, 396, 415, 736, 737, 738, 739, 109, 1275, 1276, 1277, 1278, 1279, 1280, 1281, 1282, 1283, 1310, 1311, 1312] (by decide +kernel) (by decide +kernel)) (goodIn_sub (fun _ h => List.mem_append_left _ (List.mem_append_left _ (List.mem_append_left _ (List.mem_append_left _ (List.mem_append_left _ (List.mem_append_left _ (List.mem_append_right _ h))))))) (by decide +kernel))
set_option maxRecDepth 20000 in
theorem gL_law_X6_differ : GoodIn wsL_law (wsV RL 208 RX6 yX6_differ wsX6_differ) := goodIn_app (goodIn_of _ (by decide +kernel)) ggL_law_X6_differ
set_option maxRecDepth 20000 in
theorem ggL_law_L_winner : GoodIn wsL_law wsL_winner := goodIn_ca (goodIn_ca (goodIn_r _ [827, 569, 828, 829, 830, 2, 831, 574, 575, 29, 17, 33, 34, 832, 833, 834, 28, 835, 80, 82, 836, 802, 803, 16, 804, 805, 771, 772, 773, 38, 40, 260, 261, 262, 263, 39, 43, 837, 838, 839, 840, 841, 842, 843, 844, 1268, 1269, 1270, 1271, 1272, 1273, 1274, 1300, 1301, 1302, 1284, 1285, 1286, 1287, 1288, 1289, 1290] (by decide +kernel) (by decide +kernel)) (goodIn_sub (fun _ h => List.mem_append_left _ (List.mem_append_left _ (List.mem_append_left _ (List.mem_append_left _ (List.mem_append_left _ (List.mem_append_left _ (List.mem_append_right _ h))))))) (by decide +kernel))) (goodIn_sub (fun _ h => List.mem_append_left _ (List.mem_append_right _ h)) (by decide +kernel))
set_option maxRecDepth 20000 in
theorem gL_law_L_winner : GoodIn wsL_law (va_wsS RL 209 yL_winner wsL_winner) := goodIn_app (goodIn_of _ (by decide +kernel)) ggL_law_L_winner
set_option maxRecDepth 20000 in
theorem ggL_law_X6_winner : GoodIn wsL_law wsX6_winner := goodIn_ca (goodIn_r _ [848, 100, 173, 660, 661, 662, 99, 663, 664, 849, 850, 851, 5, 852, 659, 727, 728, 729, 730, 731, 732, 733, 734, 735, 414, 396, 415, 736, 737, 738, 739, 109, 810, 811, 812, 813, 786, 787, 788, 789, 165, 92, 790, 791, 792, 793, 96, 169, 170, 171, 172, 1275, 1276, 1277, 1278, 1279, 1280, 1281, 1282, 1283, 1310, 1311, 1312] (by decide +kernel) (by decide +kernel)) (goodIn_sub (fun _ h => List.mem_append_left _ (List.mem_append_left _ (List.mem_append_left _ (List.mem_append_left _ (List.mem_append_left _ (List.mem_append_left _ (List.mem_append_right _ h))))))) (by decide +kernel))
set_option maxRecDepth 20000 in
theorem gL_law_X6_winner : GoodIn wsL_law (wsV RL 211 RX6 yX6_winner wsX6_winner) := goodIn_app (goodIn_of _ (by decide +kernel)) ggL_law_X6_winner
set_option maxRecDepth 20000 in
theorem ggL_law_L_leadLength : GoodIn wsL_law wsL_leadLength := goodIn_ca (goodIn_ca (goodIn_ca (goodIn_r _ [855, 195, 569, 856, 857, 858, 2, 859, 574, 575, 29, 17, 33, 34, 705, 706, 707, 708, 204, 205, 832, 833, 834, 28, 835, 80, 82, 836, 802, 803, 16, 804, 805, 771, 772, 773, 38, 40, 260, 261, 262, 263, 39, 43, 860, 861, 862, 863, 83, 864, 85, 86, 87, 865, 866, 867, 868, 1268, 1269, 1270, 1271, 1272, 1273, 1274, 1300, 1301, 1302, 1284, 1285, 1286, 1287, 1288, 1289, 1290] (by decide +kernel) (by decide +kernel)) (goodIn_sub (fun _ h => List.mem_append_left _ (List.mem_append_left _ (List.mem_append_left _ (List.mem_append_left _ (List.mem_append_left _ (List.mem_append_left _ (List.mem_append_right _ h))))))) (by decide +kernel))) (goodIn_sub (fun _ h => List.mem_append_left _ (List.mem_append_right _ h)) (by decide +kernel))) (goodIn_sub (fun _ h => List.mem_append_left _ (List.mem_append_left _ (List.mem_append_left _ (List.mem_append_right _ h)))) (by decide +kernel))
set_option maxRecDepth 20000 in
theorem gL_law_L_leadLength : GoodIn wsL_law (va_wsS RL 212 yL_leadLength wsL_leadLength) := goodIn_app (goodIn_of _ (by decide +kernel)) ggL_law_L_leadLength
set_option maxRecDepth 20000 in
theorem ggL_law_X6_leadLength : GoodIn wsL_law wsX6_leadLength := goodIn_ca (goodIn_r _ [872, 723, 724, 725, 5, 726, 100, 660, 661, 662, 99, 663, 664, 166, 167, 168, 169, 170, 171, 172, 173, 873, 874, 875, 876, 30, 849, 850, 851, 852, 659, 727, 728, 729, 730, 731, 732, 733, 734, 735, 414, 396, 415, 736, 737, 738, 739, 109, 810, 811, 812, 813, 786, 787, 788, 789, 165, 92, 790, 791, 792, 793, 96, 1275, 1276, 1277, 1278, 1279, 1280, 1281, 1282, 1283, 1310, 1311, 1312] (by decide +kernel) (by decide +kernel)) (goodIn_sub (fun _ h => List.mem_append_left _ (List.mem_append_left _ (List.mem_append_left _ (List.mem_append_left _ (List.mem_append_left _ (List.mem_append_left _ (List.mem_append_right _ h))))))) (by decide +kernel))
set_option maxRecDepth 20000 in
theorem gL_law_X6_leadLength : GoodIn wsL_law (wsV RL 214 RX6 yX6_leadLength wsX6_leadLength) := goodIn_app (goodIn_of _ (by decide +kernel)) ggL_law_X6_leadLength
set_option maxRecDepth 20000 in
theorem ggL_law_X5_hasCycle : GoodIn wsL_law wsX5_hasCycle := goodIn_ca (goodIn_r _ [880, 29, 17, 33, 34, 832, 833, 834, 28, 835, 80, 82, 836, 802, 803, 16, 804, 805, 771, 772, 773, 38, 40, 260, 261, 262, 263, 39, 43, 860, 861, 862, 863, 83, 864, 85, 86, 87, 865, 866, 867, 868, 1268, 1269, 1270, 1271, 1272, 1273, 1274, 1300, 1301, 1302, 1284, 1285, 1286, 1287, 1288, 1289, 1290] (by decide +kernel) (by decide +kernel)) (goodIn_sub (fun _ h => List.mem_append_left _ (List.mem_append_left _ (List.mem_append_left _ (List.mem_append_left _ (List.mem_append_left _ (List.mem_append_left _ (List.mem_append_right _ h))))))) (by decide +kernel))
set_option maxRecDepth 20000 in
theorem gL_law_X5_hasCycle : GoodIn wsL_law (wsV RL 215 RX5 yX5_hasCycle wsX5_hasCycle) := goodIn_app (goodIn_of _ (by decide +kernel)) ggL_law_X5_hasCycle
set_option maxRecDepth 20000 in
theorem ggL_law_X6_hasCycle : GoodIn wsL_law wsX6_hasCycle := goodIn_ca (goodIn_r _ [884, 100, 660, 661, 662, 99, 663, 664, 873, 874, 875, 5, 876, 30, 849, 850, 851, 852, 659, 727, 728, 729, 730, 731, 732, 733, 734, 735, 414, 396, 415, 736, 737, 738, 739, 109, 810, 811, 812, 813, 786, 787, 788, 789, 165, 92, 790, 791, 792, 793, 96, 1275, 1276, 1277, 1278, 1279, 1280, 1281, 1282, 1283, 1310, 1311, 1312] (by decide +kernel) (by decide +kernel)) (goodIn_sub (fun _ h => List.mem_append_left _ (List.mem_append_left _ (List.mem_append_left _ (List.mem_append_left _ (List.mem_append_left _ (List.mem_append_left _ (List.mem_append_right _ h))))))) (by decide +kernel))
set_option maxRecDepth 20000 in
theorem gL_law_X6_hasCycle : GoodIn wsL_law (wsV RL 218 RX6 yX6_hasCycle wsX6_hasCycle) := goodIn_app (goodIn_of _ (by decide +kernel)) ggL_law_X6_hasCycle
set_option maxRecDepth 20000 in
theorem ggL_law_X5_worstMargin : GoodIn wsL_law wsX5_worstMargin := goodIn_ca (goodIn_r _ [888, 25, 17, 31, 889, 890, 891, 24, 892, 893, 894, 895, 62, 896, 897, 56, 898, 261, 262, 16, 263, 39, 43, 899, 257, 258, 259, 260, 900, 901, 902, 903, 904, 905, 906, 61, 907, 908, 73, 72, 71, 909, 70, 910, 85, 86, 87, 911, 912, 913, 914, 76, 74, 75, 915, 916, 917, 918, 919, 920, 921, 922, 923, 924, 925, 926, 927, 928, 929, 930, 931, 932, 933, 934, 935, 936, 937, 938, 939, 940, 1268, 1269, 1270, 1271, 1272, 1273, 1274, 1284, 1285, 1286, 1287, 1288, 1289, 1290, 1294, 1295, 1296, 1297, 1298, 1299, 1303, 1304, 1305, 1306, 1307, 1308, 1309] (by decide +kernel) (by decide +kernel)) (goodIn_sub (fun _ h => List.mem_append_left _ (List.mem_append_left _ (List.mem_append_left _ (List.mem_append_left _ (List.mem_append_left _ (List.mem_append_left _ (List.mem_append_right _ h))))))) (by decide +kernel))
set_option maxRecDepth 20000 in
theorem gL_law_X5_worstMargin : GoodIn wsL_law (wsV RL 219 RX5 yX5_worstMargin wsX5_worstMargin) := goodIn_app (goodIn_of _ (by decide +kernel)) ggL_law_X5_worstMargin
set_option maxRecDepth 20000 in
theorem ggL_law_X6_worstMargin : GoodIn wsL_law wsX6_worstMargin := goodIn_ca (goodIn_r _ [944, 94, 945, 946, 947, 5, 948, 165, 191, 949, 6, 950, 92, 790, 791, 792, 793, 96, 951, 952, 953, 954, 30, 93, 1275, 1276, 1277, 1278, 1279, 1280, 1281, 1282, 1283] (by decide +kernel) (by decide +kernel)) (goodIn_sub (fun _ h => List.mem_append_left _ (List.mem_append_left _ (List.mem_append_left _ (List.mem_append_left _ (List.mem_append_left _ (List.mem_append_left _ (List.mem_append_right _ h))))))) (by decide +kernel))
set_option maxRecDepth 20000 in
theorem gL_law_X6_worstMargin : GoodIn wsL_law (wsV RL 222 RX6 yX6_worstMargin wsX6_worstMargin) := goodIn_app (goodIn_of _ (by decide +kernel)) ggL_law_X6_worstMargin
set_option maxRecDepth 20000 in
theorem ggL_law_L_challenger : GoodIn wsL_law wsL_challenger := goodIn_ca (goodIn_ca (goodIn_r _ [957, 195, 958, 959, 960, 2, 961, 25, 17, 31, 962, 200, 201, 202, 203, 204, 205, 153, 889, 890, 891, 24, 892, 893, 894, 895, 62, 896, 897, 56, 898, 261, 262, 16, 263, 39, 43, 899, 257, 258, 259, 260, 900, 901, 902, 903, 904, 905, 906, 61, 907, 908, 73, 72, 71, 909, 70, 910, 85, 86, 87, 911, 912, 913, 914, 76, 74, 75, 915, 916, 917, 918, 919, 920, 921, 922, 923, 924, 925, 926, 927, 928, 929, 930, 931, 932, 933, 934, 935, 936, 937, 938, 939, 940, 1268, 1269, 1270, 1271, 1272, 1273, 1274, 1294, 1295, 1296, 1297, 1298, 1299, 1284, 1285, 1286, 1287, 1288, 1289, 1290, 1303, 1304, 1305, 1306, 1307, 1308, 1309] (by decide +kernel) (by decide +kernel)) (goodIn_sub (fun _ h => List.mem_append_left _ (List.mem_append_left _ (List.mem_append_left _ (List.mem_append_left _ (List.mem_append_left _ (List.mem_append_left _ (List.mem_append_right _ h))))))) (by decide +kernel))) (goodIn_sub (fun _ h => List.mem_append_left _ (List.mem_append_left _ (List.mem_append_left _ (List.mem_append_right _ h)))) (by decide +kernel))
set_option maxRecDepth 20000 in
theorem gL_law_L_challenger : GoodIn wsL_law (va_wsS RL 223 yL_challenger wsL_challenger) := goodIn_app (goodIn_of _ (by decide +kernel)) ggL_law_L_challenger
set_option maxRecDepth 20000 in
theorem ggL_law_X6_challenger : GoodIn wsL_law wsX6_challenger := goodIn_ca (goodIn_r _ [966, 94, 210, 211, 212, 5, 213, 165, 166, 167, 168, 169, 170, 171, 172, 173, 945, 946, 947, 948, 191, 949, 6, 950, 92, 790, 791, 792, 793, 96, 967, 968, 969, 970, 30, 951, 952, 953, 954, 93, 140, 85, 86, 87, 971, 972, 973, 974, 975, 976, 977, 1275, 1276, 1277, 1278, 1279, 1280, 1281, 1282, 1283] (by decide +kernel) (by decide +kernel)) (goodIn_sub (fun _ h => List.mem_append_left _ (List.mem_append_left _ (List.mem_append_left _ (List.mem_append_left _ (List.mem_append_left _ (List.mem_append_left _ (List.mem_append_right _ h))))))) (by decide +kernel))
set_option maxRecDepth 20000 in
theorem gL_law_X6_challenger : GoodIn wsL_law (wsV RL 225 RX6 yX6_challenger wsX6_challenger) := goodIn_app (goodIn_of _ (by decide +kernel)) ggL_law_X6_challenger
set_option maxRecDepth 20000 in
theorem ggL_law_X5_isPopular : GoodIn wsL_law wsX5_isPopular := goodIn_ca (goodIn_r _ [981, 25, 17, 31, 889, 890, 891, 24, 892, 893, 894, 895, 62, 896, 897, 56, 898, 261, 262, 16, 263, 39, 43, 899, 257, 258, 259, 260, 900, 901, 902, 903, 904, 905, 906, 61, 907, 908, 73, 72, 71, 909, 70, 910, 85, 86, 87, 911, 912, 913, 914, 76, 74, 75, 915, 916, 917, 918, 919, 920, 921, 922, 923, 924, 925, 926, 927, 928, 929, 930, 931, 932, 933, 934, 935, 936, 937, 938, 939, 940, 1268, 1269, 1270, 1271, 1272, 1273, 1274, 1284, 1285, 1286, 1287, 1288, 1289, 1290, 1294, 1295, 1296, 1297, 1298, 1299, 1303, 1304, 1305, 1306, 1307, 1308, 1309] (by decide +kernel) (by decide +kernel)) (goodIn_sub (fun _ h => List.mem_append_left _ (List.mem_append_left _ (List.mem_append_left _ (List.mem_append_left _ (List.mem_append_left _ (List.mem_append_left _ (List.mem_append_right _ h))))))) (by decide +kernel))
set_option maxRecDepth 20000 in
theorem gL_law_X5_isPopular : GoodIn wsL_law (wsV RL 226 RX5 yX5_isPopular wsX5_isPopular) := goodIn_app (goodIn_of _ (by decide +kernel)) ggL_law_X5_isPopular
set_option maxRecDepth 20000 in
theorem ggL_law_X6_isPopular : GoodIn wsL_law wsX6_isPopular := goodIn_ca (goodIn_r _ [985, 94, 945, 946, 947, 5, 948, 165, 191, 949, 6, 950, 92, 790, 791, 792, 793, 96, 951, 952, 953, 954, 30, 93, 1275, 1276, 1277, 1278, 1279, 1280, 1281, 1282, 1283] (by decide +kernel) (by decide +kernel)) (goodIn_sub (fun _ h => List.mem_append_left _ (List.mem_append_left _ (List.mem_append_left _ (List.mem_append_left _ (List.mem_append_left _ (List.mem_append_left _ (List.mem_append_right _ h))))))) (by decide +kernel))
set_option maxRecDepth 20000 in
theorem gL_law_X6_isPopular : GoodIn wsL_law (wsV RL 229 RX6 yX6_isPopular wsX6_isPopular) := goodIn_app (goodIn_of _ (by decide +kernel)) ggL_law_X6_isPopular
set_option maxRecDepth 20000 in
theorem ggL_law_L_hasPopular : GoodIn wsL_law wsL_hasPopular := goodIn_ca (goodIn_ca (goodIn_r _ [988, 217, 989, 990, 991, 2, 992, 25, 17, 993, 994, 995, 996, 222, 223, 997, 998, 999, 16, 1000, 38, 40, 1001, 1002, 1003, 24, 1004, 62, 893, 58, 1005, 1006, 1007, 1008, 895, 1009, 357, 341, 358, 63, 896, 897, 898, 261, 262, 263, 39, 43, 1010, 1011, 1012, 1013, 1014, 904, 905, 906, 61, 907, 908, 73, 72, 71, 909, 70, 910, 85, 86, 87, 911, 912, 913, 914, 76, 74, 75, 915, 916, 917, 918, 919, 920, 921, 922, 923, 924, 925, 926, 927, 928, 929, 930, 931, 932, 933, 934, 935, 936, 1015, 1016, 1017, 1018, 65, 1019, 1020, 1021, 1022, 1023, 1024, 1025, 1026, 1027, 1028, 1029, 1030, 937, 938, 939, 940, 1268, 1269, 1270, 1271, 1272, 1273, 1274, 1284, 1285, 1286, 1287, 1288, 1289, 1290, 1294, 1295, 1296, 1297, 1298, 1299, 1303, 1304, 1305, 1306, 1307, 1308, 1309] (by decide +kernel) (by decide +kernel)) (goodIn_sub (fun _ h => List.mem_append_left _ (List.mem_append_left _ (List.mem_append_left _ (List.mem_append_left _ (List.mem_append_left _ (List.mem_append_left _ (List.mem_append_right _ h))))))) (by decide +kernel))) (goodIn_sub (fun _ h => List.mem_append_left _ (List.mem_append_left _ (List.mem_append_right _ h))) (by decide +kernel))
set_option maxRecDepth 20000 in
theorem gL_law_L_hasPopular : GoodIn wsL_law (va_wsS RL 230 yL_hasPopular wsL_hasPopular) := goodIn_app (goodIn_of _ (by decide +kernel)) ggL_law_L_hasPopular
set_option maxRecDepth 20000 in
theorem ggL_law_X6_hasPopular : GoodIn wsL_law wsX6_hasPopular := goodIn_ca (goodIn_r _ [1034, 1035, 1036, 1037, 5, 1038, 165, 92, 169, 170, 171, 172, 173, 1039, 1040, 1041, 1042, 191, 949, 6, 1043, 357, 341, 358, 950, 1044, 1045, 1046, 1047, 1048, 1049, 1050, 1051, 790, 791, 792, 793, 96, 951, 952, 953, 954, 30, 93, 1052, 1053, 1054, 1055, 64, 967, 968, 969, 970, 140, 85, 86, 87, 971, 972, 973, 974, 975, 976, 977, 1275, 1276, 1277, 1278, 1279, 1280, 1281, 1282, 1283] (by decide +kernel) (by decide +kernel)) (goodIn_sub (fun _ h => List.mem_append_left _ (List.mem_append_left _ (List.mem_append_left _ (List.mem_append_left _ (List.mem_append_left _ (List.mem_append_left _ (List.mem_append_right _ h))))))) (by decide +kernel))
set_option maxRecDepth 20000 in
theorem gL_law_X6_hasPopular : GoodIn wsL_law (wsV RL 232 RX6 yX6_hasPopular wsX6_hasPopular) := goodIn_app (goodIn_of _ (by decide +kernel)) ggL_law_X6_hasPopular
set_option maxRecDepth 20000 in
theorem ggL_law_L_popularPost : GoodIn wsL_law wsL_popularPost := goodIn_ca (goodIn_ca (goodIn_ca (goodIn_ca (goodIn_r _ [1058, 195, 217, 569, 1059, 1060, 1061, 2, 1062, 574, 575, 25, 17, 1063, 200, 201, 202, 203, 204, 205, 153, 993, 994, 995, 996, 222, 223, 997, 998, 999, 16, 1000, 38, 40, 1001, 1002, 1003, 24, 1004, 62, 893, 58, 1005, 1006, 1007, 1008, 895, 1009, 357, 341, 358, 63, 896, 897, 898, 261, 262, 263, 39, 43, 1010, 1011, 1012, 1013, 1014, 904, 905, 906, 61, 907, 908, 73, 72, 71, 909, 70, 910, 85, 86, 87, 911, 912, 913, 914, 76, 74, 75, 915, 916, 917, 918, 919, 920, 921, 922, 923, 924, 925, 926, 927, 928, 929, 930, 931, 932, 933, 934, 935, 936, 1015, 1016, 1017, 1018, 65, 1019, 1020, 1021, 1022, 1023, 1024, 1025, 1026, 1027, 1028, 1029, 1030, 937, 938, 939, 940, 1268, 1269, 1270, 1271, 1272, 1273, 1274, 1294, 1295, 1296, 1297, 1298, 1299, 1284, 1285, 1286, 1287, 1288, 1289, 1290, 1303, 1304, 1305, 1306, 1307, 1308, 1309] (by decide +kernel) (by decide +kernel)) (goodIn_sub (fun _ h => List.mem_append_left _ (List.mem_append_left _ (List.mem_append_left _ (List.mem_append_left _ (List.mem_append_left _ (List.mem_append_left _ (List.mem_append_right _ h))))))) (by decide +kernel))) (goodIn_sub (fun _ h => List.mem_append_left _ (List.mem_append_right _ h)) (by decide +kernel))) (goodIn_sub (fun _ h => List.mem_append_left _ (List.mem_append_left _ (List.mem_append_left _ (List.mem_append_right _ h)))) (by decide +kernel))) (goodIn_sub (fun _ h => List.mem_append_left _ (List.mem_append_left _ (List.mem_append_right _ h))) (by decide +kernel))
set_option maxRecDepth 20000 in
theorem gL_law_L_popularPost : GoodIn wsL_law (va_wsS RL 233 yL_popularPost wsL_popularPost) := goodIn_app (goodIn_of _ (by decide +kernel)) ggL_law_L_popularPost
set_option maxRecDepth 20000 in
theorem ggL_law_X6_popularPost : GoodIn wsL_law wsX6_popularPost := goodIn_ca (goodIn_r _ [1067, 210, 211, 212, 5, 213, 165, 166, 167, 168, 169, 170, 171, 172, 173, 1035, 1036, 1037, 1038, 92, 1039, 1040, 1041, 1042, 191, 949, 6, 1043, 357, 341, 358, 950, 1044, 1045, 1046, 1047, 1048, 1049, 1050, 1051, 790, 791, 792, 793, 96, 951, 952, 953, 954, 30, 93, 1052, 1053, 1054, 1055, 64, 967, 968, 969, 970, 140, 85, 86, 87, 971, 972, 973, 974, 975, 976, 977, 1275, 1276, 1277, 1278, 1279, 1280, 1281, 1282, 1283] (by decide +kernel) (by decide +kernel)) (goodIn_sub (fun _ h => List.mem_append_left _ (List.mem_append_left _ (List.mem_append_left _ (List.mem_append_left _ (List.mem_append_left _ (List.mem_append_left _ (List.mem_append_right _ h))))))) (by decide +kernel))
set_option maxRecDepth 20000 in
theorem gL_law_X6_popularPost : GoodIn wsL_law (wsV RL 235 RX6 yX6_popularPost wsX6_popularPost) := goodIn_app (goodIn_of _ (by decide +kernel)) ggL_law_X6_popularPost
set_option maxRecDepth 20000 in
theorem ggL_law_L_profile : GoodIn wsL_law wsL_profile := goodIn_ca (goodIn_ca (goodIn_r _ [1070, 145, 1071, 1072, 1073, 2, 1074, 17, 31, 155, 156, 157, 158, 159, 160, 1075, 1076, 1077, 16, 1078, 38, 260, 261, 262, 263, 39, 43, 1268, 1269, 1270, 1271, 1272, 1273, 1274, 1284, 1285, 1286, 1287, 1288, 1289, 1290] (by decide +kernel) (by decide +kernel)) (goodIn_sub (fun _ h => List.mem_append_left _ (List.mem_append_left _ (List.mem_append_left _ (List.mem_append_left _ (List.mem_append_left _ (List.mem_append_left _ (List.mem_append_right _ h))))))) (by decide +kernel))) (goodIn_sub (fun _ h => List.mem_append_left _ (List.mem_append_left _ (List.mem_append_left _ (List.mem_append_left _ (List.mem_append_right _ h))))) (by decide +kernel))
set_option maxRecDepth 20000 in
theorem gL_law_L_profile : GoodIn wsL_law (va_wsS RL 236 yL_profile wsL_profile) := goodIn_app (goodIn_of _ (by decide +kernel)) ggL_law_L_profile
set_option maxRecDepth 20000 in
theorem ggL_law_X6_profile : GoodIn wsL_law wsX6_profile := goodIn_ca (goodIn_r _ [1082, 94, 166, 167, 5, 168, 169, 170, 171, 172, 173, 1083, 1084, 1085, 1086, 165, 790, 791, 792, 793, 96, 1275, 1276, 1277, 1278, 1279, 1280, 1281, 1282, 1283] (by decide +kernel) (by decide +kernel)) (goodIn_sub (fun _ h => List.mem_append_left _ (List.mem_append_left _ (List.mem_append_left _ (List.mem_append_left _ (List.mem_append_left _ (List.mem_append_left _ (List.mem_append_right _ h))))))) (by decide +kernel))
set_option maxRecDepth 20000 in
theorem gL_law_X6_profile : GoodIn wsL_law (wsV RL 238 RX6 yX6_profile wsX6_profile) := goodIn_app (goodIn_of _ (by decide +kernel)) ggL_law_X6_profile
set_option maxRecDepth 20000 in
theorem ggL_law_L_bestProfile : GoodIn wsL_law wsL_bestProfile := goodIn_ca (goodIn_ca (goodIn_r _ [1089, 145, 1090, 1091, 1092, 2, 1093, 25, 17, 1094, 155, 156, 157, 158, 159, 160, 1095, 1096, 1097, 24, 1098, 62, 57, 1099, 1100, 1101, 1102, 893, 895, 1014, 896, 897, 904, 905, 906, 61, 907, 908, 73, 72, 71, 909, 70, 910, 85, 86, 87, 911, 912, 913, 914, 76, 74, 75, 915, 916, 917, 918, 919, 920, 921, 922, 923, 924, 925, 926, 927, 928, 929, 930, 931, 932, 933, 934, 935, 936, 937, 938, 939, 940, 1075, 1076, 1077, 16, 1078, 38, 260, 261, 262, 263, 39, 43, 1268, 1269, 1270, 1271, 1272, 1273, 1274, 1294, 1295, 1296, 1297, 1298, 1299, 1284, 1285, 1286, 1287, 1288, 1289, 1290, 1303, 1304, 1305, 1306, 1307, 1308, 1309] (by decide +kernel) (by decide +kernel)) (goodIn_sub (fun _ h => List.mem_append_left _ (List.mem_append_left _ (List.mem_append_left _ (List.mem_append_left _ (List.mem_append_left _ (List.mem_append_left _ (List.mem_append_right _ h))))))) (by decide +kernel))) (goodIn_sub (fun _ h => List.mem_append_left _ (List.mem_append_left _ (List.mem_append_left _ (List.mem_append_left _ (List.mem_append_right _ h))))) (by decide +kernel))
set_option maxRecDepth 20000 in
theorem gL_law_L_bestProfile : GoodIn wsL_law (va_wsS RL 239 yL_bestProfile wsL_bestProfile) := goodIn_app (goodIn_of _ (by decide +kernel)) ggL_law_L_bestProfile
set_option maxRecDepth 20000 in
theorem ggL_law_X6_bestProfile : GoodIn wsL_law wsX6_bestProfile := goodIn_ca (goodIn_r _ [1106, 166, 167, 5, 168, 169, 170, 171, 172, 173, 1107, 1108, 1109, 1110, 165, 191, 949, 6, 96, 1111, 950, 967, 968, 969, 970, 30, 951, 952, 953, 954, 93, 140, 85, 86, 87, 971, 972, 973, 974, 975, 976, 977, 1083, 1084, 1085, 1086, 790, 791, 792, 793, 1275, 1276, 1277, 1278, 1279, 1280, 1281, 1282, 1283] (by decide +kernel) (by decide +kernel)) (goodIn_sub (fun _ h => List.mem_append_left _ (List.mem_append_left _ (List.mem_append_left _ (List.mem_append_left _ (List.mem_append_left _ (List.mem_append_left _ (List.mem_append_right _ h))))))) (by decide +kernel))
set_option maxRecDepth 20000 in
theorem gL_law_X6_bestProfile : GoodIn wsL_law (wsV RL 241 RX6 yX6_bestProfile wsX6_bestProfile) := goodIn_app (goodIn_of _ (by decide +kernel)) ggL_law_X6_bestProfile
set_option maxRecDepth 20000 in
theorem ggL_law_L_bestPost : GoodIn wsL_law wsL_bestPost := goodIn_ca (goodIn_ca (goodIn_r _ [1114, 195, 1115, 1116, 1117, 2, 1118, 25, 17, 1094, 200, 201, 202, 203, 204, 205, 153, 1095, 1096, 1097, 24, 1098, 62, 57, 1099, 1100, 1101, 1102, 893, 895, 1014, 896, 897, 904, 905, 906, 61, 907, 908, 73, 72, 71, 909, 70, 910, 85, 86, 87, 911, 912, 913, 914, 76, 74, 75, 915, 916, 917, 918, 919, 920, 921, 922, 923, 924, 925, 926, 927, 928, 929, 930, 931, 932, 933, 934, 935, 936, 937, 938, 939, 940, 1268, 1269, 1270, 1271, 1272, 1273, 1274, 1294, 1295, 1296, 1297, 1298, 1299, 1284, 1285, 1286, 1287, 1288, 1289, 1290, 1303, 1304, 1305, 1306, 1307, 1308, 1309] (by decide +kernel) (by decide +kernel)) (goodIn_sub (fun _ h => List.mem_append_left _ (List.mem_append_left _ (List.mem_append_left _ (List.mem_append_left _ (List.mem_append_left _ (List.mem_append_left _ (List.mem_append_right _ h))))))) (by decide +kernel))) (goodIn_sub (fun _ h => List.mem_append_left _ (List.mem_append_left _ (List.mem_append_left _ (List.mem_append_right _ h)))) (by decide +kernel))
set_option maxRecDepth 20000 in
theorem gL_law_L_bestPost : GoodIn wsL_law (va_wsS RL 242 yL_bestPost wsL_bestPost) := goodIn_app (goodIn_of _ (by decide +kernel)) ggL_law_L_bestPost
set_option maxRecDepth 20000 in
theorem ggL_law_X6_bestPost : GoodIn wsL_law wsX6_bestPost := goodIn_ca (goodIn_r _ [1122, 210, 211, 212, 5, 213, 165, 166, 167, 168, 169, 170, 171, 172, 173, 1107, 1108, 1109, 1110, 191, 949, 6, 96, 1111, 950, 967, 968, 969, 970, 30, 951, 952, 953, 954, 93, 140, 85, 86, 87, 971, 972, 973, 974, 975, 976, 977, 1275, 1276, 1277, 1278, 1279, 1280, 1281, 1282, 1283] (by decide +kernel) (by decide +kernel)) (goodIn_sub (fun _ h => List.mem_append_left _ (List.mem_append_left _ (List.mem_append_left _ (List.mem_append_left _ (List.mem_append_left _ (List.mem_append_left _ (List.mem_append_right _ h))))))) (by decide +kernel))
set_option maxRecDepth 20000 in
theorem gL_law_X6_bestPost : GoodIn wsL_law (wsV RL 244 RX6 yX6_bestPost wsX6_bestPost) := goodIn_app (goodIn_of _ (by decide +kernel)) ggL_law_X6_bestPost
set_option maxRecDepth 20000 in
theorem ggL_law_L_isSure : GoodIn wsL_law wsL_isSure := goodIn_ca (goodIn_ca (goodIn_r _ [1125, 195, 1126, 1127, 1128, 2, 1129, 25, 17, 200, 201, 202, 203, 204, 205, 153, 1130, 1131, 1132, 24, 1133, 62, 1099, 1100, 1101, 1102, 893, 895, 1014, 896, 897, 904, 905, 906, 61, 907, 908, 73, 72, 71, 909, 70, 910, 85, 86, 87, 911, 912, 913, 914, 76, 74, 75, 915, 916, 917, 918, 919, 920, 921, 922, 923, 924, 925, 926, 927, 928, 929, 930, 931, 932, 933, 934, 935, 936, 1134, 1135, 1136, 1137, 1268, 1269, 1270, 1271, 1272, 1273, 1274, 1284, 1285, 1286, 1287, 1288, 1289, 1290, 1294, 1295, 1296, 1297, 1298, 1299, 1303, 1304, 1305, 1306, 1307, 1308, 1309] (by decide +kernel) (by decide +kernel)) (goodIn_sub (fun _ h => List.mem_append_left _ (List.mem_append_left _ (List.mem_append_left _ (List.mem_append_left _ (List.mem_append_left _ (List.mem_append_left _ (List.mem_append_right _ h))))))) (by decide +kernel))) (goodIn_sub (fun _ h => List.mem_append_left _ (List.mem_append_left _ (List.mem_append_left _ (List.mem_append_right _ h)))) (by decide +kernel))
set_option maxRecDepth 20000 in
theorem gL_law_L_isSure : GoodIn wsL_law (va_wsS RL 245 yL_isSure wsL_isSure) := goodIn_app (goodIn_of _ (by decide +kernel)) ggL_law_L_isSure
set_option maxRecDepth 20000 in
theorem ggL_law_X6_isSure : GoodIn wsL_law wsX6_isSure := goodIn_ca (goodIn_r _ [1141, 191, 210, 211, 212, 5, 213, 165, 166, 167, 168, 169, 170, 171, 172, 173, 1107, 1108, 1109, 1110, 949, 6, 96, 1111, 950, 951, 952, 953, 954, 30, 93, 971, 972, 973, 974, 975, 976, 86, 977, 1275, 1276, 1277, 1278, 1279, 1280, 1281, 1282, 1283] (by decide +kernel) (by decide +kernel)) (goodIn_sub (fun _ h => List.mem_append_left _ (List.mem_append_left _ (List.mem_append_left _ (List.mem_append_left _ (List.mem_append_left _ (List.mem_append_left _ (List.mem_append_right _ h))))))) (by decide +kernel))
set_option maxRecDepth 20000 in
theorem gL_law_X6_isSure : GoodIn wsL_law (wsV RL 247 RX6 yX6_isSure wsX6_isSure) := goodIn_app (goodIn_of _ (by decide +kernel)) ggL_law_X6_isSure
set_option maxRecDepth 20000 in
theorem ggL_law_L_gains : GoodIn wsL_law wsL_gains := goodIn_ca (goodIn_ca (goodIn_r _ [1144, 195, 1145, 1146, 1147, 2, 1148, 25, 17, 1094, 200, 201, 202, 203, 204, 205, 153, 224, 225, 226, 227, 185, 1095, 1096, 1097, 24, 1098, 62, 57, 1099, 1100, 1101, 1102, 893, 895, 1014, 896, 897, 904, 905, 906, 61, 907, 908, 73, 72, 71, 909, 70, 910, 85, 86, 87, 911, 912, 913, 914, 76, 74, 75, 915, 916, 917, 918, 919, 920, 921, 922, 923, 924, 925, 926, 927, 928, 929, 930, 931, 932, 933, 934, 935, 936, 937, 938, 939, 940, 1149, 261, 262, 16, 263, 39, 43, 1150, 1151, 1152, 1153, 1021, 1134, 1135, 1136, 1137, 1268, 1269, 1270, 1271, 1272, 1273, 1274, 1294, 1295, 1296, 1297, 1298, 1299, 1284, 1285, 1286, 1287, 1288, 1289, 1290, 1303, 1304, 1305, 1306, 1307, 1308, 1309] (by decide +kernel) (by decide +kernel)) (goodIn_sub (fun _ h => List.mem_append_left _ (List.mem_append_left _ (List.mem_append_left _ (List.mem_append_left _ (List.mem_append_left _ (List.mem_append_left _ (List.mem_append_right _ h))))))) (by decide +kernel))) (goodIn_sub (fun _ h => List.mem_append_left _ (List.mem_append_left _ (List.mem_append_left _ (List.mem_append_right _ h)))) (by decide +kernel))
set_option maxRecDepth 20000 in
theorem gL_law_L_gains : GoodIn wsL_law (va_wsS RL 248 yL_gains wsL_gains) := goodIn_app (goodIn_of _ (by decide +kernel)) ggL_law_L_gains
set_option maxRecDepth 20000 in
theorem ggL_law_X6_gains : GoodIn wsL_law wsX6_gains := goodIn_ca (goodIn_r _ [1157, 96, 30, 210, 211, 212, 5, 213, 165, 166, 167, 168, 236, 237, 238, 239, 191, 169, 170, 171, 172, 173, 1107, 1108, 1109, 1110, 949, 6, 1111, 950, 967, 968, 969, 970, 951, 952, 953, 954, 93, 140, 85, 86, 87, 971, 972, 973, 974, 975, 976, 977, 790, 791, 792, 793, 1275, 1276, 1277, 1278, 1279, 1280, 1281, 1282, 1283] (by decide +kernel) (by decide +kernel)) (goodIn_sub (fun _ h => List.mem_append_left _ (List.mem_append_left _ (List.mem_append_left _ (List.mem_append_left _ (List.mem_append_left _ (List.mem_append_left _ (List.mem_append_right _ h))))))) (by decide +kernel))
set_option maxRecDepth 20000 in
theorem gL_law_X6_gains : GoodIn wsL_law (wsV RL 250 RX6 yX6_gains wsX6_gains) := goodIn_app (goodIn_of _ (by decide +kernel)) ggL_law_X6_gains
set_option maxRecDepth 20000 in
theorem ggL_law_L_envies : GoodIn wsL_law wsL_envies := goodIn_ca (goodIn_ca (goodIn_r _ [1160, 195, 1161, 1162, 1163, 2, 1164, 200, 201, 202, 203, 204, 205, 17, 153, 1165, 1166, 1167, 1168, 31, 1149, 261, 262, 16, 263, 39, 43, 1268, 1269, 1270, 1271, 1272, 1273, 1274, 1284, 1285, 1286, 1287, 1288, 1289, 1290] (by decide +kernel) (by decide +kernel)) (goodIn_sub (fun _ h => List.mem_append_left _ (List.mem_append_left _ (List.mem_append_left _ (List.mem_append_left _ (List.mem_append_left _ (List.mem_append_left _ (List.mem_append_right _ h))))))) (by decide +kernel))) (goodIn_sub (fun _ h => List.mem_append_left _ (List.mem_append_left _ (List.mem_append_left _ (List.mem_append_right _ h)))) (by decide +kernel))
set_option maxRecDepth 20000 in
theorem gL_law_L_envies : GoodIn wsL_law (va_wsS RL 251 yL_envies wsL_envies) := goodIn_app (goodIn_of _ (by decide +kernel)) ggL_law_L_envies
set_option maxRecDepth 20000 in
theorem ggL_law_X6_envies : GoodIn wsL_law wsX6_envies := goodIn_ca (goodIn_r _ [1172, 210, 211, 212, 5, 213, 165, 166, 167, 168, 169, 170, 171, 172, 173, 1173, 1174, 1175, 1176, 94, 790, 791, 792, 793, 96, 1275, 1276, 1277, 1278, 1279, 1280, 1281, 1282, 1283] (by decide +kernel) (by decide +kernel)) (goodIn_sub (fun _ h => List.mem_append_left _ (List.mem_append_left _ (List.mem_append_left _ (List.mem_append_left _ (List.mem_append_left _ (List.mem_append_left _ (List.mem_append_right _ h))))))) (by decide +kernel))
set_option maxRecDepth 20000 in
theorem gL_law_X6_envies : GoodIn wsL_law (wsV RL 253 RX6 yX6_envies wsX6_envies) := goodIn_app (goodIn_of _ (by decide +kernel)) ggL_law_X6_envies
set_option maxRecDepth 20000 in
theorem ggL_law_X5_countEnvy : GoodIn wsL_law wsX5_countEnvy := goodIn_ca (goodIn_r _ [1180, 17, 153, 1165, 1166, 1167, 2, 1168, 31, 1149, 261, 262, 16, 263, 39, 43, 1268, 1269, 1270, 1271, 1272, 1273, 1274, 1284, 1285, 1286, 1287, 1288, 1289, 1290] (by decide +kernel) (by decide +kernel)) (goodIn_sub (fun _ h => List.mem_append_left _ (List.mem_append_left _ (List.mem_append_left _ (List.mem_append_left _ (List.mem_append_left _ (List.mem_append_left _ (List.mem_append_right _ h))))))) (by decide +kernel))
set_option maxRecDepth 20000 in
theorem gL_law_X5_countEnvy : GoodIn wsL_law (wsV RL 254 RX5 yX5_countEnvy wsX5_countEnvy) := goodIn_app (goodIn_of _ (by decide +kernel)) ggL_law_X5_countEnvy
set_option maxRecDepth 20000 in
theorem ggL_law_X6_countEnvy : GoodIn wsL_law wsX6_countEnvy := goodIn_ca (goodIn_r _ [1184, 165, 1173, 1174, 1175, 5, 1176, 94, 790, 791, 792, 793, 96, 1275, 1276, 1277, 1278, 1279, 1280, 1281, 1282, 1283] (by decide +kernel) (by decide +kernel)) (goodIn_sub (fun _ h => List.mem_append_left _ (List.mem_append_left _ (List.mem_append_left _ (List.mem_append_left _ (List.mem_append_left _ (List.mem_append_left _ (List.mem_append_right _ h))))))) (by decide +kernel))
set_option maxRecDepth 20000 in
theorem gL_law_X6_countEnvy : GoodIn wsL_law (wsV RL 257 RX6 yX6_countEnvy wsX6_countEnvy) := goodIn_app (goodIn_of _ (by decide +kernel)) ggL_law_X6_countEnvy
set_option maxRecDepth 20000 in
theorem ggL_law_L_matchedShare : GoodIn wsL_law wsL_matchedShare := goodIn_ca (goodIn_ca (goodIn_r _ [1187, 1188, 1189, 1190, 1191, 2, 1192, 1193, 1194, 17, 153, 715, 716, 717, 718, 31, 1268, 1269, 1270, 1271, 1272, 1273, 1274, 1284, 1285, 1286, 1287, 1288, 1289, 1290] (by decide +kernel) (by decide +kernel)) (goodIn_sub (fun _ h => List.mem_append_left _ (List.mem_append_left _ (List.mem_append_left _ (List.mem_append_left _ (List.mem_append_left _ (List.mem_append_left _ (List.mem_append_right _ h))))))) (by decide +kernel))) (goodIn_sub (fun _ h => List.mem_append_right _ h) (by decide +kernel))
set_option maxRecDepth 20000 in
theorem gL_law_L_matchedShare : GoodIn wsL_law (va_wsS RL 258 yL_matchedShare wsL_matchedShare) := goodIn_app (goodIn_of _ (by decide +kernel)) ggL_law_L_matchedShare
set_option maxRecDepth 20000 in
theorem ggL_law_X6_matchedShare : GoodIn wsL_law wsX6_matchedShare := goodIn_ca (goodIn_r _ [1198, 165, 94, 169, 170, 171, 5, 172, 173, 240, 241, 242, 243, 1275, 1276, 1277, 1278, 1279, 1280, 1281, 1282, 1283] (by decide +kernel) (by decide +kernel)) (goodIn_sub (fun _ h => List.mem_append_left _ (List.mem_append_left _ (List.mem_append_left _ (List.mem_append_left _ (List.mem_append_left _ (List.mem_append_left _ (List.mem_append_right _ h))))))) (by decide +kernel))
set_option maxRecDepth 20000 in
theorem gL_law_X6_matchedShare : GoodIn wsL_law (wsV RL 261 RX6 yX6_matchedShare wsX6_matchedShare) := goodIn_app (goodIn_of _ (by decide +kernel)) ggL_law_X6_matchedShare
set_option maxRecDepth 20000 in
theorem ggL_law_L_meanRank : GoodIn wsL_law wsL_meanRank := goodIn_ca (goodIn_ca (goodIn_r _ [1201, 1188, 1202, 1203, 1204, 2, 1205, 1193, 1194, 17, 153, 31, 715, 716, 717, 718, 1149, 261, 262, 16, 263, 39, 43, 1268, 1269, 1270, 1271, 1272, 1273, 1274, 1284, 1285, 1286, 1287, 1288, 1289, 1290] (by decide +kernel) (by decide +kernel)) (goodIn_sub (fun _ h => List.mem_append_left _ (List.mem_append_left _ (List.mem_append_left _ (List.mem_append_left _ (List.mem_append_left _ (List.mem_append_left _ (List.mem_append_right _ h))))))) (by decide +kernel))) (goodIn_sub (fun _ h => List.mem_append_right _ h) (by decide +kernel))
set_option maxRecDepth 20000 in
theorem gL_law_L_meanRank : GoodIn wsL_law (va_wsS RL 262 yL_meanRank wsL_meanRank) := goodIn_app (goodIn_of _ (by decide +kernel)) ggL_law_L_meanRank
set_option maxRecDepth 20000 in
theorem ggL_law_X6_meanRank : GoodIn wsL_law wsX6_meanRank := goodIn_ca (goodIn_r _ [1209, 165, 94, 96, 240, 241, 242, 5, 243, 169, 170, 171, 172, 173, 1275, 1276, 1277, 1278, 1279, 1280, 1281, 1282, 1283] (by decide +kernel) (by decide +kernel)) (goodIn_sub (fun _ h => List.mem_append_left _ (List.mem_append_left _ (List.mem_append_left _ (List.mem_append_left _ (List.mem_append_left _ (List.mem_append_left _ (List.mem_append_right _ h))))))) (by decide +kernel))
set_option maxRecDepth 20000 in
theorem gL_law_X6_meanRank : GoodIn wsL_law (wsV RL 264 RX6 yX6_meanRank wsX6_meanRank) := goodIn_app (goodIn_of _ (by decide +kernel)) ggL_law_X6_meanRank
set_option maxRecDepth 20000 in
theorem ggL_law_X5_checksum : GoodIn wsL_law wsX5_checksum := goodIn_ca (goodIn_r _ [1213, 1214, 17, 153, 1215, 154, 185, 251, 31, 186, 34, 33, 1268, 1269, 1270, 1271, 1272, 1273, 1274, 1284, 1285, 1286, 1287, 1288, 1289, 1290] (by decide +kernel) (by decide +kernel)) (goodIn_sub (fun _ h => List.mem_append_left _ (List.mem_append_left _ (List.mem_append_left _ (List.mem_append_left _ (List.mem_append_left _ (List.mem_append_left _ (List.mem_append_right _ h))))))) (by decide +kernel))
set_option maxRecDepth 20000 in
theorem gL_law_X5_checksum : GoodIn wsL_law (wsV RL 265 RX5 yX5_checksum wsX5_checksum) := goodIn_app (goodIn_of _ (by decide +kernel)) ggL_law_X5_checksum
set_option maxRecDepth 20000 in
theorem ggL_law_X6_checksum : GoodIn wsL_law wsX6_checksum := goodIn_ca (goodIn_r _ [1219, 1220, 165, 1221, 92, 191, 96, 94, 93, 100, 659, 1222, 1223, 1224, 99, 1225, 1226, 1227, 1228, 1229, 1230, 1231, 1232, 1233, 12, 13, 1234, 1235, 670, 1236, 1237, 1238, 1239, 1240, 1241, 1242, 1243, 1244, 1245, 1246, 1247, 1248, 1249, 1250, 1275, 1276, 1277, 1278, 1279, 1280, 1281, 1282, 1283, 1333, 1334, 1335, 1336, 1310, 1311, 1312] (by decide +kernel) (by decide +kernel)) (goodIn_sub (fun _ h => List.mem_append_left _ (List.mem_append_left _ (List.mem_append_left _ (List.mem_append_left _ (List.mem_append_left _ (List.mem_append_left _ (List.mem_append_right _ h))))))) (by decide +kernel))
set_option maxRecDepth 20000 in
theorem gL_law_X6_checksum : GoodIn wsL_law (wsV RL 269 RX6 yX6_checksum wsX6_checksum) := goodIn_app (goodIn_of _ (by decide +kernel)) ggL_law_X6_checksum
set_option maxRecDepth 20000 in
theorem ggL_law_X5_isTrue : GoodIn wsL_law wsX5_isTrue := goodIn_ca (goodIn_r _ [1254, 25, 17, 31, 1094, 962, 889, 890, 891, 24, 892, 893, 894, 895, 62, 896, 897, 56, 898, 261, 262, 16, 263, 39, 43, 899, 257, 258, 259, 260, 900, 901, 902, 903, 904, 905, 906, 61, 907, 908, 73, 72, 71, 909, 70, 910, 85, 86, 87, 911, 912, 913, 914, 76, 74, 75, 915, 916, 917, 918, 919, 920, 921, 922, 923, 924, 925, 926, 927, 928, 929, 930, 931, 932, 933, 934, 935, 936, 937, 938, 939, 940, 1095, 1096, 1097, 1098, 57, 1099, 1100, 1101, 1102, 1014, 709, 710, 711, 712, 46, 38, 41, 713, 714, 801, 802, 803, 804, 805, 771, 772, 773, 40, 1255, 1256, 1257, 2, 1258, 34, 33, 1259, 340, 341, 342, 1260, 1261, 1262, 1263, 1063, 997, 998, 999, 1000, 1001, 1002, 1003, 1004, 58, 1005, 1006, 1007, 1008, 1009, 357, 358, 63, 1010, 1011, 1012, 1013, 1015, 1016, 1017, 1018, 65, 1019, 1020, 1021, 1022, 1023, 1024, 1025, 1026, 1027, 1028, 1029, 1030, 1268, 1269, 1270, 1271, 1272, 1273, 1274, 1294, 1295, 1296, 1297, 1298, 1299, 1284, 1285, 1286, 1287, 1288, 1289, 1290, 1303, 1304, 1305, 1306, 1307, 1308, 1309] (by decide +kernel) (by decide +kernel)) (goodIn_sub (fun _ h => List.mem_append_left _ (List.mem_append_left _ (List.mem_append_left _ (List.mem_append_left _ (List.mem_append_left _ (List.mem_append_left _ (List.mem_append_right _ h))))))) (by decide +kernel))
set_option maxRecDepth 20000 in
theorem gL_law_X5_isTrue : GoodIn wsL_law (wsV RL 270 RX5 yX5_isTrue wsX5_isTrue) := goodIn_app (goodIn_of _ (by decide +kernel)) ggL_law_X5_isTrue
set_option maxRecDepth 20000 in
theorem ggL_law_X6_isTrue : GoodIn wsL_law wsX6_isTrue := goodIn_r _ [1267] (by decide +kernel) (by decide +kernel)
set_option maxRecDepth 20000 in
theorem gL_law_X6_isTrue : GoodIn wsL_law (wsV RL 273 RX6 yX6_isTrue wsX6_isTrue) := goodIn_app (goodIn_of _ (by decide +kernel)) ggL_law_X6_isTrue
theorem dL_law_0 : decode cL_law 0 = .ok (.new 8, 3) := by decide +kernel
theorem dL_law_3 : decode cL_law 3 = .ok (.dup, 1) := by decide +kernel
theorem dL_law_4 : decode cL_law 4 = .ok (.invokespecial 131, 3) := by decide +kernel
theorem dL_law_7 : decode cL_law 7 = .ok (.astore_n 1, 1) := by decide +kernel
theorem dL_law_8 : decode cL_law 8 = .ok (.new 132, 3) := by decide +kernel
theorem dL_law_11 : decode cL_law 11 = .ok (.dup, 1) := by decide +kernel
theorem dL_law_12 : decode cL_law 12 = .ok (.invokespecial 134, 3) := by decide +kernel
theorem dL_law_15 : decode cL_law 15 = .ok (.astore_n 2, 1) := by decide +kernel
theorem dL_law_16 : decode cL_law 16 = .ok (.iconst 1, 1) := by decide +kernel
theorem dL_law_17 : decode cL_law 17 = .ok (.newarray .long, 2) := by decide +kernel
theorem dL_law_19 : decode cL_law 19 = .ok (.astore_n 3, 1) := by decide +kernel
theorem dL_law_20 : decode cL_law 20 = .ok (.iconst 1, 1) := by decide +kernel
theorem dL_law_21 : decode cL_law 21 = .ok (.newarray .double, 2) := by decide +kernel
theorem dL_law_23 : decode cL_law 23 = .ok (.astore 4, 2) := by decide +kernel
theorem dL_law_25 : decode cL_law 25 = .ok (.iconst 0, 1) := by decide +kernel
theorem dL_law_26 : decode cL_law 26 = .ok (.istore 5, 2) := by decide +kernel
theorem dL_law_28 : decode cL_law 28 = .ok (.iload 5, 2) := by decide +kernel
theorem dL_law_30 : decode cL_law 30 = .ok (.aload_n 0, 1) := by decide +kernel
theorem dL_law_31 : decode cL_law 31 = .ok (.arraylength, 1) := by decide +kernel
theorem dL_law_32 : decode cL_law 32 = .ok (.iconst 4, 1) := by decide +kernel
theorem dL_law_33 : decode cL_law 33 = .ok (.isub, 1) := by decide +kernel
theorem dL_law_34 : decode cL_law 34 = .ok (.if_icmp .gt 2313, 3) := by decide +kernel
theorem dL_law_37 : decode cL_law 37 = .ok (.aload_n 0, 1) := by decide +kernel
theorem dL_law_38 : decode cL_law 38 = .ok (.iload 5, 2) := by decide +kernel
theorem dL_law_40 : decode cL_law 40 = .ok (.iaload, 1) := by decide +kernel
theorem dL_law_41 : decode cL_law 41 = .ok (.bipush 63, 2) := by decide +kernel
theorem dL_law_43 : decode cL_law 43 = .ok (.iand, 1) := by decide +kernel
theorem dL_law_44 : decode cL_law 44 = .ok (.tableswitch 2297 0 39 #[176, 232, 288, 356, 424, 504, 572, 630, 643, 699, 755, 823, 891, 947, 1003, 1059, 1103, 1159, 1227, 1295, 1363, 1431, 1475, 1543, 1556, 1569, 1625, 1638, 1689, 1745, 1801, 1857, 1913, 1976, 2051, 2126, 2139, 2205, 2270, 2284], 176) := by decide +kernel
theorem dL_law_220 : decode cL_law 220 = .ok (.aload_n 1, 1) := by decide +kernel
theorem dL_law_221 : decode cL_law 221 = .ok (.aload_n 0, 1) := by decide +kernel
theorem dL_law_222 : decode cL_law 222 = .ok (.iload 5, 2) := by decide +kernel
theorem dL_law_224 : decode cL_law 224 = .ok (.iconst 1, 1) := by decide +kernel
theorem dL_law_225 : decode cL_law 225 = .ok (.iadd, 1) := by decide +kernel
theorem dL_law_226 : decode cL_law 226 = .ok (.iaload, 1) := by decide +kernel
theorem dL_law_227 : decode cL_law 227 = .ok (.aload_n 3, 1) := by decide +kernel
theorem dL_law_228 : decode cL_law 228 = .ok (.invokestatic 135, 3) := by decide +kernel
theorem dL_law_231 : decode cL_law 231 = .ok (.istore 6, 2) := by decide +kernel
theorem dL_law_233 : decode cL_law 233 = .ok (.aload_n 2, 1) := by decide +kernel
theorem dL_law_234 : decode cL_law 234 = .ok (.aload_n 0, 1) := by decide +kernel
theorem dL_law_235 : decode cL_law 235 = .ok (.iload 5, 2) := by decide +kernel
theorem dL_law_237 : decode cL_law 237 = .ok (.iconst 1, 1) := by decide +kernel
theorem dL_law_238 : decode cL_law 238 = .ok (.iadd, 1) := by decide +kernel
theorem dL_law_239 : decode cL_law 239 = .ok (.iaload, 1) := by decide +kernel
theorem dL_law_240 : decode cL_law 240 = .ok (.invokevirtual 140, 3) := by decide +kernel
theorem dL_law_243 : decode cL_law 243 = .ok (.istore 7, 2) := by decide +kernel
theorem dL_law_245 : decode cL_law 245 = .ok (.aload_n 2, 1) := by decide +kernel
theorem dL_law_246 : decode cL_law 246 = .ok (.invokevirtual 141, 3) := by decide +kernel
theorem dL_law_249 : decode cL_law 249 = .ok (.iload 6, 2) := by decide +kernel
theorem dL_law_251 : decode cL_law 251 = .ok (.if_icmp .eq 5, 3) := by decide +kernel
theorem dL_law_254 : decode cL_law 254 = .ok (.iconst 0, 1) := by decide +kernel
theorem dL_law_255 : decode cL_law 255 = .ok (.ireturn, 1) := by decide +kernel
theorem dL_law_256 : decode cL_law 256 = .ok (.iload 6, 2) := by decide +kernel
theorem dL_law_258 : decode cL_law 258 = .ok (.ifCond .ne 15, 3) := by decide +kernel
theorem dL_law_261 : decode cL_law 261 = .ok (.aload_n 3, 1) := by decide +kernel
theorem dL_law_262 : decode cL_law 262 = .ok (.iconst 0, 1) := by decide +kernel
theorem dL_law_263 : decode cL_law 263 = .ok (.laload, 1) := by decide +kernel
theorem dL_law_264 : decode cL_law 264 = .ok (.iload 7, 2) := by decide +kernel
theorem dL_law_266 : decode cL_law 266 = .ok (.i2l, 1) := by decide +kernel
theorem dL_law_267 : decode cL_law 267 = .ok (.lcmp, 1) := by decide +kernel
theorem dL_law_268 : decode cL_law 268 = .ok (.ifCond .eq 5, 3) := by decide +kernel
theorem dL_law_271 : decode cL_law 271 = .ok (.iconst 0, 1) := by decide +kernel
theorem dL_law_272 : decode cL_law 272 = .ok (.ireturn, 1) := by decide +kernel
theorem dL_law_273 : decode cL_law 273 = .ok (.goto 2068, 3) := by decide +kernel
theorem dL_law_276 : decode cL_law 276 = .ok (.aload_n 1, 1) := by decide +kernel
theorem dL_law_277 : decode cL_law 277 = .ok (.aload_n 0, 1) := by decide +kernel
theorem dL_law_278 : decode cL_law 278 = .ok (.iload 5, 2) := by decide +kernel
theorem dL_law_280 : decode cL_law 280 = .ok (.iconst 1, 1) := by decide +kernel
theorem dL_law_281 : decode cL_law 281 = .ok (.iadd, 1) := by decide +kernel
theorem dL_law_282 : decode cL_law 282 = .ok (.iaload, 1) := by decide +kernel
theorem dL_law_283 : decode cL_law 283 = .ok (.aload_n 3, 1) := by decide +kernel
theorem dL_law_284 : decode cL_law 284 = .ok (.invokestatic 144, 3) := by decide +kernel
theorem dL_law_287 : decode cL_law 287 = .ok (.istore 6, 2) := by decide +kernel
theorem dL_law_289 : decode cL_law 289 = .ok (.aload_n 2, 1) := by decide +kernel
theorem dL_law_290 : decode cL_law 290 = .ok (.aload_n 0, 1) := by decide +kernel
theorem dL_law_291 : decode cL_law 291 = .ok (.iload 5, 2) := by decide +kernel
theorem dL_law_293 : decode cL_law 293 = .ok (.iconst 1, 1) := by decide +kernel
theorem dL_law_294 : decode cL_law 294 = .ok (.iadd, 1) := by decide +kernel
theorem dL_law_295 : decode cL_law 295 = .ok (.iaload, 1) := by decide +kernel
theorem dL_law_296 : decode cL_law 296 = .ok (.invokevirtual 146, 3) := by decide +kernel
theorem dL_law_299 : decode cL_law 299 = .ok (.istore 7, 2) := by decide +kernel
theorem dL_law_301 : decode cL_law 301 = .ok (.aload_n 2, 1) := by decide +kernel
theorem dL_law_302 : decode cL_law 302 = .ok (.invokevirtual 141, 3) := by decide +kernel
theorem dL_law_305 : decode cL_law 305 = .ok (.iload 6, 2) := by decide +kernel
theorem dL_law_307 : decode cL_law 307 = .ok (.if_icmp .eq 5, 3) := by decide +kernel
theorem dL_law_310 : decode cL_law 310 = .ok (.iconst 0, 1) := by decide +kernel
theorem dL_law_311 : decode cL_law 311 = .ok (.ireturn, 1) := by decide +kernel
theorem dL_law_312 : decode cL_law 312 = .ok (.iload 6, 2) := by decide +kernel
theorem dL_law_314 : decode cL_law 314 = .ok (.ifCond .ne 15, 3) := by decide +kernel
theorem dL_law_317 : decode cL_law 317 = .ok (.aload_n 3, 1) := by decide +kernel
theorem dL_law_318 : decode cL_law 318 = .ok (.iconst 0, 1) := by decide +kernel
theorem dL_law_319 : decode cL_law 319 = .ok (.laload, 1) := by decide +kernel
theorem dL_law_320 : decode cL_law 320 = .ok (.iload 7, 2) := by decide +kernel
theorem dL_law_322 : decode cL_law 322 = .ok (.i2l, 1) := by decide +kernel
theorem dL_law_323 : decode cL_law 323 = .ok (.lcmp, 1) := by decide +kernel
theorem dL_law_324 : decode cL_law 324 = .ok (.ifCond .eq 5, 3) := by decide +kernel
theorem dL_law_327 : decode cL_law 327 = .ok (.iconst 0, 1) := by decide +kernel
theorem dL_law_328 : decode cL_law 328 = .ok (.ireturn, 1) := by decide +kernel
theorem dL_law_329 : decode cL_law 329 = .ok (.goto 2012, 3) := by decide +kernel
theorem dL_law_332 : decode cL_law 332 = .ok (.aload_n 1, 1) := by decide +kernel
theorem dL_law_333 : decode cL_law 333 = .ok (.aload_n 0, 1) := by decide +kernel
theorem dL_law_334 : decode cL_law 334 = .ok (.iload 5, 2) := by decide +kernel
theorem dL_law_336 : decode cL_law 336 = .ok (.iconst 1, 1) := by decide +kernel
theorem dL_law_337 : decode cL_law 337 = .ok (.iadd, 1) := by decide +kernel
theorem dL_law_338 : decode cL_law 338 = .ok (.iaload, 1) := by decide +kernel
theorem dL_law_339 : decode cL_law 339 = .ok (.aload_n 0, 1) := by decide +kernel
theorem dL_law_340 : decode cL_law 340 = .ok (.iload 5, 2) := by decide +kernel
theorem dL_law_342 : decode cL_law 342 = .ok (.iconst 2, 1) := by decide +kernel
theorem dL_law_343 : decode cL_law 343 = .ok (.iadd, 1) := by decide +kernel
theorem dL_law_344 : decode cL_law 344 = .ok (.iaload, 1) := by decide +kernel
theorem dL_law_345 : decode cL_law 345 = .ok (.aload_n 3, 1) := by decide +kernel
theorem dL_law_346 : decode cL_law 346 = .ok (.invokestatic 147, 3) := by decide +kernel
theorem dL_law_349 : decode cL_law 349 = .ok (.istore 6, 2) := by decide +kernel
theorem dL_law_351 : decode cL_law 351 = .ok (.aload_n 2, 1) := by decide +kernel
theorem dL_law_352 : decode cL_law 352 = .ok (.aload_n 0, 1) := by decide +kernel
theorem dL_law_353 : decode cL_law 353 = .ok (.iload 5, 2) := by decide +kernel
theorem dL_law_355 : decode cL_law 355 = .ok (.iconst 1, 1) := by decide +kernel
theorem dL_law_356 : decode cL_law 356 = .ok (.iadd, 1) := by decide +kernel
theorem dL_law_357 : decode cL_law 357 = .ok (.iaload, 1) := by decide +kernel
theorem dL_law_358 : decode cL_law 358 = .ok (.aload_n 0, 1) := by decide +kernel
theorem dL_law_359 : decode cL_law 359 = .ok (.iload 5, 2) := by decide +kernel
theorem dL_law_361 : decode cL_law 361 = .ok (.iconst 2, 1) := by decide +kernel
theorem dL_law_362 : decode cL_law 362 = .ok (.iadd, 1) := by decide +kernel
theorem dL_law_363 : decode cL_law 363 = .ok (.iaload, 1) := by decide +kernel
theorem dL_law_364 : decode cL_law 364 = .ok (.invokevirtual 150, 3) := by decide +kernel
theorem dL_law_367 : decode cL_law 367 = .ok (.istore 7, 2) := by decide +kernel
theorem dL_law_369 : decode cL_law 369 = .ok (.aload_n 2, 1) := by decide +kernel
theorem dL_law_370 : decode cL_law 370 = .ok (.invokevirtual 141, 3) := by decide +kernel
theorem dL_law_373 : decode cL_law 373 = .ok (.iload 6, 2) := by decide +kernel
theorem dL_law_375 : decode cL_law 375 = .ok (.if_icmp .eq 5, 3) := by decide +kernel
theorem dL_law_378 : decode cL_law 378 = .ok (.iconst 0, 1) := by decide +kernel
theorem dL_law_379 : decode cL_law 379 = .ok (.ireturn, 1) := by decide +kernel
theorem dL_law_380 : decode cL_law 380 = .ok (.iload 6, 2) := by decide +kernel
theorem dL_law_382 : decode cL_law 382 = .ok (.ifCond .ne 15, 3) := by decide +kernel
theorem dL_law_385 : decode cL_law 385 = .ok (.aload_n 3, 1) := by decide +kernel
theorem dL_law_386 : decode cL_law 386 = .ok (.iconst 0, 1) := by decide +kernel
theorem dL_law_387 : decode cL_law 387 = .ok (.laload, 1) := by decide +kernel
theorem dL_law_388 : decode cL_law 388 = .ok (.iload 7, 2) := by decide +kernel
theorem dL_law_390 : decode cL_law 390 = .ok (.i2l, 1) := by decide +kernel
theorem dL_law_391 : decode cL_law 391 = .ok (.lcmp, 1) := by decide +kernel
theorem dL_law_392 : decode cL_law 392 = .ok (.ifCond .eq 5, 3) := by decide +kernel
theorem dL_law_395 : decode cL_law 395 = .ok (.iconst 0, 1) := by decide +kernel
theorem dL_law_396 : decode cL_law 396 = .ok (.ireturn, 1) := by decide +kernel
theorem dL_law_397 : decode cL_law 397 = .ok (.goto 1944, 3) := by decide +kernel
theorem dL_law_400 : decode cL_law 400 = .ok (.aload_n 1, 1) := by decide +kernel
theorem dL_law_401 : decode cL_law 401 = .ok (.aload_n 0, 1) := by decide +kernel
theorem dL_law_402 : decode cL_law 402 = .ok (.iload 5, 2) := by decide +kernel
theorem dL_law_404 : decode cL_law 404 = .ok (.iconst 1, 1) := by decide +kernel
theorem dL_law_405 : decode cL_law 405 = .ok (.iadd, 1) := by decide +kernel
theorem dL_law_406 : decode cL_law 406 = .ok (.iaload, 1) := by decide +kernel
theorem dL_law_407 : decode cL_law 407 = .ok (.aload_n 0, 1) := by decide +kernel
theorem dL_law_408 : decode cL_law 408 = .ok (.iload 5, 2) := by decide +kernel
theorem dL_law_410 : decode cL_law 410 = .ok (.iconst 2, 1) := by decide +kernel
theorem dL_law_411 : decode cL_law 411 = .ok (.iadd, 1) := by decide +kernel
theorem dL_law_412 : decode cL_law 412 = .ok (.iaload, 1) := by decide +kernel
theorem dL_law_413 : decode cL_law 413 = .ok (.aload_n 3, 1) := by decide +kernel
theorem dL_law_414 : decode cL_law 414 = .ok (.invokestatic 151, 3) := by decide +kernel
theorem dL_law_417 : decode cL_law 417 = .ok (.istore 6, 2) := by decide +kernel
theorem dL_law_419 : decode cL_law 419 = .ok (.aload_n 2, 1) := by decide +kernel
theorem dL_law_420 : decode cL_law 420 = .ok (.aload_n 0, 1) := by decide +kernel
theorem dL_law_421 : decode cL_law 421 = .ok (.iload 5, 2) := by decide +kernel
theorem dL_law_423 : decode cL_law 423 = .ok (.iconst 1, 1) := by decide +kernel
theorem dL_law_424 : decode cL_law 424 = .ok (.iadd, 1) := by decide +kernel
theorem dL_law_425 : decode cL_law 425 = .ok (.iaload, 1) := by decide +kernel
theorem dL_law_426 : decode cL_law 426 = .ok (.aload_n 0, 1) := by decide +kernel
theorem dL_law_427 : decode cL_law 427 = .ok (.iload 5, 2) := by decide +kernel
theorem dL_law_429 : decode cL_law 429 = .ok (.iconst 2, 1) := by decide +kernel
theorem dL_law_430 : decode cL_law 430 = .ok (.iadd, 1) := by decide +kernel
theorem dL_law_431 : decode cL_law 431 = .ok (.iaload, 1) := by decide +kernel
theorem dL_law_432 : decode cL_law 432 = .ok (.invokevirtual 153, 3) := by decide +kernel
theorem dL_law_435 : decode cL_law 435 = .ok (.istore 7, 2) := by decide +kernel
theorem dL_law_437 : decode cL_law 437 = .ok (.aload_n 2, 1) := by decide +kernel
theorem dL_law_438 : decode cL_law 438 = .ok (.invokevirtual 141, 3) := by decide +kernel
theorem dL_law_441 : decode cL_law 441 = .ok (.iload 6, 2) := by decide +kernel
theorem dL_law_443 : decode cL_law 443 = .ok (.if_icmp .eq 5, 3) := by decide +kernel
theorem dL_law_446 : decode cL_law 446 = .ok (.iconst 0, 1) := by decide +kernel
theorem dL_law_447 : decode cL_law 447 = .ok (.ireturn, 1) := by decide +kernel
theorem dL_law_448 : decode cL_law 448 = .ok (.iload 6, 2) := by decide +kernel
theorem dL_law_450 : decode cL_law 450 = .ok (.ifCond .ne 15, 3) := by decide +kernel
theorem dL_law_453 : decode cL_law 453 = .ok (.aload_n 3, 1) := by decide +kernel
theorem dL_law_454 : decode cL_law 454 = .ok (.iconst 0, 1) := by decide +kernel
theorem dL_law_455 : decode cL_law 455 = .ok (.laload, 1) := by decide +kernel
theorem dL_law_456 : decode cL_law 456 = .ok (.iload 7, 2) := by decide +kernel
theorem dL_law_458 : decode cL_law 458 = .ok (.i2l, 1) := by decide +kernel
theorem dL_law_459 : decode cL_law 459 = .ok (.lcmp, 1) := by decide +kernel
theorem dL_law_460 : decode cL_law 460 = .ok (.ifCond .eq 5, 3) := by decide +kernel
theorem dL_law_463 : decode cL_law 463 = .ok (.iconst 0, 1) := by decide +kernel
theorem dL_law_464 : decode cL_law 464 = .ok (.ireturn, 1) := by decide +kernel
theorem dL_law_465 : decode cL_law 465 = .ok (.goto 1876, 3) := by decide +kernel
theorem dL_law_468 : decode cL_law 468 = .ok (.aload_n 1, 1) := by decide +kernel
theorem dL_law_469 : decode cL_law 469 = .ok (.aload_n 0, 1) := by decide +kernel
theorem dL_law_470 : decode cL_law 470 = .ok (.iload 5, 2) := by decide +kernel
theorem dL_law_472 : decode cL_law 472 = .ok (.iconst 1, 1) := by decide +kernel
theorem dL_law_473 : decode cL_law 473 = .ok (.iadd, 1) := by decide +kernel
theorem dL_law_474 : decode cL_law 474 = .ok (.iaload, 1) := by decide +kernel
theorem dL_law_475 : decode cL_law 475 = .ok (.aload_n 0, 1) := by decide +kernel
theorem dL_law_476 : decode cL_law 476 = .ok (.iload 5, 2) := by decide +kernel
theorem dL_law_478 : decode cL_law 478 = .ok (.iconst 2, 1) := by decide +kernel
theorem dL_law_479 : decode cL_law 479 = .ok (.iadd, 1) := by decide +kernel
theorem dL_law_480 : decode cL_law 480 = .ok (.iaload, 1) := by decide +kernel
theorem dL_law_481 : decode cL_law 481 = .ok (.aload_n 0, 1) := by decide +kernel
theorem dL_law_482 : decode cL_law 482 = .ok (.iload 5, 2) := by decide +kernel
theorem dL_law_484 : decode cL_law 484 = .ok (.iconst 3, 1) := by decide +kernel
theorem dL_law_485 : decode cL_law 485 = .ok (.iadd, 1) := by decide +kernel
theorem dL_law_486 : decode cL_law 486 = .ok (.iaload, 1) := by decide +kernel
theorem dL_law_487 : decode cL_law 487 = .ok (.aload_n 3, 1) := by decide +kernel
theorem dL_law_488 : decode cL_law 488 = .ok (.invokestatic 154, 3) := by decide +kernel
theorem dL_law_491 : decode cL_law 491 = .ok (.istore 6, 2) := by decide +kernel
theorem dL_law_493 : decode cL_law 493 = .ok (.aload_n 2, 1) := by decide +kernel
theorem dL_law_494 : decode cL_law 494 = .ok (.aload_n 0, 1) := by decide +kernel
theorem dL_law_495 : decode cL_law 495 = .ok (.iload 5, 2) := by decide +kernel
theorem dL_law_497 : decode cL_law 497 = .ok (.iconst 1, 1) := by decide +kernel
theorem dL_law_498 : decode cL_law 498 = .ok (.iadd, 1) := by decide +kernel
theorem dL_law_499 : decode cL_law 499 = .ok (.iaload, 1) := by decide +kernel
theorem dL_law_500 : decode cL_law 500 = .ok (.aload_n 0, 1) := by decide +kernel
theorem dL_law_501 : decode cL_law 501 = .ok (.iload 5, 2) := by decide +kernel
theorem dL_law_503 : decode cL_law 503 = .ok (.iconst 2, 1) := by decide +kernel
theorem dL_law_504 : decode cL_law 504 = .ok (.iadd, 1) := by decide +kernel
theorem dL_law_505 : decode cL_law 505 = .ok (.iaload, 1) := by decide +kernel
theorem dL_law_506 : decode cL_law 506 = .ok (.aload_n 0, 1) := by decide +kernel
theorem dL_law_507 : decode cL_law 507 = .ok (.iload 5, 2) := by decide +kernel
theorem dL_law_509 : decode cL_law 509 = .ok (.iconst 3, 1) := by decide +kernel
theorem dL_law_510 : decode cL_law 510 = .ok (.iadd, 1) := by decide +kernel
theorem dL_law_511 : decode cL_law 511 = .ok (.iaload, 1) := by decide +kernel
theorem dL_law_512 : decode cL_law 512 = .ok (.invokevirtual 157, 3) := by decide +kernel
theorem dL_law_515 : decode cL_law 515 = .ok (.istore 7, 2) := by decide +kernel
theorem dL_law_517 : decode cL_law 517 = .ok (.aload_n 2, 1) := by decide +kernel
theorem dL_law_518 : decode cL_law 518 = .ok (.invokevirtual 141, 3) := by decide +kernel
theorem dL_law_521 : decode cL_law 521 = .ok (.iload 6, 2) := by decide +kernel
theorem dL_law_523 : decode cL_law 523 = .ok (.if_icmp .eq 5, 3) := by decide +kernel
theorem dL_law_526 : decode cL_law 526 = .ok (.iconst 0, 1) := by decide +kernel
theorem dL_law_527 : decode cL_law 527 = .ok (.ireturn, 1) := by decide +kernel
theorem dL_law_528 : decode cL_law 528 = .ok (.iload 6, 2) := by decide +kernel
theorem dL_law_530 : decode cL_law 530 = .ok (.ifCond .ne 15, 3) := by decide +kernel
theorem dL_law_533 : decode cL_law 533 = .ok (.aload_n 3, 1) := by decide +kernel
theorem dL_law_534 : decode cL_law 534 = .ok (.iconst 0, 1) := by decide +kernel
theorem dL_law_535 : decode cL_law 535 = .ok (.laload, 1) := by decide +kernel
theorem dL_law_536 : decode cL_law 536 = .ok (.iload 7, 2) := by decide +kernel
theorem dL_law_538 : decode cL_law 538 = .ok (.i2l, 1) := by decide +kernel
theorem dL_law_539 : decode cL_law 539 = .ok (.lcmp, 1) := by decide +kernel
theorem dL_law_540 : decode cL_law 540 = .ok (.ifCond .eq 5, 3) := by decide +kernel
theorem dL_law_543 : decode cL_law 543 = .ok (.iconst 0, 1) := by decide +kernel
theorem dL_law_544 : decode cL_law 544 = .ok (.ireturn, 1) := by decide +kernel
theorem dL_law_545 : decode cL_law 545 = .ok (.goto 1796, 3) := by decide +kernel
theorem dL_law_548 : decode cL_law 548 = .ok (.aload_n 1, 1) := by decide +kernel
theorem dL_law_549 : decode cL_law 549 = .ok (.aload_n 0, 1) := by decide +kernel
theorem dL_law_550 : decode cL_law 550 = .ok (.iload 5, 2) := by decide +kernel
theorem dL_law_552 : decode cL_law 552 = .ok (.iconst 1, 1) := by decide +kernel
theorem dL_law_553 : decode cL_law 553 = .ok (.iadd, 1) := by decide +kernel
theorem dL_law_554 : decode cL_law 554 = .ok (.iaload, 1) := by decide +kernel
theorem dL_law_555 : decode cL_law 555 = .ok (.aload_n 0, 1) := by decide +kernel
theorem dL_law_556 : decode cL_law 556 = .ok (.iload 5, 2) := by decide +kernel
theorem dL_law_558 : decode cL_law 558 = .ok (.iconst 2, 1) := by decide +kernel
theorem dL_law_559 : decode cL_law 559 = .ok (.iadd, 1) := by decide +kernel
theorem dL_law_560 : decode cL_law 560 = .ok (.iaload, 1) := by decide +kernel
theorem dL_law_561 : decode cL_law 561 = .ok (.aload_n 3, 1) := by decide +kernel
theorem dL_law_562 : decode cL_law 562 = .ok (.invokestatic 158, 3) := by decide +kernel
theorem dL_law_565 : decode cL_law 565 = .ok (.istore 6, 2) := by decide +kernel
theorem dL_law_567 : decode cL_law 567 = .ok (.aload_n 2, 1) := by decide +kernel
theorem dL_law_568 : decode cL_law 568 = .ok (.aload_n 0, 1) := by decide +kernel
theorem dL_law_569 : decode cL_law 569 = .ok (.iload 5, 2) := by decide +kernel
theorem dL_law_571 : decode cL_law 571 = .ok (.iconst 1, 1) := by decide +kernel
theorem dL_law_572 : decode cL_law 572 = .ok (.iadd, 1) := by decide +kernel
theorem dL_law_573 : decode cL_law 573 = .ok (.iaload, 1) := by decide +kernel
theorem dL_law_574 : decode cL_law 574 = .ok (.aload_n 0, 1) := by decide +kernel
theorem dL_law_575 : decode cL_law 575 = .ok (.iload 5, 2) := by decide +kernel
theorem dL_law_577 : decode cL_law 577 = .ok (.iconst 2, 1) := by decide +kernel
theorem dL_law_578 : decode cL_law 578 = .ok (.iadd, 1) := by decide +kernel
theorem dL_law_579 : decode cL_law 579 = .ok (.iaload, 1) := by decide +kernel
theorem dL_law_580 : decode cL_law 580 = .ok (.invokevirtual 160, 3) := by decide +kernel
theorem dL_law_583 : decode cL_law 583 = .ok (.istore 7, 2) := by decide +kernel
theorem dL_law_585 : decode cL_law 585 = .ok (.aload_n 2, 1) := by decide +kernel
theorem dL_law_586 : decode cL_law 586 = .ok (.invokevirtual 141, 3) := by decide +kernel
theorem dL_law_589 : decode cL_law 589 = .ok (.iload 6, 2) := by decide +kernel
theorem dL_law_591 : decode cL_law 591 = .ok (.if_icmp .eq 5, 3) := by decide +kernel
theorem dL_law_594 : decode cL_law 594 = .ok (.iconst 0, 1) := by decide +kernel
theorem dL_law_595 : decode cL_law 595 = .ok (.ireturn, 1) := by decide +kernel
theorem dL_law_596 : decode cL_law 596 = .ok (.iload 6, 2) := by decide +kernel
theorem dL_law_598 : decode cL_law 598 = .ok (.ifCond .ne 15, 3) := by decide +kernel
theorem dL_law_601 : decode cL_law 601 = .ok (.aload_n 3, 1) := by decide +kernel
theorem dL_law_602 : decode cL_law 602 = .ok (.iconst 0, 1) := by decide +kernel
theorem dL_law_603 : decode cL_law 603 = .ok (.laload, 1) := by decide +kernel
theorem dL_law_604 : decode cL_law 604 = .ok (.iload 7, 2) := by decide +kernel
theorem dL_law_606 : decode cL_law 606 = .ok (.i2l, 1) := by decide +kernel
theorem dL_law_607 : decode cL_law 607 = .ok (.lcmp, 1) := by decide +kernel
theorem dL_law_608 : decode cL_law 608 = .ok (.ifCond .eq 5, 3) := by decide +kernel
theorem dL_law_611 : decode cL_law 611 = .ok (.iconst 0, 1) := by decide +kernel
theorem dL_law_612 : decode cL_law 612 = .ok (.ireturn, 1) := by decide +kernel
theorem dL_law_613 : decode cL_law 613 = .ok (.goto 1728, 3) := by decide +kernel
theorem dL_law_616 : decode cL_law 616 = .ok (.aload_n 1, 1) := by decide +kernel
theorem dL_law_617 : decode cL_law 617 = .ok (.aload_n 0, 1) := by decide +kernel
theorem dL_law_618 : decode cL_law 618 = .ok (.iload 5, 2) := by decide +kernel
theorem dL_law_620 : decode cL_law 620 = .ok (.iconst 1, 1) := by decide +kernel
theorem dL_law_621 : decode cL_law 621 = .ok (.iadd, 1) := by decide +kernel
theorem dL_law_622 : decode cL_law 622 = .ok (.iaload, 1) := by decide +kernel
theorem dL_law_623 : decode cL_law 623 = .ok (.i2c, 1) := by decide +kernel
theorem dL_law_624 : decode cL_law 624 = .ok (.aload_n 3, 1) := by decide +kernel
theorem dL_law_625 : decode cL_law 625 = .ok (.invokestatic 161, 3) := by decide +kernel
theorem dL_law_628 : decode cL_law 628 = .ok (.istore 6, 2) := by decide +kernel
theorem dL_law_630 : decode cL_law 630 = .ok (.aload_n 2, 1) := by decide +kernel
theorem dL_law_631 : decode cL_law 631 = .ok (.aload_n 0, 1) := by decide +kernel
theorem dL_law_632 : decode cL_law 632 = .ok (.iload 5, 2) := by decide +kernel
theorem dL_law_634 : decode cL_law 634 = .ok (.iconst 1, 1) := by decide +kernel
theorem dL_law_635 : decode cL_law 635 = .ok (.iadd, 1) := by decide +kernel
theorem dL_law_636 : decode cL_law 636 = .ok (.iaload, 1) := by decide +kernel
theorem dL_law_637 : decode cL_law 637 = .ok (.i2c, 1) := by decide +kernel
theorem dL_law_638 : decode cL_law 638 = .ok (.invokevirtual 164, 3) := by decide +kernel
theorem dL_law_641 : decode cL_law 641 = .ok (.istore 7, 2) := by decide +kernel
theorem dL_law_643 : decode cL_law 643 = .ok (.aload_n 2, 1) := by decide +kernel
theorem dL_law_644 : decode cL_law 644 = .ok (.invokevirtual 141, 3) := by decide +kernel
theorem dL_law_647 : decode cL_law 647 = .ok (.iload 6, 2) := by decide +kernel
theorem dL_law_649 : decode cL_law 649 = .ok (.if_icmp .eq 5, 3) := by decide +kernel
theorem dL_law_652 : decode cL_law 652 = .ok (.iconst 0, 1) := by decide +kernel
theorem dL_law_653 : decode cL_law 653 = .ok (.ireturn, 1) := by decide +kernel
theorem dL_law_654 : decode cL_law 654 = .ok (.iload 6, 2) := by decide +kernel
theorem dL_law_656 : decode cL_law 656 = .ok (.ifCond .ne 15, 3) := by decide +kernel
theorem dL_law_659 : decode cL_law 659 = .ok (.aload_n 3, 1) := by decide +kernel
theorem dL_law_660 : decode cL_law 660 = .ok (.iconst 0, 1) := by decide +kernel
theorem dL_law_661 : decode cL_law 661 = .ok (.laload, 1) := by decide +kernel
theorem dL_law_662 : decode cL_law 662 = .ok (.iload 7, 2) := by decide +kernel
theorem dL_law_664 : decode cL_law 664 = .ok (.i2l, 1) := by decide +kernel
theorem dL_law_665 : decode cL_law 665 = .ok (.lcmp, 1) := by decide +kernel
theorem dL_law_666 : decode cL_law 666 = .ok (.ifCond .eq 5, 3) := by decide +kernel
theorem dL_law_669 : decode cL_law 669 = .ok (.iconst 0, 1) := by decide +kernel
theorem dL_law_670 : decode cL_law 670 = .ok (.ireturn, 1) := by decide +kernel
theorem dL_law_671 : decode cL_law 671 = .ok (.goto 1670, 3) := by decide +kernel
theorem dL_law_674 : decode cL_law 674 = .ok (.aload_n 1, 1) := by decide +kernel
theorem dL_law_675 : decode cL_law 675 = .ok (.invokevirtual 165, 3) := by decide +kernel
theorem dL_law_678 : decode cL_law 678 = .ok (.aload_n 2, 1) := by decide +kernel
theorem dL_law_679 : decode cL_law 679 = .ok (.invokevirtual 168, 3) := by decide +kernel
theorem dL_law_682 : decode cL_law 682 = .ok (.if_icmp .eq 1659, 3) := by decide +kernel
theorem dL_law_685 : decode cL_law 685 = .ok (.iconst 0, 1) := by decide +kernel
theorem dL_law_686 : decode cL_law 686 = .ok (.ireturn, 1) := by decide +kernel
theorem dL_law_687 : decode cL_law 687 = .ok (.aload_n 1, 1) := by decide +kernel
theorem dL_law_688 : decode cL_law 688 = .ok (.aload_n 0, 1) := by decide +kernel
theorem dL_law_689 : decode cL_law 689 = .ok (.iload 5, 2) := by decide +kernel
theorem dL_law_691 : decode cL_law 691 = .ok (.iconst 1, 1) := by decide +kernel
theorem dL_law_692 : decode cL_law 692 = .ok (.iadd, 1) := by decide +kernel
theorem dL_law_693 : decode cL_law 693 = .ok (.iaload, 1) := by decide +kernel
theorem dL_law_694 : decode cL_law 694 = .ok (.aload_n 3, 1) := by decide +kernel
theorem dL_law_695 : decode cL_law 695 = .ok (.invokestatic 169, 3) := by decide +kernel
theorem dL_law_698 : decode cL_law 698 = .ok (.istore 6, 2) := by decide +kernel
theorem dL_law_700 : decode cL_law 700 = .ok (.aload_n 2, 1) := by decide +kernel
theorem dL_law_701 : decode cL_law 701 = .ok (.aload_n 0, 1) := by decide +kernel
theorem dL_law_702 : decode cL_law 702 = .ok (.iload 5, 2) := by decide +kernel
theorem dL_law_704 : decode cL_law 704 = .ok (.iconst 1, 1) := by decide +kernel
theorem dL_law_705 : decode cL_law 705 = .ok (.iadd, 1) := by decide +kernel
theorem dL_law_706 : decode cL_law 706 = .ok (.iaload, 1) := by decide +kernel
theorem dL_law_707 : decode cL_law 707 = .ok (.invokevirtual 171, 3) := by decide +kernel
theorem dL_law_710 : decode cL_law 710 = .ok (.istore 7, 2) := by decide +kernel
theorem dL_law_712 : decode cL_law 712 = .ok (.aload_n 2, 1) := by decide +kernel
theorem dL_law_713 : decode cL_law 713 = .ok (.invokevirtual 141, 3) := by decide +kernel
theorem dL_law_716 : decode cL_law 716 = .ok (.iload 6, 2) := by decide +kernel
theorem dL_law_718 : decode cL_law 718 = .ok (.if_icmp .eq 5, 3) := by decide +kernel
theorem dL_law_721 : decode cL_law 721 = .ok (.iconst 0, 1) := by decide +kernel
theorem dL_law_722 : decode cL_law 722 = .ok (.ireturn, 1) := by decide +kernel
theorem dL_law_723 : decode cL_law 723 = .ok (.iload 6, 2) := by decide +kernel
theorem dL_law_725 : decode cL_law 725 = .ok (.ifCond .ne 15, 3) := by decide +kernel
theorem dL_law_728 : decode cL_law 728 = .ok (.aload_n 3, 1) := by decide +kernel
theorem dL_law_729 : decode cL_law 729 = .ok (.iconst 0, 1) := by decide +kernel
theorem dL_law_730 : decode cL_law 730 = .ok (.laload, 1) := by decide +kernel
theorem dL_law_731 : decode cL_law 731 = .ok (.iload 7, 2) := by decide +kernel
theorem dL_law_733 : decode cL_law 733 = .ok (.i2l, 1) := by decide +kernel
theorem dL_law_734 : decode cL_law 734 = .ok (.lcmp, 1) := by decide +kernel
theorem dL_law_735 : decode cL_law 735 = .ok (.ifCond .eq 5, 3) := by decide +kernel
theorem dL_law_738 : decode cL_law 738 = .ok (.iconst 0, 1) := by decide +kernel
theorem dL_law_739 : decode cL_law 739 = .ok (.ireturn, 1) := by decide +kernel
theorem dL_law_740 : decode cL_law 740 = .ok (.goto 1601, 3) := by decide +kernel
theorem dL_law_743 : decode cL_law 743 = .ok (.aload_n 1, 1) := by decide +kernel
theorem dL_law_744 : decode cL_law 744 = .ok (.aload_n 0, 1) := by decide +kernel
theorem dL_law_745 : decode cL_law 745 = .ok (.iload 5, 2) := by decide +kernel
theorem dL_law_747 : decode cL_law 747 = .ok (.iconst 1, 1) := by decide +kernel
theorem dL_law_748 : decode cL_law 748 = .ok (.iadd, 1) := by decide +kernel
theorem dL_law_749 : decode cL_law 749 = .ok (.iaload, 1) := by decide +kernel
theorem dL_law_750 : decode cL_law 750 = .ok (.aload_n 3, 1) := by decide +kernel
theorem dL_law_751 : decode cL_law 751 = .ok (.invokestatic 172, 3) := by decide +kernel
theorem dL_law_754 : decode cL_law 754 = .ok (.istore 6, 2) := by decide +kernel
theorem dL_law_756 : decode cL_law 756 = .ok (.aload_n 2, 1) := by decide +kernel
theorem dL_law_757 : decode cL_law 757 = .ok (.aload_n 0, 1) := by decide +kernel
theorem dL_law_758 : decode cL_law 758 = .ok (.iload 5, 2) := by decide +kernel
theorem dL_law_760 : decode cL_law 760 = .ok (.iconst 1, 1) := by decide +kernel
theorem dL_law_761 : decode cL_law 761 = .ok (.iadd, 1) := by decide +kernel
theorem dL_law_762 : decode cL_law 762 = .ok (.iaload, 1) := by decide +kernel
theorem dL_law_763 : decode cL_law 763 = .ok (.invokevirtual 174, 3) := by decide +kernel
theorem dL_law_766 : decode cL_law 766 = .ok (.istore 7, 2) := by decide +kernel
theorem dL_law_768 : decode cL_law 768 = .ok (.aload_n 2, 1) := by decide +kernel
theorem dL_law_769 : decode cL_law 769 = .ok (.invokevirtual 141, 3) := by decide +kernel
theorem dL_law_772 : decode cL_law 772 = .ok (.iload 6, 2) := by decide +kernel
theorem dL_law_774 : decode cL_law 774 = .ok (.if_icmp .eq 5, 3) := by decide +kernel
theorem dL_law_777 : decode cL_law 777 = .ok (.iconst 0, 1) := by decide +kernel
theorem dL_law_778 : decode cL_law 778 = .ok (.ireturn, 1) := by decide +kernel
theorem dL_law_779 : decode cL_law 779 = .ok (.iload 6, 2) := by decide +kernel
theorem dL_law_781 : decode cL_law 781 = .ok (.ifCond .ne 15, 3) := by decide +kernel
theorem dL_law_784 : decode cL_law 784 = .ok (.aload_n 3, 1) := by decide +kernel
theorem dL_law_785 : decode cL_law 785 = .ok (.iconst 0, 1) := by decide +kernel
theorem dL_law_786 : decode cL_law 786 = .ok (.laload, 1) := by decide +kernel
theorem dL_law_787 : decode cL_law 787 = .ok (.iload 7, 2) := by decide +kernel
theorem dL_law_789 : decode cL_law 789 = .ok (.i2l, 1) := by decide +kernel
theorem dL_law_790 : decode cL_law 790 = .ok (.lcmp, 1) := by decide +kernel
theorem dL_law_791 : decode cL_law 791 = .ok (.ifCond .eq 5, 3) := by decide +kernel
theorem dL_law_794 : decode cL_law 794 = .ok (.iconst 0, 1) := by decide +kernel
theorem dL_law_795 : decode cL_law 795 = .ok (.ireturn, 1) := by decide +kernel
theorem dL_law_796 : decode cL_law 796 = .ok (.goto 1545, 3) := by decide +kernel
theorem dL_law_799 : decode cL_law 799 = .ok (.aload_n 1, 1) := by decide +kernel
theorem dL_law_800 : decode cL_law 800 = .ok (.aload_n 0, 1) := by decide +kernel
theorem dL_law_801 : decode cL_law 801 = .ok (.iload 5, 2) := by decide +kernel
theorem dL_law_803 : decode cL_law 803 = .ok (.iconst 1, 1) := by decide +kernel
theorem dL_law_804 : decode cL_law 804 = .ok (.iadd, 1) := by decide +kernel
theorem dL_law_805 : decode cL_law 805 = .ok (.iaload, 1) := by decide +kernel
theorem dL_law_806 : decode cL_law 806 = .ok (.aload_n 0, 1) := by decide +kernel
theorem dL_law_807 : decode cL_law 807 = .ok (.iload 5, 2) := by decide +kernel
theorem dL_law_809 : decode cL_law 809 = .ok (.iconst 2, 1) := by decide +kernel
theorem dL_law_810 : decode cL_law 810 = .ok (.iadd, 1) := by decide +kernel
theorem dL_law_811 : decode cL_law 811 = .ok (.iaload, 1) := by decide +kernel
theorem dL_law_812 : decode cL_law 812 = .ok (.aload_n 3, 1) := by decide +kernel
theorem dL_law_813 : decode cL_law 813 = .ok (.invokestatic 175, 3) := by decide +kernel
theorem dL_law_816 : decode cL_law 816 = .ok (.istore 6, 2) := by decide +kernel
theorem dL_law_818 : decode cL_law 818 = .ok (.aload_n 2, 1) := by decide +kernel
theorem dL_law_819 : decode cL_law 819 = .ok (.aload_n 0, 1) := by decide +kernel
theorem dL_law_820 : decode cL_law 820 = .ok (.iload 5, 2) := by decide +kernel
theorem dL_law_822 : decode cL_law 822 = .ok (.iconst 1, 1) := by decide +kernel
theorem dL_law_823 : decode cL_law 823 = .ok (.iadd, 1) := by decide +kernel
theorem dL_law_824 : decode cL_law 824 = .ok (.iaload, 1) := by decide +kernel
theorem dL_law_825 : decode cL_law 825 = .ok (.aload_n 0, 1) := by decide +kernel
theorem dL_law_826 : decode cL_law 826 = .ok (.iload 5, 2) := by decide +kernel
theorem dL_law_828 : decode cL_law 828 = .ok (.iconst 2, 1) := by decide +kernel
theorem dL_law_829 : decode cL_law 829 = .ok (.iadd, 1) := by decide +kernel
theorem dL_law_830 : decode cL_law 830 = .ok (.iaload, 1) := by decide +kernel
theorem dL_law_831 : decode cL_law 831 = .ok (.invokevirtual 177, 3) := by decide +kernel
theorem dL_law_834 : decode cL_law 834 = .ok (.istore 7, 2) := by decide +kernel
theorem dL_law_836 : decode cL_law 836 = .ok (.aload_n 2, 1) := by decide +kernel
theorem dL_law_837 : decode cL_law 837 = .ok (.invokevirtual 141, 3) := by decide +kernel
theorem dL_law_840 : decode cL_law 840 = .ok (.iload 6, 2) := by decide +kernel
theorem dL_law_842 : decode cL_law 842 = .ok (.if_icmp .eq 5, 3) := by decide +kernel
theorem dL_law_845 : decode cL_law 845 = .ok (.iconst 0, 1) := by decide +kernel
theorem dL_law_846 : decode cL_law 846 = .ok (.ireturn, 1) := by decide +kernel
theorem dL_law_847 : decode cL_law 847 = .ok (.iload 6, 2) := by decide +kernel
theorem dL_law_849 : decode cL_law 849 = .ok (.ifCond .ne 15, 3) := by decide +kernel
theorem dL_law_852 : decode cL_law 852 = .ok (.aload_n 3, 1) := by decide +kernel
theorem dL_law_853 : decode cL_law 853 = .ok (.iconst 0, 1) := by decide +kernel
theorem dL_law_854 : decode cL_law 854 = .ok (.laload, 1) := by decide +kernel
theorem dL_law_855 : decode cL_law 855 = .ok (.iload 7, 2) := by decide +kernel
theorem dL_law_857 : decode cL_law 857 = .ok (.i2l, 1) := by decide +kernel
theorem dL_law_858 : decode cL_law 858 = .ok (.lcmp, 1) := by decide +kernel
theorem dL_law_859 : decode cL_law 859 = .ok (.ifCond .eq 5, 3) := by decide +kernel
theorem dL_law_862 : decode cL_law 862 = .ok (.iconst 0, 1) := by decide +kernel
theorem dL_law_863 : decode cL_law 863 = .ok (.ireturn, 1) := by decide +kernel
theorem dL_law_864 : decode cL_law 864 = .ok (.goto 1477, 3) := by decide +kernel
theorem dL_law_867 : decode cL_law 867 = .ok (.aload_n 1, 1) := by decide +kernel
theorem dL_law_868 : decode cL_law 868 = .ok (.aload_n 0, 1) := by decide +kernel
theorem dL_law_869 : decode cL_law 869 = .ok (.iload 5, 2) := by decide +kernel
theorem dL_law_871 : decode cL_law 871 = .ok (.iconst 1, 1) := by decide +kernel
theorem dL_law_872 : decode cL_law 872 = .ok (.iadd, 1) := by decide +kernel
theorem dL_law_873 : decode cL_law 873 = .ok (.iaload, 1) := by decide +kernel
theorem dL_law_874 : decode cL_law 874 = .ok (.aload_n 0, 1) := by decide +kernel
theorem dL_law_875 : decode cL_law 875 = .ok (.iload 5, 2) := by decide +kernel
theorem dL_law_877 : decode cL_law 877 = .ok (.iconst 2, 1) := by decide +kernel
theorem dL_law_878 : decode cL_law 878 = .ok (.iadd, 1) := by decide +kernel
theorem dL_law_879 : decode cL_law 879 = .ok (.iaload, 1) := by decide +kernel
theorem dL_law_880 : decode cL_law 880 = .ok (.aload_n 3, 1) := by decide +kernel
theorem dL_law_881 : decode cL_law 881 = .ok (.invokestatic 178, 3) := by decide +kernel
theorem dL_law_884 : decode cL_law 884 = .ok (.istore 6, 2) := by decide +kernel
theorem dL_law_886 : decode cL_law 886 = .ok (.aload_n 2, 1) := by decide +kernel
theorem dL_law_887 : decode cL_law 887 = .ok (.aload_n 0, 1) := by decide +kernel
theorem dL_law_888 : decode cL_law 888 = .ok (.iload 5, 2) := by decide +kernel
theorem dL_law_890 : decode cL_law 890 = .ok (.iconst 1, 1) := by decide +kernel
theorem dL_law_891 : decode cL_law 891 = .ok (.iadd, 1) := by decide +kernel
theorem dL_law_892 : decode cL_law 892 = .ok (.iaload, 1) := by decide +kernel
theorem dL_law_893 : decode cL_law 893 = .ok (.aload_n 0, 1) := by decide +kernel
theorem dL_law_894 : decode cL_law 894 = .ok (.iload 5, 2) := by decide +kernel
theorem dL_law_896 : decode cL_law 896 = .ok (.iconst 2, 1) := by decide +kernel
theorem dL_law_897 : decode cL_law 897 = .ok (.iadd, 1) := by decide +kernel
theorem dL_law_898 : decode cL_law 898 = .ok (.iaload, 1) := by decide +kernel
theorem dL_law_899 : decode cL_law 899 = .ok (.invokevirtual 180, 3) := by decide +kernel
theorem dL_law_902 : decode cL_law 902 = .ok (.istore 7, 2) := by decide +kernel
theorem dL_law_904 : decode cL_law 904 = .ok (.aload_n 2, 1) := by decide +kernel
theorem dL_law_905 : decode cL_law 905 = .ok (.invokevirtual 141, 3) := by decide +kernel
theorem dL_law_908 : decode cL_law 908 = .ok (.iload 6, 2) := by decide +kernel
theorem dL_law_910 : decode cL_law 910 = .ok (.if_icmp .eq 5, 3) := by decide +kernel
theorem dL_law_913 : decode cL_law 913 = .ok (.iconst 0, 1) := by decide +kernel
theorem dL_law_914 : decode cL_law 914 = .ok (.ireturn, 1) := by decide +kernel
theorem dL_law_915 : decode cL_law 915 = .ok (.iload 6, 2) := by decide +kernel
theorem dL_law_917 : decode cL_law 917 = .ok (.ifCond .ne 15, 3) := by decide +kernel
theorem dL_law_920 : decode cL_law 920 = .ok (.aload_n 3, 1) := by decide +kernel
theorem dL_law_921 : decode cL_law 921 = .ok (.iconst 0, 1) := by decide +kernel
theorem dL_law_922 : decode cL_law 922 = .ok (.laload, 1) := by decide +kernel
theorem dL_law_923 : decode cL_law 923 = .ok (.iload 7, 2) := by decide +kernel
theorem dL_law_925 : decode cL_law 925 = .ok (.i2l, 1) := by decide +kernel
theorem dL_law_926 : decode cL_law 926 = .ok (.lcmp, 1) := by decide +kernel
theorem dL_law_927 : decode cL_law 927 = .ok (.ifCond .eq 5, 3) := by decide +kernel
theorem dL_law_930 : decode cL_law 930 = .ok (.iconst 0, 1) := by decide +kernel
theorem dL_law_931 : decode cL_law 931 = .ok (.ireturn, 1) := by decide +kernel
theorem dL_law_932 : decode cL_law 932 = .ok (.goto 1409, 3) := by decide +kernel
theorem dL_law_935 : decode cL_law 935 = .ok (.aload_n 1, 1) := by decide +kernel
theorem dL_law_936 : decode cL_law 936 = .ok (.aload_n 0, 1) := by decide +kernel
theorem dL_law_937 : decode cL_law 937 = .ok (.iload 5, 2) := by decide +kernel
theorem dL_law_939 : decode cL_law 939 = .ok (.iconst 1, 1) := by decide +kernel
theorem dL_law_940 : decode cL_law 940 = .ok (.iadd, 1) := by decide +kernel
theorem dL_law_941 : decode cL_law 941 = .ok (.iaload, 1) := by decide +kernel
theorem dL_law_942 : decode cL_law 942 = .ok (.aload_n 3, 1) := by decide +kernel
theorem dL_law_943 : decode cL_law 943 = .ok (.invokestatic 181, 3) := by decide +kernel
theorem dL_law_946 : decode cL_law 946 = .ok (.istore 6, 2) := by decide +kernel
theorem dL_law_948 : decode cL_law 948 = .ok (.aload_n 2, 1) := by decide +kernel
theorem dL_law_949 : decode cL_law 949 = .ok (.aload_n 0, 1) := by decide +kernel
theorem dL_law_950 : decode cL_law 950 = .ok (.iload 5, 2) := by decide +kernel
theorem dL_law_952 : decode cL_law 952 = .ok (.iconst 1, 1) := by decide +kernel
theorem dL_law_953 : decode cL_law 953 = .ok (.iadd, 1) := by decide +kernel
theorem dL_law_954 : decode cL_law 954 = .ok (.iaload, 1) := by decide +kernel
theorem dL_law_955 : decode cL_law 955 = .ok (.invokevirtual 183, 3) := by decide +kernel
theorem dL_law_958 : decode cL_law 958 = .ok (.istore 7, 2) := by decide +kernel
theorem dL_law_960 : decode cL_law 960 = .ok (.aload_n 2, 1) := by decide +kernel
theorem dL_law_961 : decode cL_law 961 = .ok (.invokevirtual 141, 3) := by decide +kernel
theorem dL_law_964 : decode cL_law 964 = .ok (.iload 6, 2) := by decide +kernel
theorem dL_law_966 : decode cL_law 966 = .ok (.if_icmp .eq 5, 3) := by decide +kernel
theorem dL_law_969 : decode cL_law 969 = .ok (.iconst 0, 1) := by decide +kernel
theorem dL_law_970 : decode cL_law 970 = .ok (.ireturn, 1) := by decide +kernel
theorem dL_law_971 : decode cL_law 971 = .ok (.iload 6, 2) := by decide +kernel
theorem dL_law_973 : decode cL_law 973 = .ok (.ifCond .ne 15, 3) := by decide +kernel
theorem dL_law_976 : decode cL_law 976 = .ok (.aload_n 3, 1) := by decide +kernel
theorem dL_law_977 : decode cL_law 977 = .ok (.iconst 0, 1) := by decide +kernel
theorem dL_law_978 : decode cL_law 978 = .ok (.laload, 1) := by decide +kernel
theorem dL_law_979 : decode cL_law 979 = .ok (.iload 7, 2) := by decide +kernel
theorem dL_law_981 : decode cL_law 981 = .ok (.i2l, 1) := by decide +kernel
theorem dL_law_982 : decode cL_law 982 = .ok (.lcmp, 1) := by decide +kernel
theorem dL_law_983 : decode cL_law 983 = .ok (.ifCond .eq 5, 3) := by decide +kernel
theorem dL_law_986 : decode cL_law 986 = .ok (.iconst 0, 1) := by decide +kernel
theorem dL_law_987 : decode cL_law 987 = .ok (.ireturn, 1) := by decide +kernel
theorem dL_law_988 : decode cL_law 988 = .ok (.goto 1353, 3) := by decide +kernel
theorem dL_law_991 : decode cL_law 991 = .ok (.aload_n 1, 1) := by decide +kernel
theorem dL_law_992 : decode cL_law 992 = .ok (.aload_n 0, 1) := by decide +kernel
theorem dL_law_993 : decode cL_law 993 = .ok (.iload 5, 2) := by decide +kernel
theorem dL_law_995 : decode cL_law 995 = .ok (.iconst 1, 1) := by decide +kernel
theorem dL_law_996 : decode cL_law 996 = .ok (.iadd, 1) := by decide +kernel
theorem dL_law_997 : decode cL_law 997 = .ok (.iaload, 1) := by decide +kernel
theorem dL_law_998 : decode cL_law 998 = .ok (.aload_n 3, 1) := by decide +kernel
theorem dL_law_999 : decode cL_law 999 = .ok (.invokestatic 184, 3) := by decide +kernel
theorem dL_law_1002 : decode cL_law 1002 = .ok (.istore 6, 2) := by decide +kernel
theorem dL_law_1004 : decode cL_law 1004 = .ok (.aload_n 2, 1) := by decide +kernel
theorem dL_law_1005 : decode cL_law 1005 = .ok (.aload_n 0, 1) := by decide +kernel
theorem dL_law_1006 : decode cL_law 1006 = .ok (.iload 5, 2) := by decide +kernel
theorem dL_law_1008 : decode cL_law 1008 = .ok (.iconst 1, 1) := by decide +kernel
theorem dL_law_1009 : decode cL_law 1009 = .ok (.iadd, 1) := by decide +kernel
theorem dL_law_1010 : decode cL_law 1010 = .ok (.iaload, 1) := by decide +kernel
theorem dL_law_1011 : decode cL_law 1011 = .ok (.invokevirtual 186, 3) := by decide +kernel
theorem dL_law_1014 : decode cL_law 1014 = .ok (.istore 7, 2) := by decide +kernel
theorem dL_law_1016 : decode cL_law 1016 = .ok (.aload_n 2, 1) := by decide +kernel
theorem dL_law_1017 : decode cL_law 1017 = .ok (.invokevirtual 141, 3) := by decide +kernel
theorem dL_law_1020 : decode cL_law 1020 = .ok (.iload 6, 2) := by decide +kernel
theorem dL_law_1022 : decode cL_law 1022 = .ok (.if_icmp .eq 5, 3) := by decide +kernel
theorem dL_law_1025 : decode cL_law 1025 = .ok (.iconst 0, 1) := by decide +kernel
theorem dL_law_1026 : decode cL_law 1026 = .ok (.ireturn, 1) := by decide +kernel
theorem dL_law_1027 : decode cL_law 1027 = .ok (.iload 6, 2) := by decide +kernel
theorem dL_law_1029 : decode cL_law 1029 = .ok (.ifCond .ne 15, 3) := by decide +kernel
theorem dL_law_1032 : decode cL_law 1032 = .ok (.aload_n 3, 1) := by decide +kernel
theorem dL_law_1033 : decode cL_law 1033 = .ok (.iconst 0, 1) := by decide +kernel
theorem dL_law_1034 : decode cL_law 1034 = .ok (.laload, 1) := by decide +kernel
theorem dL_law_1035 : decode cL_law 1035 = .ok (.iload 7, 2) := by decide +kernel
theorem dL_law_1037 : decode cL_law 1037 = .ok (.i2l, 1) := by decide +kernel
theorem dL_law_1038 : decode cL_law 1038 = .ok (.lcmp, 1) := by decide +kernel
theorem dL_law_1039 : decode cL_law 1039 = .ok (.ifCond .eq 5, 3) := by decide +kernel
theorem dL_law_1042 : decode cL_law 1042 = .ok (.iconst 0, 1) := by decide +kernel
theorem dL_law_1043 : decode cL_law 1043 = .ok (.ireturn, 1) := by decide +kernel
theorem dL_law_1044 : decode cL_law 1044 = .ok (.goto 1297, 3) := by decide +kernel
theorem dL_law_1047 : decode cL_law 1047 = .ok (.aload_n 1, 1) := by decide +kernel
theorem dL_law_1048 : decode cL_law 1048 = .ok (.aload_n 0, 1) := by decide +kernel
theorem dL_law_1049 : decode cL_law 1049 = .ok (.iload 5, 2) := by decide +kernel
theorem dL_law_1051 : decode cL_law 1051 = .ok (.iconst 1, 1) := by decide +kernel
theorem dL_law_1052 : decode cL_law 1052 = .ok (.iadd, 1) := by decide +kernel
theorem dL_law_1053 : decode cL_law 1053 = .ok (.iaload, 1) := by decide +kernel
theorem dL_law_1054 : decode cL_law 1054 = .ok (.aload_n 3, 1) := by decide +kernel
theorem dL_law_1055 : decode cL_law 1055 = .ok (.invokestatic 187, 3) := by decide +kernel
theorem dL_law_1058 : decode cL_law 1058 = .ok (.istore 6, 2) := by decide +kernel
theorem dL_law_1060 : decode cL_law 1060 = .ok (.aload_n 2, 1) := by decide +kernel
theorem dL_law_1061 : decode cL_law 1061 = .ok (.aload_n 0, 1) := by decide +kernel
theorem dL_law_1062 : decode cL_law 1062 = .ok (.iload 5, 2) := by decide +kernel
theorem dL_law_1064 : decode cL_law 1064 = .ok (.iconst 1, 1) := by decide +kernel
theorem dL_law_1065 : decode cL_law 1065 = .ok (.iadd, 1) := by decide +kernel
theorem dL_law_1066 : decode cL_law 1066 = .ok (.iaload, 1) := by decide +kernel
theorem dL_law_1067 : decode cL_law 1067 = .ok (.invokevirtual 189, 3) := by decide +kernel
theorem dL_law_1070 : decode cL_law 1070 = .ok (.istore 7, 2) := by decide +kernel
theorem dL_law_1072 : decode cL_law 1072 = .ok (.aload_n 2, 1) := by decide +kernel
theorem dL_law_1073 : decode cL_law 1073 = .ok (.invokevirtual 141, 3) := by decide +kernel
theorem dL_law_1076 : decode cL_law 1076 = .ok (.iload 6, 2) := by decide +kernel
theorem dL_law_1078 : decode cL_law 1078 = .ok (.if_icmp .eq 5, 3) := by decide +kernel
theorem dL_law_1081 : decode cL_law 1081 = .ok (.iconst 0, 1) := by decide +kernel
theorem dL_law_1082 : decode cL_law 1082 = .ok (.ireturn, 1) := by decide +kernel
theorem dL_law_1083 : decode cL_law 1083 = .ok (.iload 6, 2) := by decide +kernel
theorem dL_law_1085 : decode cL_law 1085 = .ok (.ifCond .ne 15, 3) := by decide +kernel
theorem dL_law_1088 : decode cL_law 1088 = .ok (.aload_n 3, 1) := by decide +kernel
theorem dL_law_1089 : decode cL_law 1089 = .ok (.iconst 0, 1) := by decide +kernel
theorem dL_law_1090 : decode cL_law 1090 = .ok (.laload, 1) := by decide +kernel
theorem dL_law_1091 : decode cL_law 1091 = .ok (.iload 7, 2) := by decide +kernel
theorem dL_law_1093 : decode cL_law 1093 = .ok (.i2l, 1) := by decide +kernel
theorem dL_law_1094 : decode cL_law 1094 = .ok (.lcmp, 1) := by decide +kernel
theorem dL_law_1095 : decode cL_law 1095 = .ok (.ifCond .eq 5, 3) := by decide +kernel
theorem dL_law_1098 : decode cL_law 1098 = .ok (.iconst 0, 1) := by decide +kernel
theorem dL_law_1099 : decode cL_law 1099 = .ok (.ireturn, 1) := by decide +kernel
theorem dL_law_1100 : decode cL_law 1100 = .ok (.goto 1241, 3) := by decide +kernel
theorem dL_law_1103 : decode cL_law 1103 = .ok (.aload_n 1, 1) := by decide +kernel
theorem dL_law_1104 : decode cL_law 1104 = .ok (.aload_n 3, 1) := by decide +kernel
theorem dL_law_1105 : decode cL_law 1105 = .ok (.invokestatic 190, 3) := by decide +kernel
theorem dL_law_1108 : decode cL_law 1108 = .ok (.istore 6, 2) := by decide +kernel
theorem dL_law_1110 : decode cL_law 1110 = .ok (.aload_n 2, 1) := by decide +kernel
theorem dL_law_1111 : decode cL_law 1111 = .ok (.invokevirtual 193, 3) := by decide +kernel
theorem dL_law_1114 : decode cL_law 1114 = .ok (.istore 7, 2) := by decide +kernel
theorem dL_law_1116 : decode cL_law 1116 = .ok (.aload_n 2, 1) := by decide +kernel
theorem dL_law_1117 : decode cL_law 1117 = .ok (.invokevirtual 141, 3) := by decide +kernel
theorem dL_law_1120 : decode cL_law 1120 = .ok (.iload 6, 2) := by decide +kernel
theorem dL_law_1122 : decode cL_law 1122 = .ok (.if_icmp .eq 5, 3) := by decide +kernel
theorem dL_law_1125 : decode cL_law 1125 = .ok (.iconst 0, 1) := by decide +kernel
theorem dL_law_1126 : decode cL_law 1126 = .ok (.ireturn, 1) := by decide +kernel
theorem dL_law_1127 : decode cL_law 1127 = .ok (.iload 6, 2) := by decide +kernel
theorem dL_law_1129 : decode cL_law 1129 = .ok (.ifCond .ne 15, 3) := by decide +kernel
theorem dL_law_1132 : decode cL_law 1132 = .ok (.aload_n 3, 1) := by decide +kernel
theorem dL_law_1133 : decode cL_law 1133 = .ok (.iconst 0, 1) := by decide +kernel
theorem dL_law_1134 : decode cL_law 1134 = .ok (.laload, 1) := by decide +kernel
theorem dL_law_1135 : decode cL_law 1135 = .ok (.iload 7, 2) := by decide +kernel
theorem dL_law_1137 : decode cL_law 1137 = .ok (.i2l, 1) := by decide +kernel
theorem dL_law_1138 : decode cL_law 1138 = .ok (.lcmp, 1) := by decide +kernel
theorem dL_law_1139 : decode cL_law 1139 = .ok (.ifCond .eq 5, 3) := by decide +kernel
theorem dL_law_1142 : decode cL_law 1142 = .ok (.iconst 0, 1) := by decide +kernel
theorem dL_law_1143 : decode cL_law 1143 = .ok (.ireturn, 1) := by decide +kernel
theorem dL_law_1144 : decode cL_law 1144 = .ok (.goto 1197, 3) := by decide +kernel
theorem dL_law_1147 : decode cL_law 1147 = .ok (.aload_n 1, 1) := by decide +kernel
theorem dL_law_1148 : decode cL_law 1148 = .ok (.aload_n 0, 1) := by decide +kernel
theorem dL_law_1149 : decode cL_law 1149 = .ok (.iload 5, 2) := by decide +kernel
theorem dL_law_1151 : decode cL_law 1151 = .ok (.iconst 1, 1) := by decide +kernel
theorem dL_law_1152 : decode cL_law 1152 = .ok (.iadd, 1) := by decide +kernel
theorem dL_law_1153 : decode cL_law 1153 = .ok (.iaload, 1) := by decide +kernel
theorem dL_law_1154 : decode cL_law 1154 = .ok (.aload_n 3, 1) := by decide +kernel
theorem dL_law_1155 : decode cL_law 1155 = .ok (.invokestatic 194, 3) := by decide +kernel
theorem dL_law_1158 : decode cL_law 1158 = .ok (.istore 6, 2) := by decide +kernel
theorem dL_law_1160 : decode cL_law 1160 = .ok (.aload_n 2, 1) := by decide +kernel
theorem dL_law_1161 : decode cL_law 1161 = .ok (.aload_n 0, 1) := by decide +kernel
theorem dL_law_1162 : decode cL_law 1162 = .ok (.iload 5, 2) := by decide +kernel
theorem dL_law_1164 : decode cL_law 1164 = .ok (.iconst 1, 1) := by decide +kernel
theorem dL_law_1165 : decode cL_law 1165 = .ok (.iadd, 1) := by decide +kernel
theorem dL_law_1166 : decode cL_law 1166 = .ok (.iaload, 1) := by decide +kernel
theorem dL_law_1167 : decode cL_law 1167 = .ok (.invokevirtual 196, 3) := by decide +kernel
theorem dL_law_1170 : decode cL_law 1170 = .ok (.istore 7, 2) := by decide +kernel
theorem dL_law_1172 : decode cL_law 1172 = .ok (.aload_n 2, 1) := by decide +kernel
theorem dL_law_1173 : decode cL_law 1173 = .ok (.invokevirtual 141, 3) := by decide +kernel
theorem dL_law_1176 : decode cL_law 1176 = .ok (.iload 6, 2) := by decide +kernel
theorem dL_law_1178 : decode cL_law 1178 = .ok (.if_icmp .eq 5, 3) := by decide +kernel
theorem dL_law_1181 : decode cL_law 1181 = .ok (.iconst 0, 1) := by decide +kernel
theorem dL_law_1182 : decode cL_law 1182 = .ok (.ireturn, 1) := by decide +kernel
theorem dL_law_1183 : decode cL_law 1183 = .ok (.iload 6, 2) := by decide +kernel
theorem dL_law_1185 : decode cL_law 1185 = .ok (.ifCond .ne 15, 3) := by decide +kernel
theorem dL_law_1188 : decode cL_law 1188 = .ok (.aload_n 3, 1) := by decide +kernel
theorem dL_law_1189 : decode cL_law 1189 = .ok (.iconst 0, 1) := by decide +kernel
theorem dL_law_1190 : decode cL_law 1190 = .ok (.laload, 1) := by decide +kernel
theorem dL_law_1191 : decode cL_law 1191 = .ok (.iload 7, 2) := by decide +kernel
theorem dL_law_1193 : decode cL_law 1193 = .ok (.i2l, 1) := by decide +kernel
theorem dL_law_1194 : decode cL_law 1194 = .ok (.lcmp, 1) := by decide +kernel
theorem dL_law_1195 : decode cL_law 1195 = .ok (.ifCond .eq 5, 3) := by decide +kernel
theorem dL_law_1198 : decode cL_law 1198 = .ok (.iconst 0, 1) := by decide +kernel
theorem dL_law_1199 : decode cL_law 1199 = .ok (.ireturn, 1) := by decide +kernel
theorem dL_law_1200 : decode cL_law 1200 = .ok (.goto 1141, 3) := by decide +kernel
theorem dL_law_1203 : decode cL_law 1203 = .ok (.aload_n 1, 1) := by decide +kernel
theorem dL_law_1204 : decode cL_law 1204 = .ok (.aload_n 0, 1) := by decide +kernel
theorem dL_law_1205 : decode cL_law 1205 = .ok (.iload 5, 2) := by decide +kernel
theorem dL_law_1207 : decode cL_law 1207 = .ok (.iconst 1, 1) := by decide +kernel
theorem dL_law_1208 : decode cL_law 1208 = .ok (.iadd, 1) := by decide +kernel
theorem dL_law_1209 : decode cL_law 1209 = .ok (.iaload, 1) := by decide +kernel
theorem dL_law_1210 : decode cL_law 1210 = .ok (.aload_n 0, 1) := by decide +kernel
theorem dL_law_1211 : decode cL_law 1211 = .ok (.iload 5, 2) := by decide +kernel
theorem dL_law_1213 : decode cL_law 1213 = .ok (.iconst 2, 1) := by decide +kernel
theorem dL_law_1214 : decode cL_law 1214 = .ok (.iadd, 1) := by decide +kernel
theorem dL_law_1215 : decode cL_law 1215 = .ok (.iaload, 1) := by decide +kernel
theorem dL_law_1216 : decode cL_law 1216 = .ok (.aload_n 3, 1) := by decide +kernel
theorem dL_law_1217 : decode cL_law 1217 = .ok (.invokestatic 197, 3) := by decide +kernel
theorem dL_law_1220 : decode cL_law 1220 = .ok (.istore 6, 2) := by decide +kernel
theorem dL_law_1222 : decode cL_law 1222 = .ok (.aload_n 2, 1) := by decide +kernel
theorem dL_law_1223 : decode cL_law 1223 = .ok (.aload_n 0, 1) := by decide +kernel
theorem dL_law_1224 : decode cL_law 1224 = .ok (.iload 5, 2) := by decide +kernel
theorem dL_law_1226 : decode cL_law 1226 = .ok (.iconst 1, 1) := by decide +kernel
theorem dL_law_1227 : decode cL_law 1227 = .ok (.iadd, 1) := by decide +kernel
theorem dL_law_1228 : decode cL_law 1228 = .ok (.iaload, 1) := by decide +kernel
theorem dL_law_1229 : decode cL_law 1229 = .ok (.aload_n 0, 1) := by decide +kernel
theorem dL_law_1230 : decode cL_law 1230 = .ok (.iload 5, 2) := by decide +kernel
theorem dL_law_1232 : decode cL_law 1232 = .ok (.iconst 2, 1) := by decide +kernel
theorem dL_law_1233 : decode cL_law 1233 = .ok (.iadd, 1) := by decide +kernel
theorem dL_law_1234 : decode cL_law 1234 = .ok (.iaload, 1) := by decide +kernel
theorem dL_law_1235 : decode cL_law 1235 = .ok (.invokevirtual 199, 3) := by decide +kernel
theorem dL_law_1238 : decode cL_law 1238 = .ok (.istore 7, 2) := by decide +kernel
theorem dL_law_1240 : decode cL_law 1240 = .ok (.aload_n 2, 1) := by decide +kernel
theorem dL_law_1241 : decode cL_law 1241 = .ok (.invokevirtual 141, 3) := by decide +kernel
theorem dL_law_1244 : decode cL_law 1244 = .ok (.iload 6, 2) := by decide +kernel
theorem dL_law_1246 : decode cL_law 1246 = .ok (.if_icmp .eq 5, 3) := by decide +kernel
theorem dL_law_1249 : decode cL_law 1249 = .ok (.iconst 0, 1) := by decide +kernel
theorem dL_law_1250 : decode cL_law 1250 = .ok (.ireturn, 1) := by decide +kernel
theorem dL_law_1251 : decode cL_law 1251 = .ok (.iload 6, 2) := by decide +kernel
theorem dL_law_1253 : decode cL_law 1253 = .ok (.ifCond .ne 15, 3) := by decide +kernel
theorem dL_law_1256 : decode cL_law 1256 = .ok (.aload_n 3, 1) := by decide +kernel
theorem dL_law_1257 : decode cL_law 1257 = .ok (.iconst 0, 1) := by decide +kernel
theorem dL_law_1258 : decode cL_law 1258 = .ok (.laload, 1) := by decide +kernel
theorem dL_law_1259 : decode cL_law 1259 = .ok (.iload 7, 2) := by decide +kernel
theorem dL_law_1261 : decode cL_law 1261 = .ok (.i2l, 1) := by decide +kernel
theorem dL_law_1262 : decode cL_law 1262 = .ok (.lcmp, 1) := by decide +kernel
theorem dL_law_1263 : decode cL_law 1263 = .ok (.ifCond .eq 5, 3) := by decide +kernel
theorem dL_law_1266 : decode cL_law 1266 = .ok (.iconst 0, 1) := by decide +kernel
theorem dL_law_1267 : decode cL_law 1267 = .ok (.ireturn, 1) := by decide +kernel
theorem dL_law_1268 : decode cL_law 1268 = .ok (.goto 1073, 3) := by decide +kernel
theorem dL_law_1271 : decode cL_law 1271 = .ok (.aload_n 1, 1) := by decide +kernel
theorem dL_law_1272 : decode cL_law 1272 = .ok (.aload_n 0, 1) := by decide +kernel
theorem dL_law_1273 : decode cL_law 1273 = .ok (.iload 5, 2) := by decide +kernel
theorem dL_law_1275 : decode cL_law 1275 = .ok (.iconst 1, 1) := by decide +kernel
theorem dL_law_1276 : decode cL_law 1276 = .ok (.iadd, 1) := by decide +kernel
theorem dL_law_1277 : decode cL_law 1277 = .ok (.iaload, 1) := by decide +kernel
theorem dL_law_1278 : decode cL_law 1278 = .ok (.aload_n 0, 1) := by decide +kernel
theorem dL_law_1279 : decode cL_law 1279 = .ok (.iload 5, 2) := by decide +kernel
theorem dL_law_1281 : decode cL_law 1281 = .ok (.iconst 2, 1) := by decide +kernel
theorem dL_law_1282 : decode cL_law 1282 = .ok (.iadd, 1) := by decide +kernel
theorem dL_law_1283 : decode cL_law 1283 = .ok (.iaload, 1) := by decide +kernel
theorem dL_law_1284 : decode cL_law 1284 = .ok (.aload_n 3, 1) := by decide +kernel
theorem dL_law_1285 : decode cL_law 1285 = .ok (.invokestatic 200, 3) := by decide +kernel
theorem dL_law_1288 : decode cL_law 1288 = .ok (.istore 6, 2) := by decide +kernel
theorem dL_law_1290 : decode cL_law 1290 = .ok (.aload_n 2, 1) := by decide +kernel
theorem dL_law_1291 : decode cL_law 1291 = .ok (.aload_n 0, 1) := by decide +kernel
theorem dL_law_1292 : decode cL_law 1292 = .ok (.iload 5, 2) := by decide +kernel
theorem dL_law_1294 : decode cL_law 1294 = .ok (.iconst 1, 1) := by decide +kernel
theorem dL_law_1295 : decode cL_law 1295 = .ok (.iadd, 1) := by decide +kernel
theorem dL_law_1296 : decode cL_law 1296 = .ok (.iaload, 1) := by decide +kernel
theorem dL_law_1297 : decode cL_law 1297 = .ok (.aload_n 0, 1) := by decide +kernel
theorem dL_law_1298 : decode cL_law 1298 = .ok (.iload 5, 2) := by decide +kernel
theorem dL_law_1300 : decode cL_law 1300 = .ok (.iconst 2, 1) := by decide +kernel
theorem dL_law_1301 : decode cL_law 1301 = .ok (.iadd, 1) := by decide +kernel
theorem dL_law_1302 : decode cL_law 1302 = .ok (.iaload, 1) := by decide +kernel
theorem dL_law_1303 : decode cL_law 1303 = .ok (.invokevirtual 202, 3) := by decide +kernel
theorem dL_law_1306 : decode cL_law 1306 = .ok (.istore 7, 2) := by decide +kernel
theorem dL_law_1308 : decode cL_law 1308 = .ok (.aload_n 2, 1) := by decide +kernel
theorem dL_law_1309 : decode cL_law 1309 = .ok (.invokevirtual 141, 3) := by decide +kernel
theorem dL_law_1312 : decode cL_law 1312 = .ok (.iload 6, 2) := by decide +kernel
theorem dL_law_1314 : decode cL_law 1314 = .ok (.if_icmp .eq 5, 3) := by decide +kernel
theorem dL_law_1317 : decode cL_law 1317 = .ok (.iconst 0, 1) := by decide +kernel
theorem dL_law_1318 : decode cL_law 1318 = .ok (.ireturn, 1) := by decide +kernel
theorem dL_law_1319 : decode cL_law 1319 = .ok (.iload 6, 2) := by decide +kernel
theorem dL_law_1321 : decode cL_law 1321 = .ok (.ifCond .ne 15, 3) := by decide +kernel
theorem dL_law_1324 : decode cL_law 1324 = .ok (.aload_n 3, 1) := by decide +kernel
theorem dL_law_1325 : decode cL_law 1325 = .ok (.iconst 0, 1) := by decide +kernel
theorem dL_law_1326 : decode cL_law 1326 = .ok (.laload, 1) := by decide +kernel
theorem dL_law_1327 : decode cL_law 1327 = .ok (.iload 7, 2) := by decide +kernel
theorem dL_law_1329 : decode cL_law 1329 = .ok (.i2l, 1) := by decide +kernel
theorem dL_law_1330 : decode cL_law 1330 = .ok (.lcmp, 1) := by decide +kernel
theorem dL_law_1331 : decode cL_law 1331 = .ok (.ifCond .eq 5, 3) := by decide +kernel
theorem dL_law_1334 : decode cL_law 1334 = .ok (.iconst 0, 1) := by decide +kernel
theorem dL_law_1335 : decode cL_law 1335 = .ok (.ireturn, 1) := by decide +kernel
theorem dL_law_1336 : decode cL_law 1336 = .ok (.goto 1005, 3) := by decide +kernel
theorem dL_law_1339 : decode cL_law 1339 = .ok (.aload_n 1, 1) := by decide +kernel
theorem dL_law_1340 : decode cL_law 1340 = .ok (.aload_n 0, 1) := by decide +kernel
theorem dL_law_1341 : decode cL_law 1341 = .ok (.iload 5, 2) := by decide +kernel
theorem dL_law_1343 : decode cL_law 1343 = .ok (.iconst 1, 1) := by decide +kernel
theorem dL_law_1344 : decode cL_law 1344 = .ok (.iadd, 1) := by decide +kernel
theorem dL_law_1345 : decode cL_law 1345 = .ok (.iaload, 1) := by decide +kernel
theorem dL_law_1346 : decode cL_law 1346 = .ok (.aload_n 0, 1) := by decide +kernel
theorem dL_law_1347 : decode cL_law 1347 = .ok (.iload 5, 2) := by decide +kernel
theorem dL_law_1349 : decode cL_law 1349 = .ok (.iconst 2, 1) := by decide +kernel
theorem dL_law_1350 : decode cL_law 1350 = .ok (.iadd, 1) := by decide +kernel
theorem dL_law_1351 : decode cL_law 1351 = .ok (.iaload, 1) := by decide +kernel
theorem dL_law_1352 : decode cL_law 1352 = .ok (.aload_n 3, 1) := by decide +kernel
theorem dL_law_1353 : decode cL_law 1353 = .ok (.invokestatic 203, 3) := by decide +kernel
theorem dL_law_1356 : decode cL_law 1356 = .ok (.istore 6, 2) := by decide +kernel
theorem dL_law_1358 : decode cL_law 1358 = .ok (.aload_n 2, 1) := by decide +kernel
theorem dL_law_1359 : decode cL_law 1359 = .ok (.aload_n 0, 1) := by decide +kernel
theorem dL_law_1360 : decode cL_law 1360 = .ok (.iload 5, 2) := by decide +kernel
theorem dL_law_1362 : decode cL_law 1362 = .ok (.iconst 1, 1) := by decide +kernel
theorem dL_law_1363 : decode cL_law 1363 = .ok (.iadd, 1) := by decide +kernel
theorem dL_law_1364 : decode cL_law 1364 = .ok (.iaload, 1) := by decide +kernel
theorem dL_law_1365 : decode cL_law 1365 = .ok (.aload_n 0, 1) := by decide +kernel
theorem dL_law_1366 : decode cL_law 1366 = .ok (.iload 5, 2) := by decide +kernel
theorem dL_law_1368 : decode cL_law 1368 = .ok (.iconst 2, 1) := by decide +kernel
theorem dL_law_1369 : decode cL_law 1369 = .ok (.iadd, 1) := by decide +kernel
theorem dL_law_1370 : decode cL_law 1370 = .ok (.iaload, 1) := by decide +kernel
theorem dL_law_1371 : decode cL_law 1371 = .ok (.invokevirtual 205, 3) := by decide +kernel
theorem dL_law_1374 : decode cL_law 1374 = .ok (.istore 7, 2) := by decide +kernel
theorem dL_law_1376 : decode cL_law 1376 = .ok (.aload_n 2, 1) := by decide +kernel
theorem dL_law_1377 : decode cL_law 1377 = .ok (.invokevirtual 141, 3) := by decide +kernel
theorem dL_law_1380 : decode cL_law 1380 = .ok (.iload 6, 2) := by decide +kernel
theorem dL_law_1382 : decode cL_law 1382 = .ok (.if_icmp .eq 5, 3) := by decide +kernel
theorem dL_law_1385 : decode cL_law 1385 = .ok (.iconst 0, 1) := by decide +kernel
theorem dL_law_1386 : decode cL_law 1386 = .ok (.ireturn, 1) := by decide +kernel
theorem dL_law_1387 : decode cL_law 1387 = .ok (.iload 6, 2) := by decide +kernel
theorem dL_law_1389 : decode cL_law 1389 = .ok (.ifCond .ne 15, 3) := by decide +kernel
theorem dL_law_1392 : decode cL_law 1392 = .ok (.aload_n 3, 1) := by decide +kernel
theorem dL_law_1393 : decode cL_law 1393 = .ok (.iconst 0, 1) := by decide +kernel
theorem dL_law_1394 : decode cL_law 1394 = .ok (.laload, 1) := by decide +kernel
theorem dL_law_1395 : decode cL_law 1395 = .ok (.iload 7, 2) := by decide +kernel
theorem dL_law_1397 : decode cL_law 1397 = .ok (.i2l, 1) := by decide +kernel
theorem dL_law_1398 : decode cL_law 1398 = .ok (.lcmp, 1) := by decide +kernel
theorem dL_law_1399 : decode cL_law 1399 = .ok (.ifCond .eq 5, 3) := by decide +kernel
theorem dL_law_1402 : decode cL_law 1402 = .ok (.iconst 0, 1) := by decide +kernel
theorem dL_law_1403 : decode cL_law 1403 = .ok (.ireturn, 1) := by decide +kernel
theorem dL_law_1404 : decode cL_law 1404 = .ok (.goto 937, 3) := by decide +kernel
theorem dL_law_1407 : decode cL_law 1407 = .ok (.aload_n 1, 1) := by decide +kernel
theorem dL_law_1408 : decode cL_law 1408 = .ok (.aload_n 0, 1) := by decide +kernel
theorem dL_law_1409 : decode cL_law 1409 = .ok (.iload 5, 2) := by decide +kernel
theorem dL_law_1411 : decode cL_law 1411 = .ok (.iconst 1, 1) := by decide +kernel
theorem dL_law_1412 : decode cL_law 1412 = .ok (.iadd, 1) := by decide +kernel
theorem dL_law_1413 : decode cL_law 1413 = .ok (.iaload, 1) := by decide +kernel
theorem dL_law_1414 : decode cL_law 1414 = .ok (.aload_n 0, 1) := by decide +kernel
theorem dL_law_1415 : decode cL_law 1415 = .ok (.iload 5, 2) := by decide +kernel
theorem dL_law_1417 : decode cL_law 1417 = .ok (.iconst 2, 1) := by decide +kernel
theorem dL_law_1418 : decode cL_law 1418 = .ok (.iadd, 1) := by decide +kernel
theorem dL_law_1419 : decode cL_law 1419 = .ok (.iaload, 1) := by decide +kernel
theorem dL_law_1420 : decode cL_law 1420 = .ok (.aload_n 3, 1) := by decide +kernel
theorem dL_law_1421 : decode cL_law 1421 = .ok (.invokestatic 206, 3) := by decide +kernel
theorem dL_law_1424 : decode cL_law 1424 = .ok (.istore 6, 2) := by decide +kernel
theorem dL_law_1426 : decode cL_law 1426 = .ok (.aload_n 2, 1) := by decide +kernel
theorem dL_law_1427 : decode cL_law 1427 = .ok (.aload_n 0, 1) := by decide +kernel
theorem dL_law_1428 : decode cL_law 1428 = .ok (.iload 5, 2) := by decide +kernel
theorem dL_law_1430 : decode cL_law 1430 = .ok (.iconst 1, 1) := by decide +kernel
theorem dL_law_1431 : decode cL_law 1431 = .ok (.iadd, 1) := by decide +kernel
theorem dL_law_1432 : decode cL_law 1432 = .ok (.iaload, 1) := by decide +kernel
theorem dL_law_1433 : decode cL_law 1433 = .ok (.aload_n 0, 1) := by decide +kernel
theorem dL_law_1434 : decode cL_law 1434 = .ok (.iload 5, 2) := by decide +kernel
theorem dL_law_1436 : decode cL_law 1436 = .ok (.iconst 2, 1) := by decide +kernel
theorem dL_law_1437 : decode cL_law 1437 = .ok (.iadd, 1) := by decide +kernel
theorem dL_law_1438 : decode cL_law 1438 = .ok (.iaload, 1) := by decide +kernel
theorem dL_law_1439 : decode cL_law 1439 = .ok (.invokevirtual 208, 3) := by decide +kernel
theorem dL_law_1442 : decode cL_law 1442 = .ok (.istore 7, 2) := by decide +kernel
theorem dL_law_1444 : decode cL_law 1444 = .ok (.aload_n 2, 1) := by decide +kernel
theorem dL_law_1445 : decode cL_law 1445 = .ok (.invokevirtual 141, 3) := by decide +kernel
theorem dL_law_1448 : decode cL_law 1448 = .ok (.iload 6, 2) := by decide +kernel
theorem dL_law_1450 : decode cL_law 1450 = .ok (.if_icmp .eq 5, 3) := by decide +kernel
theorem dL_law_1453 : decode cL_law 1453 = .ok (.iconst 0, 1) := by decide +kernel
theorem dL_law_1454 : decode cL_law 1454 = .ok (.ireturn, 1) := by decide +kernel
theorem dL_law_1455 : decode cL_law 1455 = .ok (.iload 6, 2) := by decide +kernel
theorem dL_law_1457 : decode cL_law 1457 = .ok (.ifCond .ne 15, 3) := by decide +kernel
theorem dL_law_1460 : decode cL_law 1460 = .ok (.aload_n 3, 1) := by decide +kernel
theorem dL_law_1461 : decode cL_law 1461 = .ok (.iconst 0, 1) := by decide +kernel
theorem dL_law_1462 : decode cL_law 1462 = .ok (.laload, 1) := by decide +kernel
theorem dL_law_1463 : decode cL_law 1463 = .ok (.iload 7, 2) := by decide +kernel
theorem dL_law_1465 : decode cL_law 1465 = .ok (.i2l, 1) := by decide +kernel
theorem dL_law_1466 : decode cL_law 1466 = .ok (.lcmp, 1) := by decide +kernel
theorem dL_law_1467 : decode cL_law 1467 = .ok (.ifCond .eq 5, 3) := by decide +kernel
theorem dL_law_1470 : decode cL_law 1470 = .ok (.iconst 0, 1) := by decide +kernel
theorem dL_law_1471 : decode cL_law 1471 = .ok (.ireturn, 1) := by decide +kernel
theorem dL_law_1472 : decode cL_law 1472 = .ok (.goto 869, 3) := by decide +kernel
theorem dL_law_1475 : decode cL_law 1475 = .ok (.aload_n 1, 1) := by decide +kernel
theorem dL_law_1476 : decode cL_law 1476 = .ok (.aload_n 3, 1) := by decide +kernel
theorem dL_law_1477 : decode cL_law 1477 = .ok (.invokestatic 209, 3) := by decide +kernel
theorem dL_law_1480 : decode cL_law 1480 = .ok (.istore 6, 2) := by decide +kernel
theorem dL_law_1482 : decode cL_law 1482 = .ok (.aload_n 2, 1) := by decide +kernel
theorem dL_law_1483 : decode cL_law 1483 = .ok (.invokevirtual 211, 3) := by decide +kernel
theorem dL_law_1486 : decode cL_law 1486 = .ok (.istore 7, 2) := by decide +kernel
theorem dL_law_1488 : decode cL_law 1488 = .ok (.aload_n 2, 1) := by decide +kernel
theorem dL_law_1489 : decode cL_law 1489 = .ok (.invokevirtual 141, 3) := by decide +kernel
theorem dL_law_1492 : decode cL_law 1492 = .ok (.iload 6, 2) := by decide +kernel
theorem dL_law_1494 : decode cL_law 1494 = .ok (.if_icmp .eq 5, 3) := by decide +kernel
theorem dL_law_1497 : decode cL_law 1497 = .ok (.iconst 0, 1) := by decide +kernel
theorem dL_law_1498 : decode cL_law 1498 = .ok (.ireturn, 1) := by decide +kernel
theorem dL_law_1499 : decode cL_law 1499 = .ok (.iload 6, 2) := by decide +kernel
theorem dL_law_1501 : decode cL_law 1501 = .ok (.ifCond .ne 15, 3) := by decide +kernel
theorem dL_law_1504 : decode cL_law 1504 = .ok (.aload_n 3, 1) := by decide +kernel
theorem dL_law_1505 : decode cL_law 1505 = .ok (.iconst 0, 1) := by decide +kernel
theorem dL_law_1506 : decode cL_law 1506 = .ok (.laload, 1) := by decide +kernel
theorem dL_law_1507 : decode cL_law 1507 = .ok (.iload 7, 2) := by decide +kernel
theorem dL_law_1509 : decode cL_law 1509 = .ok (.i2l, 1) := by decide +kernel
theorem dL_law_1510 : decode cL_law 1510 = .ok (.lcmp, 1) := by decide +kernel
theorem dL_law_1511 : decode cL_law 1511 = .ok (.ifCond .eq 5, 3) := by decide +kernel
theorem dL_law_1514 : decode cL_law 1514 = .ok (.iconst 0, 1) := by decide +kernel
theorem dL_law_1515 : decode cL_law 1515 = .ok (.ireturn, 1) := by decide +kernel
theorem dL_law_1516 : decode cL_law 1516 = .ok (.goto 825, 3) := by decide +kernel
theorem dL_law_1519 : decode cL_law 1519 = .ok (.aload_n 1, 1) := by decide +kernel
theorem dL_law_1520 : decode cL_law 1520 = .ok (.aload_n 0, 1) := by decide +kernel
theorem dL_law_1521 : decode cL_law 1521 = .ok (.iload 5, 2) := by decide +kernel
theorem dL_law_1523 : decode cL_law 1523 = .ok (.iconst 1, 1) := by decide +kernel
theorem dL_law_1524 : decode cL_law 1524 = .ok (.iadd, 1) := by decide +kernel
theorem dL_law_1525 : decode cL_law 1525 = .ok (.iaload, 1) := by decide +kernel
theorem dL_law_1526 : decode cL_law 1526 = .ok (.aload_n 0, 1) := by decide +kernel
theorem dL_law_1527 : decode cL_law 1527 = .ok (.iload 5, 2) := by decide +kernel
theorem dL_law_1529 : decode cL_law 1529 = .ok (.iconst 2, 1) := by decide +kernel
theorem dL_law_1530 : decode cL_law 1530 = .ok (.iadd, 1) := by decide +kernel
theorem dL_law_1531 : decode cL_law 1531 = .ok (.iaload, 1) := by decide +kernel
theorem dL_law_1532 : decode cL_law 1532 = .ok (.aload_n 3, 1) := by decide +kernel
theorem dL_law_1533 : decode cL_law 1533 = .ok (.invokestatic 212, 3) := by decide +kernel
theorem dL_law_1536 : decode cL_law 1536 = .ok (.istore 6, 2) := by decide +kernel
theorem dL_law_1538 : decode cL_law 1538 = .ok (.aload_n 2, 1) := by decide +kernel
theorem dL_law_1539 : decode cL_law 1539 = .ok (.aload_n 0, 1) := by decide +kernel
theorem dL_law_1540 : decode cL_law 1540 = .ok (.iload 5, 2) := by decide +kernel
theorem dL_law_1542 : decode cL_law 1542 = .ok (.iconst 1, 1) := by decide +kernel
theorem dL_law_1543 : decode cL_law 1543 = .ok (.iadd, 1) := by decide +kernel
theorem dL_law_1544 : decode cL_law 1544 = .ok (.iaload, 1) := by decide +kernel
theorem dL_law_1545 : decode cL_law 1545 = .ok (.aload_n 0, 1) := by decide +kernel
theorem dL_law_1546 : decode cL_law 1546 = .ok (.iload 5, 2) := by decide +kernel
theorem dL_law_1548 : decode cL_law 1548 = .ok (.iconst 2, 1) := by decide +kernel
theorem dL_law_1549 : decode cL_law 1549 = .ok (.iadd, 1) := by decide +kernel
theorem dL_law_1550 : decode cL_law 1550 = .ok (.iaload, 1) := by decide +kernel
theorem dL_law_1551 : decode cL_law 1551 = .ok (.invokevirtual 214, 3) := by decide +kernel
theorem dL_law_1554 : decode cL_law 1554 = .ok (.istore 7, 2) := by decide +kernel
theorem dL_law_1556 : decode cL_law 1556 = .ok (.aload_n 2, 1) := by decide +kernel
theorem dL_law_1557 : decode cL_law 1557 = .ok (.invokevirtual 141, 3) := by decide +kernel
theorem dL_law_1560 : decode cL_law 1560 = .ok (.iload 6, 2) := by decide +kernel
theorem dL_law_1562 : decode cL_law 1562 = .ok (.if_icmp .eq 5, 3) := by decide +kernel
theorem dL_law_1565 : decode cL_law 1565 = .ok (.iconst 0, 1) := by decide +kernel
theorem dL_law_1566 : decode cL_law 1566 = .ok (.ireturn, 1) := by decide +kernel
theorem dL_law_1567 : decode cL_law 1567 = .ok (.iload 6, 2) := by decide +kernel
theorem dL_law_1569 : decode cL_law 1569 = .ok (.ifCond .ne 15, 3) := by decide +kernel
theorem dL_law_1572 : decode cL_law 1572 = .ok (.aload_n 3, 1) := by decide +kernel
theorem dL_law_1573 : decode cL_law 1573 = .ok (.iconst 0, 1) := by decide +kernel
theorem dL_law_1574 : decode cL_law 1574 = .ok (.laload, 1) := by decide +kernel
theorem dL_law_1575 : decode cL_law 1575 = .ok (.iload 7, 2) := by decide +kernel
theorem dL_law_1577 : decode cL_law 1577 = .ok (.i2l, 1) := by decide +kernel
theorem dL_law_1578 : decode cL_law 1578 = .ok (.lcmp, 1) := by decide +kernel
theorem dL_law_1579 : decode cL_law 1579 = .ok (.ifCond .eq 5, 3) := by decide +kernel
theorem dL_law_1582 : decode cL_law 1582 = .ok (.iconst 0, 1) := by decide +kernel
theorem dL_law_1583 : decode cL_law 1583 = .ok (.ireturn, 1) := by decide +kernel
theorem dL_law_1584 : decode cL_law 1584 = .ok (.goto 757, 3) := by decide +kernel
theorem dL_law_1587 : decode cL_law 1587 = .ok (.aload_n 1, 1) := by decide +kernel
theorem dL_law_1588 : decode cL_law 1588 = .ok (.invokevirtual 215, 3) := by decide +kernel
theorem dL_law_1591 : decode cL_law 1591 = .ok (.aload_n 2, 1) := by decide +kernel
theorem dL_law_1592 : decode cL_law 1592 = .ok (.invokevirtual 218, 3) := by decide +kernel
theorem dL_law_1595 : decode cL_law 1595 = .ok (.if_icmp .eq 746, 3) := by decide +kernel
theorem dL_law_1598 : decode cL_law 1598 = .ok (.iconst 0, 1) := by decide +kernel
theorem dL_law_1599 : decode cL_law 1599 = .ok (.ireturn, 1) := by decide +kernel
theorem dL_law_1600 : decode cL_law 1600 = .ok (.aload_n 1, 1) := by decide +kernel
theorem dL_law_1601 : decode cL_law 1601 = .ok (.invokevirtual 219, 3) := by decide +kernel
theorem dL_law_1604 : decode cL_law 1604 = .ok (.aload_n 2, 1) := by decide +kernel
theorem dL_law_1605 : decode cL_law 1605 = .ok (.invokevirtual 222, 3) := by decide +kernel
theorem dL_law_1608 : decode cL_law 1608 = .ok (.if_icmp .eq 733, 3) := by decide +kernel
theorem dL_law_1611 : decode cL_law 1611 = .ok (.iconst 0, 1) := by decide +kernel
theorem dL_law_1612 : decode cL_law 1612 = .ok (.ireturn, 1) := by decide +kernel
theorem dL_law_1613 : decode cL_law 1613 = .ok (.aload_n 1, 1) := by decide +kernel
theorem dL_law_1614 : decode cL_law 1614 = .ok (.aload_n 0, 1) := by decide +kernel
theorem dL_law_1615 : decode cL_law 1615 = .ok (.iload 5, 2) := by decide +kernel
theorem dL_law_1617 : decode cL_law 1617 = .ok (.iconst 1, 1) := by decide +kernel
theorem dL_law_1618 : decode cL_law 1618 = .ok (.iadd, 1) := by decide +kernel
theorem dL_law_1619 : decode cL_law 1619 = .ok (.iaload, 1) := by decide +kernel
theorem dL_law_1620 : decode cL_law 1620 = .ok (.aload_n 3, 1) := by decide +kernel
theorem dL_law_1621 : decode cL_law 1621 = .ok (.invokestatic 223, 3) := by decide +kernel
theorem dL_law_1624 : decode cL_law 1624 = .ok (.istore 6, 2) := by decide +kernel
theorem dL_law_1626 : decode cL_law 1626 = .ok (.aload_n 2, 1) := by decide +kernel
theorem dL_law_1627 : decode cL_law 1627 = .ok (.aload_n 0, 1) := by decide +kernel
theorem dL_law_1628 : decode cL_law 1628 = .ok (.iload 5, 2) := by decide +kernel
theorem dL_law_1630 : decode cL_law 1630 = .ok (.iconst 1, 1) := by decide +kernel
theorem dL_law_1631 : decode cL_law 1631 = .ok (.iadd, 1) := by decide +kernel
theorem dL_law_1632 : decode cL_law 1632 = .ok (.iaload, 1) := by decide +kernel
theorem dL_law_1633 : decode cL_law 1633 = .ok (.invokevirtual 225, 3) := by decide +kernel
theorem dL_law_1636 : decode cL_law 1636 = .ok (.istore 7, 2) := by decide +kernel
theorem dL_law_1638 : decode cL_law 1638 = .ok (.aload_n 2, 1) := by decide +kernel
theorem dL_law_1639 : decode cL_law 1639 = .ok (.invokevirtual 141, 3) := by decide +kernel
theorem dL_law_1642 : decode cL_law 1642 = .ok (.iload 6, 2) := by decide +kernel
theorem dL_law_1644 : decode cL_law 1644 = .ok (.if_icmp .eq 5, 3) := by decide +kernel
theorem dL_law_1647 : decode cL_law 1647 = .ok (.iconst 0, 1) := by decide +kernel
theorem dL_law_1648 : decode cL_law 1648 = .ok (.ireturn, 1) := by decide +kernel
theorem dL_law_1649 : decode cL_law 1649 = .ok (.iload 6, 2) := by decide +kernel
theorem dL_law_1651 : decode cL_law 1651 = .ok (.ifCond .ne 15, 3) := by decide +kernel
theorem dL_law_1654 : decode cL_law 1654 = .ok (.aload_n 3, 1) := by decide +kernel
theorem dL_law_1655 : decode cL_law 1655 = .ok (.iconst 0, 1) := by decide +kernel
theorem dL_law_1656 : decode cL_law 1656 = .ok (.laload, 1) := by decide +kernel
theorem dL_law_1657 : decode cL_law 1657 = .ok (.iload 7, 2) := by decide +kernel
theorem dL_law_1659 : decode cL_law 1659 = .ok (.i2l, 1) := by decide +kernel
theorem dL_law_1660 : decode cL_law 1660 = .ok (.lcmp, 1) := by decide +kernel
theorem dL_law_1661 : decode cL_law 1661 = .ok (.ifCond .eq 5, 3) := by decide +kernel
theorem dL_law_1664 : decode cL_law 1664 = .ok (.iconst 0, 1) := by decide +kernel
theorem dL_law_1665 : decode cL_law 1665 = .ok (.ireturn, 1) := by decide +kernel
theorem dL_law_1666 : decode cL_law 1666 = .ok (.goto 675, 3) := by decide +kernel
theorem dL_law_1669 : decode cL_law 1669 = .ok (.aload_n 1, 1) := by decide +kernel
theorem dL_law_1670 : decode cL_law 1670 = .ok (.invokevirtual 226, 3) := by decide +kernel
theorem dL_law_1673 : decode cL_law 1673 = .ok (.aload_n 2, 1) := by decide +kernel
theorem dL_law_1674 : decode cL_law 1674 = .ok (.invokevirtual 229, 3) := by decide +kernel
theorem dL_law_1677 : decode cL_law 1677 = .ok (.if_icmp .eq 664, 3) := by decide +kernel
theorem dL_law_1680 : decode cL_law 1680 = .ok (.iconst 0, 1) := by decide +kernel
theorem dL_law_1681 : decode cL_law 1681 = .ok (.ireturn, 1) := by decide +kernel
theorem dL_law_1682 : decode cL_law 1682 = .ok (.aload_n 1, 1) := by decide +kernel
theorem dL_law_1683 : decode cL_law 1683 = .ok (.aload_n 3, 1) := by decide +kernel
theorem dL_law_1684 : decode cL_law 1684 = .ok (.invokestatic 230, 3) := by decide +kernel
theorem dL_law_1687 : decode cL_law 1687 = .ok (.istore 6, 2) := by decide +kernel
theorem dL_law_1689 : decode cL_law 1689 = .ok (.aload_n 2, 1) := by decide +kernel
theorem dL_law_1690 : decode cL_law 1690 = .ok (.invokevirtual 232, 3) := by decide +kernel
theorem dL_law_1693 : decode cL_law 1693 = .ok (.istore 7, 2) := by decide +kernel
theorem dL_law_1695 : decode cL_law 1695 = .ok (.aload_n 2, 1) := by decide +kernel
theorem dL_law_1696 : decode cL_law 1696 = .ok (.invokevirtual 141, 3) := by decide +kernel
theorem dL_law_1699 : decode cL_law 1699 = .ok (.iload 6, 2) := by decide +kernel
theorem dL_law_1701 : decode cL_law 1701 = .ok (.if_icmp .eq 5, 3) := by decide +kernel
theorem dL_law_1704 : decode cL_law 1704 = .ok (.iconst 0, 1) := by decide +kernel
theorem dL_law_1705 : decode cL_law 1705 = .ok (.ireturn, 1) := by decide +kernel
theorem dL_law_1706 : decode cL_law 1706 = .ok (.iload 6, 2) := by decide +kernel
theorem dL_law_1708 : decode cL_law 1708 = .ok (.ifCond .ne 22, 3) := by decide +kernel
theorem dL_law_1711 : decode cL_law 1711 = .ok (.aload_n 3, 1) := by decide +kernel
theorem dL_law_1712 : decode cL_law 1712 = .ok (.iconst 0, 1) := by decide +kernel
theorem dL_law_1713 : decode cL_law 1713 = .ok (.laload, 1) := by decide +kernel
theorem dL_law_1714 : decode cL_law 1714 = .ok (.iload 7, 2) := by decide +kernel
theorem dL_law_1716 : decode cL_law 1716 = .ok (.ifCond .eq 7, 3) := by decide +kernel
theorem dL_law_1719 : decode cL_law 1719 = .ok (.lconst 1, 1) := by decide +kernel
theorem dL_law_1720 : decode cL_law 1720 = .ok (.goto 4, 3) := by decide +kernel
theorem dL_law_1723 : decode cL_law 1723 = .ok (.lconst 0, 1) := by decide +kernel
theorem dL_law_1724 : decode cL_law 1724 = .ok (.lcmp, 1) := by decide +kernel
theorem dL_law_1725 : decode cL_law 1725 = .ok (.ifCond .eq 5, 3) := by decide +kernel
theorem dL_law_1728 : decode cL_law 1728 = .ok (.iconst 0, 1) := by decide +kernel
theorem dL_law_1729 : decode cL_law 1729 = .ok (.ireturn, 1) := by decide +kernel
theorem dL_law_1730 : decode cL_law 1730 = .ok (.goto 611, 3) := by decide +kernel
theorem dL_law_1733 : decode cL_law 1733 = .ok (.aload_n 1, 1) := by decide +kernel
theorem dL_law_1734 : decode cL_law 1734 = .ok (.aload_n 0, 1) := by decide +kernel
theorem dL_law_1735 : decode cL_law 1735 = .ok (.iload 5, 2) := by decide +kernel
theorem dL_law_1737 : decode cL_law 1737 = .ok (.iconst 1, 1) := by decide +kernel
theorem dL_law_1738 : decode cL_law 1738 = .ok (.iadd, 1) := by decide +kernel
theorem dL_law_1739 : decode cL_law 1739 = .ok (.iaload, 1) := by decide +kernel
theorem dL_law_1740 : decode cL_law 1740 = .ok (.aload_n 3, 1) := by decide +kernel
theorem dL_law_1741 : decode cL_law 1741 = .ok (.invokestatic 233, 3) := by decide +kernel
theorem dL_law_1744 : decode cL_law 1744 = .ok (.istore 6, 2) := by decide +kernel
theorem dL_law_1746 : decode cL_law 1746 = .ok (.aload_n 2, 1) := by decide +kernel
theorem dL_law_1747 : decode cL_law 1747 = .ok (.aload_n 0, 1) := by decide +kernel
theorem dL_law_1748 : decode cL_law 1748 = .ok (.iload 5, 2) := by decide +kernel
theorem dL_law_1750 : decode cL_law 1750 = .ok (.iconst 1, 1) := by decide +kernel
theorem dL_law_1751 : decode cL_law 1751 = .ok (.iadd, 1) := by decide +kernel
theorem dL_law_1752 : decode cL_law 1752 = .ok (.iaload, 1) := by decide +kernel
theorem dL_law_1753 : decode cL_law 1753 = .ok (.invokevirtual 235, 3) := by decide +kernel
theorem dL_law_1756 : decode cL_law 1756 = .ok (.istore 7, 2) := by decide +kernel
theorem dL_law_1758 : decode cL_law 1758 = .ok (.aload_n 2, 1) := by decide +kernel
theorem dL_law_1759 : decode cL_law 1759 = .ok (.invokevirtual 141, 3) := by decide +kernel
theorem dL_law_1762 : decode cL_law 1762 = .ok (.iload 6, 2) := by decide +kernel
theorem dL_law_1764 : decode cL_law 1764 = .ok (.if_icmp .eq 5, 3) := by decide +kernel
theorem dL_law_1767 : decode cL_law 1767 = .ok (.iconst 0, 1) := by decide +kernel
theorem dL_law_1768 : decode cL_law 1768 = .ok (.ireturn, 1) := by decide +kernel
theorem dL_law_1769 : decode cL_law 1769 = .ok (.iload 6, 2) := by decide +kernel
theorem dL_law_1771 : decode cL_law 1771 = .ok (.ifCond .ne 15, 3) := by decide +kernel
theorem dL_law_1774 : decode cL_law 1774 = .ok (.aload_n 3, 1) := by decide +kernel
theorem dL_law_1775 : decode cL_law 1775 = .ok (.iconst 0, 1) := by decide +kernel
theorem dL_law_1776 : decode cL_law 1776 = .ok (.laload, 1) := by decide +kernel
theorem dL_law_1777 : decode cL_law 1777 = .ok (.iload 7, 2) := by decide +kernel
theorem dL_law_1779 : decode cL_law 1779 = .ok (.i2l, 1) := by decide +kernel
theorem dL_law_1780 : decode cL_law 1780 = .ok (.lcmp, 1) := by decide +kernel
theorem dL_law_1781 : decode cL_law 1781 = .ok (.ifCond .eq 5, 3) := by decide +kernel
theorem dL_law_1784 : decode cL_law 1784 = .ok (.iconst 0, 1) := by decide +kernel
theorem dL_law_1785 : decode cL_law 1785 = .ok (.ireturn, 1) := by decide +kernel
theorem dL_law_1786 : decode cL_law 1786 = .ok (.goto 555, 3) := by decide +kernel
theorem dL_law_1789 : decode cL_law 1789 = .ok (.aload_n 1, 1) := by decide +kernel
theorem dL_law_1790 : decode cL_law 1790 = .ok (.aload_n 0, 1) := by decide +kernel
theorem dL_law_1791 : decode cL_law 1791 = .ok (.iload 5, 2) := by decide +kernel
theorem dL_law_1793 : decode cL_law 1793 = .ok (.iconst 1, 1) := by decide +kernel
theorem dL_law_1794 : decode cL_law 1794 = .ok (.iadd, 1) := by decide +kernel
theorem dL_law_1795 : decode cL_law 1795 = .ok (.iaload, 1) := by decide +kernel
theorem dL_law_1796 : decode cL_law 1796 = .ok (.aload_n 3, 1) := by decide +kernel
theorem dL_law_1797 : decode cL_law 1797 = .ok (.invokestatic 236, 3) := by decide +kernel
theorem dL_law_1800 : decode cL_law 1800 = .ok (.istore 6, 2) := by decide +kernel
theorem dL_law_1802 : decode cL_law 1802 = .ok (.aload_n 2, 1) := by decide +kernel
theorem dL_law_1803 : decode cL_law 1803 = .ok (.aload_n 0, 1) := by decide +kernel
theorem dL_law_1804 : decode cL_law 1804 = .ok (.iload 5, 2) := by decide +kernel
theorem dL_law_1806 : decode cL_law 1806 = .ok (.iconst 1, 1) := by decide +kernel
theorem dL_law_1807 : decode cL_law 1807 = .ok (.iadd, 1) := by decide +kernel
theorem dL_law_1808 : decode cL_law 1808 = .ok (.iaload, 1) := by decide +kernel
theorem dL_law_1809 : decode cL_law 1809 = .ok (.invokevirtual 238, 3) := by decide +kernel
theorem dL_law_1812 : decode cL_law 1812 = .ok (.istore 7, 2) := by decide +kernel
theorem dL_law_1814 : decode cL_law 1814 = .ok (.aload_n 2, 1) := by decide +kernel
theorem dL_law_1815 : decode cL_law 1815 = .ok (.invokevirtual 141, 3) := by decide +kernel
theorem dL_law_1818 : decode cL_law 1818 = .ok (.iload 6, 2) := by decide +kernel
theorem dL_law_1820 : decode cL_law 1820 = .ok (.if_icmp .eq 5, 3) := by decide +kernel
theorem dL_law_1823 : decode cL_law 1823 = .ok (.iconst 0, 1) := by decide +kernel
theorem dL_law_1824 : decode cL_law 1824 = .ok (.ireturn, 1) := by decide +kernel
theorem dL_law_1825 : decode cL_law 1825 = .ok (.iload 6, 2) := by decide +kernel
theorem dL_law_1827 : decode cL_law 1827 = .ok (.ifCond .ne 15, 3) := by decide +kernel
theorem dL_law_1830 : decode cL_law 1830 = .ok (.aload_n 3, 1) := by decide +kernel
theorem dL_law_1831 : decode cL_law 1831 = .ok (.iconst 0, 1) := by decide +kernel
theorem dL_law_1832 : decode cL_law 1832 = .ok (.laload, 1) := by decide +kernel
theorem dL_law_1833 : decode cL_law 1833 = .ok (.iload 7, 2) := by decide +kernel
theorem dL_law_1835 : decode cL_law 1835 = .ok (.i2l, 1) := by decide +kernel
theorem dL_law_1836 : decode cL_law 1836 = .ok (.lcmp, 1) := by decide +kernel
theorem dL_law_1837 : decode cL_law 1837 = .ok (.ifCond .eq 5, 3) := by decide +kernel
theorem dL_law_1840 : decode cL_law 1840 = .ok (.iconst 0, 1) := by decide +kernel
theorem dL_law_1841 : decode cL_law 1841 = .ok (.ireturn, 1) := by decide +kernel
theorem dL_law_1842 : decode cL_law 1842 = .ok (.goto 499, 3) := by decide +kernel
theorem dL_law_1845 : decode cL_law 1845 = .ok (.aload_n 1, 1) := by decide +kernel
theorem dL_law_1846 : decode cL_law 1846 = .ok (.aload_n 0, 1) := by decide +kernel
theorem dL_law_1847 : decode cL_law 1847 = .ok (.iload 5, 2) := by decide +kernel
theorem dL_law_1849 : decode cL_law 1849 = .ok (.iconst 1, 1) := by decide +kernel
theorem dL_law_1850 : decode cL_law 1850 = .ok (.iadd, 1) := by decide +kernel
theorem dL_law_1851 : decode cL_law 1851 = .ok (.iaload, 1) := by decide +kernel
theorem dL_law_1852 : decode cL_law 1852 = .ok (.aload_n 3, 1) := by decide +kernel
theorem dL_law_1853 : decode cL_law 1853 = .ok (.invokestatic 239, 3) := by decide +kernel
theorem dL_law_1856 : decode cL_law 1856 = .ok (.istore 6, 2) := by decide +kernel
theorem dL_law_1858 : decode cL_law 1858 = .ok (.aload_n 2, 1) := by decide +kernel
theorem dL_law_1859 : decode cL_law 1859 = .ok (.aload_n 0, 1) := by decide +kernel
theorem dL_law_1860 : decode cL_law 1860 = .ok (.iload 5, 2) := by decide +kernel
theorem dL_law_1862 : decode cL_law 1862 = .ok (.iconst 1, 1) := by decide +kernel
theorem dL_law_1863 : decode cL_law 1863 = .ok (.iadd, 1) := by decide +kernel
theorem dL_law_1864 : decode cL_law 1864 = .ok (.iaload, 1) := by decide +kernel
theorem dL_law_1865 : decode cL_law 1865 = .ok (.invokevirtual 241, 3) := by decide +kernel
theorem dL_law_1868 : decode cL_law 1868 = .ok (.istore 7, 2) := by decide +kernel
theorem dL_law_1870 : decode cL_law 1870 = .ok (.aload_n 2, 1) := by decide +kernel
theorem dL_law_1871 : decode cL_law 1871 = .ok (.invokevirtual 141, 3) := by decide +kernel
theorem dL_law_1874 : decode cL_law 1874 = .ok (.iload 6, 2) := by decide +kernel
theorem dL_law_1876 : decode cL_law 1876 = .ok (.if_icmp .eq 5, 3) := by decide +kernel
theorem dL_law_1879 : decode cL_law 1879 = .ok (.iconst 0, 1) := by decide +kernel
theorem dL_law_1880 : decode cL_law 1880 = .ok (.ireturn, 1) := by decide +kernel
theorem dL_law_1881 : decode cL_law 1881 = .ok (.iload 6, 2) := by decide +kernel
theorem dL_law_1883 : decode cL_law 1883 = .ok (.ifCond .ne 15, 3) := by decide +kernel
theorem dL_law_1886 : decode cL_law 1886 = .ok (.aload_n 3, 1) := by decide +kernel
theorem dL_law_1887 : decode cL_law 1887 = .ok (.iconst 0, 1) := by decide +kernel
theorem dL_law_1888 : decode cL_law 1888 = .ok (.laload, 1) := by decide +kernel
theorem dL_law_1889 : decode cL_law 1889 = .ok (.iload 7, 2) := by decide +kernel
theorem dL_law_1891 : decode cL_law 1891 = .ok (.i2l, 1) := by decide +kernel
theorem dL_law_1892 : decode cL_law 1892 = .ok (.lcmp, 1) := by decide +kernel
theorem dL_law_1893 : decode cL_law 1893 = .ok (.ifCond .eq 5, 3) := by decide +kernel
theorem dL_law_1896 : decode cL_law 1896 = .ok (.iconst 0, 1) := by decide +kernel
theorem dL_law_1897 : decode cL_law 1897 = .ok (.ireturn, 1) := by decide +kernel
theorem dL_law_1898 : decode cL_law 1898 = .ok (.goto 443, 3) := by decide +kernel
theorem dL_law_1901 : decode cL_law 1901 = .ok (.aload_n 1, 1) := by decide +kernel
theorem dL_law_1902 : decode cL_law 1902 = .ok (.aload_n 0, 1) := by decide +kernel
theorem dL_law_1903 : decode cL_law 1903 = .ok (.iload 5, 2) := by decide +kernel
theorem dL_law_1905 : decode cL_law 1905 = .ok (.iconst 1, 1) := by decide +kernel
theorem dL_law_1906 : decode cL_law 1906 = .ok (.iadd, 1) := by decide +kernel
theorem dL_law_1907 : decode cL_law 1907 = .ok (.iaload, 1) := by decide +kernel
theorem dL_law_1908 : decode cL_law 1908 = .ok (.aload_n 3, 1) := by decide +kernel
theorem dL_law_1909 : decode cL_law 1909 = .ok (.invokestatic 242, 3) := by decide +kernel
theorem dL_law_1912 : decode cL_law 1912 = .ok (.istore 6, 2) := by decide +kernel
theorem dL_law_1914 : decode cL_law 1914 = .ok (.aload_n 2, 1) := by decide +kernel
theorem dL_law_1915 : decode cL_law 1915 = .ok (.aload_n 0, 1) := by decide +kernel
theorem dL_law_1916 : decode cL_law 1916 = .ok (.iload 5, 2) := by decide +kernel
theorem dL_law_1918 : decode cL_law 1918 = .ok (.iconst 1, 1) := by decide +kernel
theorem dL_law_1919 : decode cL_law 1919 = .ok (.iadd, 1) := by decide +kernel
theorem dL_law_1920 : decode cL_law 1920 = .ok (.iaload, 1) := by decide +kernel
theorem dL_law_1921 : decode cL_law 1921 = .ok (.invokevirtual 244, 3) := by decide +kernel
theorem dL_law_1924 : decode cL_law 1924 = .ok (.istore 7, 2) := by decide +kernel
theorem dL_law_1926 : decode cL_law 1926 = .ok (.aload_n 2, 1) := by decide +kernel
theorem dL_law_1927 : decode cL_law 1927 = .ok (.invokevirtual 141, 3) := by decide +kernel
theorem dL_law_1930 : decode cL_law 1930 = .ok (.iload 6, 2) := by decide +kernel
theorem dL_law_1932 : decode cL_law 1932 = .ok (.if_icmp .eq 5, 3) := by decide +kernel
theorem dL_law_1935 : decode cL_law 1935 = .ok (.iconst 0, 1) := by decide +kernel
theorem dL_law_1936 : decode cL_law 1936 = .ok (.ireturn, 1) := by decide +kernel
theorem dL_law_1937 : decode cL_law 1937 = .ok (.iload 6, 2) := by decide +kernel
theorem dL_law_1939 : decode cL_law 1939 = .ok (.ifCond .ne 15, 3) := by decide +kernel
theorem dL_law_1942 : decode cL_law 1942 = .ok (.aload_n 3, 1) := by decide +kernel
theorem dL_law_1943 : decode cL_law 1943 = .ok (.iconst 0, 1) := by decide +kernel
theorem dL_law_1944 : decode cL_law 1944 = .ok (.laload, 1) := by decide +kernel
theorem dL_law_1945 : decode cL_law 1945 = .ok (.iload 7, 2) := by decide +kernel
theorem dL_law_1947 : decode cL_law 1947 = .ok (.i2l, 1) := by decide +kernel
theorem dL_law_1948 : decode cL_law 1948 = .ok (.lcmp, 1) := by decide +kernel
theorem dL_law_1949 : decode cL_law 1949 = .ok (.ifCond .eq 5, 3) := by decide +kernel
theorem dL_law_1952 : decode cL_law 1952 = .ok (.iconst 0, 1) := by decide +kernel
theorem dL_law_1953 : decode cL_law 1953 = .ok (.ireturn, 1) := by decide +kernel
theorem dL_law_1954 : decode cL_law 1954 = .ok (.goto 387, 3) := by decide +kernel
theorem dL_law_1957 : decode cL_law 1957 = .ok (.aload_n 1, 1) := by decide +kernel
theorem dL_law_1958 : decode cL_law 1958 = .ok (.aload_n 0, 1) := by decide +kernel
theorem dL_law_1959 : decode cL_law 1959 = .ok (.iload 5, 2) := by decide +kernel
theorem dL_law_1961 : decode cL_law 1961 = .ok (.iconst 1, 1) := by decide +kernel
theorem dL_law_1962 : decode cL_law 1962 = .ok (.iadd, 1) := by decide +kernel
theorem dL_law_1963 : decode cL_law 1963 = .ok (.iaload, 1) := by decide +kernel
theorem dL_law_1964 : decode cL_law 1964 = .ok (.aload_n 3, 1) := by decide +kernel
theorem dL_law_1965 : decode cL_law 1965 = .ok (.invokestatic 245, 3) := by decide +kernel
theorem dL_law_1968 : decode cL_law 1968 = .ok (.istore 6, 2) := by decide +kernel
theorem dL_law_1970 : decode cL_law 1970 = .ok (.aload_n 2, 1) := by decide +kernel
theorem dL_law_1971 : decode cL_law 1971 = .ok (.aload_n 0, 1) := by decide +kernel
theorem dL_law_1972 : decode cL_law 1972 = .ok (.iload 5, 2) := by decide +kernel
theorem dL_law_1974 : decode cL_law 1974 = .ok (.iconst 1, 1) := by decide +kernel
theorem dL_law_1975 : decode cL_law 1975 = .ok (.iadd, 1) := by decide +kernel
theorem dL_law_1976 : decode cL_law 1976 = .ok (.iaload, 1) := by decide +kernel
theorem dL_law_1977 : decode cL_law 1977 = .ok (.invokevirtual 247, 3) := by decide +kernel
theorem dL_law_1980 : decode cL_law 1980 = .ok (.istore 7, 2) := by decide +kernel
theorem dL_law_1982 : decode cL_law 1982 = .ok (.aload_n 2, 1) := by decide +kernel
theorem dL_law_1983 : decode cL_law 1983 = .ok (.invokevirtual 141, 3) := by decide +kernel
theorem dL_law_1986 : decode cL_law 1986 = .ok (.iload 6, 2) := by decide +kernel
theorem dL_law_1988 : decode cL_law 1988 = .ok (.if_icmp .eq 5, 3) := by decide +kernel
theorem dL_law_1991 : decode cL_law 1991 = .ok (.iconst 0, 1) := by decide +kernel
theorem dL_law_1992 : decode cL_law 1992 = .ok (.ireturn, 1) := by decide +kernel
theorem dL_law_1993 : decode cL_law 1993 = .ok (.iload 6, 2) := by decide +kernel
theorem dL_law_1995 : decode cL_law 1995 = .ok (.ifCond .ne 22, 3) := by decide +kernel
theorem dL_law_1998 : decode cL_law 1998 = .ok (.aload_n 3, 1) := by decide +kernel
theorem dL_law_1999 : decode cL_law 1999 = .ok (.iconst 0, 1) := by decide +kernel
theorem dL_law_2000 : decode cL_law 2000 = .ok (.laload, 1) := by decide +kernel
theorem dL_law_2001 : decode cL_law 2001 = .ok (.iload 7, 2) := by decide +kernel
theorem dL_law_2003 : decode cL_law 2003 = .ok (.ifCond .eq 7, 3) := by decide +kernel
theorem dL_law_2006 : decode cL_law 2006 = .ok (.lconst 1, 1) := by decide +kernel
theorem dL_law_2007 : decode cL_law 2007 = .ok (.goto 4, 3) := by decide +kernel
theorem dL_law_2010 : decode cL_law 2010 = .ok (.lconst 0, 1) := by decide +kernel
theorem dL_law_2011 : decode cL_law 2011 = .ok (.lcmp, 1) := by decide +kernel
theorem dL_law_2012 : decode cL_law 2012 = .ok (.ifCond .eq 5, 3) := by decide +kernel
theorem dL_law_2015 : decode cL_law 2015 = .ok (.iconst 0, 1) := by decide +kernel
theorem dL_law_2016 : decode cL_law 2016 = .ok (.ireturn, 1) := by decide +kernel
theorem dL_law_2017 : decode cL_law 2017 = .ok (.goto 324, 3) := by decide +kernel
theorem dL_law_2020 : decode cL_law 2020 = .ok (.aload_n 1, 1) := by decide +kernel
theorem dL_law_2021 : decode cL_law 2021 = .ok (.aload_n 0, 1) := by decide +kernel
theorem dL_law_2022 : decode cL_law 2022 = .ok (.iload 5, 2) := by decide +kernel
theorem dL_law_2024 : decode cL_law 2024 = .ok (.iconst 1, 1) := by decide +kernel
theorem dL_law_2025 : decode cL_law 2025 = .ok (.iadd, 1) := by decide +kernel
theorem dL_law_2026 : decode cL_law 2026 = .ok (.iaload, 1) := by decide +kernel
theorem dL_law_2027 : decode cL_law 2027 = .ok (.aload_n 0, 1) := by decide +kernel
theorem dL_law_2028 : decode cL_law 2028 = .ok (.iload 5, 2) := by decide +kernel
theorem dL_law_2030 : decode cL_law 2030 = .ok (.iconst 2, 1) := by decide +kernel
theorem dL_law_2031 : decode cL_law 2031 = .ok (.iadd, 1) := by decide +kernel
theorem dL_law_2032 : decode cL_law 2032 = .ok (.iaload, 1) := by decide +kernel
theorem dL_law_2033 : decode cL_law 2033 = .ok (.aload_n 3, 1) := by decide +kernel
theorem dL_law_2034 : decode cL_law 2034 = .ok (.invokestatic 248, 3) := by decide +kernel
theorem dL_law_2037 : decode cL_law 2037 = .ok (.istore 6, 2) := by decide +kernel
theorem dL_law_2039 : decode cL_law 2039 = .ok (.aload_n 2, 1) := by decide +kernel
theorem dL_law_2040 : decode cL_law 2040 = .ok (.aload_n 0, 1) := by decide +kernel
theorem dL_law_2041 : decode cL_law 2041 = .ok (.iload 5, 2) := by decide +kernel
theorem dL_law_2043 : decode cL_law 2043 = .ok (.iconst 1, 1) := by decide +kernel
theorem dL_law_2044 : decode cL_law 2044 = .ok (.iadd, 1) := by decide +kernel
theorem dL_law_2045 : decode cL_law 2045 = .ok (.iaload, 1) := by decide +kernel
theorem dL_law_2046 : decode cL_law 2046 = .ok (.aload_n 0, 1) := by decide +kernel
theorem dL_law_2047 : decode cL_law 2047 = .ok (.iload 5, 2) := by decide +kernel
theorem dL_law_2049 : decode cL_law 2049 = .ok (.iconst 2, 1) := by decide +kernel
theorem dL_law_2050 : decode cL_law 2050 = .ok (.iadd, 1) := by decide +kernel
theorem dL_law_2051 : decode cL_law 2051 = .ok (.iaload, 1) := by decide +kernel
theorem dL_law_2052 : decode cL_law 2052 = .ok (.invokevirtual 250, 3) := by decide +kernel
theorem dL_law_2055 : decode cL_law 2055 = .ok (.istore 7, 2) := by decide +kernel
theorem dL_law_2057 : decode cL_law 2057 = .ok (.aload_n 2, 1) := by decide +kernel
theorem dL_law_2058 : decode cL_law 2058 = .ok (.invokevirtual 141, 3) := by decide +kernel
theorem dL_law_2061 : decode cL_law 2061 = .ok (.iload 6, 2) := by decide +kernel
theorem dL_law_2063 : decode cL_law 2063 = .ok (.if_icmp .eq 5, 3) := by decide +kernel
theorem dL_law_2066 : decode cL_law 2066 = .ok (.iconst 0, 1) := by decide +kernel
theorem dL_law_2067 : decode cL_law 2067 = .ok (.ireturn, 1) := by decide +kernel
theorem dL_law_2068 : decode cL_law 2068 = .ok (.iload 6, 2) := by decide +kernel
theorem dL_law_2070 : decode cL_law 2070 = .ok (.ifCond .ne 22, 3) := by decide +kernel
theorem dL_law_2073 : decode cL_law 2073 = .ok (.aload_n 3, 1) := by decide +kernel
theorem dL_law_2074 : decode cL_law 2074 = .ok (.iconst 0, 1) := by decide +kernel
theorem dL_law_2075 : decode cL_law 2075 = .ok (.laload, 1) := by decide +kernel
theorem dL_law_2076 : decode cL_law 2076 = .ok (.iload 7, 2) := by decide +kernel
theorem dL_law_2078 : decode cL_law 2078 = .ok (.ifCond .eq 7, 3) := by decide +kernel
theorem dL_law_2081 : decode cL_law 2081 = .ok (.lconst 1, 1) := by decide +kernel
theorem dL_law_2082 : decode cL_law 2082 = .ok (.goto 4, 3) := by decide +kernel
theorem dL_law_2085 : decode cL_law 2085 = .ok (.lconst 0, 1) := by decide +kernel
theorem dL_law_2086 : decode cL_law 2086 = .ok (.lcmp, 1) := by decide +kernel
theorem dL_law_2087 : decode cL_law 2087 = .ok (.ifCond .eq 5, 3) := by decide +kernel
theorem dL_law_2090 : decode cL_law 2090 = .ok (.iconst 0, 1) := by decide +kernel
theorem dL_law_2091 : decode cL_law 2091 = .ok (.ireturn, 1) := by decide +kernel
theorem dL_law_2092 : decode cL_law 2092 = .ok (.goto 249, 3) := by decide +kernel
theorem dL_law_2095 : decode cL_law 2095 = .ok (.aload_n 1, 1) := by decide +kernel
theorem dL_law_2096 : decode cL_law 2096 = .ok (.aload_n 0, 1) := by decide +kernel
theorem dL_law_2097 : decode cL_law 2097 = .ok (.iload 5, 2) := by decide +kernel
theorem dL_law_2099 : decode cL_law 2099 = .ok (.iconst 1, 1) := by decide +kernel
theorem dL_law_2100 : decode cL_law 2100 = .ok (.iadd, 1) := by decide +kernel
theorem dL_law_2101 : decode cL_law 2101 = .ok (.iaload, 1) := by decide +kernel
theorem dL_law_2102 : decode cL_law 2102 = .ok (.aload_n 0, 1) := by decide +kernel
theorem dL_law_2103 : decode cL_law 2103 = .ok (.iload 5, 2) := by decide +kernel
theorem dL_law_2105 : decode cL_law 2105 = .ok (.iconst 2, 1) := by decide +kernel
theorem dL_law_2106 : decode cL_law 2106 = .ok (.iadd, 1) := by decide +kernel
theorem dL_law_2107 : decode cL_law 2107 = .ok (.iaload, 1) := by decide +kernel
theorem dL_law_2108 : decode cL_law 2108 = .ok (.aload_n 3, 1) := by decide +kernel
theorem dL_law_2109 : decode cL_law 2109 = .ok (.invokestatic 251, 3) := by decide +kernel
theorem dL_law_2112 : decode cL_law 2112 = .ok (.istore 6, 2) := by decide +kernel
theorem dL_law_2114 : decode cL_law 2114 = .ok (.aload_n 2, 1) := by decide +kernel
theorem dL_law_2115 : decode cL_law 2115 = .ok (.aload_n 0, 1) := by decide +kernel
theorem dL_law_2116 : decode cL_law 2116 = .ok (.iload 5, 2) := by decide +kernel
theorem dL_law_2118 : decode cL_law 2118 = .ok (.iconst 1, 1) := by decide +kernel
theorem dL_law_2119 : decode cL_law 2119 = .ok (.iadd, 1) := by decide +kernel
theorem dL_law_2120 : decode cL_law 2120 = .ok (.iaload, 1) := by decide +kernel
theorem dL_law_2121 : decode cL_law 2121 = .ok (.aload_n 0, 1) := by decide +kernel
theorem dL_law_2122 : decode cL_law 2122 = .ok (.iload 5, 2) := by decide +kernel
theorem dL_law_2124 : decode cL_law 2124 = .ok (.iconst 2, 1) := by decide +kernel
theorem dL_law_2125 : decode cL_law 2125 = .ok (.iadd, 1) := by decide +kernel
theorem dL_law_2126 : decode cL_law 2126 = .ok (.iaload, 1) := by decide +kernel
theorem dL_law_2127 : decode cL_law 2127 = .ok (.invokevirtual 253, 3) := by decide +kernel
theorem dL_law_2130 : decode cL_law 2130 = .ok (.istore 7, 2) := by decide +kernel
theorem dL_law_2132 : decode cL_law 2132 = .ok (.aload_n 2, 1) := by decide +kernel
theorem dL_law_2133 : decode cL_law 2133 = .ok (.invokevirtual 141, 3) := by decide +kernel
theorem dL_law_2136 : decode cL_law 2136 = .ok (.iload 6, 2) := by decide +kernel
theorem dL_law_2138 : decode cL_law 2138 = .ok (.if_icmp .eq 5, 3) := by decide +kernel
theorem dL_law_2141 : decode cL_law 2141 = .ok (.iconst 0, 1) := by decide +kernel
theorem dL_law_2142 : decode cL_law 2142 = .ok (.ireturn, 1) := by decide +kernel
theorem dL_law_2143 : decode cL_law 2143 = .ok (.iload 6, 2) := by decide +kernel
theorem dL_law_2145 : decode cL_law 2145 = .ok (.ifCond .ne 22, 3) := by decide +kernel
theorem dL_law_2148 : decode cL_law 2148 = .ok (.aload_n 3, 1) := by decide +kernel
theorem dL_law_2149 : decode cL_law 2149 = .ok (.iconst 0, 1) := by decide +kernel
theorem dL_law_2150 : decode cL_law 2150 = .ok (.laload, 1) := by decide +kernel
theorem dL_law_2151 : decode cL_law 2151 = .ok (.iload 7, 2) := by decide +kernel
theorem dL_law_2153 : decode cL_law 2153 = .ok (.ifCond .eq 7, 3) := by decide +kernel
theorem dL_law_2156 : decode cL_law 2156 = .ok (.lconst 1, 1) := by decide +kernel
theorem dL_law_2157 : decode cL_law 2157 = .ok (.goto 4, 3) := by decide +kernel
theorem dL_law_2160 : decode cL_law 2160 = .ok (.lconst 0, 1) := by decide +kernel
theorem dL_law_2161 : decode cL_law 2161 = .ok (.lcmp, 1) := by decide +kernel
theorem dL_law_2162 : decode cL_law 2162 = .ok (.ifCond .eq 5, 3) := by decide +kernel
theorem dL_law_2165 : decode cL_law 2165 = .ok (.iconst 0, 1) := by decide +kernel
theorem dL_law_2166 : decode cL_law 2166 = .ok (.ireturn, 1) := by decide +kernel
theorem dL_law_2167 : decode cL_law 2167 = .ok (.goto 174, 3) := by decide +kernel
theorem dL_law_2170 : decode cL_law 2170 = .ok (.aload_n 1, 1) := by decide +kernel
theorem dL_law_2171 : decode cL_law 2171 = .ok (.invokevirtual 254, 3) := by decide +kernel
theorem dL_law_2174 : decode cL_law 2174 = .ok (.aload_n 2, 1) := by decide +kernel
theorem dL_law_2175 : decode cL_law 2175 = .ok (.invokevirtual 257, 3) := by decide +kernel
theorem dL_law_2178 : decode cL_law 2178 = .ok (.if_icmp .eq 163, 3) := by decide +kernel
theorem dL_law_2181 : decode cL_law 2181 = .ok (.iconst 0, 1) := by decide +kernel
theorem dL_law_2182 : decode cL_law 2182 = .ok (.ireturn, 1) := by decide +kernel
theorem dL_law_2183 : decode cL_law 2183 = .ok (.aload_n 1, 1) := by decide +kernel
theorem dL_law_2184 : decode cL_law 2184 = .ok (.aload 4, 2) := by decide +kernel
theorem dL_law_2186 : decode cL_law 2186 = .ok (.invokestatic 258, 3) := by decide +kernel
theorem dL_law_2189 : decode cL_law 2189 = .ok (.istore 6, 2) := by decide +kernel
theorem dL_law_2191 : decode cL_law 2191 = .ok (.aload_n 2, 1) := by decide +kernel
theorem dL_law_2192 : decode cL_law 2192 = .ok (.invokevirtual 261, 3) := by decide +kernel
theorem dL_law_2195 : decode cL_law 2195 = .ok (.fstore 7, 2) := by decide +kernel
theorem dL_law_2197 : decode cL_law 2197 = .ok (.aload_n 2, 1) := by decide +kernel
theorem dL_law_2198 : decode cL_law 2198 = .ok (.invokevirtual 141, 3) := by decide +kernel
theorem dL_law_2201 : decode cL_law 2201 = .ok (.iload 6, 2) := by decide +kernel
theorem dL_law_2203 : decode cL_law 2203 = .ok (.if_icmp .eq 5, 3) := by decide +kernel
theorem dL_law_2206 : decode cL_law 2206 = .ok (.iconst 0, 1) := by decide +kernel
theorem dL_law_2207 : decode cL_law 2207 = .ok (.ireturn, 1) := by decide +kernel
theorem dL_law_2208 : decode cL_law 2208 = .ok (.iload 6, 2) := by decide +kernel
theorem dL_law_2210 : decode cL_law 2210 = .ok (.ifCond .ne 36, 3) := by decide +kernel
theorem dL_law_2213 : decode cL_law 2213 = .ok (.aload 4, 2) := by decide +kernel
theorem dL_law_2215 : decode cL_law 2215 = .ok (.iconst 0, 1) := by decide +kernel
theorem dL_law_2216 : decode cL_law 2216 = .ok (.daload, 1) := by decide +kernel
theorem dL_law_2217 : decode cL_law 2217 = .ok (.fload 7, 2) := by decide +kernel
theorem dL_law_2219 : decode cL_law 2219 = .ok (.f2d, 1) := by decide +kernel
theorem dL_law_2220 : decode cL_law 2220 = .ok (.dcmp .l, 1) := by decide +kernel
theorem dL_law_2221 : decode cL_law 2221 = .ok (.ifCond .eq 25, 3) := by decide +kernel
theorem dL_law_2224 : decode cL_law 2224 = .ok (.aload 4, 2) := by decide +kernel
theorem dL_law_2226 : decode cL_law 2226 = .ok (.iconst 0, 1) := by decide +kernel
theorem dL_law_2227 : decode cL_law 2227 = .ok (.daload, 1) := by decide +kernel
theorem dL_law_2228 : decode cL_law 2228 = .ok (.aload 4, 2) := by decide +kernel
theorem dL_law_2230 : decode cL_law 2230 = .ok (.iconst 0, 1) := by decide +kernel
theorem dL_law_2231 : decode cL_law 2231 = .ok (.daload, 1) := by decide +kernel
theorem dL_law_2232 : decode cL_law 2232 = .ok (.dcmp .l, 1) := by decide +kernel
theorem dL_law_2233 : decode cL_law 2233 = .ok (.ifCond .eq 11, 3) := by decide +kernel
theorem dL_law_2236 : decode cL_law 2236 = .ok (.fload 7, 2) := by decide +kernel
theorem dL_law_2238 : decode cL_law 2238 = .ok (.fload 7, 2) := by decide +kernel
theorem dL_law_2240 : decode cL_law 2240 = .ok (.fcmp .l, 1) := by decide +kernel
theorem dL_law_2241 : decode cL_law 2241 = .ok (.ifCond .ne 5, 3) := by decide +kernel
theorem dL_law_2244 : decode cL_law 2244 = .ok (.iconst 0, 1) := by decide +kernel
theorem dL_law_2245 : decode cL_law 2245 = .ok (.ireturn, 1) := by decide +kernel
theorem dL_law_2246 : decode cL_law 2246 = .ok (.goto 95, 3) := by decide +kernel
theorem dL_law_2249 : decode cL_law 2249 = .ok (.aload_n 1, 1) := by decide +kernel
theorem dL_law_2250 : decode cL_law 2250 = .ok (.aload 4, 2) := by decide +kernel
theorem dL_law_2252 : decode cL_law 2252 = .ok (.invokestatic 262, 3) := by decide +kernel
theorem dL_law_2255 : decode cL_law 2255 = .ok (.istore 6, 2) := by decide +kernel
theorem dL_law_2257 : decode cL_law 2257 = .ok (.aload_n 2, 1) := by decide +kernel
theorem dL_law_2258 : decode cL_law 2258 = .ok (.invokevirtual 264, 3) := by decide +kernel
theorem dL_law_2261 : decode cL_law 2261 = .ok (.dstore 7, 2) := by decide +kernel
theorem dL_law_2263 : decode cL_law 2263 = .ok (.aload_n 2, 1) := by decide +kernel
theorem dL_law_2264 : decode cL_law 2264 = .ok (.invokevirtual 141, 3) := by decide +kernel
theorem dL_law_2267 : decode cL_law 2267 = .ok (.iload 6, 2) := by decide +kernel
theorem dL_law_2269 : decode cL_law 2269 = .ok (.if_icmp .eq 5, 3) := by decide +kernel
theorem dL_law_2272 : decode cL_law 2272 = .ok (.iconst 0, 1) := by decide +kernel
theorem dL_law_2273 : decode cL_law 2273 = .ok (.ireturn, 1) := by decide +kernel
theorem dL_law_2274 : decode cL_law 2274 = .ok (.iload 6, 2) := by decide +kernel
theorem dL_law_2276 : decode cL_law 2276 = .ok (.ifCond .ne 35, 3) := by decide +kernel
theorem dL_law_2279 : decode cL_law 2279 = .ok (.aload 4, 2) := by decide +kernel
theorem dL_law_2281 : decode cL_law 2281 = .ok (.iconst 0, 1) := by decide +kernel
theorem dL_law_2282 : decode cL_law 2282 = .ok (.daload, 1) := by decide +kernel
theorem dL_law_2283 : decode cL_law 2283 = .ok (.dload 7, 2) := by decide +kernel
theorem dL_law_2285 : decode cL_law 2285 = .ok (.dcmp .l, 1) := by decide +kernel
theorem dL_law_2286 : decode cL_law 2286 = .ok (.ifCond .eq 25, 3) := by decide +kernel
theorem dL_law_2289 : decode cL_law 2289 = .ok (.aload 4, 2) := by decide +kernel
theorem dL_law_2291 : decode cL_law 2291 = .ok (.iconst 0, 1) := by decide +kernel
theorem dL_law_2292 : decode cL_law 2292 = .ok (.daload, 1) := by decide +kernel
theorem dL_law_2293 : decode cL_law 2293 = .ok (.aload 4, 2) := by decide +kernel
theorem dL_law_2295 : decode cL_law 2295 = .ok (.iconst 0, 1) := by decide +kernel
theorem dL_law_2296 : decode cL_law 2296 = .ok (.daload, 1) := by decide +kernel
theorem dL_law_2297 : decode cL_law 2297 = .ok (.dcmp .l, 1) := by decide +kernel
theorem dL_law_2298 : decode cL_law 2298 = .ok (.ifCond .eq 11, 3) := by decide +kernel
theorem dL_law_2301 : decode cL_law 2301 = .ok (.dload 7, 2) := by decide +kernel
theorem dL_law_2303 : decode cL_law 2303 = .ok (.dload 7, 2) := by decide +kernel
theorem dL_law_2305 : decode cL_law 2305 = .ok (.dcmp .l, 1) := by decide +kernel
theorem dL_law_2306 : decode cL_law 2306 = .ok (.ifCond .ne 5, 3) := by decide +kernel
theorem dL_law_2309 : decode cL_law 2309 = .ok (.iconst 0, 1) := by decide +kernel
theorem dL_law_2310 : decode cL_law 2310 = .ok (.ireturn, 1) := by decide +kernel
theorem dL_law_2311 : decode cL_law 2311 = .ok (.goto 30, 3) := by decide +kernel
theorem dL_law_2314 : decode cL_law 2314 = .ok (.aload_n 1, 1) := by decide +kernel
theorem dL_law_2315 : decode cL_law 2315 = .ok (.invokevirtual 265, 3) := by decide +kernel
theorem dL_law_2318 : decode cL_law 2318 = .ok (.aload_n 2, 1) := by decide +kernel
theorem dL_law_2319 : decode cL_law 2319 = .ok (.invokevirtual 269, 3) := by decide +kernel
theorem dL_law_2322 : decode cL_law 2322 = .ok (.lcmp, 1) := by decide +kernel
theorem dL_law_2323 : decode cL_law 2323 = .ok (.ifCond .eq 18, 3) := by decide +kernel
theorem dL_law_2326 : decode cL_law 2326 = .ok (.iconst 0, 1) := by decide +kernel
theorem dL_law_2327 : decode cL_law 2327 = .ok (.ireturn, 1) := by decide +kernel
theorem dL_law_2328 : decode cL_law 2328 = .ok (.aload_n 1, 1) := by decide +kernel
theorem dL_law_2329 : decode cL_law 2329 = .ok (.invokevirtual 270, 3) := by decide +kernel
theorem dL_law_2332 : decode cL_law 2332 = .ok (.aload_n 2, 1) := by decide +kernel
theorem dL_law_2333 : decode cL_law 2333 = .ok (.invokevirtual 273, 3) := by decide +kernel
theorem dL_law_2336 : decode cL_law 2336 = .ok (.if_icmp .eq 5, 3) := by decide +kernel
theorem dL_law_2339 : decode cL_law 2339 = .ok (.iconst 0, 1) := by decide +kernel
theorem dL_law_2340 : decode cL_law 2340 = .ok (.ireturn, 1) := by decide +kernel
theorem dL_law_2341 : decode cL_law 2341 = .ok (.iinc 5 4, 3) := by decide +kernel
theorem dL_law_2344 : decode cL_law 2344 = .ok (.goto (-2316), 3) := by decide +kernel
theorem dL_law_2347 : decode cL_law 2347 = .ok (.iconst 1, 1) := by decide +kernel
theorem dL_law_2348 : decode cL_law 2348 = .ok (.ireturn, 1) := by decide +kernel
