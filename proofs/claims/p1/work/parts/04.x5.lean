set_option maxRecDepth 20000 in
theorem ggX5_init_X2_init : GoodIn wsX5_init wsX2_init := goodIn_r _ [26, 27, 2, 3, 28, 29, 20, 30, 31, 32, 33, 34, 35, 36, 79, 80, 81, 82, 83, 84, 85] (by decide +kernel) (by decide +kernel)
set_option maxRecDepth 20000 in
theorem gX5_init_X2_init_n9 : GoodIn wsX5_init (wsX2_init) := ggX5_init_X2_init
set_option maxRecDepth 20000 in
theorem ggX5_init_X4_init : GoodIn wsX5_init wsX4_init := goodIn_r _ [38, 39, 2, 3, 40, 20, 41, 34, 42, 93, 94, 95] (by decide +kernel) (by decide +kernel)
set_option maxRecDepth 20000 in
theorem gX5_init_X4_init_n18 : GoodIn wsX5_init (wsX4_init) := ggX5_init_X4_init
set_option maxRecDepth 20000 in
theorem ggX5_init_X1_init : GoodIn wsX5_init wsX1_init := goodIn_r _ [44, 45, 2, 3, 20, 46, 47, 48, 49, 50, 51, 52, 53, 54, 55, 56, 57, 58, 59, 60, 61, 62, 63, 64, 65, 66, 67, 96, 97, 98, 99, 100, 101, 105, 106, 107, 108, 109, 110, 111] (by decide +kernel) (by decide +kernel)
set_option maxRecDepth 20000 in
theorem gX5_init_X1_init_n25 : GoodIn wsX5_init (wsX1_init) := ggX5_init_X1_init
set_option maxRecDepth 20000 in
theorem ggX5_init_X0_init : GoodIn wsX5_init wsX0_init := goodIn_r _ [69, 70, 2, 3, 71, 72, 20, 73, 74, 102, 103, 104] (by decide +kernel) (by decide +kernel)
set_option maxRecDepth 20000 in
theorem gX5_init_X0_init_n32 : GoodIn wsX5_init (wsX0_init) := ggX5_init_X0_init
set_option maxRecDepth 20000 in
theorem ggX5_init_J7_fill_53178 : GoodIn wsX5_init wsJ7_fill_53178 := goodIn_r _ [78] (by decide +kernel) (by decide +kernel)
set_option maxRecDepth 20000 in
theorem gX5_init_J7_fill_53178 : GoodIn wsX5_init (va_wsS RX5 50 yJ7_fill_53178 wsJ7_fill_53178) := goodIn_app (goodIn_of _ (by decide +kernel)) ggX5_init_J7_fill_53178
theorem dX5_init_0 : decode cX5_init 0 = .ok (.aload_n 0, 1) := by decide +kernel
theorem dX5_init_1 : decode cX5_init 1 = .ok (.invokespecial 1, 3) := by decide +kernel
theorem dX5_init_4 : decode cX5_init 4 = .ok (.aload_n 0, 1) := by decide +kernel
theorem dX5_init_5 : decode cX5_init 5 = .ok (.new 7, 3) := by decide +kernel
theorem dX5_init_8 : decode cX5_init 8 = .ok (.dup, 1) := by decide +kernel
theorem dX5_init_9 : decode cX5_init 9 = .ok (.invokespecial 9, 3) := by decide +kernel
theorem dX5_init_12 : decode cX5_init 12 = .ok (.putfield 10, 3) := by decide +kernel
theorem dX5_init_15 : decode cX5_init 15 = .ok (.aload_n 0, 1) := by decide +kernel
theorem dX5_init_16 : decode cX5_init 16 = .ok (.new 16, 3) := by decide +kernel
theorem dX5_init_19 : decode cX5_init 19 = .ok (.dup, 1) := by decide +kernel
theorem dX5_init_20 : decode cX5_init 20 = .ok (.invokespecial 18, 3) := by decide +kernel
theorem dX5_init_23 : decode cX5_init 23 = .ok (.putfield 19, 3) := by decide +kernel
theorem dX5_init_26 : decode cX5_init 26 = .ok (.aload_n 0, 1) := by decide +kernel
theorem dX5_init_27 : decode cX5_init 27 = .ok (.new 23, 3) := by decide +kernel
theorem dX5_init_30 : decode cX5_init 30 = .ok (.dup, 1) := by decide +kernel
theorem dX5_init_31 : decode cX5_init 31 = .ok (.invokespecial 25, 3) := by decide +kernel
theorem dX5_init_34 : decode cX5_init 34 = .ok (.putfield 26, 3) := by decide +kernel
theorem dX5_init_37 : decode cX5_init 37 = .ok (.aload_n 0, 1) := by decide +kernel
theorem dX5_init_38 : decode cX5_init 38 = .ok (.new 30, 3) := by decide +kernel
theorem dX5_init_41 : decode cX5_init 41 = .ok (.dup, 1) := by decide +kernel
theorem dX5_init_42 : decode cX5_init 42 = .ok (.invokespecial 32, 3) := by decide +kernel
theorem dX5_init_45 : decode cX5_init 45 = .ok (.putfield 33, 3) := by decide +kernel
theorem dX5_init_48 : decode cX5_init 48 = .ok (.aload_n 0, 1) := by decide +kernel
theorem dX5_init_49 : decode cX5_init 49 = .ok (.bipush 10, 2) := by decide +kernel
theorem dX5_init_51 : decode cX5_init 51 = .ok (.newarray .int, 2) := by decide +kernel
theorem dX5_init_53 : decode cX5_init 53 = .ok (.putfield 37, 3) := by decide +kernel
theorem dX5_init_56 : decode cX5_init 56 = .ok (.aload_n 0, 1) := by decide +kernel
theorem dX5_init_57 : decode cX5_init 57 = .ok (.bipush 10, 2) := by decide +kernel
theorem dX5_init_59 : decode cX5_init 59 = .ok (.bipush 10, 2) := by decide +kernel
theorem dX5_init_61 : decode cX5_init 61 = .ok (.multianewarray 41 2, 4) := by decide +kernel
theorem dX5_init_65 : decode cX5_init 65 = .ok (.putfield 43, 3) := by decide +kernel
theorem dX5_init_68 : decode cX5_init 68 = .ok (.aload_n 0, 1) := by decide +kernel
theorem dX5_init_69 : decode cX5_init 69 = .ok (.iconst 0, 1) := by decide +kernel
theorem dX5_init_70 : decode cX5_init 70 = .ok (.putfield 46, 3) := by decide +kernel
theorem dX5_init_73 : decode cX5_init 73 = .ok (.aload_n 0, 1) := by decide +kernel
theorem dX5_init_74 : decode cX5_init 74 = .ok (.getfield 37, 3) := by decide +kernel
theorem dX5_init_77 : decode cX5_init 77 = .ok (.iconst (-1), 1) := by decide +kernel
theorem dX5_init_78 : decode cX5_init 78 = .ok (.invokestatic 50, 3) := by decide +kernel
theorem dX5_init_81 : decode cX5_init 81 = .ok (.iconst 0, 1) := by decide +kernel
theorem dX5_init_82 : decode cX5_init 82 = .ok (.istore_n 1, 1) := by decide +kernel
theorem dX5_init_83 : decode cX5_init 83 = .ok (.iload_n 1, 1) := by decide +kernel
theorem dX5_init_84 : decode cX5_init 84 = .ok (.bipush 10, 2) := by decide +kernel
theorem dX5_init_86 : decode cX5_init 86 = .ok (.if_icmp .ge 19, 3) := by decide +kernel
theorem dX5_init_89 : decode cX5_init 89 = .ok (.aload_n 0, 1) := by decide +kernel
theorem dX5_init_90 : decode cX5_init 90 = .ok (.getfield 43, 3) := by decide +kernel
theorem dX5_init_93 : decode cX5_init 93 = .ok (.iload_n 1, 1) := by decide +kernel
theorem dX5_init_94 : decode cX5_init 94 = .ok (.aaload, 1) := by decide +kernel
theorem dX5_init_95 : decode cX5_init 95 = .ok (.iconst (-1), 1) := by decide +kernel
theorem dX5_init_96 : decode cX5_init 96 = .ok (.invokestatic 50, 3) := by decide +kernel
theorem dX5_init_99 : decode cX5_init 99 = .ok (.iinc 1 1, 3) := by decide +kernel
theorem dX5_init_102 : decode cX5_init 102 = .ok (.goto (-19), 3) := by decide +kernel
theorem dX5_init_105 : decode cX5_init 105 = .ok (.return_, 1) := by decide +kernel
set_option maxRecDepth 20000 in
theorem ggX5_addApplicant_X5_requireNumber : GoodIn wsX5_addApplicant wsX5_requireNumber := goodIn_ca (goodIn_r _ [10, 11, 12] (by decide +kernel) (by decide +kernel)) (goodIn_sub (fun _ h => List.mem_cons_of_mem _ (List.mem_append_right _ h)) (by decide +kernel))
set_option maxRecDepth 20000 in
theorem gX5_addApplicant_X5_requireNumber : GoodIn wsX5_addApplicant (wsV RX5 56 RX5 yX5_requireNumber wsX5_requireNumber) := goodIn_app (goodIn_of _ (by decide +kernel)) ggX5_addApplicant_X5_requireNumber
theorem dX5_addApplicant_0 : decode cX5_addApplicant 0 = .ok (.aload_n 0, 1) := by decide +kernel
theorem dX5_addApplicant_1 : decode cX5_addApplicant 1 = .ok (.iload_n 1, 1) := by decide +kernel
theorem dX5_addApplicant_2 : decode cX5_addApplicant 2 = .ok (.iconst 1, 1) := by decide +kernel
theorem dX5_addApplicant_3 : decode cX5_addApplicant 3 = .ok (.bipush 9, 2) := by decide +kernel
theorem dX5_addApplicant_5 : decode cX5_addApplicant 5 = .ok (.invokevirtual 56, 3) := by decide +kernel
theorem dX5_addApplicant_8 : decode cX5_addApplicant 8 = .ok (.aload_n 0, 1) := by decide +kernel
theorem dX5_addApplicant_9 : decode cX5_addApplicant 9 = .ok (.getfield 10, 3) := by decide +kernel
theorem dX5_addApplicant_12 : decode cX5_addApplicant 12 = .ok (.getfield 60, 3) := by decide +kernel
theorem dX5_addApplicant_15 : decode cX5_addApplicant 15 = .ok (.bipush 10, 2) := by decide +kernel
theorem dX5_addApplicant_17 : decode cX5_addApplicant 17 = .ok (.if_icmp .lt 13, 3) := by decide +kernel
theorem dX5_addApplicant_20 : decode cX5_addApplicant 20 = .ok (.new 63, 3) := by decide +kernel
theorem dX5_addApplicant_23 : decode cX5_addApplicant 23 = .ok (.dup, 1) := by decide +kernel
theorem dX5_addApplicant_24 : decode cX5_addApplicant 24 = .ok (.ldc 65, 2) := by decide +kernel
theorem dX5_addApplicant_26 : decode cX5_addApplicant 26 = .ok (.invokespecial 67, 3) := by decide +kernel
theorem dX5_addApplicant_29 : decode cX5_addApplicant 29 = .ok (.athrow, 1) := by decide +kernel
theorem dX5_addApplicant_30 : decode cX5_addApplicant 30 = .ok (.aload_n 0, 1) := by decide +kernel
theorem dX5_addApplicant_31 : decode cX5_addApplicant 31 = .ok (.getfield 10, 3) := by decide +kernel
theorem dX5_addApplicant_34 : decode cX5_addApplicant 34 = .ok (.getfield 60, 3) := by decide +kernel
theorem dX5_addApplicant_37 : decode cX5_addApplicant 37 = .ok (.istore_n 2, 1) := by decide +kernel
theorem dX5_addApplicant_38 : decode cX5_addApplicant 38 = .ok (.aload_n 0, 1) := by decide +kernel
theorem dX5_addApplicant_39 : decode cX5_addApplicant 39 = .ok (.getfield 10, 3) := by decide +kernel
theorem dX5_addApplicant_42 : decode cX5_addApplicant 42 = .ok (.getfield 70, 3) := by decide +kernel
theorem dX5_addApplicant_45 : decode cX5_addApplicant 45 = .ok (.iload_n 2, 1) := by decide +kernel
theorem dX5_addApplicant_46 : decode cX5_addApplicant 46 = .ok (.iload_n 1, 1) := by decide +kernel
theorem dX5_addApplicant_47 : decode cX5_addApplicant 47 = .ok (.iastore, 1) := by decide +kernel
theorem dX5_addApplicant_48 : decode cX5_addApplicant 48 = .ok (.aload_n 0, 1) := by decide +kernel
theorem dX5_addApplicant_49 : decode cX5_addApplicant 49 = .ok (.getfield 10, 3) := by decide +kernel
theorem dX5_addApplicant_52 : decode cX5_addApplicant 52 = .ok (.iload_n 2, 1) := by decide +kernel
theorem dX5_addApplicant_53 : decode cX5_addApplicant 53 = .ok (.iconst 1, 1) := by decide +kernel
theorem dX5_addApplicant_54 : decode cX5_addApplicant 54 = .ok (.iadd, 1) := by decide +kernel
theorem dX5_addApplicant_55 : decode cX5_addApplicant 55 = .ok (.putfield 60, 3) := by decide +kernel
theorem dX5_addApplicant_58 : decode cX5_addApplicant 58 = .ok (.iload_n 2, 1) := by decide +kernel
theorem dX5_addApplicant_59 : decode cX5_addApplicant 59 = .ok (.ireturn, 1) := by decide +kernel
set_option maxRecDepth 20000 in
theorem ggX5_addPost_X5_requireNumber : GoodIn wsX5_addPost wsX5_requireNumber := goodIn_ca (goodIn_r _ [10, 11, 12] (by decide +kernel) (by decide +kernel)) (goodIn_sub (fun _ h => List.mem_cons_of_mem _ (List.mem_append_right _ h)) (by decide +kernel))
set_option maxRecDepth 20000 in
theorem gX5_addPost_X5_requireNumber : GoodIn wsX5_addPost (wsV RX5 56 RX5 yX5_requireNumber wsX5_requireNumber) := goodIn_app (goodIn_of _ (by decide +kernel)) ggX5_addPost_X5_requireNumber
theorem dX5_addPost_0 : decode cX5_addPost 0 = .ok (.aload_n 0, 1) := by decide +kernel
theorem dX5_addPost_1 : decode cX5_addPost 1 = .ok (.iload_n 1, 1) := by decide +kernel
theorem dX5_addPost_2 : decode cX5_addPost 2 = .ok (.iconst 1, 1) := by decide +kernel
theorem dX5_addPost_3 : decode cX5_addPost 3 = .ok (.iconst 4, 1) := by decide +kernel
theorem dX5_addPost_4 : decode cX5_addPost 4 = .ok (.invokevirtual 56, 3) := by decide +kernel
theorem dX5_addPost_7 : decode cX5_addPost 7 = .ok (.aload_n 0, 1) := by decide +kernel
theorem dX5_addPost_8 : decode cX5_addPost 8 = .ok (.getfield 10, 3) := by decide +kernel
theorem dX5_addPost_11 : decode cX5_addPost 11 = .ok (.getfield 73, 3) := by decide +kernel
theorem dX5_addPost_14 : decode cX5_addPost 14 = .ok (.bipush 10, 2) := by decide +kernel
theorem dX5_addPost_16 : decode cX5_addPost 16 = .ok (.if_icmp .lt 13, 3) := by decide +kernel
theorem dX5_addPost_19 : decode cX5_addPost 19 = .ok (.new 63, 3) := by decide +kernel
theorem dX5_addPost_22 : decode cX5_addPost 22 = .ok (.dup, 1) := by decide +kernel
theorem dX5_addPost_23 : decode cX5_addPost 23 = .ok (.ldc 76, 2) := by decide +kernel
theorem dX5_addPost_25 : decode cX5_addPost 25 = .ok (.invokespecial 67, 3) := by decide +kernel
theorem dX5_addPost_28 : decode cX5_addPost 28 = .ok (.athrow, 1) := by decide +kernel
theorem dX5_addPost_29 : decode cX5_addPost 29 = .ok (.aload_n 0, 1) := by decide +kernel
theorem dX5_addPost_30 : decode cX5_addPost 30 = .ok (.getfield 10, 3) := by decide +kernel
theorem dX5_addPost_33 : decode cX5_addPost 33 = .ok (.getfield 73, 3) := by decide +kernel
theorem dX5_addPost_36 : decode cX5_addPost 36 = .ok (.istore_n 2, 1) := by decide +kernel
theorem dX5_addPost_37 : decode cX5_addPost 37 = .ok (.aload_n 0, 1) := by decide +kernel
theorem dX5_addPost_38 : decode cX5_addPost 38 = .ok (.getfield 10, 3) := by decide +kernel
theorem dX5_addPost_41 : decode cX5_addPost 41 = .ok (.getfield 78, 3) := by decide +kernel
theorem dX5_addPost_44 : decode cX5_addPost 44 = .ok (.iload_n 2, 1) := by decide +kernel
theorem dX5_addPost_45 : decode cX5_addPost 45 = .ok (.iload_n 1, 1) := by decide +kernel
theorem dX5_addPost_46 : decode cX5_addPost 46 = .ok (.iastore, 1) := by decide +kernel
theorem dX5_addPost_47 : decode cX5_addPost 47 = .ok (.aload_n 0, 1) := by decide +kernel
theorem dX5_addPost_48 : decode cX5_addPost 48 = .ok (.getfield 10, 3) := by decide +kernel
theorem dX5_addPost_51 : decode cX5_addPost 51 = .ok (.iload_n 2, 1) := by decide +kernel
theorem dX5_addPost_52 : decode cX5_addPost 52 = .ok (.iconst 1, 1) := by decide +kernel
theorem dX5_addPost_53 : decode cX5_addPost 53 = .ok (.iadd, 1) := by decide +kernel
theorem dX5_addPost_54 : decode cX5_addPost 54 = .ok (.putfield 73, 3) := by decide +kernel
theorem dX5_addPost_57 : decode cX5_addPost 57 = .ok (.iload_n 2, 1) := by decide +kernel
theorem dX5_addPost_58 : decode cX5_addPost 58 = .ok (.ireturn, 1) := by decide +kernel
set_option maxRecDepth 20000 in
theorem ggX5_setWeight_X5_requireApplicant : GoodIn wsX5_setWeight wsX5_requireApplicant := goodIn_ca (goodIn_r _ [7, 8, 9, 1, 10, 17, 18, 19, 20, 21, 22, 23, 24, 25, 26, 27, 28, 29, 30] (by decide +kernel) (by decide +kernel)) (goodIn_sub (fun _ h => List.mem_cons_of_mem _ (List.mem_append_left _ (List.mem_append_right _ h))) (by decide +kernel))
set_option maxRecDepth 20000 in
theorem gX5_setWeight_X5_requireApplicant : GoodIn wsX5_setWeight (wsV RX5 81 RX5 yX5_requireApplicant wsX5_requireApplicant) := goodIn_app (goodIn_of _ (by decide +kernel)) ggX5_setWeight_X5_requireApplicant
set_option maxRecDepth 20000 in
theorem ggX5_setWeight_X5_requireNumber : GoodIn wsX5_setWeight wsX5_requireNumber := goodIn_ca (goodIn_r _ [14, 15, 16] (by decide +kernel) (by decide +kernel)) (goodIn_sub (fun _ h => List.mem_cons_of_mem _ (List.mem_append_right _ h)) (by decide +kernel))
set_option maxRecDepth 20000 in
theorem gX5_setWeight_X5_requireNumber : GoodIn wsX5_setWeight (wsV RX5 56 RX5 yX5_requireNumber wsX5_requireNumber) := goodIn_app (goodIn_of _ (by decide +kernel)) ggX5_setWeight_X5_requireNumber
theorem dX5_setWeight_0 : decode cX5_setWeight 0 = .ok (.aload_n 0, 1) := by decide +kernel
theorem dX5_setWeight_1 : decode cX5_setWeight 1 = .ok (.iload_n 1, 1) := by decide +kernel
theorem dX5_setWeight_2 : decode cX5_setWeight 2 = .ok (.invokevirtual 81, 3) := by decide +kernel
theorem dX5_setWeight_5 : decode cX5_setWeight 5 = .ok (.aload_n 0, 1) := by decide +kernel
theorem dX5_setWeight_6 : decode cX5_setWeight 6 = .ok (.iload_n 2, 1) := by decide +kernel
theorem dX5_setWeight_7 : decode cX5_setWeight 7 = .ok (.iconst 1, 1) := by decide +kernel
theorem dX5_setWeight_8 : decode cX5_setWeight 8 = .ok (.bipush 9, 2) := by decide +kernel
theorem dX5_setWeight_10 : decode cX5_setWeight 10 = .ok (.invokevirtual 56, 3) := by decide +kernel
theorem dX5_setWeight_13 : decode cX5_setWeight 13 = .ok (.aload_n 0, 1) := by decide +kernel
theorem dX5_setWeight_14 : decode cX5_setWeight 14 = .ok (.getfield 10, 3) := by decide +kernel
theorem dX5_setWeight_17 : decode cX5_setWeight 17 = .ok (.getfield 70, 3) := by decide +kernel
theorem dX5_setWeight_20 : decode cX5_setWeight 20 = .ok (.iload_n 1, 1) := by decide +kernel
theorem dX5_setWeight_21 : decode cX5_setWeight 21 = .ok (.iaload, 1) := by decide +kernel
theorem dX5_setWeight_22 : decode cX5_setWeight 22 = .ok (.istore_n 3, 1) := by decide +kernel
theorem dX5_setWeight_23 : decode cX5_setWeight 23 = .ok (.aload_n 0, 1) := by decide +kernel
theorem dX5_setWeight_24 : decode cX5_setWeight 24 = .ok (.getfield 10, 3) := by decide +kernel
theorem dX5_setWeight_27 : decode cX5_setWeight 27 = .ok (.getfield 70, 3) := by decide +kernel
theorem dX5_setWeight_30 : decode cX5_setWeight 30 = .ok (.iload_n 1, 1) := by decide +kernel
theorem dX5_setWeight_31 : decode cX5_setWeight 31 = .ok (.iload_n 2, 1) := by decide +kernel
theorem dX5_setWeight_32 : decode cX5_setWeight 32 = .ok (.iastore, 1) := by decide +kernel
theorem dX5_setWeight_33 : decode cX5_setWeight 33 = .ok (.iload_n 3, 1) := by decide +kernel
theorem dX5_setWeight_34 : decode cX5_setWeight 34 = .ok (.ireturn, 1) := by decide +kernel
set_option maxRecDepth 20000 in
theorem ggX5_setPlaces_X5_requirePost : GoodIn wsX5_setPlaces wsX5_requirePost := goodIn_ca (goodIn_r _ [10, 11, 12, 3, 13, 26, 27, 28, 29, 30, 31, 32, 33, 34, 35, 36, 37, 38, 39] (by decide +kernel) (by decide +kernel)) (goodIn_sub (fun _ h => List.mem_cons_of_mem _ (List.mem_append_left _ (List.mem_append_right _ h))) (by decide +kernel))
set_option maxRecDepth 20000 in
theorem gX5_setPlaces_X5_requirePost : GoodIn wsX5_setPlaces (wsV RX5 85 RX5 yX5_requirePost wsX5_requirePost) := goodIn_app (goodIn_of _ (by decide +kernel)) ggX5_setPlaces_X5_requirePost
set_option maxRecDepth 20000 in
theorem ggX5_setPlaces_X5_requireNumber : GoodIn wsX5_setPlaces wsX5_requireNumber := goodIn_ca (goodIn_r _ [17, 18, 19] (by decide +kernel) (by decide +kernel)) (goodIn_sub (fun _ h => List.mem_cons_of_mem _ (List.mem_append_right _ h)) (by decide +kernel))
set_option maxRecDepth 20000 in
theorem gX5_setPlaces_X5_requireNumber : GoodIn wsX5_setPlaces (wsV RX5 56 RX5 yX5_requireNumber wsX5_requireNumber) := goodIn_app (goodIn_of _ (by decide +kernel)) ggX5_setPlaces_X5_requireNumber
set_option maxRecDepth 20000 in
theorem ggX5_setPlaces_X2_takersOf : GoodIn wsX5_setPlaces wsX2_takersOf := goodIn_ca (goodIn_r _ [24, 25, 33, 34, 35, 36, 37, 38, 39] (by decide +kernel) (by decide +kernel)) (goodIn_sub (fun _ h => List.mem_cons_of_mem _ (List.mem_append_left _ (List.mem_append_left _ (List.mem_append_right _ h)))) (by decide +kernel))
set_option maxRecDepth 20000 in
theorem gX5_setPlaces_X2_takersOf : GoodIn wsX5_setPlaces (wsV RX5 88 RX2 yX2_takersOf wsX2_takersOf) := goodIn_app (goodIn_of _ (by decide +kernel)) ggX5_setPlaces_X2_takersOf
theorem dX5_setPlaces_0 : decode cX5_setPlaces 0 = .ok (.aload_n 0, 1) := by decide +kernel
theorem dX5_setPlaces_1 : decode cX5_setPlaces 1 = .ok (.iload_n 1, 1) := by decide +kernel
theorem dX5_setPlaces_2 : decode cX5_setPlaces 2 = .ok (.invokevirtual 85, 3) := by decide +kernel
theorem dX5_setPlaces_5 : decode cX5_setPlaces 5 = .ok (.aload_n 0, 1) := by decide +kernel
theorem dX5_setPlaces_6 : decode cX5_setPlaces 6 = .ok (.iload_n 2, 1) := by decide +kernel
theorem dX5_setPlaces_7 : decode cX5_setPlaces 7 = .ok (.iconst 1, 1) := by decide +kernel
theorem dX5_setPlaces_8 : decode cX5_setPlaces 8 = .ok (.iconst 4, 1) := by decide +kernel
theorem dX5_setPlaces_9 : decode cX5_setPlaces 9 = .ok (.invokevirtual 56, 3) := by decide +kernel
theorem dX5_setPlaces_12 : decode cX5_setPlaces 12 = .ok (.aload_n 0, 1) := by decide +kernel
theorem dX5_setPlaces_13 : decode cX5_setPlaces 13 = .ok (.getfield 10, 3) := by decide +kernel
theorem dX5_setPlaces_16 : decode cX5_setPlaces 16 = .ok (.iload_n 1, 1) := by decide +kernel
theorem dX5_setPlaces_17 : decode cX5_setPlaces 17 = .ok (.aload_n 0, 1) := by decide +kernel
theorem dX5_setPlaces_18 : decode cX5_setPlaces 18 = .ok (.getfield 37, 3) := by decide +kernel
theorem dX5_setPlaces_21 : decode cX5_setPlaces 21 = .ok (.invokevirtual 88, 3) := by decide +kernel
theorem dX5_setPlaces_24 : decode cX5_setPlaces 24 = .ok (.iload_n 2, 1) := by decide +kernel
theorem dX5_setPlaces_25 : decode cX5_setPlaces 25 = .ok (.if_icmp .le 13, 3) := by decide +kernel
theorem dX5_setPlaces_28 : decode cX5_setPlaces 28 = .ok (.new 92, 3) := by decide +kernel
theorem dX5_setPlaces_31 : decode cX5_setPlaces 31 = .ok (.dup, 1) := by decide +kernel
theorem dX5_setPlaces_32 : decode cX5_setPlaces 32 = .ok (.ldc 94, 2) := by decide +kernel
theorem dX5_setPlaces_34 : decode cX5_setPlaces 34 = .ok (.invokespecial 96, 3) := by decide +kernel
theorem dX5_setPlaces_37 : decode cX5_setPlaces 37 = .ok (.athrow, 1) := by decide +kernel
theorem dX5_setPlaces_38 : decode cX5_setPlaces 38 = .ok (.aload_n 0, 1) := by decide +kernel
theorem dX5_setPlaces_39 : decode cX5_setPlaces 39 = .ok (.getfield 10, 3) := by decide +kernel
theorem dX5_setPlaces_42 : decode cX5_setPlaces 42 = .ok (.getfield 78, 3) := by decide +kernel
theorem dX5_setPlaces_45 : decode cX5_setPlaces 45 = .ok (.iload_n 1, 1) := by decide +kernel
theorem dX5_setPlaces_46 : decode cX5_setPlaces 46 = .ok (.iaload, 1) := by decide +kernel
theorem dX5_setPlaces_47 : decode cX5_setPlaces 47 = .ok (.istore_n 3, 1) := by decide +kernel
theorem dX5_setPlaces_48 : decode cX5_setPlaces 48 = .ok (.aload_n 0, 1) := by decide +kernel
theorem dX5_setPlaces_49 : decode cX5_setPlaces 49 = .ok (.getfield 10, 3) := by decide +kernel
theorem dX5_setPlaces_52 : decode cX5_setPlaces 52 = .ok (.getfield 78, 3) := by decide +kernel
theorem dX5_setPlaces_55 : decode cX5_setPlaces 55 = .ok (.iload_n 1, 1) := by decide +kernel
theorem dX5_setPlaces_56 : decode cX5_setPlaces 56 = .ok (.iload_n 2, 1) := by decide +kernel
theorem dX5_setPlaces_57 : decode cX5_setPlaces 57 = .ok (.iastore, 1) := by decide +kernel
theorem dX5_setPlaces_58 : decode cX5_setPlaces 58 = .ok (.iload_n 3, 1) := by decide +kernel
theorem dX5_setPlaces_59 : decode cX5_setPlaces 59 = .ok (.ireturn, 1) := by decide +kernel
set_option maxRecDepth 20000 in
theorem ggX5_setRank_X5_requireApplicant : GoodIn wsX5_setRank wsX5_requireApplicant := goodIn_ca (goodIn_r _ [7, 8, 9, 1, 10, 38, 39, 40, 41, 42, 43, 44, 45, 46, 47, 48, 49, 50, 51] (by decide +kernel) (by decide +kernel)) (goodIn_sub (fun _ h => List.mem_cons_of_mem _ (List.mem_append_left _ (List.mem_append_right _ h))) (by decide +kernel))
set_option maxRecDepth 20000 in
theorem gX5_setRank_X5_requireApplicant : GoodIn wsX5_setRank (wsV RX5 81 RX5 yX5_requireApplicant wsX5_requireApplicant) := goodIn_app (goodIn_of _ (by decide +kernel)) ggX5_setRank_X5_requireApplicant
set_option maxRecDepth 20000 in
theorem ggX5_setRank_X5_requirePost : GoodIn wsX5_setRank wsX5_requirePost := goodIn_ca (goodIn_r _ [14, 8, 9, 1, 15, 38, 39, 40, 41, 42, 43, 44, 45, 46, 47, 48, 49, 50, 51] (by decide +kernel) (by decide +kernel)) (goodIn_sub (fun _ h => List.mem_cons_of_mem _ (List.mem_append_left _ (List.mem_append_right _ h))) (by decide +kernel))
set_option maxRecDepth 20000 in
theorem gX5_setRank_X5_requirePost : GoodIn wsX5_setRank (wsV RX5 85 RX5 yX5_requirePost wsX5_requirePost) := goodIn_app (goodIn_of _ (by decide +kernel)) ggX5_setRank_X5_requirePost
set_option maxRecDepth 20000 in
theorem ggX5_setRank_X5_requireNumber : GoodIn wsX5_setRank wsX5_requireNumber := goodIn_ca (goodIn_r _ [19, 20, 21] (by decide +kernel) (by decide +kernel)) (goodIn_sub (fun _ h => List.mem_cons_of_mem _ (List.mem_append_right _ h)) (by decide +kernel))
set_option maxRecDepth 20000 in
theorem gX5_setRank_X5_requireNumber : GoodIn wsX5_setRank (wsV RX5 56 RX5 yX5_requireNumber wsX5_requireNumber) := goodIn_app (goodIn_of _ (by decide +kernel)) ggX5_setRank_X5_requireNumber
set_option maxRecDepth 20000 in
theorem ggX5_setRank_X5_dropUnlisted : GoodIn wsX5_setRank wsX5_dropUnlisted := goodIn_ca (goodIn_r _ [25, 1, 26, 27, 28, 29, 30, 31, 32, 33, 34, 35, 36, 37, 38, 39, 40, 41, 42, 43, 44, 45, 46, 47, 48, 49, 50, 51] (by decide +kernel) (by decide +kernel)) (goodIn_sub (fun _ h => List.mem_cons_of_mem _ (List.mem_append_left _ (List.mem_append_left _ (List.mem_append_right _ h)))) (by decide +kernel))
set_option maxRecDepth 20000 in
theorem gX5_setRank_X5_dropUnlisted : GoodIn wsX5_setRank (wsV RX5 100 RX5 yX5_dropUnlisted wsX5_dropUnlisted) := goodIn_app (goodIn_of _ (by decide +kernel)) ggX5_setRank_X5_dropUnlisted
theorem dX5_setRank_0 : decode cX5_setRank 0 = .ok (.aload_n 0, 1) := by decide +kernel
theorem dX5_setRank_1 : decode cX5_setRank 1 = .ok (.iload_n 1, 1) := by decide +kernel
theorem dX5_setRank_2 : decode cX5_setRank 2 = .ok (.invokevirtual 81, 3) := by decide +kernel
theorem dX5_setRank_5 : decode cX5_setRank 5 = .ok (.aload_n 0, 1) := by decide +kernel
theorem dX5_setRank_6 : decode cX5_setRank 6 = .ok (.iload_n 2, 1) := by decide +kernel
theorem dX5_setRank_7 : decode cX5_setRank 7 = .ok (.invokevirtual 85, 3) := by decide +kernel
theorem dX5_setRank_10 : decode cX5_setRank 10 = .ok (.aload_n 0, 1) := by decide +kernel
theorem dX5_setRank_11 : decode cX5_setRank 11 = .ok (.iload_n 3, 1) := by decide +kernel
theorem dX5_setRank_12 : decode cX5_setRank 12 = .ok (.iconst 0, 1) := by decide +kernel
theorem dX5_setRank_13 : decode cX5_setRank 13 = .ok (.bipush 9, 2) := by decide +kernel
theorem dX5_setRank_15 : decode cX5_setRank 15 = .ok (.invokevirtual 56, 3) := by decide +kernel
theorem dX5_setRank_18 : decode cX5_setRank 18 = .ok (.aload_n 0, 1) := by decide +kernel
theorem dX5_setRank_19 : decode cX5_setRank 19 = .ok (.getfield 10, 3) := by decide +kernel
theorem dX5_setRank_22 : decode cX5_setRank 22 = .ok (.getfield 97, 3) := by decide +kernel
theorem dX5_setRank_25 : decode cX5_setRank 25 = .ok (.iload_n 1, 1) := by decide +kernel
theorem dX5_setRank_26 : decode cX5_setRank 26 = .ok (.aaload, 1) := by decide +kernel
theorem dX5_setRank_27 : decode cX5_setRank 27 = .ok (.iload_n 2, 1) := by decide +kernel
theorem dX5_setRank_28 : decode cX5_setRank 28 = .ok (.iaload, 1) := by decide +kernel
theorem dX5_setRank_29 : decode cX5_setRank 29 = .ok (.istore 4, 2) := by decide +kernel
theorem dX5_setRank_31 : decode cX5_setRank 31 = .ok (.aload_n 0, 1) := by decide +kernel
theorem dX5_setRank_32 : decode cX5_setRank 32 = .ok (.getfield 10, 3) := by decide +kernel
theorem dX5_setRank_35 : decode cX5_setRank 35 = .ok (.getfield 97, 3) := by decide +kernel
theorem dX5_setRank_38 : decode cX5_setRank 38 = .ok (.iload_n 1, 1) := by decide +kernel
theorem dX5_setRank_39 : decode cX5_setRank 39 = .ok (.aaload, 1) := by decide +kernel
theorem dX5_setRank_40 : decode cX5_setRank 40 = .ok (.iload_n 2, 1) := by decide +kernel
theorem dX5_setRank_41 : decode cX5_setRank 41 = .ok (.iload_n 3, 1) := by decide +kernel
theorem dX5_setRank_42 : decode cX5_setRank 42 = .ok (.iastore, 1) := by decide +kernel
theorem dX5_setRank_43 : decode cX5_setRank 43 = .ok (.aload_n 0, 1) := by decide +kernel
theorem dX5_setRank_44 : decode cX5_setRank 44 = .ok (.iload_n 1, 1) := by decide +kernel
theorem dX5_setRank_45 : decode cX5_setRank 45 = .ok (.invokevirtual 100, 3) := by decide +kernel
theorem dX5_setRank_48 : decode cX5_setRank 48 = .ok (.iload 4, 2) := by decide +kernel
theorem dX5_setRank_50 : decode cX5_setRank 50 = .ok (.ireturn, 1) := by decide +kernel
set_option maxRecDepth 20000 in
theorem ggX5_rankOf_X5_requireApplicant : GoodIn wsX5_rankOf wsX5_requireApplicant := goodIn_ca (goodIn_r _ [7, 8, 9, 1, 10, 16, 17, 18, 19, 20, 21, 22, 23, 24, 25, 26, 27, 28, 29] (by decide +kernel) (by decide +kernel)) (goodIn_sub (fun _ h => List.mem_cons_of_mem _ (List.mem_append_right _ h)) (by decide +kernel))
set_option maxRecDepth 20000 in
theorem gX5_rankOf_X5_requireApplicant : GoodIn wsX5_rankOf (wsV RX5 81 RX5 yX5_requireApplicant wsX5_requireApplicant) := goodIn_app (goodIn_of _ (by decide +kernel)) ggX5_rankOf_X5_requireApplicant
set_option maxRecDepth 20000 in
theorem ggX5_rankOf_X5_requirePost : GoodIn wsX5_rankOf wsX5_requirePost := goodIn_ca (goodIn_r _ [14, 8, 9, 1, 15, 16, 17, 18, 19, 20, 21, 22, 23, 24, 25, 26, 27, 28, 29] (by decide +kernel) (by decide +kernel)) (goodIn_sub (fun _ h => List.mem_cons_of_mem _ (List.mem_append_right _ h)) (by decide +kernel))
set_option maxRecDepth 20000 in
theorem gX5_rankOf_X5_requirePost : GoodIn wsX5_rankOf (wsV RX5 85 RX5 yX5_requirePost wsX5_requirePost) := goodIn_app (goodIn_of _ (by decide +kernel)) ggX5_rankOf_X5_requirePost
theorem dX5_rankOf_0 : decode cX5_rankOf 0 = .ok (.aload_n 0, 1) := by decide +kernel
theorem dX5_rankOf_1 : decode cX5_rankOf 1 = .ok (.iload_n 1, 1) := by decide +kernel
theorem dX5_rankOf_2 : decode cX5_rankOf 2 = .ok (.invokevirtual 81, 3) := by decide +kernel
theorem dX5_rankOf_5 : decode cX5_rankOf 5 = .ok (.aload_n 0, 1) := by decide +kernel
theorem dX5_rankOf_6 : decode cX5_rankOf 6 = .ok (.iload_n 2, 1) := by decide +kernel
theorem dX5_rankOf_7 : decode cX5_rankOf 7 = .ok (.invokevirtual 85, 3) := by decide +kernel
theorem dX5_rankOf_10 : decode cX5_rankOf 10 = .ok (.aload_n 0, 1) := by decide +kernel
theorem dX5_rankOf_11 : decode cX5_rankOf 11 = .ok (.getfield 10, 3) := by decide +kernel
theorem dX5_rankOf_14 : decode cX5_rankOf 14 = .ok (.getfield 97, 3) := by decide +kernel
theorem dX5_rankOf_17 : decode cX5_rankOf 17 = .ok (.iload_n 1, 1) := by decide +kernel
theorem dX5_rankOf_18 : decode cX5_rankOf 18 = .ok (.aaload, 1) := by decide +kernel
theorem dX5_rankOf_19 : decode cX5_rankOf 19 = .ok (.iload_n 2, 1) := by decide +kernel
theorem dX5_rankOf_20 : decode cX5_rankOf 20 = .ok (.iaload, 1) := by decide +kernel
theorem dX5_rankOf_21 : decode cX5_rankOf 21 = .ok (.ireturn, 1) := by decide +kernel
set_option maxRecDepth 20000 in
theorem ggX5_type_X4_knows : GoodIn wsX5_type wsX4_knows := goodIn_r _ [9] (by decide +kernel) (by decide +kernel)
set_option maxRecDepth 20000 in
theorem gX5_type_X4_knows : GoodIn wsX5_type (va_wsS RX5 103 yX4_knows wsX4_knows) := goodIn_app (goodIn_of _ (by decide +kernel)) ggX5_type_X4_knows
set_option maxRecDepth 20000 in
theorem ggX5_type_X4_isFull : GoodIn wsX5_type wsX4_isFull := goodIn_r _ [13, 14, 28, 29, 30] (by decide +kernel) (by decide +kernel)
set_option maxRecDepth 20000 in
theorem gX5_type_X4_isFull : GoodIn wsX5_type (wsV RX5 112 RX4 yX4_isFull wsX4_isFull) := goodIn_app (goodIn_of _ (by decide +kernel)) ggX5_type_X4_isFull
set_option maxRecDepth 20000 in
theorem ggX5_type_X4_append : GoodIn wsX5_type wsX4_append := goodIn_ca (goodIn_r _ [18, 19, 14, 20, 11, 12, 8, 13, 28, 29, 30] (by decide +kernel) (by decide +kernel)) (goodIn_sub (fun _ h => List.mem_cons_of_mem _ (List.mem_append_right _ h)) (by decide +kernel))
set_option maxRecDepth 20000 in
theorem gX5_type_X4_append : GoodIn wsX5_type (wsV RX5 118 RX4 yX4_append wsX4_append) := goodIn_app (goodIn_of _ (by decide +kernel)) ggX5_type_X4_append
theorem dX5_type_0 : decode cX5_type 0 = .ok (.iload_n 1, 1) := by decide +kernel
theorem dX5_type_1 : decode cX5_type 1 = .ok (.invokestatic 103, 3) := by decide +kernel
theorem dX5_type_4 : decode cX5_type 4 = .ok (.ifCond .ne 13, 3) := by decide +kernel
theorem dX5_type_7 : decode cX5_type 7 = .ok (.new 107, 3) := by decide +kernel
theorem dX5_type_10 : decode cX5_type 10 = .ok (.dup, 1) := by decide +kernel
theorem dX5_type_11 : decode cX5_type 11 = .ok (.ldc 109, 2) := by decide +kernel
theorem dX5_type_13 : decode cX5_type 13 = .ok (.invokespecial 111, 3) := by decide +kernel
theorem dX5_type_16 : decode cX5_type 16 = .ok (.athrow, 1) := by decide +kernel
theorem dX5_type_17 : decode cX5_type 17 = .ok (.aload_n 0, 1) := by decide +kernel
theorem dX5_type_18 : decode cX5_type 18 = .ok (.getfield 19, 3) := by decide +kernel
theorem dX5_type_21 : decode cX5_type 21 = .ok (.invokevirtual 112, 3) := by decide +kernel
theorem dX5_type_24 : decode cX5_type 24 = .ok (.ifCond .eq 13, 3) := by decide +kernel
theorem dX5_type_27 : decode cX5_type 27 = .ok (.new 63, 3) := by decide +kernel
theorem dX5_type_30 : decode cX5_type 30 = .ok (.dup, 1) := by decide +kernel
theorem dX5_type_31 : decode cX5_type 31 = .ok (.ldc 116, 2) := by decide +kernel
theorem dX5_type_33 : decode cX5_type 33 = .ok (.invokespecial 67, 3) := by decide +kernel
theorem dX5_type_36 : decode cX5_type 36 = .ok (.athrow, 1) := by decide +kernel
theorem dX5_type_37 : decode cX5_type 37 = .ok (.aload_n 0, 1) := by decide +kernel
theorem dX5_type_38 : decode cX5_type 38 = .ok (.getfield 19, 3) := by decide +kernel
theorem dX5_type_41 : decode cX5_type 41 = .ok (.iload_n 1, 1) := by decide +kernel
theorem dX5_type_42 : decode cX5_type 42 = .ok (.invokevirtual 118, 3) := by decide +kernel
theorem dX5_type_45 : decode cX5_type 45 = .ok (.ireturn, 1) := by decide +kernel
theorem dX5_wipe_0 : decode cX5_wipe 0 = .ok (.aload_n 0, 1) := by decide +kernel
theorem dX5_wipe_1 : decode cX5_wipe 1 = .ok (.getfield 19, 3) := by decide +kernel
theorem dX5_wipe_4 : decode cX5_wipe 4 = .ok (.getfield 122, 3) := by decide +kernel
theorem dX5_wipe_7 : decode cX5_wipe 7 = .ok (.istore_n 1, 1) := by decide +kernel
theorem dX5_wipe_8 : decode cX5_wipe 8 = .ok (.aload_n 0, 1) := by decide +kernel
theorem dX5_wipe_9 : decode cX5_wipe 9 = .ok (.getfield 19, 3) := by decide +kernel
theorem dX5_wipe_12 : decode cX5_wipe 12 = .ok (.iconst 0, 1) := by decide +kernel
theorem dX5_wipe_13 : decode cX5_wipe 13 = .ok (.putfield 122, 3) := by decide +kernel
theorem dX5_wipe_16 : decode cX5_wipe 16 = .ok (.iload_n 1, 1) := by decide +kernel
theorem dX5_wipe_17 : decode cX5_wipe 17 = .ok (.ireturn, 1) := by decide +kernel
set_option maxRecDepth 20000 in
theorem ggX5_tell_X5_requireApplicant : GoodIn wsX5_tell wsX5_requireApplicant := goodIn_ca (goodIn_r _ [13, 14, 15, 4, 16, 45, 46, 47, 48, 49, 50, 51, 52, 53, 54, 55, 56, 57, 58] (by decide +kernel) (by decide +kernel)) (goodIn_sub (fun _ h => List.mem_cons_of_mem _ (List.mem_append_right _ h)) (by decide +kernel))
set_option maxRecDepth 20000 in
theorem gX5_tell_X5_requireApplicant : GoodIn wsX5_tell (wsV RX5 81 RX5 yX5_requireApplicant wsX5_requireApplicant) := goodIn_app (goodIn_of _ (by decide +kernel)) ggX5_tell_X5_requireApplicant
set_option maxRecDepth 20000 in
theorem ggX5_tell_X4_read : GoodIn wsX5_tell wsX4_read := goodIn_ca (goodIn_r _ [21, 22, 23, 24, 25, 26, 27, 28, 59, 60, 61] (by decide +kernel) (by decide +kernel)) (goodIn_sub (fun _ h => List.mem_cons_of_mem _ (List.mem_append_left _ (List.mem_append_right _ h))) (by decide +kernel))
set_option maxRecDepth 20000 in
theorem gX5_tell_X4_read : GoodIn wsX5_tell (wsV RX5 125 RX4 yX4_read wsX4_read) := goodIn_app (goodIn_of _ (by decide +kernel)) ggX5_tell_X4_read
set_option maxRecDepth 20000 in
theorem ggX5_tell_X5_dropUnlisted : GoodIn wsX5_tell wsX5_dropUnlisted := goodIn_ca (goodIn_r _ [32, 4, 33, 34, 35, 36, 37, 38, 39, 40, 41, 42, 43, 44, 45, 46, 47, 48, 49, 50, 51, 52, 53, 54, 55, 56, 57, 58] (by decide +kernel) (by decide +kernel)) (goodIn_sub (fun _ h => List.mem_cons_of_mem _ (List.mem_append_left _ (List.mem_append_right _ h))) (by decide +kernel))
set_option maxRecDepth 20000 in
theorem gX5_tell_X5_dropUnlisted : GoodIn wsX5_tell (wsV RX5 100 RX5 yX5_dropUnlisted wsX5_dropUnlisted) := goodIn_app (goodIn_of _ (by decide +kernel)) ggX5_tell_X5_dropUnlisted
theorem dX5_tell_0 : decode cX5_tell 0 = .ok (.aload_n 0, 1) := by decide +kernel
theorem dX5_tell_1 : decode cX5_tell 1 = .ok (.iload_n 1, 1) := by decide +kernel
theorem dX5_tell_2 : decode cX5_tell 2 = .ok (.invokevirtual 81, 3) := by decide +kernel
theorem dX5_tell_5 : decode cX5_tell 5 = .ok (.aload_n 0, 1) := by decide +kernel
theorem dX5_tell_6 : decode cX5_tell 6 = .ok (.getfield 19, 3) := by decide +kernel
theorem dX5_tell_9 : decode cX5_tell 9 = .ok (.aload_n 0, 1) := by decide +kernel
theorem dX5_tell_10 : decode cX5_tell 10 = .ok (.getfield 10, 3) := by decide +kernel
theorem dX5_tell_13 : decode cX5_tell 13 = .ok (.getfield 73, 3) := by decide +kernel
theorem dX5_tell_16 : decode cX5_tell 16 = .ok (.invokevirtual 125, 3) := by decide +kernel
theorem dX5_tell_19 : decode cX5_tell 19 = .ok (.istore_n 2, 1) := by decide +kernel
theorem dX5_tell_20 : decode cX5_tell 20 = .ok (.iload_n 2, 1) := by decide +kernel
theorem dX5_tell_21 : decode cX5_tell 21 = .ok (.ifCond .ne 13, 3) := by decide +kernel
theorem dX5_tell_24 : decode cX5_tell 24 = .ok (.new 92, 3) := by decide +kernel
theorem dX5_tell_27 : decode cX5_tell 27 = .ok (.dup, 1) := by decide +kernel
theorem dX5_tell_28 : decode cX5_tell 28 = .ok (.ldc 129, 2) := by decide +kernel
theorem dX5_tell_30 : decode cX5_tell 30 = .ok (.invokespecial 96, 3) := by decide +kernel
theorem dX5_tell_33 : decode cX5_tell 33 = .ok (.athrow, 1) := by decide +kernel
theorem dX5_tell_34 : decode cX5_tell 34 = .ok (.iconst 0, 1) := by decide +kernel
theorem dX5_tell_35 : decode cX5_tell 35 = .ok (.istore_n 3, 1) := by decide +kernel
theorem dX5_tell_36 : decode cX5_tell 36 = .ok (.iload_n 3, 1) := by decide +kernel
theorem dX5_tell_37 : decode cX5_tell 37 = .ok (.aload_n 0, 1) := by decide +kernel
theorem dX5_tell_38 : decode cX5_tell 38 = .ok (.getfield 10, 3) := by decide +kernel
theorem dX5_tell_41 : decode cX5_tell 41 = .ok (.getfield 73, 3) := by decide +kernel
theorem dX5_tell_44 : decode cX5_tell 44 = .ok (.if_icmp .ge 29, 3) := by decide +kernel
theorem dX5_tell_47 : decode cX5_tell 47 = .ok (.aload_n 0, 1) := by decide +kernel
theorem dX5_tell_48 : decode cX5_tell 48 = .ok (.getfield 10, 3) := by decide +kernel
theorem dX5_tell_51 : decode cX5_tell 51 = .ok (.getfield 97, 3) := by decide +kernel
theorem dX5_tell_54 : decode cX5_tell 54 = .ok (.iload_n 1, 1) := by decide +kernel
theorem dX5_tell_55 : decode cX5_tell 55 = .ok (.aaload, 1) := by decide +kernel
theorem dX5_tell_56 : decode cX5_tell 56 = .ok (.iload_n 3, 1) := by decide +kernel
theorem dX5_tell_57 : decode cX5_tell 57 = .ok (.aload_n 0, 1) := by decide +kernel
theorem dX5_tell_58 : decode cX5_tell 58 = .ok (.getfield 19, 3) := by decide +kernel
theorem dX5_tell_61 : decode cX5_tell 61 = .ok (.getfield 131, 3) := by decide +kernel
theorem dX5_tell_64 : decode cX5_tell 64 = .ok (.iload_n 3, 1) := by decide +kernel
theorem dX5_tell_65 : decode cX5_tell 65 = .ok (.iaload, 1) := by decide +kernel
theorem dX5_tell_66 : decode cX5_tell 66 = .ok (.iastore, 1) := by decide +kernel
theorem dX5_tell_67 : decode cX5_tell 67 = .ok (.iinc 3 1, 3) := by decide +kernel
theorem dX5_tell_70 : decode cX5_tell 70 = .ok (.goto (-34), 3) := by decide +kernel
theorem dX5_tell_73 : decode cX5_tell 73 = .ok (.aload_n 0, 1) := by decide +kernel
theorem dX5_tell_74 : decode cX5_tell 74 = .ok (.getfield 19, 3) := by decide +kernel
theorem dX5_tell_77 : decode cX5_tell 77 = .ok (.iconst 0, 1) := by decide +kernel
theorem dX5_tell_78 : decode cX5_tell 78 = .ok (.putfield 122, 3) := by decide +kernel
theorem dX5_tell_81 : decode cX5_tell 81 = .ok (.aload_n 0, 1) := by decide +kernel
theorem dX5_tell_82 : decode cX5_tell 82 = .ok (.iload_n 1, 1) := by decide +kernel
theorem dX5_tell_83 : decode cX5_tell 83 = .ok (.invokevirtual 100, 3) := by decide +kernel
theorem dX5_tell_86 : decode cX5_tell 86 = .ok (.iload_n 2, 1) := by decide +kernel
theorem dX5_tell_87 : decode cX5_tell 87 = .ok (.ireturn, 1) := by decide +kernel
set_option maxRecDepth 20000 in
theorem ggX5_textLength_X5_requireApplicant : GoodIn wsX5_textLength wsX5_requireApplicant := goodIn_ca (goodIn_r _ [6, 7, 8, 1, 9, 22, 23, 24, 25, 26, 27, 28, 29, 30, 31, 32, 33, 34, 35] (by decide +kernel) (by decide +kernel)) (goodIn_sub (fun _ h => List.mem_cons_of_mem _ (List.mem_append_left _ (List.mem_append_right _ h))) (by decide +kernel))
set_option maxRecDepth 20000 in
theorem gX5_textLength_X5_requireApplicant : GoodIn wsX5_textLength (wsV RX5 81 RX5 yX5_requireApplicant wsX5_requireApplicant) := goodIn_app (goodIn_of _ (by decide +kernel)) ggX5_textLength_X5_requireApplicant
set_option maxRecDepth 20000 in
theorem ggX5_textLength_X2_writeText : GoodIn wsX5_textLength wsX2_writeText := goodIn_ca (goodIn_r _ [14, 15, 16, 17, 18, 19, 13, 20, 21, 29, 30, 31, 32, 33, 34, 35] (by decide +kernel) (by decide +kernel)) (goodIn_sub (fun _ h => List.mem_cons_of_mem _ (List.mem_append_right _ h)) (by decide +kernel))
set_option maxRecDepth 20000 in
theorem gX5_textLength_X2_writeText : GoodIn wsX5_textLength (wsV RX5 133 RX2 yX2_writeText wsX2_writeText) := goodIn_app (goodIn_of _ (by decide +kernel)) ggX5_textLength_X2_writeText
theorem dX5_textLength_0 : decode cX5_textLength 0 = .ok (.aload_n 0, 1) := by decide +kernel
theorem dX5_textLength_1 : decode cX5_textLength 1 = .ok (.iload_n 1, 1) := by decide +kernel
theorem dX5_textLength_2 : decode cX5_textLength 2 = .ok (.invokevirtual 81, 3) := by decide +kernel
theorem dX5_textLength_5 : decode cX5_textLength 5 = .ok (.aload_n 0, 1) := by decide +kernel
theorem dX5_textLength_6 : decode cX5_textLength 6 = .ok (.getfield 10, 3) := by decide +kernel
theorem dX5_textLength_9 : decode cX5_textLength 9 = .ok (.iload_n 1, 1) := by decide +kernel
theorem dX5_textLength_10 : decode cX5_textLength 10 = .ok (.invokevirtual 133, 3) := by decide +kernel
theorem dX5_textLength_13 : decode cX5_textLength 13 = .ok (.ireturn, 1) := by decide +kernel
set_option maxRecDepth 20000 in
theorem ggX5_textAt_X5_requireApplicant : GoodIn wsX5_textAt wsX5_requireApplicant := goodIn_ca (goodIn_r _ [9, 10, 11, 3, 12, 25, 26, 27, 28, 29, 30, 31, 32, 33, 34, 35, 36, 37, 38] (by decide +kernel) (by decide +kernel)) (goodIn_sub (fun _ h => List.mem_cons_of_mem _ (List.mem_append_right _ h)) (by decide +kernel))
set_option maxRecDepth 20000 in
theorem gX5_textAt_X5_requireApplicant : GoodIn wsX5_textAt (wsV RX5 81 RX5 yX5_requireApplicant wsX5_requireApplicant) := goodIn_app (goodIn_of _ (by decide +kernel)) ggX5_textAt_X5_requireApplicant
set_option maxRecDepth 20000 in
theorem ggX5_textAt_X2_writeText : GoodIn wsX5_textAt wsX2_writeText := goodIn_ca (goodIn_r _ [17, 18, 19, 20, 21, 22, 16, 23, 24, 32, 33, 34, 35, 36, 37, 38] (by decide +kernel) (by decide +kernel)) (goodIn_sub (fun _ h => List.mem_cons_of_mem _ (List.mem_append_left _ (List.mem_append_right _ h))) (by decide +kernel))
set_option maxRecDepth 20000 in
theorem gX5_textAt_X2_writeText : GoodIn wsX5_textAt (wsV RX5 133 RX2 yX2_writeText wsX2_writeText) := goodIn_app (goodIn_of _ (by decide +kernel)) ggX5_textAt_X2_writeText
theorem dX5_textAt_0 : decode cX5_textAt 0 = .ok (.aload_n 0, 1) := by decide +kernel
theorem dX5_textAt_1 : decode cX5_textAt 1 = .ok (.iload_n 1, 1) := by decide +kernel
theorem dX5_textAt_2 : decode cX5_textAt 2 = .ok (.invokevirtual 81, 3) := by decide +kernel
theorem dX5_textAt_5 : decode cX5_textAt 5 = .ok (.iload_n 2, 1) := by decide +kernel
theorem dX5_textAt_6 : decode cX5_textAt 6 = .ok (.ifCond .lt 15, 3) := by decide +kernel
theorem dX5_textAt_9 : decode cX5_textAt 9 = .ok (.iload_n 2, 1) := by decide +kernel
theorem dX5_textAt_10 : decode cX5_textAt 10 = .ok (.aload_n 0, 1) := by decide +kernel
theorem dX5_textAt_11 : decode cX5_textAt 11 = .ok (.getfield 10, 3) := by decide +kernel
theorem dX5_textAt_14 : decode cX5_textAt 14 = .ok (.iload_n 1, 1) := by decide +kernel
theorem dX5_textAt_15 : decode cX5_textAt 15 = .ok (.invokevirtual 133, 3) := by decide +kernel
theorem dX5_textAt_18 : decode cX5_textAt 18 = .ok (.if_icmp .lt 13, 3) := by decide +kernel
theorem dX5_textAt_21 : decode cX5_textAt 21 = .ok (.new 136, 3) := by decide +kernel
theorem dX5_textAt_24 : decode cX5_textAt 24 = .ok (.dup, 1) := by decide +kernel
theorem dX5_textAt_25 : decode cX5_textAt 25 = .ok (.ldc 138, 2) := by decide +kernel
theorem dX5_textAt_27 : decode cX5_textAt 27 = .ok (.invokespecial 140, 3) := by decide +kernel
theorem dX5_textAt_30 : decode cX5_textAt 30 = .ok (.athrow, 1) := by decide +kernel
theorem dX5_textAt_31 : decode cX5_textAt 31 = .ok (.aload_n 0, 1) := by decide +kernel
theorem dX5_textAt_32 : decode cX5_textAt 32 = .ok (.getfield 10, 3) := by decide +kernel
theorem dX5_textAt_35 : decode cX5_textAt 35 = .ok (.getfield 141, 3) := by decide +kernel
theorem dX5_textAt_38 : decode cX5_textAt 38 = .ok (.iload_n 2, 1) := by decide +kernel
theorem dX5_textAt_39 : decode cX5_textAt 39 = .ok (.caload, 1) := by decide +kernel
theorem dX5_textAt_40 : decode cX5_textAt 40 = .ok (.ireturn, 1) := by decide +kernel
set_option maxRecDepth 20000 in
theorem ggX5_assign_X5_requireApplicant : GoodIn wsX5_assign wsX5_requireApplicant := goodIn_ca (goodIn_r _ [9, 10, 11, 4, 12, 39, 40, 41, 42, 43, 44, 45, 46, 47, 48, 49, 50, 51, 52] (by decide +kernel) (by decide +kernel)) (goodIn_sub (fun _ h => List.mem_cons_of_mem _ (List.mem_append_right _ h)) (by decide +kernel))
set_option maxRecDepth 20000 in
theorem gX5_assign_X5_requireApplicant : GoodIn wsX5_assign (wsV RX5 81 RX5 yX5_requireApplicant wsX5_requireApplicant) := goodIn_app (goodIn_of _ (by decide +kernel)) ggX5_assign_X5_requireApplicant
set_option maxRecDepth 20000 in
theorem ggX5_assign_X5_requirePost : GoodIn wsX5_assign wsX5_requirePost := goodIn_ca (goodIn_r _ [16, 10, 11, 4, 17, 39, 40, 41, 42, 43, 44, 45, 46, 47, 48, 49, 50, 51, 52] (by decide +kernel) (by decide +kernel)) (goodIn_sub (fun _ h => List.mem_cons_of_mem _ (List.mem_append_right _ h)) (by decide +kernel))
set_option maxRecDepth 20000 in
theorem gX5_assign_X5_requirePost : GoodIn wsX5_assign (wsV RX5 85 RX5 yX5_requirePost wsX5_requirePost) := goodIn_app (goodIn_of _ (by decide +kernel)) ggX5_assign_X5_requirePost
set_option maxRecDepth 20000 in
theorem ggX5_assign_X2_lists : GoodIn wsX5_assign wsX2_lists := goodIn_ca (goodIn_r _ [22, 23, 24, 25, 21, 26, 27, 28, 46, 47, 48, 49, 50, 51, 52] (by decide +kernel) (by decide +kernel)) (goodIn_sub (fun _ h => List.mem_cons_of_mem _ (List.mem_append_left _ (List.mem_append_left _ (List.mem_append_right _ h)))) (by decide +kernel))
set_option maxRecDepth 20000 in
theorem gX5_assign_X2_lists : GoodIn wsX5_assign (wsV RX5 145 RX2 yX2_lists wsX2_lists) := goodIn_app (goodIn_of _ (by decide +kernel)) ggX5_assign_X2_lists
set_option maxRecDepth 20000 in
theorem ggX5_assign_X5_freePlaces : GoodIn wsX5_assign wsX5_freePlaces := goodIn_ca (goodIn_r _ [32, 4, 33, 3, 34, 35, 36, 21, 37, 38, 39, 40, 41, 42, 43, 44, 45, 46, 47, 48, 49, 50, 51, 52] (by decide +kernel) (by decide +kernel)) (goodIn_sub (fun _ h => List.mem_cons_of_mem _ (List.mem_append_left _ (List.mem_append_left _ (List.mem_append_right _ h)))) (by decide +kernel))
set_option maxRecDepth 20000 in
theorem gX5_assign_X5_freePlaces : GoodIn wsX5_assign (wsV RX5 149 RX5 yX5_freePlaces wsX5_freePlaces) := goodIn_app (goodIn_of _ (by decide +kernel)) ggX5_assign_X5_freePlaces
theorem dX5_assign_0 : decode cX5_assign 0 = .ok (.aload_n 0, 1) := by decide +kernel
theorem dX5_assign_1 : decode cX5_assign 1 = .ok (.iload_n 1, 1) := by decide +kernel
theorem dX5_assign_2 : decode cX5_assign 2 = .ok (.invokevirtual 81, 3) := by decide +kernel
theorem dX5_assign_5 : decode cX5_assign 5 = .ok (.aload_n 0, 1) := by decide +kernel
theorem dX5_assign_6 : decode cX5_assign 6 = .ok (.iload_n 2, 1) := by decide +kernel
theorem dX5_assign_7 : decode cX5_assign 7 = .ok (.invokevirtual 85, 3) := by decide +kernel
theorem dX5_assign_10 : decode cX5_assign 10 = .ok (.aload_n 0, 1) := by decide +kernel
theorem dX5_assign_11 : decode cX5_assign 11 = .ok (.getfield 37, 3) := by decide +kernel
theorem dX5_assign_14 : decode cX5_assign 14 = .ok (.iload_n 1, 1) := by decide +kernel
theorem dX5_assign_15 : decode cX5_assign 15 = .ok (.iaload, 1) := by decide +kernel
theorem dX5_assign_16 : decode cX5_assign 16 = .ok (.istore_n 3, 1) := by decide +kernel
theorem dX5_assign_17 : decode cX5_assign 17 = .ok (.iload_n 3, 1) := by decide +kernel
theorem dX5_assign_18 : decode cX5_assign 18 = .ok (.iload_n 2, 1) := by decide +kernel
theorem dX5_assign_19 : decode cX5_assign 19 = .ok (.if_icmp .eq 23, 3) := by decide +kernel
theorem dX5_assign_22 : decode cX5_assign 22 = .ok (.aload_n 0, 1) := by decide +kernel
theorem dX5_assign_23 : decode cX5_assign 23 = .ok (.getfield 10, 3) := by decide +kernel
theorem dX5_assign_26 : decode cX5_assign 26 = .ok (.iload_n 1, 1) := by decide +kernel
theorem dX5_assign_27 : decode cX5_assign 27 = .ok (.iload_n 2, 1) := by decide +kernel
theorem dX5_assign_28 : decode cX5_assign 28 = .ok (.invokevirtual 145, 3) := by decide +kernel
theorem dX5_assign_31 : decode cX5_assign 31 = .ok (.ifCond .eq 11, 3) := by decide +kernel
theorem dX5_assign_34 : decode cX5_assign 34 = .ok (.aload_n 0, 1) := by decide +kernel
theorem dX5_assign_35 : decode cX5_assign 35 = .ok (.iload_n 2, 1) := by decide +kernel
theorem dX5_assign_36 : decode cX5_assign 36 = .ok (.invokevirtual 149, 3) := by decide +kernel
theorem dX5_assign_39 : decode cX5_assign 39 = .ok (.ifCond .gt 13, 3) := by decide +kernel
theorem dX5_assign_42 : decode cX5_assign 42 = .ok (.new 92, 3) := by decide +kernel
theorem dX5_assign_45 : decode cX5_assign 45 = .ok (.dup, 1) := by decide +kernel
theorem dX5_assign_46 : decode cX5_assign 46 = .ok (.ldc 152, 2) := by decide +kernel
theorem dX5_assign_48 : decode cX5_assign 48 = .ok (.invokespecial 96, 3) := by decide +kernel
theorem dX5_assign_51 : decode cX5_assign 51 = .ok (.athrow, 1) := by decide +kernel
theorem dX5_assign_52 : decode cX5_assign 52 = .ok (.aload_n 0, 1) := by decide +kernel
theorem dX5_assign_53 : decode cX5_assign 53 = .ok (.getfield 37, 3) := by decide +kernel
theorem dX5_assign_56 : decode cX5_assign 56 = .ok (.iload_n 1, 1) := by decide +kernel
theorem dX5_assign_57 : decode cX5_assign 57 = .ok (.iload_n 2, 1) := by decide +kernel
theorem dX5_assign_58 : decode cX5_assign 58 = .ok (.iastore, 1) := by decide +kernel
theorem dX5_assign_59 : decode cX5_assign 59 = .ok (.iload_n 3, 1) := by decide +kernel
theorem dX5_assign_60 : decode cX5_assign 60 = .ok (.ireturn, 1) := by decide +kernel
set_option maxRecDepth 20000 in
theorem ggX5_release_X5_requireApplicant : GoodIn wsX5_release wsX5_requireApplicant := goodIn_ca (goodIn_r _ [8, 9, 10, 11, 12, 13, 14, 15, 16, 17, 18, 19, 20, 21, 22, 23, 24, 25, 26] (by decide +kernel) (by decide +kernel)) (goodIn_sub (fun _ h => List.mem_cons_of_mem _ (List.mem_append_right _ h)) (by decide +kernel))
set_option maxRecDepth 20000 in
theorem gX5_release_X5_requireApplicant : GoodIn wsX5_release (wsV RX5 81 RX5 yX5_requireApplicant wsX5_requireApplicant) := goodIn_app (goodIn_of _ (by decide +kernel)) ggX5_release_X5_requireApplicant
theorem dX5_release_0 : decode cX5_release 0 = .ok (.aload_n 0, 1) := by decide +kernel
theorem dX5_release_1 : decode cX5_release 1 = .ok (.iload_n 1, 1) := by decide +kernel
theorem dX5_release_2 : decode cX5_release 2 = .ok (.invokevirtual 81, 3) := by decide +kernel
theorem dX5_release_5 : decode cX5_release 5 = .ok (.aload_n 0, 1) := by decide +kernel
theorem dX5_release_6 : decode cX5_release 6 = .ok (.getfield 37, 3) := by decide +kernel
theorem dX5_release_9 : decode cX5_release 9 = .ok (.iload_n 1, 1) := by decide +kernel
theorem dX5_release_10 : decode cX5_release 10 = .ok (.iaload, 1) := by decide +kernel
theorem dX5_release_11 : decode cX5_release 11 = .ok (.istore_n 2, 1) := by decide +kernel
theorem dX5_release_12 : decode cX5_release 12 = .ok (.iload_n 2, 1) := by decide +kernel
theorem dX5_release_13 : decode cX5_release 13 = .ok (.iconst (-1), 1) := by decide +kernel
theorem dX5_release_14 : decode cX5_release 14 = .ok (.if_icmp .ne 13, 3) := by decide +kernel
theorem dX5_release_17 : decode cX5_release 17 = .ok (.new 136, 3) := by decide +kernel
theorem dX5_release_20 : decode cX5_release 20 = .ok (.dup, 1) := by decide +kernel
theorem dX5_release_21 : decode cX5_release 21 = .ok (.ldc 154, 2) := by decide +kernel
theorem dX5_release_23 : decode cX5_release 23 = .ok (.invokespecial 140, 3) := by decide +kernel
theorem dX5_release_26 : decode cX5_release 26 = .ok (.athrow, 1) := by decide +kernel
theorem dX5_release_27 : decode cX5_release 27 = .ok (.aload_n 0, 1) := by decide +kernel
theorem dX5_release_28 : decode cX5_release 28 = .ok (.getfield 37, 3) := by decide +kernel
theorem dX5_release_31 : decode cX5_release 31 = .ok (.iload_n 1, 1) := by decide +kernel
theorem dX5_release_32 : decode cX5_release 32 = .ok (.iconst (-1), 1) := by decide +kernel
theorem dX5_release_33 : decode cX5_release 33 = .ok (.iastore, 1) := by decide +kernel
theorem dX5_release_34 : decode cX5_release 34 = .ok (.iload_n 2, 1) := by decide +kernel
theorem dX5_release_35 : decode cX5_release 35 = .ok (.ireturn, 1) := by decide +kernel
set_option maxRecDepth 20000 in
theorem ggX5_postOf_X5_requireApplicant : GoodIn wsX5_postOf wsX5_requireApplicant := goodIn_ca (goodIn_r _ [6, 7, 8, 9, 10, 11, 12, 13, 14, 15, 16, 17, 18, 19, 20, 21, 22, 23, 24] (by decide +kernel) (by decide +kernel)) (goodIn_sub (fun _ h => List.mem_cons_of_mem _ (List.mem_append_right _ h)) (by decide +kernel))
set_option maxRecDepth 20000 in
theorem gX5_postOf_X5_requireApplicant : GoodIn wsX5_postOf (wsV RX5 81 RX5 yX5_requireApplicant wsX5_requireApplicant) := goodIn_app (goodIn_of _ (by decide +kernel)) ggX5_postOf_X5_requireApplicant
theorem dX5_postOf_0 : decode cX5_postOf 0 = .ok (.aload_n 0, 1) := by decide +kernel
theorem dX5_postOf_1 : decode cX5_postOf 1 = .ok (.iload_n 1, 1) := by decide +kernel
theorem dX5_postOf_2 : decode cX5_postOf 2 = .ok (.invokevirtual 81, 3) := by decide +kernel
theorem dX5_postOf_5 : decode cX5_postOf 5 = .ok (.aload_n 0, 1) := by decide +kernel
theorem dX5_postOf_6 : decode cX5_postOf 6 = .ok (.getfield 37, 3) := by decide +kernel
theorem dX5_postOf_9 : decode cX5_postOf 9 = .ok (.iload_n 1, 1) := by decide +kernel
theorem dX5_postOf_10 : decode cX5_postOf 10 = .ok (.iaload, 1) := by decide +kernel
theorem dX5_postOf_11 : decode cX5_postOf 11 = .ok (.ireturn, 1) := by decide +kernel
set_option maxRecDepth 20000 in
theorem ggX5_freeOf_X5_requirePost : GoodIn wsX5_freeOf wsX5_requirePost := goodIn_ca (goodIn_r _ [5, 6, 7, 8, 9, 22, 23, 24, 25, 26, 27, 28, 29, 30, 31, 32, 33, 34, 35] (by decide +kernel) (by decide +kernel)) (goodIn_sub (fun _ h => List.mem_cons_of_mem _ (List.mem_append_left _ (List.mem_append_right _ h))) (by decide +kernel))
set_option maxRecDepth 20000 in
theorem gX5_freeOf_X5_requirePost : GoodIn wsX5_freeOf (wsV RX5 85 RX5 yX5_requirePost wsX5_requirePost) := goodIn_app (goodIn_of _ (by decide +kernel)) ggX5_freeOf_X5_requirePost
set_option maxRecDepth 20000 in
theorem ggX5_freeOf_X5_freePlaces : GoodIn wsX5_freeOf wsX5_freePlaces := goodIn_ca (goodIn_r _ [13, 8, 14, 15, 16, 17, 18, 19, 20, 21, 22, 23, 24, 25, 26, 27, 28, 29, 30, 31, 32, 33, 34, 35] (by decide +kernel) (by decide +kernel)) (goodIn_sub (fun _ h => List.mem_cons_of_mem _ (List.mem_append_right _ h)) (by decide +kernel))
set_option maxRecDepth 20000 in
theorem gX5_freeOf_X5_freePlaces : GoodIn wsX5_freeOf (wsV RX5 149 RX5 yX5_freePlaces wsX5_freePlaces) := goodIn_app (goodIn_of _ (by decide +kernel)) ggX5_freeOf_X5_freePlaces
theorem dX5_freeOf_0 : decode cX5_freeOf 0 = .ok (.aload_n 0, 1) := by decide +kernel
theorem dX5_freeOf_1 : decode cX5_freeOf 1 = .ok (.iload_n 1, 1) := by decide +kernel
theorem dX5_freeOf_2 : decode cX5_freeOf 2 = .ok (.invokevirtual 85, 3) := by decide +kernel
theorem dX5_freeOf_5 : decode cX5_freeOf 5 = .ok (.aload_n 0, 1) := by decide +kernel
theorem dX5_freeOf_6 : decode cX5_freeOf 6 = .ok (.iload_n 1, 1) := by decide +kernel
theorem dX5_freeOf_7 : decode cX5_freeOf 7 = .ok (.invokevirtual 149, 3) := by decide +kernel
theorem dX5_freeOf_10 : decode cX5_freeOf 10 = .ok (.ireturn, 1) := by decide +kernel
theorem dX5_keep_0 : decode cX5_keep 0 = .ok (.aload_n 0, 1) := by decide +kernel
theorem dX5_keep_1 : decode cX5_keep 1 = .ok (.getfield 46, 3) := by decide +kernel
theorem dX5_keep_4 : decode cX5_keep 4 = .ok (.bipush 10, 2) := by decide +kernel
theorem dX5_keep_6 : decode cX5_keep 6 = .ok (.if_icmp .lt 13, 3) := by decide +kernel
theorem dX5_keep_9 : decode cX5_keep 9 = .ok (.new 63, 3) := by decide +kernel
theorem dX5_keep_12 : decode cX5_keep 12 = .ok (.dup, 1) := by decide +kernel
theorem dX5_keep_13 : decode cX5_keep 13 = .ok (.ldc 156, 2) := by decide +kernel
theorem dX5_keep_15 : decode cX5_keep 15 = .ok (.invokespecial 67, 3) := by decide +kernel
theorem dX5_keep_18 : decode cX5_keep 18 = .ok (.athrow, 1) := by decide +kernel
theorem dX5_keep_19 : decode cX5_keep 19 = .ok (.aload_n 0, 1) := by decide +kernel
theorem dX5_keep_20 : decode cX5_keep 20 = .ok (.getfield 46, 3) := by decide +kernel
theorem dX5_keep_23 : decode cX5_keep 23 = .ok (.istore_n 1, 1) := by decide +kernel
theorem dX5_keep_24 : decode cX5_keep 24 = .ok (.aload_n 0, 1) := by decide +kernel
theorem dX5_keep_25 : decode cX5_keep 25 = .ok (.getfield 37, 3) := by decide +kernel
theorem dX5_keep_28 : decode cX5_keep 28 = .ok (.iconst 0, 1) := by decide +kernel
theorem dX5_keep_29 : decode cX5_keep 29 = .ok (.aload_n 0, 1) := by decide +kernel
theorem dX5_keep_30 : decode cX5_keep 30 = .ok (.getfield 43, 3) := by decide +kernel
theorem dX5_keep_33 : decode cX5_keep 33 = .ok (.iload_n 1, 1) := by decide +kernel
theorem dX5_keep_34 : decode cX5_keep 34 = .ok (.aaload, 1) := by decide +kernel
theorem dX5_keep_35 : decode cX5_keep 35 = .ok (.iconst 0, 1) := by decide +kernel
theorem dX5_keep_36 : decode cX5_keep 36 = .ok (.bipush 10, 2) := by decide +kernel
theorem dX5_keep_38 : decode cX5_keep 38 = .ok (.invokestatic 158, 3) := by decide +kernel
theorem dX5_keep_41 : decode cX5_keep 41 = .ok (.aload_n 0, 1) := by decide +kernel
theorem dX5_keep_42 : decode cX5_keep 42 = .ok (.iload_n 1, 1) := by decide +kernel
theorem dX5_keep_43 : decode cX5_keep 43 = .ok (.iconst 1, 1) := by decide +kernel
theorem dX5_keep_44 : decode cX5_keep 44 = .ok (.iadd, 1) := by decide +kernel
theorem dX5_keep_45 : decode cX5_keep 45 = .ok (.putfield 46, 3) := by decide +kernel
theorem dX5_keep_48 : decode cX5_keep 48 = .ok (.iload_n 1, 1) := by decide +kernel
theorem dX5_keep_49 : decode cX5_keep 49 = .ok (.ireturn, 1) := by decide +kernel
set_option maxRecDepth 20000 in
theorem ggX5_take_X5_requireKept : GoodIn wsX5_take wsX5_requireKept := goodIn_ca (goodIn_r _ [14, 15, 16, 17, 45, 46, 47, 48, 49, 50, 51] (by decide +kernel) (by decide +kernel)) (goodIn_sub (fun _ h => List.mem_cons_of_mem _ (List.mem_append_left _ (List.mem_append_right _ h))) (by decide +kernel))
set_option maxRecDepth 20000 in
theorem gX5_take_X5_requireKept : GoodIn wsX5_take (wsV RX5 164 RX5 yX5_requireKept wsX5_requireKept) := goodIn_app (goodIn_of _ (by decide +kernel)) ggX5_take_X5_requireKept
set_option maxRecDepth 20000 in
theorem ggX5_take_X2_allows : GoodIn wsX5_take wsX2_allows := goodIn_ca (goodIn_r _ [22, 23, 24, 25, 26, 27, 28, 29, 30, 31, 32, 21, 33, 34, 35, 36, 37, 38, 39, 52, 53, 54, 55, 56, 57, 58] (by decide +kernel) (by decide +kernel)) (goodIn_sub (fun _ h => List.mem_cons_of_mem _ (List.mem_append_right _ h)) (by decide +kernel))
set_option maxRecDepth 20000 in
theorem gX5_take_X2_allows : GoodIn wsX5_take (wsV RX5 167 RX2 yX2_allows wsX2_allows) := goodIn_app (goodIn_of _ (by decide +kernel)) ggX5_take_X2_allows
set_option maxRecDepth 20000 in
theorem ggX5_take_X5_countMatched : GoodIn wsX5_take wsX5_countMatched := goodIn_ca (goodIn_r _ [43, 3, 44, 5, 45, 46, 47, 48, 49, 50, 51, 52, 53, 54, 55, 56, 57, 58] (by decide +kernel) (by decide +kernel)) (goodIn_sub (fun _ h => List.mem_cons_of_mem _ (List.mem_append_right _ h)) (by decide +kernel))
set_option maxRecDepth 20000 in
theorem gX5_take_X5_countMatched : GoodIn wsX5_take (wsV RX5 173 RX5 yX5_countMatched wsX5_countMatched) := goodIn_app (goodIn_of _ (by decide +kernel)) ggX5_take_X5_countMatched
theorem dX5_take_0 : decode cX5_take 0 = .ok (.aload_n 0, 1) := by decide +kernel
theorem dX5_take_1 : decode cX5_take 1 = .ok (.iload_n 1, 1) := by decide +kernel
theorem dX5_take_2 : decode cX5_take 2 = .ok (.invokevirtual 164, 3) := by decide +kernel
theorem dX5_take_5 : decode cX5_take 5 = .ok (.aload_n 0, 1) := by decide +kernel
theorem dX5_take_6 : decode cX5_take 6 = .ok (.getfield 10, 3) := by decide +kernel
theorem dX5_take_9 : decode cX5_take 9 = .ok (.aload_n 0, 1) := by decide +kernel
theorem dX5_take_10 : decode cX5_take 10 = .ok (.getfield 43, 3) := by decide +kernel
theorem dX5_take_13 : decode cX5_take 13 = .ok (.iload_n 1, 1) := by decide +kernel
theorem dX5_take_14 : decode cX5_take 14 = .ok (.aaload, 1) := by decide +kernel
theorem dX5_take_15 : decode cX5_take 15 = .ok (.invokevirtual 167, 3) := by decide +kernel
theorem dX5_take_18 : decode cX5_take 18 = .ok (.ifCond .ne 13, 3) := by decide +kernel
theorem dX5_take_21 : decode cX5_take 21 = .ok (.new 92, 3) := by decide +kernel
theorem dX5_take_24 : decode cX5_take 24 = .ok (.dup, 1) := by decide +kernel
theorem dX5_take_25 : decode cX5_take 25 = .ok (.ldc 171, 2) := by decide +kernel
theorem dX5_take_27 : decode cX5_take 27 = .ok (.invokespecial 96, 3) := by decide +kernel
theorem dX5_take_30 : decode cX5_take 30 = .ok (.athrow, 1) := by decide +kernel
theorem dX5_take_31 : decode cX5_take 31 = .ok (.aload_n 0, 1) := by decide +kernel
theorem dX5_take_32 : decode cX5_take 32 = .ok (.getfield 43, 3) := by decide +kernel
theorem dX5_take_35 : decode cX5_take 35 = .ok (.iload_n 1, 1) := by decide +kernel
theorem dX5_take_36 : decode cX5_take 36 = .ok (.aaload, 1) := by decide +kernel
theorem dX5_take_37 : decode cX5_take 37 = .ok (.iconst 0, 1) := by decide +kernel
theorem dX5_take_38 : decode cX5_take 38 = .ok (.aload_n 0, 1) := by decide +kernel
theorem dX5_take_39 : decode cX5_take 39 = .ok (.getfield 37, 3) := by decide +kernel
theorem dX5_take_42 : decode cX5_take 42 = .ok (.iconst 0, 1) := by decide +kernel
theorem dX5_take_43 : decode cX5_take 43 = .ok (.bipush 10, 2) := by decide +kernel
theorem dX5_take_45 : decode cX5_take 45 = .ok (.invokestatic 158, 3) := by decide +kernel
theorem dX5_take_48 : decode cX5_take 48 = .ok (.aload_n 0, 1) := by decide +kernel
theorem dX5_take_49 : decode cX5_take 49 = .ok (.invokevirtual 173, 3) := by decide +kernel
theorem dX5_take_52 : decode cX5_take 52 = .ok (.ireturn, 1) := by decide +kernel
set_option maxRecDepth 20000 in
theorem ggX5_keptPost_X5_requireKept : GoodIn wsX5_keptPost wsX5_requireKept := goodIn_ca (goodIn_r _ [6, 7, 8, 9, 16, 17, 18, 19, 20, 21, 22] (by decide +kernel) (by decide +kernel)) (goodIn_sub (fun _ h => List.mem_cons_of_mem _ (List.mem_append_right _ h)) (by decide +kernel))
set_option maxRecDepth 20000 in
theorem gX5_keptPost_X5_requireKept : GoodIn wsX5_keptPost (wsV RX5 164 RX5 yX5_requireKept wsX5_requireKept) := goodIn_app (goodIn_of _ (by decide +kernel)) ggX5_keptPost_X5_requireKept
set_option maxRecDepth 20000 in
theorem ggX5_keptPost_X5_requireApplicant : GoodIn wsX5_keptPost wsX5_requireApplicant := goodIn_ca (goodIn_r _ [13, 7, 8, 14, 15, 16, 17, 18, 19, 20, 21, 22, 23, 24, 25, 26, 27, 28, 29] (by decide +kernel) (by decide +kernel)) (goodIn_sub (fun _ h => List.mem_cons_of_mem _ (List.mem_append_right _ h)) (by decide +kernel))
set_option maxRecDepth 20000 in
theorem gX5_keptPost_X5_requireApplicant : GoodIn wsX5_keptPost (wsV RX5 81 RX5 yX5_requireApplicant wsX5_requireApplicant) := goodIn_app (goodIn_of _ (by decide +kernel)) ggX5_keptPost_X5_requireApplicant
theorem dX5_keptPost_0 : decode cX5_keptPost 0 = .ok (.aload_n 0, 1) := by decide +kernel
theorem dX5_keptPost_1 : decode cX5_keptPost 1 = .ok (.iload_n 1, 1) := by decide +kernel
theorem dX5_keptPost_2 : decode cX5_keptPost 2 = .ok (.invokevirtual 164, 3) := by decide +kernel
theorem dX5_keptPost_5 : decode cX5_keptPost 5 = .ok (.aload_n 0, 1) := by decide +kernel
theorem dX5_keptPost_6 : decode cX5_keptPost 6 = .ok (.iload_n 2, 1) := by decide +kernel
theorem dX5_keptPost_7 : decode cX5_keptPost 7 = .ok (.invokevirtual 81, 3) := by decide +kernel
theorem dX5_keptPost_10 : decode cX5_keptPost 10 = .ok (.aload_n 0, 1) := by decide +kernel
theorem dX5_keptPost_11 : decode cX5_keptPost 11 = .ok (.getfield 43, 3) := by decide +kernel
theorem dX5_keptPost_14 : decode cX5_keptPost 14 = .ok (.iload_n 1, 1) := by decide +kernel
theorem dX5_keptPost_15 : decode cX5_keptPost 15 = .ok (.aaload, 1) := by decide +kernel
theorem dX5_keptPost_16 : decode cX5_keptPost 16 = .ok (.iload_n 2, 1) := by decide +kernel
theorem dX5_keptPost_17 : decode cX5_keptPost 17 = .ok (.iaload, 1) := by decide +kernel
theorem dX5_keptPost_18 : decode cX5_keptPost 18 = .ok (.ireturn, 1) := by decide +kernel
set_option maxRecDepth 20000 in
theorem ggX5_votes_X5_requireMatching : GoodIn wsX5_votes wsX5_requireMatching := goodIn_ca (goodIn_r _ [6, 7, 8, 9, 5, 10, 11, 12, 13, 33, 34, 35, 36, 37, 38, 39] (by decide +kernel) (by decide +kernel)) (goodIn_sub (fun _ h => List.mem_cons_of_mem _ (List.mem_append_left _ (List.mem_append_right _ h))) (by decide +kernel))
set_option maxRecDepth 20000 in
theorem gX5_votes_X5_requireMatching : GoodIn wsX5_votes (wsV RX5 177 RX5 yX5_requireMatching wsX5_requireMatching) := goodIn_app (goodIn_of _ (by decide +kernel)) ggX5_votes_X5_requireMatching
set_option maxRecDepth 20000 in
theorem ggX5_votes_X5_rowOf : GoodIn wsX5_votes wsX5_rowOf := goodIn_r _ [17, 13, 18, 19, 33, 34, 35, 36, 37, 38, 39] (by decide +kernel) (by decide +kernel)
set_option maxRecDepth 20000 in
theorem gX5_votes_X5_rowOf : GoodIn wsX5_votes (wsV RX5 180 RX5 yX5_rowOf wsX5_rowOf) := goodIn_app (goodIn_of _ (by decide +kernel)) ggX5_votes_X5_rowOf
set_option maxRecDepth 20000 in
theorem ggX5_votes_X2_weightFor : GoodIn wsX5_votes wsX2_weightFor := goodIn_ca (goodIn_r _ [24, 25, 26, 27, 28, 29, 23, 30, 31, 32, 40, 41, 42, 43, 44, 45, 46] (by decide +kernel) (by decide +kernel)) (goodIn_sub (fun _ h => List.mem_cons_of_mem _ (List.mem_append_right _ h)) (by decide +kernel))
set_option maxRecDepth 20000 in
theorem gX5_votes_X2_weightFor : GoodIn wsX5_votes (wsV RX5 184 RX2 yX2_weightFor wsX2_weightFor) := goodIn_app (goodIn_of _ (by decide +kernel)) ggX5_votes_X2_weightFor
theorem dX5_votes_0 : decode cX5_votes 0 = .ok (.aload_n 0, 1) := by decide +kernel
theorem dX5_votes_1 : decode cX5_votes 1 = .ok (.iload_n 1, 1) := by decide +kernel
theorem dX5_votes_2 : decode cX5_votes 2 = .ok (.invokevirtual 177, 3) := by decide +kernel
theorem dX5_votes_5 : decode cX5_votes 5 = .ok (.aload_n 0, 1) := by decide +kernel
theorem dX5_votes_6 : decode cX5_votes 6 = .ok (.iload_n 2, 1) := by decide +kernel
theorem dX5_votes_7 : decode cX5_votes 7 = .ok (.invokevirtual 177, 3) := by decide +kernel
theorem dX5_votes_10 : decode cX5_votes 10 = .ok (.aload_n 0, 1) := by decide +kernel
theorem dX5_votes_11 : decode cX5_votes 11 = .ok (.getfield 10, 3) := by decide +kernel
theorem dX5_votes_14 : decode cX5_votes 14 = .ok (.aload_n 0, 1) := by decide +kernel
theorem dX5_votes_15 : decode cX5_votes 15 = .ok (.iload_n 1, 1) := by decide +kernel
theorem dX5_votes_16 : decode cX5_votes 16 = .ok (.invokevirtual 180, 3) := by decide +kernel
theorem dX5_votes_19 : decode cX5_votes 19 = .ok (.aload_n 0, 1) := by decide +kernel
theorem dX5_votes_20 : decode cX5_votes 20 = .ok (.iload_n 2, 1) := by decide +kernel
theorem dX5_votes_21 : decode cX5_votes 21 = .ok (.invokevirtual 180, 3) := by decide +kernel
theorem dX5_votes_24 : decode cX5_votes 24 = .ok (.invokevirtual 184, 3) := by decide +kernel
theorem dX5_votes_27 : decode cX5_votes 27 = .ok (.ireturn, 1) := by decide +kernel
set_option maxRecDepth 20000 in
theorem ggX5_margin_X5_requireMatching : GoodIn wsX5_margin wsX5_requireMatching := goodIn_ca (goodIn_r _ [6, 7, 8, 9, 5, 10, 11, 12, 13, 37, 38, 39, 40, 41, 42, 43] (by decide +kernel) (by decide +kernel)) (goodIn_sub (fun _ h => List.mem_cons_of_mem _ (List.mem_append_left _ (List.mem_append_right _ h))) (by decide +kernel))
set_option maxRecDepth 20000 in
theorem gX5_margin_X5_requireMatching : GoodIn wsX5_margin (wsV RX5 177 RX5 yX5_requireMatching wsX5_requireMatching) := goodIn_app (goodIn_of _ (by decide +kernel)) ggX5_margin_X5_requireMatching
set_option maxRecDepth 20000 in
theorem ggX5_margin_X5_rowOf : GoodIn wsX5_margin wsX5_rowOf := goodIn_r _ [17, 13, 18, 19, 37, 38, 39, 40, 41, 42, 43] (by decide +kernel) (by decide +kernel)
set_option maxRecDepth 20000 in
theorem gX5_margin_X5_rowOf : GoodIn wsX5_margin (wsV RX5 180 RX5 yX5_rowOf wsX5_rowOf) := goodIn_app (goodIn_of _ (by decide +kernel)) ggX5_margin_X5_rowOf
set_option maxRecDepth 20000 in
theorem ggX5_margin_X2_leadOf : GoodIn wsX5_margin wsX2_leadOf := goodIn_ca (goodIn_r _ [24, 25, 26, 27, 23, 28, 29, 30, 31, 32, 33, 34, 35, 36, 44, 45, 46, 47, 48, 49, 50] (by decide +kernel) (by decide +kernel)) (goodIn_sub (fun _ h => List.mem_cons_of_mem _ (List.mem_append_right _ h)) (by decide +kernel))
set_option maxRecDepth 20000 in
theorem gX5_margin_X2_leadOf : GoodIn wsX5_margin (wsV RX5 188 RX2 yX2_leadOf wsX2_leadOf) := goodIn_app (goodIn_of _ (by decide +kernel)) ggX5_margin_X2_leadOf
theorem dX5_margin_0 : decode cX5_margin 0 = .ok (.aload_n 0, 1) := by decide +kernel
theorem dX5_margin_1 : decode cX5_margin 1 = .ok (.iload_n 1, 1) := by decide +kernel
theorem dX5_margin_2 : decode cX5_margin 2 = .ok (.invokevirtual 177, 3) := by decide +kernel
theorem dX5_margin_5 : decode cX5_margin 5 = .ok (.aload_n 0, 1) := by decide +kernel
theorem dX5_margin_6 : decode cX5_margin 6 = .ok (.iload_n 2, 1) := by decide +kernel
theorem dX5_margin_7 : decode cX5_margin 7 = .ok (.invokevirtual 177, 3) := by decide +kernel
theorem dX5_margin_10 : decode cX5_margin 10 = .ok (.aload_n 0, 1) := by decide +kernel
theorem dX5_margin_11 : decode cX5_margin 11 = .ok (.getfield 10, 3) := by decide +kernel
theorem dX5_margin_14 : decode cX5_margin 14 = .ok (.aload_n 0, 1) := by decide +kernel
theorem dX5_margin_15 : decode cX5_margin 15 = .ok (.iload_n 1, 1) := by decide +kernel
theorem dX5_margin_16 : decode cX5_margin 16 = .ok (.invokevirtual 180, 3) := by decide +kernel
theorem dX5_margin_19 : decode cX5_margin 19 = .ok (.aload_n 0, 1) := by decide +kernel
theorem dX5_margin_20 : decode cX5_margin 20 = .ok (.iload_n 2, 1) := by decide +kernel
theorem dX5_margin_21 : decode cX5_margin 21 = .ok (.invokevirtual 180, 3) := by decide +kernel
theorem dX5_margin_24 : decode cX5_margin 24 = .ok (.invokevirtual 188, 3) := by decide +kernel
theorem dX5_margin_27 : decode cX5_margin 27 = .ok (.ireturn, 1) := by decide +kernel
set_option maxRecDepth 20000 in
theorem ggX5_differ_X5_requireMatching : GoodIn wsX5_differ wsX5_requireMatching := goodIn_ca (goodIn_r _ [7, 8, 9, 10, 6, 11, 12, 13, 14, 21, 22, 23, 24, 25, 26, 27] (by decide +kernel) (by decide +kernel)) (goodIn_sub (fun _ h => List.mem_cons_of_mem _ (List.mem_append_right _ h)) (by decide +kernel))
set_option maxRecDepth 20000 in
theorem gX5_differ_X5_requireMatching : GoodIn wsX5_differ (wsV RX5 177 RX5 yX5_requireMatching wsX5_requireMatching) := goodIn_app (goodIn_of _ (by decide +kernel)) ggX5_differ_X5_requireMatching
set_option maxRecDepth 20000 in
theorem ggX5_differ_X5_rowOf : GoodIn wsX5_differ wsX5_rowOf := goodIn_r _ [18, 14, 19, 20, 21, 22, 23, 24, 25, 26, 27] (by decide +kernel) (by decide +kernel)
set_option maxRecDepth 20000 in
theorem gX5_differ_X5_rowOf : GoodIn wsX5_differ (wsV RX5 180 RX5 yX5_rowOf wsX5_rowOf) := goodIn_app (goodIn_of _ (by decide +kernel)) ggX5_differ_X5_rowOf
theorem dX5_differ_0 : decode cX5_differ 0 = .ok (.aload_n 0, 1) := by decide +kernel
theorem dX5_differ_1 : decode cX5_differ 1 = .ok (.iload_n 1, 1) := by decide +kernel
theorem dX5_differ_2 : decode cX5_differ 2 = .ok (.invokevirtual 177, 3) := by decide +kernel
theorem dX5_differ_5 : decode cX5_differ 5 = .ok (.aload_n 0, 1) := by decide +kernel
theorem dX5_differ_6 : decode cX5_differ 6 = .ok (.iload_n 2, 1) := by decide +kernel
theorem dX5_differ_7 : decode cX5_differ 7 = .ok (.invokevirtual 177, 3) := by decide +kernel
theorem dX5_differ_10 : decode cX5_differ 10 = .ok (.aload_n 0, 1) := by decide +kernel
theorem dX5_differ_11 : decode cX5_differ 11 = .ok (.iload_n 1, 1) := by decide +kernel
theorem dX5_differ_12 : decode cX5_differ 12 = .ok (.invokevirtual 180, 3) := by decide +kernel
theorem dX5_differ_15 : decode cX5_differ 15 = .ok (.astore_n 3, 1) := by decide +kernel
theorem dX5_differ_16 : decode cX5_differ 16 = .ok (.aload_n 0, 1) := by decide +kernel
theorem dX5_differ_17 : decode cX5_differ 17 = .ok (.iload_n 2, 1) := by decide +kernel
theorem dX5_differ_18 : decode cX5_differ 18 = .ok (.invokevirtual 180, 3) := by decide +kernel
theorem dX5_differ_21 : decode cX5_differ 21 = .ok (.astore 4, 2) := by decide +kernel
theorem dX5_differ_23 : decode cX5_differ 23 = .ok (.iconst 0, 1) := by decide +kernel
theorem dX5_differ_24 : decode cX5_differ 24 = .ok (.istore 5, 2) := by decide +kernel
theorem dX5_differ_26 : decode cX5_differ 26 = .ok (.iconst 0, 1) := by decide +kernel
theorem dX5_differ_27 : decode cX5_differ 27 = .ok (.istore 6, 2) := by decide +kernel
theorem dX5_differ_29 : decode cX5_differ 29 = .ok (.iload 6, 2) := by decide +kernel
theorem dX5_differ_31 : decode cX5_differ 31 = .ok (.aload_n 0, 1) := by decide +kernel
theorem dX5_differ_32 : decode cX5_differ 32 = .ok (.getfield 10, 3) := by decide +kernel
theorem dX5_differ_35 : decode cX5_differ 35 = .ok (.getfield 60, 3) := by decide +kernel
theorem dX5_differ_38 : decode cX5_differ 38 = .ok (.if_icmp .ge 24, 3) := by decide +kernel
theorem dX5_differ_41 : decode cX5_differ 41 = .ok (.aload_n 3, 1) := by decide +kernel
theorem dX5_differ_42 : decode cX5_differ 42 = .ok (.iload 6, 2) := by decide +kernel
theorem dX5_differ_44 : decode cX5_differ 44 = .ok (.iaload, 1) := by decide +kernel
theorem dX5_differ_45 : decode cX5_differ 45 = .ok (.aload 4, 2) := by decide +kernel
theorem dX5_differ_47 : decode cX5_differ 47 = .ok (.iload 6, 2) := by decide +kernel
theorem dX5_differ_49 : decode cX5_differ 49 = .ok (.iaload, 1) := by decide +kernel
theorem dX5_differ_50 : decode cX5_differ 50 = .ok (.if_icmp .eq 6, 3) := by decide +kernel
theorem dX5_differ_53 : decode cX5_differ 53 = .ok (.iinc 5 1, 3) := by decide +kernel
theorem dX5_differ_56 : decode cX5_differ 56 = .ok (.iinc 6 1, 3) := by decide +kernel
theorem dX5_differ_59 : decode cX5_differ 59 = .ok (.goto (-30), 3) := by decide +kernel
theorem dX5_differ_62 : decode cX5_differ 62 = .ok (.iload 5, 2) := by decide +kernel
theorem dX5_differ_64 : decode cX5_differ 64 = .ok (.ireturn, 1) := by decide +kernel
set_option maxRecDepth 20000 in
theorem ggX5_winner_X0_compare : GoodIn wsX5_winner wsX0_compare := goodIn_ca (goodIn_r _ [11, 12, 13, 14, 15, 16, 17, 18, 19, 20, 21, 22, 23, 24, 25, 26, 27, 28, 29, 30, 46, 47, 48, 49, 50, 51, 52, 53, 54, 55] (by decide +kernel) (by decide +kernel)) (goodIn_sub (fun _ h => List.mem_cons_of_mem _ (List.mem_append_right _ h)) (by decide +kernel))
set_option maxRecDepth 20000 in
theorem gX5_winner_X0_compare : GoodIn wsX5_winner (wsV RX5 191 RX0 yX0_compare wsX0_compare) := goodIn_app (goodIn_of _ (by decide +kernel)) ggX5_winner_X0_compare
set_option maxRecDepth 20000 in
theorem ggX5_winner_X0_firstUnbeaten : GoodIn wsX5_winner wsX0_firstUnbeaten := goodIn_ca (goodIn_r _ [34, 12, 35, 36, 37, 10, 38, 13, 46, 47, 48] (by decide +kernel) (by decide +kernel)) (goodIn_sub (fun _ h => List.mem_cons_of_mem _ (List.mem_append_right _ h)) (by decide +kernel))
set_option maxRecDepth 20000 in
theorem gX5_winner_X0_firstUnbeaten : GoodIn wsX5_winner (wsV RX5 195 RX0 yX0_firstUnbeaten wsX0_firstUnbeaten) := goodIn_app (goodIn_of _ (by decide +kernel)) ggX5_winner_X0_firstUnbeaten
theorem dX5_winner_0 : decode cX5_winner 0 = .ok (.aload_n 0, 1) := by decide +kernel
theorem dX5_winner_1 : decode cX5_winner 1 = .ok (.getfield 33, 3) := by decide +kernel
theorem dX5_winner_4 : decode cX5_winner 4 = .ok (.aload_n 0, 1) := by decide +kernel
theorem dX5_winner_5 : decode cX5_winner 5 = .ok (.getfield 10, 3) := by decide +kernel
theorem dX5_winner_8 : decode cX5_winner 8 = .ok (.aload_n 0, 1) := by decide +kernel
theorem dX5_winner_9 : decode cX5_winner 9 = .ok (.getfield 43, 3) := by decide +kernel
theorem dX5_winner_12 : decode cX5_winner 12 = .ok (.aload_n 0, 1) := by decide +kernel
theorem dX5_winner_13 : decode cX5_winner 13 = .ok (.getfield 46, 3) := by decide +kernel
theorem dX5_winner_16 : decode cX5_winner 16 = .ok (.invokevirtual 191, 3) := by decide +kernel
theorem dX5_winner_19 : decode cX5_winner 19 = .ok (.aload_n 0, 1) := by decide +kernel
theorem dX5_winner_20 : decode cX5_winner 20 = .ok (.getfield 33, 3) := by decide +kernel
theorem dX5_winner_23 : decode cX5_winner 23 = .ok (.invokevirtual 195, 3) := by decide +kernel
theorem dX5_winner_26 : decode cX5_winner 26 = .ok (.istore_n 1, 1) := by decide +kernel
theorem dX5_winner_27 : decode cX5_winner 27 = .ok (.iload_n 1, 1) := by decide +kernel
theorem dX5_winner_28 : decode cX5_winner 28 = .ok (.ifCond .ge 13, 3) := by decide +kernel
theorem dX5_winner_31 : decode cX5_winner 31 = .ok (.new 136, 3) := by decide +kernel
theorem dX5_winner_34 : decode cX5_winner 34 = .ok (.dup, 1) := by decide +kernel
theorem dX5_winner_35 : decode cX5_winner 35 = .ok (.ldc 198, 2) := by decide +kernel
theorem dX5_winner_37 : decode cX5_winner 37 = .ok (.invokespecial 140, 3) := by decide +kernel
theorem dX5_winner_40 : decode cX5_winner 40 = .ok (.athrow, 1) := by decide +kernel
theorem dX5_winner_41 : decode cX5_winner 41 = .ok (.iload_n 1, 1) := by decide +kernel
theorem dX5_winner_42 : decode cX5_winner 42 = .ok (.ireturn, 1) := by decide +kernel
set_option maxRecDepth 20000 in
theorem ggX5_leadLength_X5_requireKept : GoodIn wsX5_leadLength wsX5_requireKept := goodIn_ca (goodIn_r _ [11, 12, 13, 6, 51, 52, 53, 54, 55, 56, 57] (by decide +kernel) (by decide +kernel)) (goodIn_sub (fun _ h => List.mem_cons_of_mem _ (List.mem_append_left _ (List.mem_append_right _ h))) (by decide +kernel))
set_option maxRecDepth 20000 in
theorem gX5_leadLength_X5_requireKept : GoodIn wsX5_leadLength (wsV RX5 164 RX5 yX5_requireKept wsX5_requireKept) := goodIn_app (goodIn_of _ (by decide +kernel)) ggX5_leadLength_X5_requireKept
set_option maxRecDepth 20000 in
theorem ggX5_leadLength_X0_compare : GoodIn wsX5_leadLength wsX0_compare := goodIn_ca (goodIn_r _ [18, 19, 20, 21, 22, 23, 24, 25, 26, 27, 28, 29, 30, 31, 32, 33, 34, 35, 36, 37, 58, 59, 60, 61, 62, 63, 64, 65, 66, 67] (by decide +kernel) (by decide +kernel)) (goodIn_sub (fun _ h => List.mem_cons_of_mem _ (List.mem_append_right _ h)) (by decide +kernel))
set_option maxRecDepth 20000 in
theorem gX5_leadLength_X0_compare : GoodIn wsX5_leadLength (wsV RX5 191 RX0 yX0_compare wsX0_compare) := goodIn_app (goodIn_of _ (by decide +kernel)) ggX5_leadLength_X0_compare
set_option maxRecDepth 20000 in
theorem ggX5_leadLength_X0_shortestRow : GoodIn wsX5_leadLength wsX0_shortestRow := goodIn_ca (goodIn_r _ [41, 42, 19, 43, 44, 45, 46, 47, 48, 49, 17, 50, 20, 58, 59, 60] (by decide +kernel) (by decide +kernel)) (goodIn_sub (fun _ h => List.mem_cons_of_mem _ (List.mem_append_right _ h)) (by decide +kernel))
set_option maxRecDepth 20000 in
theorem gX5_leadLength_X0_shortestRow : GoodIn wsX5_leadLength (wsV RX5 200 RX0 yX0_shortestRow wsX0_shortestRow) := goodIn_app (goodIn_of _ (by decide +kernel)) ggX5_leadLength_X0_shortestRow
theorem dX5_leadLength_0 : decode cX5_leadLength 0 = .ok (.aload_n 0, 1) := by decide +kernel
theorem dX5_leadLength_1 : decode cX5_leadLength 1 = .ok (.iload_n 1, 1) := by decide +kernel
theorem dX5_leadLength_2 : decode cX5_leadLength 2 = .ok (.invokevirtual 164, 3) := by decide +kernel
theorem dX5_leadLength_5 : decode cX5_leadLength 5 = .ok (.aload_n 0, 1) := by decide +kernel
theorem dX5_leadLength_6 : decode cX5_leadLength 6 = .ok (.iload_n 2, 1) := by decide +kernel
theorem dX5_leadLength_7 : decode cX5_leadLength 7 = .ok (.invokevirtual 164, 3) := by decide +kernel
theorem dX5_leadLength_10 : decode cX5_leadLength 10 = .ok (.aload_n 0, 1) := by decide +kernel
theorem dX5_leadLength_11 : decode cX5_leadLength 11 = .ok (.getfield 33, 3) := by decide +kernel
theorem dX5_leadLength_14 : decode cX5_leadLength 14 = .ok (.aload_n 0, 1) := by decide +kernel
theorem dX5_leadLength_15 : decode cX5_leadLength 15 = .ok (.getfield 10, 3) := by decide +kernel
theorem dX5_leadLength_18 : decode cX5_leadLength 18 = .ok (.aload_n 0, 1) := by decide +kernel
theorem dX5_leadLength_19 : decode cX5_leadLength 19 = .ok (.getfield 43, 3) := by decide +kernel
theorem dX5_leadLength_22 : decode cX5_leadLength 22 = .ok (.aload_n 0, 1) := by decide +kernel
theorem dX5_leadLength_23 : decode cX5_leadLength 23 = .ok (.getfield 46, 3) := by decide +kernel
theorem dX5_leadLength_26 : decode cX5_leadLength 26 = .ok (.invokevirtual 191, 3) := by decide +kernel
theorem dX5_leadLength_29 : decode cX5_leadLength 29 = .ok (.aload_n 0, 1) := by decide +kernel
theorem dX5_leadLength_30 : decode cX5_leadLength 30 = .ok (.getfield 33, 3) := by decide +kernel
theorem dX5_leadLength_33 : decode cX5_leadLength 33 = .ok (.iload_n 1, 1) := by decide +kernel
theorem dX5_leadLength_34 : decode cX5_leadLength 34 = .ok (.iload_n 2, 1) := by decide +kernel
theorem dX5_leadLength_35 : decode cX5_leadLength 35 = .ok (.invokevirtual 200, 3) := by decide +kernel
theorem dX5_leadLength_38 : decode cX5_leadLength 38 = .ok (.istore_n 3, 1) := by decide +kernel
theorem dX5_leadLength_39 : decode cX5_leadLength 39 = .ok (.iload_n 3, 1) := by decide +kernel
theorem dX5_leadLength_40 : decode cX5_leadLength 40 = .ok (.ifCond .ne 13, 3) := by decide +kernel
theorem dX5_leadLength_43 : decode cX5_leadLength 43 = .ok (.new 136, 3) := by decide +kernel
theorem dX5_leadLength_46 : decode cX5_leadLength 46 = .ok (.dup, 1) := by decide +kernel
theorem dX5_leadLength_47 : decode cX5_leadLength 47 = .ok (.ldc 204, 2) := by decide +kernel
theorem dX5_leadLength_49 : decode cX5_leadLength 49 = .ok (.invokespecial 140, 3) := by decide +kernel
theorem dX5_leadLength_52 : decode cX5_leadLength 52 = .ok (.athrow, 1) := by decide +kernel
theorem dX5_leadLength_53 : decode cX5_leadLength 53 = .ok (.iload_n 3, 1) := by decide +kernel
theorem dX5_leadLength_54 : decode cX5_leadLength 54 = .ok (.ireturn, 1) := by decide +kernel
set_option maxRecDepth 20000 in
theorem ggX5_hasCycle_X0_compare : GoodIn wsX5_hasCycle wsX0_compare := goodIn_ca (goodIn_r _ [9, 10, 11, 12, 13, 14, 15, 16, 17, 18, 19, 20, 21, 22, 23, 24, 25, 26, 27, 28, 49, 50, 51, 52, 53, 54, 55, 56, 57, 58] (by decide +kernel) (by decide +kernel)) (goodIn_sub (fun _ h => List.mem_cons_of_mem _ (List.mem_append_right _ h)) (by decide +kernel))
set_option maxRecDepth 20000 in
theorem gX5_hasCycle_X0_compare : GoodIn wsX5_hasCycle (wsV RX5 191 RX0 yX0_compare wsX0_compare) := goodIn_app (goodIn_of _ (by decide +kernel)) ggX5_hasCycle_X0_compare
set_option maxRecDepth 20000 in
theorem ggX5_hasCycle_X0_shortestRow : GoodIn wsX5_hasCycle wsX0_shortestRow := goodIn_ca (goodIn_r _ [32, 33, 10, 34, 35, 36, 37, 38, 39, 40, 8, 41, 11, 49, 50, 51] (by decide +kernel) (by decide +kernel)) (goodIn_sub (fun _ h => List.mem_cons_of_mem _ (List.mem_append_right _ h)) (by decide +kernel))
set_option maxRecDepth 20000 in
theorem gX5_hasCycle_X0_shortestRow : GoodIn wsX5_hasCycle (wsV RX5 200 RX0 yX0_shortestRow wsX0_shortestRow) := goodIn_app (goodIn_of _ (by decide +kernel)) ggX5_hasCycle_X0_shortestRow
theorem dX5_hasCycle_0 : decode cX5_hasCycle 0 = .ok (.aload_n 0, 1) := by decide +kernel
theorem dX5_hasCycle_1 : decode cX5_hasCycle 1 = .ok (.getfield 33, 3) := by decide +kernel
theorem dX5_hasCycle_4 : decode cX5_hasCycle 4 = .ok (.aload_n 0, 1) := by decide +kernel
theorem dX5_hasCycle_5 : decode cX5_hasCycle 5 = .ok (.getfield 10, 3) := by decide +kernel
theorem dX5_hasCycle_8 : decode cX5_hasCycle 8 = .ok (.aload_n 0, 1) := by decide +kernel
theorem dX5_hasCycle_9 : decode cX5_hasCycle 9 = .ok (.getfield 43, 3) := by decide +kernel
theorem dX5_hasCycle_12 : decode cX5_hasCycle 12 = .ok (.aload_n 0, 1) := by decide +kernel
theorem dX5_hasCycle_13 : decode cX5_hasCycle 13 = .ok (.getfield 46, 3) := by decide +kernel
theorem dX5_hasCycle_16 : decode cX5_hasCycle 16 = .ok (.invokevirtual 191, 3) := by decide +kernel
theorem dX5_hasCycle_19 : decode cX5_hasCycle 19 = .ok (.iconst 0, 1) := by decide +kernel
theorem dX5_hasCycle_20 : decode cX5_hasCycle 20 = .ok (.istore_n 1, 1) := by decide +kernel
theorem dX5_hasCycle_21 : decode cX5_hasCycle 21 = .ok (.iload_n 1, 1) := by decide +kernel
theorem dX5_hasCycle_22 : decode cX5_hasCycle 22 = .ok (.aload_n 0, 1) := by decide +kernel
theorem dX5_hasCycle_23 : decode cX5_hasCycle 23 = .ok (.getfield 46, 3) := by decide +kernel
theorem dX5_hasCycle_26 : decode cX5_hasCycle 26 = .ok (.if_icmp .ge 23, 3) := by decide +kernel
theorem dX5_hasCycle_29 : decode cX5_hasCycle 29 = .ok (.aload_n 0, 1) := by decide +kernel
theorem dX5_hasCycle_30 : decode cX5_hasCycle 30 = .ok (.getfield 33, 3) := by decide +kernel
theorem dX5_hasCycle_33 : decode cX5_hasCycle 33 = .ok (.iload_n 1, 1) := by decide +kernel
theorem dX5_hasCycle_34 : decode cX5_hasCycle 34 = .ok (.iload_n 1, 1) := by decide +kernel
theorem dX5_hasCycle_35 : decode cX5_hasCycle 35 = .ok (.invokevirtual 200, 3) := by decide +kernel
theorem dX5_hasCycle_38 : decode cX5_hasCycle 38 = .ok (.ifCond .le 5, 3) := by decide +kernel
theorem dX5_hasCycle_41 : decode cX5_hasCycle 41 = .ok (.iconst 1, 1) := by decide +kernel
theorem dX5_hasCycle_42 : decode cX5_hasCycle 42 = .ok (.ireturn, 1) := by decide +kernel
theorem dX5_hasCycle_43 : decode cX5_hasCycle 43 = .ok (.iinc 1 1, 3) := by decide +kernel
theorem dX5_hasCycle_46 : decode cX5_hasCycle 46 = .ok (.goto (-25), 3) := by decide +kernel
theorem dX5_hasCycle_49 : decode cX5_hasCycle 49 = .ok (.iconst 0, 1) := by decide +kernel
theorem dX5_hasCycle_50 : decode cX5_hasCycle 50 = .ok (.ireturn, 1) := by decide +kernel
set_option maxRecDepth 20000 in
theorem ggX5_worstMargin_X1_findChallenger : GoodIn wsX5_worstMargin wsX1_findChallenger := goodIn_ca (goodIn_r _ [8, 9, 10, 11, 12, 13, 14, 15, 16, 17, 18, 19, 20, 21, 22, 23, 24, 25, 26, 27, 28, 29, 30, 31, 32, 33, 34, 35, 36, 37, 38, 39, 40, 41, 42, 43, 44, 45, 46, 47, 48, 49, 50, 51, 52, 53, 54, 55, 56, 57, 58, 59, 60, 61, 62, 63, 64, 65, 66, 67, 68, 69, 70, 71, 72, 73, 74, 75, 76, 77, 78, 79, 87, 88, 89, 90, 91, 92, 93, 94, 95, 96, 97, 98, 99, 100, 101, 102, 103, 104, 105, 106] (by decide +kernel) (by decide +kernel)) (goodIn_sub (fun _ h => List.mem_cons_of_mem _ (List.mem_append_right _ h)) (by decide +kernel))
set_option maxRecDepth 20000 in
theorem gX5_worstMargin_X1_findChallenger : GoodIn wsX5_worstMargin (wsV RX5 206 RX1 yX1_findChallenger wsX1_findChallenger) := goodIn_app (goodIn_of _ (by decide +kernel)) ggX5_worstMargin_X1_findChallenger
theorem dX5_worstMargin_0 : decode cX5_worstMargin 0 = .ok (.aload_n 0, 1) := by decide +kernel
theorem dX5_worstMargin_1 : decode cX5_worstMargin 1 = .ok (.getfield 26, 3) := by decide +kernel
theorem dX5_worstMargin_4 : decode cX5_worstMargin 4 = .ok (.aload_n 0, 1) := by decide +kernel
theorem dX5_worstMargin_5 : decode cX5_worstMargin 5 = .ok (.getfield 10, 3) := by decide +kernel
theorem dX5_worstMargin_8 : decode cX5_worstMargin 8 = .ok (.aload_n 0, 1) := by decide +kernel
theorem dX5_worstMargin_9 : decode cX5_worstMargin 9 = .ok (.getfield 37, 3) := by decide +kernel
theorem dX5_worstMargin_12 : decode cX5_worstMargin 12 = .ok (.invokevirtual 206, 3) := by decide +kernel
theorem dX5_worstMargin_15 : decode cX5_worstMargin 15 = .ok (.ireturn, 1) := by decide +kernel
set_option maxRecDepth 20000 in
theorem ggX5_challenger_X5_requireApplicant : GoodIn wsX5_challenger wsX5_requireApplicant := goodIn_ca (goodIn_r _ [9, 10, 11, 2, 12, 89, 90, 91, 92, 93, 94, 95, 102, 103, 104, 105, 106, 107, 108] (by decide +kernel) (by decide +kernel)) (goodIn_sub (fun _ h => List.mem_cons_of_mem _ (List.mem_append_right _ h)) (by decide +kernel))
set_option maxRecDepth 20000 in
theorem gX5_challenger_X5_requireApplicant : GoodIn wsX5_challenger (wsV RX5 81 RX5 yX5_requireApplicant wsX5_requireApplicant) := goodIn_app (goodIn_of _ (by decide +kernel)) ggX5_challenger_X5_requireApplicant
set_option maxRecDepth 20000 in
theorem ggX5_challenger_X1_findChallenger : GoodIn wsX5_challenger wsX1_findChallenger := goodIn_ca (goodIn_r _ [17, 18, 19, 20, 21, 22, 23, 24, 25, 26, 27, 28, 29, 30, 31, 32, 33, 34, 35, 36, 37, 38, 39, 40, 41, 42, 43, 44, 45, 46, 47, 48, 49, 50, 51, 52, 53, 54, 55, 56, 57, 58, 59, 60, 61, 62, 63, 64, 65, 66, 67, 68, 69, 70, 71, 72, 73, 74, 75, 76, 77, 78, 79, 80, 81, 82, 83, 84, 85, 86, 87, 88, 102, 103, 104, 105, 106, 107, 108, 96, 97, 98, 99, 100, 101, 109, 110, 111, 112, 113, 114, 115] (by decide +kernel) (by decide +kernel)) (goodIn_sub (fun _ h => List.mem_cons_of_mem _ (List.mem_append_left _ (List.mem_append_right _ h))) (by decide +kernel))
set_option maxRecDepth 20000 in
theorem gX5_challenger_X1_findChallenger : GoodIn wsX5_challenger (wsV RX5 206 RX1 yX1_findChallenger wsX1_findChallenger) := goodIn_app (goodIn_of _ (by decide +kernel)) ggX5_challenger_X1_findChallenger
theorem dX5_challenger_0 : decode cX5_challenger 0 = .ok (.aload_n 0, 1) := by decide +kernel
theorem dX5_challenger_1 : decode cX5_challenger 1 = .ok (.iload_n 1, 1) := by decide +kernel
theorem dX5_challenger_2 : decode cX5_challenger 2 = .ok (.invokevirtual 81, 3) := by decide +kernel
theorem dX5_challenger_5 : decode cX5_challenger 5 = .ok (.aload_n 0, 1) := by decide +kernel
theorem dX5_challenger_6 : decode cX5_challenger 6 = .ok (.getfield 26, 3) := by decide +kernel
theorem dX5_challenger_9 : decode cX5_challenger 9 = .ok (.aload_n 0, 1) := by decide +kernel
theorem dX5_challenger_10 : decode cX5_challenger 10 = .ok (.getfield 10, 3) := by decide +kernel
theorem dX5_challenger_13 : decode cX5_challenger 13 = .ok (.aload_n 0, 1) := by decide +kernel
theorem dX5_challenger_14 : decode cX5_challenger 14 = .ok (.getfield 37, 3) := by decide +kernel
theorem dX5_challenger_17 : decode cX5_challenger 17 = .ok (.invokevirtual 206, 3) := by decide +kernel
theorem dX5_challenger_20 : decode cX5_challenger 20 = .ok (.pop, 1) := by decide +kernel
theorem dX5_challenger_21 : decode cX5_challenger 21 = .ok (.aload_n 0, 1) := by decide +kernel
theorem dX5_challenger_22 : decode cX5_challenger 22 = .ok (.getfield 26, 3) := by decide +kernel
theorem dX5_challenger_25 : decode cX5_challenger 25 = .ok (.getfield 210, 3) := by decide +kernel
theorem dX5_challenger_28 : decode cX5_challenger 28 = .ok (.iload_n 1, 1) := by decide +kernel
theorem dX5_challenger_29 : decode cX5_challenger 29 = .ok (.iaload, 1) := by decide +kernel
theorem dX5_challenger_30 : decode cX5_challenger 30 = .ok (.ireturn, 1) := by decide +kernel
set_option maxRecDepth 20000 in
theorem ggX5_isPopular_X1_findChallenger : GoodIn wsX5_isPopular wsX1_findChallenger := goodIn_ca (goodIn_r _ [8, 9, 10, 11, 12, 13, 14, 15, 16, 17, 18, 19, 20, 21, 22, 23, 24, 25, 26, 27, 28, 29, 30, 31, 32, 33, 34, 35, 36, 37, 38, 39, 40, 41, 42, 43, 44, 45, 46, 47, 48, 49, 50, 51, 52, 53, 54, 55, 56, 57, 58, 59, 60, 61, 62, 63, 64, 65, 66, 67, 68, 69, 70, 71, 72, 73, 74, 75, 76, 77, 78, 79, 87, 88, 89, 90, 91, 92, 93, 94, 95, 96, 97, 98, 99, 100, 101, 102, 103, 104, 105, 106] (by decide +kernel) (by decide +kernel)) (goodIn_sub (fun _ h => List.mem_cons_of_mem _ (List.mem_append_right _ h)) (by decide +kernel))
set_option maxRecDepth 20000 in
theorem gX5_isPopular_X1_findChallenger : GoodIn wsX5_isPopular (wsV RX5 206 RX1 yX1_findChallenger wsX1_findChallenger) := goodIn_app (goodIn_of _ (by decide +kernel)) ggX5_isPopular_X1_findChallenger
theorem dX5_isPopular_0 : decode cX5_isPopular 0 = .ok (.aload_n 0, 1) := by decide +kernel
theorem dX5_isPopular_1 : decode cX5_isPopular 1 = .ok (.getfield 26, 3) := by decide +kernel
theorem dX5_isPopular_4 : decode cX5_isPopular 4 = .ok (.aload_n 0, 1) := by decide +kernel
theorem dX5_isPopular_5 : decode cX5_isPopular 5 = .ok (.getfield 10, 3) := by decide +kernel
theorem dX5_isPopular_8 : decode cX5_isPopular 8 = .ok (.aload_n 0, 1) := by decide +kernel
theorem dX5_isPopular_9 : decode cX5_isPopular 9 = .ok (.getfield 37, 3) := by decide +kernel
theorem dX5_isPopular_12 : decode cX5_isPopular 12 = .ok (.invokevirtual 206, 3) := by decide +kernel
theorem dX5_isPopular_15 : decode cX5_isPopular 15 = .ok (.ifCond .ne 7, 3) := by decide +kernel
theorem dX5_isPopular_18 : decode cX5_isPopular 18 = .ok (.iconst 1, 1) := by decide +kernel
theorem dX5_isPopular_19 : decode cX5_isPopular 19 = .ok (.goto 4, 3) := by decide +kernel
theorem dX5_isPopular_22 : decode cX5_isPopular 22 = .ok (.iconst 0, 1) := by decide +kernel
theorem dX5_isPopular_23 : decode cX5_isPopular 23 = .ok (.ireturn, 1) := by decide +kernel
set_option maxRecDepth 20000 in
theorem ggX5_hasPopular_X5_requireLikeWeights : GoodIn wsX5_hasPopular wsX5_requireLikeWeights := goodIn_ca (goodIn_ca (goodIn_r _ [7, 8, 9, 2, 10, 11, 12, 13, 14, 15, 16, 113, 114, 115, 116, 117, 118, 119, 120, 121, 122, 123, 124, 125, 126] (by decide +kernel) (by decide +kernel)) (goodIn_sub (fun _ h => List.mem_cons_of_mem _ (List.mem_append_left _ (List.mem_append_right _ h))) (by decide +kernel))) (goodIn_sub (fun _ h => List.mem_cons_of_mem _ (List.mem_append_right _ h)) (by decide +kernel))
set_option maxRecDepth 20000 in
theorem gX5_hasPopular_X5_requireLikeWeights : GoodIn wsX5_hasPopular (wsV RX5 213 RX5 yX5_requireLikeWeights wsX5_requireLikeWeights) := goodIn_app (goodIn_of _ (by decide +kernel)) ggX5_hasPopular_X5_requireLikeWeights
set_option maxRecDepth 20000 in
theorem ggX5_hasPopular_X1_findPopular : GoodIn wsX5_hasPopular wsX1_findPopular := goodIn_ca (goodIn_r _ [21, 22, 23, 24, 25, 26, 27, 20, 28, 29, 30, 31, 32, 33, 34, 35, 36, 37, 38, 39, 13, 40, 41, 42, 43, 44, 45, 46, 47, 48, 49, 50, 51, 52, 53, 54, 55, 56, 57, 58, 59, 60, 61, 62, 63, 64, 65, 66, 67, 68, 69, 70, 71, 72, 73, 74, 75, 76, 77, 78, 79, 80, 81, 82, 83, 84, 85, 86, 87, 88, 89, 90, 91, 92, 93, 94, 95, 96, 97, 98, 99, 100, 101, 102, 103, 104, 105, 106, 107, 108, 109, 110, 111, 112, 127, 128, 129, 130, 131, 132, 120, 121, 122, 123, 124, 125, 126, 133, 134, 135, 136, 137, 138, 139] (by decide +kernel) (by decide +kernel)) (goodIn_sub (fun _ h => List.mem_cons_of_mem _ (List.mem_append_right _ h)) (by decide +kernel))
set_option maxRecDepth 20000 in
theorem gX5_hasPopular_X1_findPopular : GoodIn wsX5_hasPopular (wsV RX5 216 RX1 yX1_findPopular wsX1_findPopular) := goodIn_app (goodIn_of _ (by decide +kernel)) ggX5_hasPopular_X1_findPopular
theorem dX5_hasPopular_0 : decode cX5_hasPopular 0 = .ok (.aload_n 0, 1) := by decide +kernel
theorem dX5_hasPopular_1 : decode cX5_hasPopular 1 = .ok (.invokevirtual 213, 3) := by decide +kernel
theorem dX5_hasPopular_4 : decode cX5_hasPopular 4 = .ok (.aload_n 0, 1) := by decide +kernel
theorem dX5_hasPopular_5 : decode cX5_hasPopular 5 = .ok (.getfield 26, 3) := by decide +kernel
theorem dX5_hasPopular_8 : decode cX5_hasPopular 8 = .ok (.aload_n 0, 1) := by decide +kernel
theorem dX5_hasPopular_9 : decode cX5_hasPopular 9 = .ok (.getfield 10, 3) := by decide +kernel
theorem dX5_hasPopular_12 : decode cX5_hasPopular 12 = .ok (.invokevirtual 216, 3) := by decide +kernel
theorem dX5_hasPopular_15 : decode cX5_hasPopular 15 = .ok (.ireturn, 1) := by decide +kernel
set_option maxRecDepth 20000 in
theorem ggX5_popularPost_X5_requireApplicant : GoodIn wsX5_popularPost wsX5_requireApplicant := goodIn_ca (goodIn_r _ [10, 11, 12, 4, 13, 123, 124, 125, 126, 127, 128, 129, 136, 137, 138, 139, 140, 141, 142] (by decide +kernel) (by decide +kernel)) (goodIn_sub (fun _ h => List.mem_cons_of_mem _ (List.mem_append_left _ (List.mem_append_right _ h))) (by decide +kernel))
set_option maxRecDepth 20000 in
theorem gX5_popularPost_X5_requireApplicant : GoodIn wsX5_popularPost (wsV RX5 81 RX5 yX5_requireApplicant wsX5_requireApplicant) := goodIn_app (goodIn_of _ (by decide +kernel)) ggX5_popularPost_X5_requireApplicant
set_option maxRecDepth 20000 in
theorem ggX5_popularPost_X5_requireLikeWeights : GoodIn wsX5_popularPost wsX5_requireLikeWeights := goodIn_ca (goodIn_ca (goodIn_r _ [17, 18, 19, 4, 20, 21, 22, 23, 24, 25, 26, 123, 124, 125, 126, 127, 128, 129, 136, 137, 138, 139, 140, 141, 142] (by decide +kernel) (by decide +kernel)) (goodIn_sub (fun _ h => List.mem_cons_of_mem _ (List.mem_append_right _ h)) (by decide +kernel))) (goodIn_sub (fun _ h => List.mem_cons_of_mem _ (List.mem_append_left _ (List.mem_append_left _ (List.mem_append_right _ h)))) (by decide +kernel))
set_option maxRecDepth 20000 in
theorem gX5_popularPost_X5_requireLikeWeights : GoodIn wsX5_popularPost (wsV RX5 213 RX5 yX5_requireLikeWeights wsX5_requireLikeWeights) := goodIn_app (goodIn_of _ (by decide +kernel)) ggX5_popularPost_X5_requireLikeWeights
set_option maxRecDepth 20000 in
theorem ggX5_popularPost_X1_findPopular : GoodIn wsX5_popularPost wsX1_findPopular := goodIn_ca (goodIn_r _ [31, 32, 33, 34, 35, 36, 37, 30, 38, 39, 40, 41, 42, 43, 44, 45, 46, 47, 48, 49, 23, 50, 51, 52, 53, 54, 55, 56, 57, 58, 59, 60, 61, 62, 63, 64, 65, 66, 67, 68, 69, 70, 71, 72, 73, 74, 75, 76, 77, 78, 79, 80, 81, 82, 83, 84, 85, 86, 87, 88, 89, 90, 91, 92, 93, 94, 95, 96, 97, 98, 99, 100, 101, 102, 103, 104, 105, 106, 107, 108, 109, 110, 111, 112, 113, 114, 115, 116, 117, 118, 119, 120, 121, 122, 130, 131, 132, 133, 134, 135, 136, 137, 138, 139, 140, 141, 142, 143, 144, 145, 146, 147, 148, 149] (by decide +kernel) (by decide +kernel)) (goodIn_sub (fun _ h => List.mem_cons_of_mem _ (List.mem_append_left _ (List.mem_append_left _ (List.mem_append_right _ h)))) (by decide +kernel))
set_option maxRecDepth 20000 in
theorem gX5_popularPost_X1_findPopular : GoodIn wsX5_popularPost (wsV RX5 216 RX1 yX1_findPopular wsX1_findPopular) := goodIn_app (goodIn_of _ (by decide +kernel)) ggX5_popularPost_X1_findPopular
theorem dX5_popularPost_0 : decode cX5_popularPost 0 = .ok (.aload_n 0, 1) := by decide +kernel
theorem dX5_popularPost_1 : decode cX5_popularPost 1 = .ok (.iload_n 1, 1) := by decide +kernel
theorem dX5_popularPost_2 : decode cX5_popularPost 2 = .ok (.invokevirtual 81, 3) := by decide +kernel
theorem dX5_popularPost_5 : decode cX5_popularPost 5 = .ok (.aload_n 0, 1) := by decide +kernel
theorem dX5_popularPost_6 : decode cX5_popularPost 6 = .ok (.invokevirtual 213, 3) := by decide +kernel
theorem dX5_popularPost_9 : decode cX5_popularPost 9 = .ok (.aload_n 0, 1) := by decide +kernel
theorem dX5_popularPost_10 : decode cX5_popularPost 10 = .ok (.getfield 26, 3) := by decide +kernel
theorem dX5_popularPost_13 : decode cX5_popularPost 13 = .ok (.aload_n 0, 1) := by decide +kernel
theorem dX5_popularPost_14 : decode cX5_popularPost 14 = .ok (.getfield 10, 3) := by decide +kernel
theorem dX5_popularPost_17 : decode cX5_popularPost 17 = .ok (.invokevirtual 216, 3) := by decide +kernel
theorem dX5_popularPost_20 : decode cX5_popularPost 20 = .ok (.ifCond .ne 13, 3) := by decide +kernel
theorem dX5_popularPost_23 : decode cX5_popularPost 23 = .ok (.new 136, 3) := by decide +kernel
theorem dX5_popularPost_26 : decode cX5_popularPost 26 = .ok (.dup, 1) := by decide +kernel
theorem dX5_popularPost_27 : decode cX5_popularPost 27 = .ok (.ldc 220, 2) := by decide +kernel
theorem dX5_popularPost_29 : decode cX5_popularPost 29 = .ok (.invokespecial 140, 3) := by decide +kernel
theorem dX5_popularPost_32 : decode cX5_popularPost 32 = .ok (.athrow, 1) := by decide +kernel
theorem dX5_popularPost_33 : decode cX5_popularPost 33 = .ok (.aload_n 0, 1) := by decide +kernel
theorem dX5_popularPost_34 : decode cX5_popularPost 34 = .ok (.getfield 26, 3) := by decide +kernel
theorem dX5_popularPost_37 : decode cX5_popularPost 37 = .ok (.getfield 222, 3) := by decide +kernel
theorem dX5_popularPost_40 : decode cX5_popularPost 40 = .ok (.iload_n 1, 1) := by decide +kernel
theorem dX5_popularPost_41 : decode cX5_popularPost 41 = .ok (.iaload, 1) := by decide +kernel
theorem dX5_popularPost_42 : decode cX5_popularPost 42 = .ok (.ireturn, 1) := by decide +kernel
set_option maxRecDepth 20000 in
theorem ggX5_profile_X5_requireNumber : GoodIn wsX5_profile wsX5_requireNumber := goodIn_ca (goodIn_r _ [7, 8, 9] (by decide +kernel) (by decide +kernel)) (goodIn_sub (fun _ h => List.mem_cons_of_mem _ (List.mem_append_left _ (List.mem_append_right _ h))) (by decide +kernel))
set_option maxRecDepth 20000 in
theorem gX5_profile_X5_requireNumber : GoodIn wsX5_profile (wsV RX5 56 RX5 yX5_requireNumber wsX5_requireNumber) := goodIn_app (goodIn_of _ (by decide +kernel)) ggX5_profile_X5_requireNumber
set_option maxRecDepth 20000 in
theorem ggX5_profile_X2_countRank : GoodIn wsX5_profile wsX2_countRank := goodIn_ca (goodIn_r _ [14, 15, 16, 17, 18, 13, 19, 20, 21, 29, 30, 31, 32, 33, 34, 35] (by decide +kernel) (by decide +kernel)) (goodIn_sub (fun _ h => List.mem_cons_of_mem _ (List.mem_append_right _ h)) (by decide +kernel))
set_option maxRecDepth 20000 in
theorem gX5_profile_X2_countRank : GoodIn wsX5_profile (wsV RX5 225 RX2 yX2_countRank wsX2_countRank) := goodIn_app (goodIn_of _ (by decide +kernel)) ggX5_profile_X2_countRank
theorem dX5_profile_0 : decode cX5_profile 0 = .ok (.aload_n 0, 1) := by decide +kernel
theorem dX5_profile_1 : decode cX5_profile 1 = .ok (.iload_n 1, 1) := by decide +kernel
theorem dX5_profile_2 : decode cX5_profile 2 = .ok (.iconst 1, 1) := by decide +kernel
theorem dX5_profile_3 : decode cX5_profile 3 = .ok (.bipush 9, 2) := by decide +kernel
theorem dX5_profile_5 : decode cX5_profile 5 = .ok (.invokevirtual 56, 3) := by decide +kernel
theorem dX5_profile_8 : decode cX5_profile 8 = .ok (.aload_n 0, 1) := by decide +kernel
theorem dX5_profile_9 : decode cX5_profile 9 = .ok (.getfield 10, 3) := by decide +kernel
theorem dX5_profile_12 : decode cX5_profile 12 = .ok (.iload_n 1, 1) := by decide +kernel
theorem dX5_profile_13 : decode cX5_profile 13 = .ok (.aload_n 0, 1) := by decide +kernel
theorem dX5_profile_14 : decode cX5_profile 14 = .ok (.getfield 37, 3) := by decide +kernel
theorem dX5_profile_17 : decode cX5_profile 17 = .ok (.invokevirtual 225, 3) := by decide +kernel
theorem dX5_profile_20 : decode cX5_profile 20 = .ok (.ireturn, 1) := by decide +kernel
set_option maxRecDepth 20000 in
theorem ggX5_bestProfile_X5_requireNumber : GoodIn wsX5_bestProfile wsX5_requireNumber := goodIn_ca (goodIn_r _ [8, 9, 10] (by decide +kernel) (by decide +kernel)) (goodIn_sub (fun _ h => List.mem_cons_of_mem _ (List.mem_append_left _ (List.mem_append_right _ h))) (by decide +kernel))
set_option maxRecDepth 20000 in
theorem gX5_bestProfile_X5_requireNumber : GoodIn wsX5_bestProfile (wsV RX5 56 RX5 yX5_requireNumber wsX5_requireNumber) := goodIn_app (goodIn_of _ (by decide +kernel)) ggX5_bestProfile_X5_requireNumber
set_option maxRecDepth 20000 in
theorem ggX5_bestProfile_X1_findBest : GoodIn wsX5_bestProfile wsX1_findBest := goodIn_ca (goodIn_r _ [15, 16, 17, 18, 19, 20, 14, 21, 22, 23, 24, 25, 26, 27, 28, 29, 30, 31, 32, 33, 34, 35, 36, 37, 38, 39, 40, 41, 42, 43, 44, 45, 46, 47, 48, 49, 50, 51, 52, 53, 54, 55, 56, 57, 58, 59, 60, 61, 62, 63, 64, 65, 66, 67, 68, 69, 70, 71, 72, 73, 74, 94, 95, 96, 97, 98, 99, 100, 101, 102, 103, 104, 105, 106, 107, 108, 109, 110, 111, 112, 113] (by decide +kernel) (by decide +kernel)) (goodIn_sub (fun _ h => List.mem_cons_of_mem _ (List.mem_append_right _ h)) (by decide +kernel))
set_option maxRecDepth 20000 in
theorem gX5_bestProfile_X1_findBest : GoodIn wsX5_bestProfile (wsV RX5 228 RX1 yX1_findBest wsX1_findBest) := goodIn_app (goodIn_of _ (by decide +kernel)) ggX5_bestProfile_X1_findBest
set_option maxRecDepth 20000 in
theorem ggX5_bestProfile_X2_countRank : GoodIn wsX5_bestProfile wsX2_countRank := goodIn_ca (goodIn_r _ [79, 80, 81, 82, 83, 78, 84, 85, 86, 100, 101, 102, 103, 104, 105, 106] (by decide +kernel) (by decide +kernel)) (goodIn_sub (fun _ h => List.mem_cons_of_mem _ (List.mem_append_right _ h)) (by decide +kernel))
set_option maxRecDepth 20000 in
theorem gX5_bestProfile_X2_countRank : GoodIn wsX5_bestProfile (wsV RX5 225 RX2 yX2_countRank wsX2_countRank) := goodIn_app (goodIn_of _ (by decide +kernel)) ggX5_bestProfile_X2_countRank
theorem dX5_bestProfile_0 : decode cX5_bestProfile 0 = .ok (.aload_n 0, 1) := by decide +kernel
theorem dX5_bestProfile_1 : decode cX5_bestProfile 1 = .ok (.iload_n 1, 1) := by decide +kernel
theorem dX5_bestProfile_2 : decode cX5_bestProfile 2 = .ok (.iconst 1, 1) := by decide +kernel
theorem dX5_bestProfile_3 : decode cX5_bestProfile 3 = .ok (.bipush 9, 2) := by decide +kernel
theorem dX5_bestProfile_5 : decode cX5_bestProfile 5 = .ok (.invokevirtual 56, 3) := by decide +kernel
theorem dX5_bestProfile_8 : decode cX5_bestProfile 8 = .ok (.aload_n 0, 1) := by decide +kernel
theorem dX5_bestProfile_9 : decode cX5_bestProfile 9 = .ok (.getfield 26, 3) := by decide +kernel
theorem dX5_bestProfile_12 : decode cX5_bestProfile 12 = .ok (.aload_n 0, 1) := by decide +kernel
theorem dX5_bestProfile_13 : decode cX5_bestProfile 13 = .ok (.getfield 10, 3) := by decide +kernel
theorem dX5_bestProfile_16 : decode cX5_bestProfile 16 = .ok (.invokevirtual 228, 3) := by decide +kernel
theorem dX5_bestProfile_19 : decode cX5_bestProfile 19 = .ok (.aload_n 0, 1) := by decide +kernel
theorem dX5_bestProfile_20 : decode cX5_bestProfile 20 = .ok (.getfield 10, 3) := by decide +kernel
theorem dX5_bestProfile_23 : decode cX5_bestProfile 23 = .ok (.iload_n 1, 1) := by decide +kernel
theorem dX5_bestProfile_24 : decode cX5_bestProfile 24 = .ok (.aload_n 0, 1) := by decide +kernel
theorem dX5_bestProfile_25 : decode cX5_bestProfile 25 = .ok (.getfield 26, 3) := by decide +kernel
theorem dX5_bestProfile_28 : decode cX5_bestProfile 28 = .ok (.getfield 232, 3) := by decide +kernel
theorem dX5_bestProfile_31 : decode cX5_bestProfile 31 = .ok (.invokevirtual 225, 3) := by decide +kernel
theorem dX5_bestProfile_34 : decode cX5_bestProfile 34 = .ok (.ireturn, 1) := by decide +kernel
set_option maxRecDepth 20000 in
theorem ggX5_bestPost_X5_requireApplicant : GoodIn wsX5_bestPost wsX5_requireApplicant := goodIn_ca (goodIn_r _ [8, 9, 10, 2, 11, 76, 77, 78, 79, 80, 81, 82, 89, 90, 91, 92, 93, 94, 95] (by decide +kernel) (by decide +kernel)) (goodIn_sub (fun _ h => List.mem_cons_of_mem _ (List.mem_append_right _ h)) (by decide +kernel))
set_option maxRecDepth 20000 in
theorem gX5_bestPost_X5_requireApplicant : GoodIn wsX5_bestPost (wsV RX5 81 RX5 yX5_requireApplicant wsX5_requireApplicant) := goodIn_app (goodIn_of _ (by decide +kernel)) ggX5_bestPost_X5_requireApplicant
set_option maxRecDepth 20000 in
theorem ggX5_bestPost_X1_findBest : GoodIn wsX5_bestPost wsX1_findBest := goodIn_ca (goodIn_r _ [16, 17, 18, 19, 20, 21, 15, 22, 23, 24, 25, 26, 27, 28, 29, 30, 31, 32, 33, 34, 35, 36, 37, 38, 39, 40, 41, 42, 43, 44, 45, 46, 47, 48, 49, 50, 51, 52, 53, 54, 55, 56, 57, 58, 59, 60, 61, 62, 63, 64, 65, 66, 67, 68, 69, 70, 71, 72, 73, 74, 75, 83, 84, 85, 86, 87, 88, 89, 90, 91, 92, 93, 94, 95, 96, 97, 98, 99, 100, 101, 102] (by decide +kernel) (by decide +kernel)) (goodIn_sub (fun _ h => List.mem_cons_of_mem _ (List.mem_append_left _ (List.mem_append_right _ h))) (by decide +kernel))
set_option maxRecDepth 20000 in
theorem gX5_bestPost_X1_findBest : GoodIn wsX5_bestPost (wsV RX5 228 RX1 yX1_findBest wsX1_findBest) := goodIn_app (goodIn_of _ (by decide +kernel)) ggX5_bestPost_X1_findBest
theorem dX5_bestPost_0 : decode cX5_bestPost 0 = .ok (.aload_n 0, 1) := by decide +kernel
theorem dX5_bestPost_1 : decode cX5_bestPost 1 = .ok (.iload_n 1, 1) := by decide +kernel
theorem dX5_bestPost_2 : decode cX5_bestPost 2 = .ok (.invokevirtual 81, 3) := by decide +kernel
theorem dX5_bestPost_5 : decode cX5_bestPost 5 = .ok (.aload_n 0, 1) := by decide +kernel
theorem dX5_bestPost_6 : decode cX5_bestPost 6 = .ok (.getfield 26, 3) := by decide +kernel
theorem dX5_bestPost_9 : decode cX5_bestPost 9 = .ok (.aload_n 0, 1) := by decide +kernel
theorem dX5_bestPost_10 : decode cX5_bestPost 10 = .ok (.getfield 10, 3) := by decide +kernel
theorem dX5_bestPost_13 : decode cX5_bestPost 13 = .ok (.invokevirtual 228, 3) := by decide +kernel
theorem dX5_bestPost_16 : decode cX5_bestPost 16 = .ok (.aload_n 0, 1) := by decide +kernel
theorem dX5_bestPost_17 : decode cX5_bestPost 17 = .ok (.getfield 26, 3) := by decide +kernel
theorem dX5_bestPost_20 : decode cX5_bestPost 20 = .ok (.getfield 232, 3) := by decide +kernel
theorem dX5_bestPost_23 : decode cX5_bestPost 23 = .ok (.iload_n 1, 1) := by decide +kernel
theorem dX5_bestPost_24 : decode cX5_bestPost 24 = .ok (.iaload, 1) := by decide +kernel
theorem dX5_bestPost_25 : decode cX5_bestPost 25 = .ok (.ireturn, 1) := by decide +kernel
set_option maxRecDepth 20000 in
theorem ggX5_isSure_X5_requireApplicant : GoodIn wsX5_isSure wsX5_requireApplicant := goodIn_ca (goodIn_r _ [7, 8, 9, 2, 10, 74, 75, 76, 77, 78, 79, 80, 81, 82, 83, 84, 85, 86, 87] (by decide +kernel) (by decide +kernel)) (goodIn_sub (fun _ h => List.mem_cons_of_mem _ (List.mem_append_left _ (List.mem_append_right _ h))) (by decide +kernel))
set_option maxRecDepth 20000 in
theorem gX5_isSure_X5_requireApplicant : GoodIn wsX5_isSure (wsV RX5 81 RX5 yX5_requireApplicant wsX5_requireApplicant) := goodIn_app (goodIn_of _ (by decide +kernel)) ggX5_isSure_X5_requireApplicant
set_option maxRecDepth 20000 in
theorem ggX5_isSure_X1_mustServe : GoodIn wsX5_isSure wsX1_mustServe := goodIn_ca (goodIn_r _ [15, 16, 17, 18, 19, 14, 20, 21, 22, 23, 24, 25, 26, 27, 28, 29, 30, 31, 32, 33, 34, 35, 36, 37, 38, 39, 40, 41, 42, 43, 44, 45, 46, 47, 48, 49, 50, 51, 52, 53, 54, 55, 56, 57, 58, 59, 60, 61, 62, 63, 64, 65, 66, 67, 68, 69, 70, 71, 72, 73, 88, 89, 90, 91, 92, 93, 81, 82, 83, 84, 85, 86, 87, 94, 95, 96, 97, 98, 99, 100] (by decide +kernel) (by decide +kernel)) (goodIn_sub (fun _ h => List.mem_cons_of_mem _ (List.mem_append_right _ h)) (by decide +kernel))
set_option maxRecDepth 20000 in
theorem gX5_isSure_X1_mustServe : GoodIn wsX5_isSure (wsV RX5 235 RX1 yX1_mustServe wsX1_mustServe) := goodIn_app (goodIn_of _ (by decide +kernel)) ggX5_isSure_X1_mustServe
theorem dX5_isSure_0 : decode cX5_isSure 0 = .ok (.aload_n 0, 1) := by decide +kernel
theorem dX5_isSure_1 : decode cX5_isSure 1 = .ok (.iload_n 1, 1) := by decide +kernel
theorem dX5_isSure_2 : decode cX5_isSure 2 = .ok (.invokevirtual 81, 3) := by decide +kernel
theorem dX5_isSure_5 : decode cX5_isSure 5 = .ok (.aload_n 0, 1) := by decide +kernel
theorem dX5_isSure_6 : decode cX5_isSure 6 = .ok (.getfield 26, 3) := by decide +kernel
theorem dX5_isSure_9 : decode cX5_isSure 9 = .ok (.aload_n 0, 1) := by decide +kernel
theorem dX5_isSure_10 : decode cX5_isSure 10 = .ok (.getfield 10, 3) := by decide +kernel
theorem dX5_isSure_13 : decode cX5_isSure 13 = .ok (.iload_n 1, 1) := by decide +kernel
theorem dX5_isSure_14 : decode cX5_isSure 14 = .ok (.invokevirtual 235, 3) := by decide +kernel
theorem dX5_isSure_17 : decode cX5_isSure 17 = .ok (.ireturn, 1) := by decide +kernel
set_option maxRecDepth 20000 in
theorem ggX5_gains_X5_requireApplicant : GoodIn wsX5_gains wsX5_requireApplicant := goodIn_ca (goodIn_r _ [8, 9, 10, 2, 11, 97, 98, 99, 100, 101, 102, 103, 110, 111, 112, 113, 114, 115, 116] (by decide +kernel) (by decide +kernel)) (goodIn_sub (fun _ h => List.mem_cons_of_mem _ (List.mem_append_right _ h)) (by decide +kernel))
set_option maxRecDepth 20000 in
theorem gX5_gains_X5_requireApplicant : GoodIn wsX5_gains (wsV RX5 81 RX5 yX5_requireApplicant wsX5_requireApplicant) := goodIn_app (goodIn_of _ (by decide +kernel)) ggX5_gains_X5_requireApplicant
set_option maxRecDepth 20000 in
theorem ggX5_gains_X5_requirePost : GoodIn wsX5_gains wsX5_requirePost := goodIn_ca (goodIn_r _ [15, 9, 10, 2, 16, 97, 98, 99, 100, 101, 102, 103, 110, 111, 112, 113, 114, 115, 116] (by decide +kernel) (by decide +kernel)) (goodIn_sub (fun _ h => List.mem_cons_of_mem _ (List.mem_append_right _ h)) (by decide +kernel))
set_option maxRecDepth 20000 in
theorem gX5_gains_X5_requirePost : GoodIn wsX5_gains (wsV RX5 85 RX5 yX5_requirePost wsX5_requirePost) := goodIn_app (goodIn_of _ (by decide +kernel)) ggX5_gains_X5_requirePost
set_option maxRecDepth 20000 in
theorem ggX5_gains_X1_findBest : GoodIn wsX5_gains wsX1_findBest := goodIn_ca (goodIn_r _ [21, 22, 23, 24, 25, 26, 20, 27, 28, 29, 30, 31, 32, 33, 34, 35, 36, 37, 38, 39, 40, 41, 42, 43, 44, 45, 46, 47, 48, 49, 50, 51, 52, 53, 54, 55, 56, 57, 58, 59, 60, 61, 62, 63, 64, 65, 66, 67, 68, 69, 70, 71, 72, 73, 74, 75, 76, 77, 78, 79, 80, 104, 105, 106, 107, 108, 109, 110, 111, 112, 113, 114, 115, 116, 117, 118, 119, 120, 121, 122, 123] (by decide +kernel) (by decide +kernel)) (goodIn_sub (fun _ h => List.mem_cons_of_mem _ (List.mem_append_left _ (List.mem_append_right _ h))) (by decide +kernel))
set_option maxRecDepth 20000 in
theorem gX5_gains_X1_findBest : GoodIn wsX5_gains (wsV RX5 228 RX1 yX1_findBest wsX1_findBest) := goodIn_app (goodIn_of _ (by decide +kernel)) ggX5_gains_X1_findBest
set_option maxRecDepth 20000 in
theorem ggX5_gains_X2_levelOf : GoodIn wsX5_gains wsX2_levelOf := goodIn_ca (goodIn_r _ [85, 86, 87, 110, 111, 112, 113, 114, 115, 116] (by decide +kernel) (by decide +kernel)) (goodIn_sub (fun _ h => List.mem_cons_of_mem _ (List.mem_append_left _ (List.mem_append_right _ h))) (by decide +kernel))
set_option maxRecDepth 20000 in
theorem gX5_gains_X2_levelOf : GoodIn wsX5_gains (wsV RX5 239 RX2 yX2_levelOf wsX2_levelOf) := goodIn_app (goodIn_of _ (by decide +kernel)) ggX5_gains_X2_levelOf
set_option maxRecDepth 20000 in
theorem ggX5_gains_X1_servesAlone : GoodIn wsX5_gains wsX1_servesAlone := goodIn_ca (goodIn_r _ [91, 22, 31, 92, 24, 25, 26, 20, 27, 28, 29, 30, 32, 93, 94, 95, 96, 33, 34, 35, 36, 37, 38, 39, 40, 41, 42, 43, 44, 45, 46, 47, 48, 49, 50, 51, 52, 53, 54, 55, 56, 57, 58, 59, 60, 61, 62, 63, 64, 65, 66, 67, 68, 69, 70, 71, 72, 73, 74, 75, 76, 104, 105, 106, 107, 108, 109, 117, 118, 119, 120, 121, 122, 123, 110, 111, 112, 113, 114, 115, 116] (by decide +kernel) (by decide +kernel)) (goodIn_sub (fun _ h => List.mem_cons_of_mem _ (List.mem_append_left _ (List.mem_append_right _ h))) (by decide +kernel))
set_option maxRecDepth 20000 in
theorem gX5_gains_X1_servesAlone : GoodIn wsX5_gains (wsV RX5 242 RX1 yX1_servesAlone wsX1_servesAlone) := goodIn_app (goodIn_of _ (by decide +kernel)) ggX5_gains_X1_servesAlone
theorem dX5_gains_0 : decode cX5_gains 0 = .ok (.aload_n 0, 1) := by decide +kernel
theorem dX5_gains_1 : decode cX5_gains 1 = .ok (.iload_n 1, 1) := by decide +kernel
theorem dX5_gains_2 : decode cX5_gains 2 = .ok (.invokevirtual 81, 3) := by decide +kernel
theorem dX5_gains_5 : decode cX5_gains 5 = .ok (.aload_n 0, 1) := by decide +kernel
theorem dX5_gains_6 : decode cX5_gains 6 = .ok (.iload_n 2, 1) := by decide +kernel
theorem dX5_gains_7 : decode cX5_gains 7 = .ok (.invokevirtual 85, 3) := by decide +kernel
theorem dX5_gains_10 : decode cX5_gains 10 = .ok (.aload_n 0, 1) := by decide +kernel
theorem dX5_gains_11 : decode cX5_gains 11 = .ok (.getfield 26, 3) := by decide +kernel
theorem dX5_gains_14 : decode cX5_gains 14 = .ok (.aload_n 0, 1) := by decide +kernel
theorem dX5_gains_15 : decode cX5_gains 15 = .ok (.getfield 10, 3) := by decide +kernel
theorem dX5_gains_18 : decode cX5_gains 18 = .ok (.invokevirtual 228, 3) := by decide +kernel
theorem dX5_gains_21 : decode cX5_gains 21 = .ok (.aload_n 0, 1) := by decide +kernel
theorem dX5_gains_22 : decode cX5_gains 22 = .ok (.getfield 10, 3) := by decide +kernel
theorem dX5_gains_25 : decode cX5_gains 25 = .ok (.iload_n 1, 1) := by decide +kernel
theorem dX5_gains_26 : decode cX5_gains 26 = .ok (.aload_n 0, 1) := by decide +kernel
theorem dX5_gains_27 : decode cX5_gains 27 = .ok (.getfield 26, 3) := by decide +kernel
theorem dX5_gains_30 : decode cX5_gains 30 = .ok (.getfield 232, 3) := by decide +kernel
theorem dX5_gains_33 : decode cX5_gains 33 = .ok (.iload_n 1, 1) := by decide +kernel
theorem dX5_gains_34 : decode cX5_gains 34 = .ok (.iaload, 1) := by decide +kernel
theorem dX5_gains_35 : decode cX5_gains 35 = .ok (.invokevirtual 239, 3) := by decide +kernel
theorem dX5_gains_38 : decode cX5_gains 38 = .ok (.istore_n 3, 1) := by decide +kernel
theorem dX5_gains_39 : decode cX5_gains 39 = .ok (.aload_n 0, 1) := by decide +kernel
theorem dX5_gains_40 : decode cX5_gains 40 = .ok (.getfield 10, 3) := by decide +kernel
theorem dX5_gains_43 : decode cX5_gains 43 = .ok (.iload_n 1, 1) := by decide +kernel
theorem dX5_gains_44 : decode cX5_gains 44 = .ok (.iload_n 2, 1) := by decide +kernel
theorem dX5_gains_45 : decode cX5_gains 45 = .ok (.invokevirtual 239, 3) := by decide +kernel
theorem dX5_gains_48 : decode cX5_gains 48 = .ok (.iload_n 3, 1) := by decide +kernel
theorem dX5_gains_49 : decode cX5_gains 49 = .ok (.if_icmp .ge 23, 3) := by decide +kernel
theorem dX5_gains_52 : decode cX5_gains 52 = .ok (.aload_n 0, 1) := by decide +kernel
theorem dX5_gains_53 : decode cX5_gains 53 = .ok (.getfield 26, 3) := by decide +kernel
theorem dX5_gains_56 : decode cX5_gains 56 = .ok (.aload_n 0, 1) := by decide +kernel
theorem dX5_gains_57 : decode cX5_gains 57 = .ok (.getfield 10, 3) := by decide +kernel
theorem dX5_gains_60 : decode cX5_gains 60 = .ok (.iload_n 1, 1) := by decide +kernel
theorem dX5_gains_61 : decode cX5_gains 61 = .ok (.iload_n 2, 1) := by decide +kernel
theorem dX5_gains_62 : decode cX5_gains 62 = .ok (.invokevirtual 242, 3) := by decide +kernel
theorem dX5_gains_65 : decode cX5_gains 65 = .ok (.ifCond .eq 7, 3) := by decide +kernel
theorem dX5_gains_68 : decode cX5_gains 68 = .ok (.iconst 1, 1) := by decide +kernel
theorem dX5_gains_69 : decode cX5_gains 69 = .ok (.goto 4, 3) := by decide +kernel
theorem dX5_gains_72 : decode cX5_gains 72 = .ok (.iconst 0, 1) := by decide +kernel
theorem dX5_gains_73 : decode cX5_gains 73 = .ok (.ireturn, 1) := by decide +kernel
set_option maxRecDepth 20000 in
theorem ggX5_envies_X5_requireApplicant : GoodIn wsX5_envies wsX5_requireApplicant := goodIn_ca (goodIn_r _ [5, 6, 7, 8, 9, 22, 23, 24, 25, 26, 27, 28, 29, 30, 31, 32, 33, 34, 35] (by decide +kernel) (by decide +kernel)) (goodIn_sub (fun _ h => List.mem_cons_of_mem _ (List.mem_append_left _ (List.mem_append_right _ h))) (by decide +kernel))
set_option maxRecDepth 20000 in
theorem gX5_envies_X5_requireApplicant : GoodIn wsX5_envies (wsV RX5 81 RX5 yX5_requireApplicant wsX5_requireApplicant) := goodIn_app (goodIn_of _ (by decide +kernel)) ggX5_envies_X5_requireApplicant
set_option maxRecDepth 20000 in
theorem ggX5_envies_X5_wantsPostOf : GoodIn wsX5_envies wsX5_wantsPostOf := goodIn_ca (goodIn_r _ [13, 8, 14, 15, 16, 17, 18, 19, 20, 21, 22, 23, 24, 25, 26, 27, 28, 29, 30, 31, 32, 33, 34, 35] (by decide +kernel) (by decide +kernel)) (goodIn_sub (fun _ h => List.mem_cons_of_mem _ (List.mem_append_right _ h)) (by decide +kernel))
set_option maxRecDepth 20000 in
theorem gX5_envies_X5_wantsPostOf : GoodIn wsX5_envies (wsV RX5 246 RX5 yX5_wantsPostOf wsX5_wantsPostOf) := goodIn_app (goodIn_of _ (by decide +kernel)) ggX5_envies_X5_wantsPostOf
theorem dX5_envies_0 : decode cX5_envies 0 = .ok (.aload_n 0, 1) := by decide +kernel
theorem dX5_envies_1 : decode cX5_envies 1 = .ok (.iload_n 1, 1) := by decide +kernel
theorem dX5_envies_2 : decode cX5_envies 2 = .ok (.invokevirtual 81, 3) := by decide +kernel
theorem dX5_envies_5 : decode cX5_envies 5 = .ok (.aload_n 0, 1) := by decide +kernel
theorem dX5_envies_6 : decode cX5_envies 6 = .ok (.iload_n 2, 1) := by decide +kernel
theorem dX5_envies_7 : decode cX5_envies 7 = .ok (.invokevirtual 81, 3) := by decide +kernel
theorem dX5_envies_10 : decode cX5_envies 10 = .ok (.aload_n 0, 1) := by decide +kernel
theorem dX5_envies_11 : decode cX5_envies 11 = .ok (.iload_n 1, 1) := by decide +kernel
theorem dX5_envies_12 : decode cX5_envies 12 = .ok (.iload_n 2, 1) := by decide +kernel
theorem dX5_envies_13 : decode cX5_envies 13 = .ok (.invokevirtual 246, 3) := by decide +kernel
theorem dX5_envies_16 : decode cX5_envies 16 = .ok (.ireturn, 1) := by decide +kernel
set_option maxRecDepth 20000 in
theorem ggX5_countEnvy_X5_wantsPostOf : GoodIn wsX5_countEnvy wsX5_wantsPostOf := goodIn_ca (goodIn_r _ [7, 1, 8, 9, 10, 11, 12, 13, 14, 15, 16, 17, 18, 19, 20, 21, 22, 23, 24, 25, 26, 27, 28, 29] (by decide +kernel) (by decide +kernel)) (goodIn_sub (fun _ h => List.mem_cons_of_mem _ (List.mem_append_right _ h)) (by decide +kernel))
set_option maxRecDepth 20000 in
theorem gX5_countEnvy_X5_wantsPostOf : GoodIn wsX5_countEnvy (wsV RX5 246 RX5 yX5_wantsPostOf wsX5_wantsPostOf) := goodIn_app (goodIn_of _ (by decide +kernel)) ggX5_countEnvy_X5_wantsPostOf
theorem dX5_countEnvy_0 : decode cX5_countEnvy 0 = .ok (.iconst 0, 1) := by decide +kernel
theorem dX5_countEnvy_1 : decode cX5_countEnvy 1 = .ok (.istore_n 1, 1) := by decide +kernel
theorem dX5_countEnvy_2 : decode cX5_countEnvy 2 = .ok (.iconst 0, 1) := by decide +kernel
theorem dX5_countEnvy_3 : decode cX5_countEnvy 3 = .ok (.istore_n 2, 1) := by decide +kernel
theorem dX5_countEnvy_4 : decode cX5_countEnvy 4 = .ok (.iload_n 2, 1) := by decide +kernel
theorem dX5_countEnvy_5 : decode cX5_countEnvy 5 = .ok (.aload_n 0, 1) := by decide +kernel
theorem dX5_countEnvy_6 : decode cX5_countEnvy 6 = .ok (.getfield 10, 3) := by decide +kernel
theorem dX5_countEnvy_9 : decode cX5_countEnvy 9 = .ok (.getfield 60, 3) := by decide +kernel
theorem dX5_countEnvy_12 : decode cX5_countEnvy 12 = .ok (.if_icmp .ge 40, 3) := by decide +kernel
theorem dX5_countEnvy_15 : decode cX5_countEnvy 15 = .ok (.iconst 0, 1) := by decide +kernel
theorem dX5_countEnvy_16 : decode cX5_countEnvy 16 = .ok (.istore_n 3, 1) := by decide +kernel
theorem dX5_countEnvy_17 : decode cX5_countEnvy 17 = .ok (.iload_n 3, 1) := by decide +kernel
theorem dX5_countEnvy_18 : decode cX5_countEnvy 18 = .ok (.aload_n 0, 1) := by decide +kernel
theorem dX5_countEnvy_19 : decode cX5_countEnvy 19 = .ok (.getfield 10, 3) := by decide +kernel
theorem dX5_countEnvy_22 : decode cX5_countEnvy 22 = .ok (.getfield 60, 3) := by decide +kernel
theorem dX5_countEnvy_25 : decode cX5_countEnvy 25 = .ok (.if_icmp .ge 21, 3) := by decide +kernel
theorem dX5_countEnvy_28 : decode cX5_countEnvy 28 = .ok (.aload_n 0, 1) := by decide +kernel
theorem dX5_countEnvy_29 : decode cX5_countEnvy 29 = .ok (.iload_n 2, 1) := by decide +kernel
theorem dX5_countEnvy_30 : decode cX5_countEnvy 30 = .ok (.iload_n 3, 1) := by decide +kernel
theorem dX5_countEnvy_31 : decode cX5_countEnvy 31 = .ok (.invokevirtual 246, 3) := by decide +kernel
theorem dX5_countEnvy_34 : decode cX5_countEnvy 34 = .ok (.ifCond .eq 6, 3) := by decide +kernel
theorem dX5_countEnvy_37 : decode cX5_countEnvy 37 = .ok (.iinc 1 1, 3) := by decide +kernel
theorem dX5_countEnvy_40 : decode cX5_countEnvy 40 = .ok (.iinc 3 1, 3) := by decide +kernel
theorem dX5_countEnvy_43 : decode cX5_countEnvy 43 = .ok (.goto (-26), 3) := by decide +kernel
theorem dX5_countEnvy_46 : decode cX5_countEnvy 46 = .ok (.iinc 2 1, 3) := by decide +kernel
theorem dX5_countEnvy_49 : decode cX5_countEnvy 49 = .ok (.goto (-45), 3) := by decide +kernel
theorem dX5_countEnvy_52 : decode cX5_countEnvy 52 = .ok (.iload_n 1, 1) := by decide +kernel
theorem dX5_countEnvy_53 : decode cX5_countEnvy 53 = .ok (.ireturn, 1) := by decide +kernel
set_option maxRecDepth 20000 in
theorem ggX5_matchedShare_X5_countMatched : GoodIn wsX5_matchedShare wsX5_countMatched := goodIn_ca (goodIn_r _ [9, 3, 4, 10, 11, 12, 13, 14, 15, 16, 17, 18, 19, 20, 21, 22, 23, 24] (by decide +kernel) (by decide +kernel)) (goodIn_sub (fun _ h => List.mem_cons_of_mem _ (List.mem_append_right _ h)) (by decide +kernel))
set_option maxRecDepth 20000 in
theorem gX5_matchedShare_X5_countMatched : GoodIn wsX5_matchedShare (wsV RX5 173 RX5 yX5_countMatched wsX5_countMatched) := goodIn_app (goodIn_of _ (by decide +kernel)) ggX5_matchedShare_X5_countMatched
theorem dX5_matchedShare_0 : decode cX5_matchedShare 0 = .ok (.aload_n 0, 1) := by decide +kernel
theorem dX5_matchedShare_1 : decode cX5_matchedShare 1 = .ok (.getfield 10, 3) := by decide +kernel
theorem dX5_matchedShare_4 : decode cX5_matchedShare 4 = .ok (.getfield 60, 3) := by decide +kernel
theorem dX5_matchedShare_7 : decode cX5_matchedShare 7 = .ok (.ifCond .ne 13, 3) := by decide +kernel
theorem dX5_matchedShare_10 : decode cX5_matchedShare 10 = .ok (.new 249, 3) := by decide +kernel
theorem dX5_matchedShare_13 : decode cX5_matchedShare 13 = .ok (.dup, 1) := by decide +kernel
theorem dX5_matchedShare_14 : decode cX5_matchedShare 14 = .ok (.ldc 251, 2) := by decide +kernel
theorem dX5_matchedShare_16 : decode cX5_matchedShare 16 = .ok (.invokespecial 253, 3) := by decide +kernel
theorem dX5_matchedShare_19 : decode cX5_matchedShare 19 = .ok (.athrow, 1) := by decide +kernel
theorem dX5_matchedShare_20 : decode cX5_matchedShare 20 = .ok (.aload_n 0, 1) := by decide +kernel
theorem dX5_matchedShare_21 : decode cX5_matchedShare 21 = .ok (.invokevirtual 173, 3) := by decide +kernel
theorem dX5_matchedShare_24 : decode cX5_matchedShare 24 = .ok (.i2f, 1) := by decide +kernel
theorem dX5_matchedShare_25 : decode cX5_matchedShare 25 = .ok (.aload_n 0, 1) := by decide +kernel
theorem dX5_matchedShare_26 : decode cX5_matchedShare 26 = .ok (.getfield 10, 3) := by decide +kernel
theorem dX5_matchedShare_29 : decode cX5_matchedShare 29 = .ok (.getfield 60, 3) := by decide +kernel
theorem dX5_matchedShare_32 : decode cX5_matchedShare 32 = .ok (.i2f, 1) := by decide +kernel
theorem dX5_matchedShare_33 : decode cX5_matchedShare 33 = .ok (.fdiv, 1) := by decide +kernel
theorem dX5_matchedShare_34 : decode cX5_matchedShare 34 = .ok (.freturn, 1) := by decide +kernel
set_option maxRecDepth 20000 in
theorem ggX5_meanRank_X5_countMatched : GoodIn wsX5_meanRank wsX5_countMatched := goodIn_ca (goodIn_r _ [10, 3, 4, 5, 18, 19, 20, 21, 22, 23, 24, 25, 26, 27, 28, 29, 30, 31] (by decide +kernel) (by decide +kernel)) (goodIn_sub (fun _ h => List.mem_cons_of_mem _ (List.mem_append_right _ h)) (by decide +kernel))
set_option maxRecDepth 20000 in
theorem gX5_meanRank_X5_countMatched : GoodIn wsX5_meanRank (wsV RX5 173 RX5 yX5_countMatched wsX5_countMatched) := goodIn_app (goodIn_of _ (by decide +kernel)) ggX5_meanRank_X5_countMatched
set_option maxRecDepth 20000 in
theorem ggX5_meanRank_X2_levelOf : GoodIn wsX5_meanRank wsX2_levelOf := goodIn_ca (goodIn_r _ [15, 16, 17, 25, 26, 27, 28, 29, 30, 31] (by decide +kernel) (by decide +kernel)) (goodIn_sub (fun _ h => List.mem_cons_of_mem _ (List.mem_append_right _ h)) (by decide +kernel))
set_option maxRecDepth 20000 in
theorem gX5_meanRank_X2_levelOf : GoodIn wsX5_meanRank (wsV RX5 239 RX2 yX2_levelOf wsX2_levelOf) := goodIn_app (goodIn_of _ (by decide +kernel)) ggX5_meanRank_X2_levelOf
theorem dX5_meanRank_0 : decode cX5_meanRank 0 = .ok (.aload_n 0, 1) := by decide +kernel
theorem dX5_meanRank_1 : decode cX5_meanRank 1 = .ok (.invokevirtual 173, 3) := by decide +kernel
theorem dX5_meanRank_4 : decode cX5_meanRank 4 = .ok (.istore_n 1, 1) := by decide +kernel
theorem dX5_meanRank_5 : decode cX5_meanRank 5 = .ok (.iload_n 1, 1) := by decide +kernel
theorem dX5_meanRank_6 : decode cX5_meanRank 6 = .ok (.ifCond .ne 13, 3) := by decide +kernel
theorem dX5_meanRank_9 : decode cX5_meanRank 9 = .ok (.new 249, 3) := by decide +kernel
theorem dX5_meanRank_12 : decode cX5_meanRank 12 = .ok (.dup, 1) := by decide +kernel
theorem dX5_meanRank_13 : decode cX5_meanRank 13 = .ok (.ldc 254, 2) := by decide +kernel
theorem dX5_meanRank_15 : decode cX5_meanRank 15 = .ok (.invokespecial 253, 3) := by decide +kernel
theorem dX5_meanRank_18 : decode cX5_meanRank 18 = .ok (.athrow, 1) := by decide +kernel
theorem dX5_meanRank_19 : decode cX5_meanRank 19 = .ok (.iconst 0, 1) := by decide +kernel
theorem dX5_meanRank_20 : decode cX5_meanRank 20 = .ok (.istore_n 2, 1) := by decide +kernel
theorem dX5_meanRank_21 : decode cX5_meanRank 21 = .ok (.iconst 0, 1) := by decide +kernel
theorem dX5_meanRank_22 : decode cX5_meanRank 22 = .ok (.istore_n 3, 1) := by decide +kernel
theorem dX5_meanRank_23 : decode cX5_meanRank 23 = .ok (.iload_n 3, 1) := by decide +kernel
theorem dX5_meanRank_24 : decode cX5_meanRank 24 = .ok (.aload_n 0, 1) := by decide +kernel
theorem dX5_meanRank_25 : decode cX5_meanRank 25 = .ok (.getfield 10, 3) := by decide +kernel
theorem dX5_meanRank_28 : decode cX5_meanRank 28 = .ok (.getfield 60, 3) := by decide +kernel
theorem dX5_meanRank_31 : decode cX5_meanRank 31 = .ok (.if_icmp .ge 36, 3) := by decide +kernel
theorem dX5_meanRank_34 : decode cX5_meanRank 34 = .ok (.aload_n 0, 1) := by decide +kernel
theorem dX5_meanRank_35 : decode cX5_meanRank 35 = .ok (.getfield 37, 3) := by decide +kernel
theorem dX5_meanRank_38 : decode cX5_meanRank 38 = .ok (.iload_n 3, 1) := by decide +kernel
theorem dX5_meanRank_39 : decode cX5_meanRank 39 = .ok (.iaload, 1) := by decide +kernel
theorem dX5_meanRank_40 : decode cX5_meanRank 40 = .ok (.iconst (-1), 1) := by decide +kernel
theorem dX5_meanRank_41 : decode cX5_meanRank 41 = .ok (.if_icmp .eq 20, 3) := by decide +kernel
theorem dX5_meanRank_44 : decode cX5_meanRank 44 = .ok (.iload_n 2, 1) := by decide +kernel
theorem dX5_meanRank_45 : decode cX5_meanRank 45 = .ok (.aload_n 0, 1) := by decide +kernel
theorem dX5_meanRank_46 : decode cX5_meanRank 46 = .ok (.getfield 10, 3) := by decide +kernel
theorem dX5_meanRank_49 : decode cX5_meanRank 49 = .ok (.iload_n 3, 1) := by decide +kernel
theorem dX5_meanRank_50 : decode cX5_meanRank 50 = .ok (.aload_n 0, 1) := by decide +kernel
theorem dX5_meanRank_51 : decode cX5_meanRank 51 = .ok (.getfield 37, 3) := by decide +kernel
theorem dX5_meanRank_54 : decode cX5_meanRank 54 = .ok (.iload_n 3, 1) := by decide +kernel
theorem dX5_meanRank_55 : decode cX5_meanRank 55 = .ok (.iaload, 1) := by decide +kernel
theorem dX5_meanRank_56 : decode cX5_meanRank 56 = .ok (.invokevirtual 239, 3) := by decide +kernel
theorem dX5_meanRank_59 : decode cX5_meanRank 59 = .ok (.iadd, 1) := by decide +kernel
theorem dX5_meanRank_60 : decode cX5_meanRank 60 = .ok (.istore_n 2, 1) := by decide +kernel
theorem dX5_meanRank_61 : decode cX5_meanRank 61 = .ok (.iinc 3 1, 3) := by decide +kernel
theorem dX5_meanRank_64 : decode cX5_meanRank 64 = .ok (.goto (-41), 3) := by decide +kernel
theorem dX5_meanRank_67 : decode cX5_meanRank 67 = .ok (.iload_n 2, 1) := by decide +kernel
theorem dX5_meanRank_68 : decode cX5_meanRank 68 = .ok (.i2d, 1) := by decide +kernel
theorem dX5_meanRank_69 : decode cX5_meanRank 69 = .ok (.iload_n 1, 1) := by decide +kernel
theorem dX5_meanRank_70 : decode cX5_meanRank 70 = .ok (.i2d, 1) := by decide +kernel
theorem dX5_meanRank_71 : decode cX5_meanRank 71 = .ok (.ddiv, 1) := by decide +kernel
theorem dX5_meanRank_72 : decode cX5_meanRank 72 = .ok (.dreturn, 1) := by decide +kernel
theorem dX5_checksum_0 : decode cX5_checksum 0 = .ok (.ldc2_w 256, 3) := by decide +kernel
theorem dX5_checksum_3 : decode cX5_checksum 3 = .ok (.lstore_n 1, 1) := by decide +kernel
theorem dX5_checksum_4 : decode cX5_checksum 4 = .ok (.iconst 0, 1) := by decide +kernel
theorem dX5_checksum_5 : decode cX5_checksum 5 = .ok (.istore_n 3, 1) := by decide +kernel
theorem dX5_checksum_6 : decode cX5_checksum 6 = .ok (.iload_n 3, 1) := by decide +kernel
theorem dX5_checksum_7 : decode cX5_checksum 7 = .ok (.aload_n 0, 1) := by decide +kernel
theorem dX5_checksum_8 : decode cX5_checksum 8 = .ok (.getfield 10, 3) := by decide +kernel
theorem dX5_checksum_11 : decode cX5_checksum 11 = .ok (.getfield 60, 3) := by decide +kernel
theorem dX5_checksum_14 : decode cX5_checksum 14 = .ok (.if_icmp .ge 81, 3) := by decide +kernel
theorem dX5_checksum_17 : decode cX5_checksum 17 = .ok (.ldc2_w 258, 3) := by decide +kernel
theorem dX5_checksum_20 : decode cX5_checksum 20 = .ok (.lload_n 1, 1) := by decide +kernel
theorem dX5_checksum_21 : decode cX5_checksum 21 = .ok (.lmul, 1) := by decide +kernel
theorem dX5_checksum_22 : decode cX5_checksum 22 = .ok (.aload_n 0, 1) := by decide +kernel
theorem dX5_checksum_23 : decode cX5_checksum 23 = .ok (.getfield 10, 3) := by decide +kernel
theorem dX5_checksum_26 : decode cX5_checksum 26 = .ok (.getfield 70, 3) := by decide +kernel
theorem dX5_checksum_29 : decode cX5_checksum 29 = .ok (.iload_n 3, 1) := by decide +kernel
theorem dX5_checksum_30 : decode cX5_checksum 30 = .ok (.iaload, 1) := by decide +kernel
theorem dX5_checksum_31 : decode cX5_checksum 31 = .ok (.i2l, 1) := by decide +kernel
theorem dX5_checksum_32 : decode cX5_checksum 32 = .ok (.ladd, 1) := by decide +kernel
theorem dX5_checksum_33 : decode cX5_checksum 33 = .ok (.lstore_n 1, 1) := by decide +kernel
theorem dX5_checksum_34 : decode cX5_checksum 34 = .ok (.iconst 0, 1) := by decide +kernel
theorem dX5_checksum_35 : decode cX5_checksum 35 = .ok (.istore 4, 2) := by decide +kernel
theorem dX5_checksum_37 : decode cX5_checksum 37 = .ok (.iload 4, 2) := by decide +kernel
theorem dX5_checksum_39 : decode cX5_checksum 39 = .ok (.aload_n 0, 1) := by decide +kernel
theorem dX5_checksum_40 : decode cX5_checksum 40 = .ok (.getfield 10, 3) := by decide +kernel
theorem dX5_checksum_43 : decode cX5_checksum 43 = .ok (.getfield 73, 3) := by decide +kernel
theorem dX5_checksum_46 : decode cX5_checksum 46 = .ok (.if_icmp .ge 29, 3) := by decide +kernel
theorem dX5_checksum_49 : decode cX5_checksum 49 = .ok (.ldc2_w 258, 3) := by decide +kernel
theorem dX5_checksum_52 : decode cX5_checksum 52 = .ok (.lload_n 1, 1) := by decide +kernel
theorem dX5_checksum_53 : decode cX5_checksum 53 = .ok (.lmul, 1) := by decide +kernel
theorem dX5_checksum_54 : decode cX5_checksum 54 = .ok (.aload_n 0, 1) := by decide +kernel
theorem dX5_checksum_55 : decode cX5_checksum 55 = .ok (.getfield 10, 3) := by decide +kernel
theorem dX5_checksum_58 : decode cX5_checksum 58 = .ok (.getfield 97, 3) := by decide +kernel
theorem dX5_checksum_61 : decode cX5_checksum 61 = .ok (.iload_n 3, 1) := by decide +kernel
theorem dX5_checksum_62 : decode cX5_checksum 62 = .ok (.aaload, 1) := by decide +kernel
theorem dX5_checksum_63 : decode cX5_checksum 63 = .ok (.iload 4, 2) := by decide +kernel
theorem dX5_checksum_65 : decode cX5_checksum 65 = .ok (.iaload, 1) := by decide +kernel
theorem dX5_checksum_66 : decode cX5_checksum 66 = .ok (.i2l, 1) := by decide +kernel
theorem dX5_checksum_67 : decode cX5_checksum 67 = .ok (.ladd, 1) := by decide +kernel
theorem dX5_checksum_68 : decode cX5_checksum 68 = .ok (.lstore_n 1, 1) := by decide +kernel
theorem dX5_checksum_69 : decode cX5_checksum 69 = .ok (.iinc 4 1, 3) := by decide +kernel
theorem dX5_checksum_72 : decode cX5_checksum 72 = .ok (.goto (-35), 3) := by decide +kernel
theorem dX5_checksum_75 : decode cX5_checksum 75 = .ok (.ldc2_w 258, 3) := by decide +kernel
theorem dX5_checksum_78 : decode cX5_checksum 78 = .ok (.lload_n 1, 1) := by decide +kernel
theorem dX5_checksum_79 : decode cX5_checksum 79 = .ok (.lmul, 1) := by decide +kernel
theorem dX5_checksum_80 : decode cX5_checksum 80 = .ok (.aload_n 0, 1) := by decide +kernel
theorem dX5_checksum_81 : decode cX5_checksum 81 = .ok (.getfield 37, 3) := by decide +kernel
theorem dX5_checksum_84 : decode cX5_checksum 84 = .ok (.iload_n 3, 1) := by decide +kernel
theorem dX5_checksum_85 : decode cX5_checksum 85 = .ok (.iaload, 1) := by decide +kernel
theorem dX5_checksum_86 : decode cX5_checksum 86 = .ok (.i2l, 1) := by decide +kernel
theorem dX5_checksum_87 : decode cX5_checksum 87 = .ok (.ladd, 1) := by decide +kernel
theorem dX5_checksum_88 : decode cX5_checksum 88 = .ok (.lstore_n 1, 1) := by decide +kernel
theorem dX5_checksum_89 : decode cX5_checksum 89 = .ok (.iinc 3 1, 3) := by decide +kernel
theorem dX5_checksum_92 : decode cX5_checksum 92 = .ok (.goto (-86), 3) := by decide +kernel
theorem dX5_checksum_95 : decode cX5_checksum 95 = .ok (.iconst 0, 1) := by decide +kernel
theorem dX5_checksum_96 : decode cX5_checksum 96 = .ok (.istore_n 3, 1) := by decide +kernel
theorem dX5_checksum_97 : decode cX5_checksum 97 = .ok (.iload_n 3, 1) := by decide +kernel
theorem dX5_checksum_98 : decode cX5_checksum 98 = .ok (.aload_n 0, 1) := by decide +kernel
theorem dX5_checksum_99 : decode cX5_checksum 99 = .ok (.getfield 10, 3) := by decide +kernel
theorem dX5_checksum_102 : decode cX5_checksum 102 = .ok (.getfield 73, 3) := by decide +kernel
theorem dX5_checksum_105 : decode cX5_checksum 105 = .ok (.if_icmp .ge 26, 3) := by decide +kernel
theorem dX5_checksum_108 : decode cX5_checksum 108 = .ok (.ldc2_w 258, 3) := by decide +kernel
theorem dX5_checksum_111 : decode cX5_checksum 111 = .ok (.lload_n 1, 1) := by decide +kernel
theorem dX5_checksum_112 : decode cX5_checksum 112 = .ok (.lmul, 1) := by decide +kernel
theorem dX5_checksum_113 : decode cX5_checksum 113 = .ok (.aload_n 0, 1) := by decide +kernel
theorem dX5_checksum_114 : decode cX5_checksum 114 = .ok (.getfield 10, 3) := by decide +kernel
theorem dX5_checksum_117 : decode cX5_checksum 117 = .ok (.getfield 78, 3) := by decide +kernel
theorem dX5_checksum_120 : decode cX5_checksum 120 = .ok (.iload_n 3, 1) := by decide +kernel
theorem dX5_checksum_121 : decode cX5_checksum 121 = .ok (.iaload, 1) := by decide +kernel
theorem dX5_checksum_122 : decode cX5_checksum 122 = .ok (.i2l, 1) := by decide +kernel
theorem dX5_checksum_123 : decode cX5_checksum 123 = .ok (.ladd, 1) := by decide +kernel
theorem dX5_checksum_124 : decode cX5_checksum 124 = .ok (.lstore_n 1, 1) := by decide +kernel
theorem dX5_checksum_125 : decode cX5_checksum 125 = .ok (.iinc 3 1, 3) := by decide +kernel
theorem dX5_checksum_128 : decode cX5_checksum 128 = .ok (.goto (-31), 3) := by decide +kernel
theorem dX5_checksum_131 : decode cX5_checksum 131 = .ok (.iconst 0, 1) := by decide +kernel
theorem dX5_checksum_132 : decode cX5_checksum 132 = .ok (.istore_n 3, 1) := by decide +kernel
theorem dX5_checksum_133 : decode cX5_checksum 133 = .ok (.iload_n 3, 1) := by decide +kernel
theorem dX5_checksum_134 : decode cX5_checksum 134 = .ok (.aload_n 0, 1) := by decide +kernel
theorem dX5_checksum_135 : decode cX5_checksum 135 = .ok (.getfield 46, 3) := by decide +kernel
theorem dX5_checksum_138 : decode cX5_checksum 138 = .ok (.if_icmp .ge 47, 3) := by decide +kernel
theorem dX5_checksum_141 : decode cX5_checksum 141 = .ok (.iconst 0, 1) := by decide +kernel
theorem dX5_checksum_142 : decode cX5_checksum 142 = .ok (.istore 4, 2) := by decide +kernel
theorem dX5_checksum_144 : decode cX5_checksum 144 = .ok (.iload 4, 2) := by decide +kernel
theorem dX5_checksum_146 : decode cX5_checksum 146 = .ok (.aload_n 0, 1) := by decide +kernel
theorem dX5_checksum_147 : decode cX5_checksum 147 = .ok (.getfield 10, 3) := by decide +kernel
theorem dX5_checksum_150 : decode cX5_checksum 150 = .ok (.getfield 60, 3) := by decide +kernel
theorem dX5_checksum_153 : decode cX5_checksum 153 = .ok (.if_icmp .ge 26, 3) := by decide +kernel
theorem dX5_checksum_156 : decode cX5_checksum 156 = .ok (.ldc2_w 258, 3) := by decide +kernel
theorem dX5_checksum_159 : decode cX5_checksum 159 = .ok (.lload_n 1, 1) := by decide +kernel
theorem dX5_checksum_160 : decode cX5_checksum 160 = .ok (.lmul, 1) := by decide +kernel
theorem dX5_checksum_161 : decode cX5_checksum 161 = .ok (.aload_n 0, 1) := by decide +kernel
theorem dX5_checksum_162 : decode cX5_checksum 162 = .ok (.getfield 43, 3) := by decide +kernel
theorem dX5_checksum_165 : decode cX5_checksum 165 = .ok (.iload_n 3, 1) := by decide +kernel
theorem dX5_checksum_166 : decode cX5_checksum 166 = .ok (.aaload, 1) := by decide +kernel
theorem dX5_checksum_167 : decode cX5_checksum 167 = .ok (.iload 4, 2) := by decide +kernel
theorem dX5_checksum_169 : decode cX5_checksum 169 = .ok (.iaload, 1) := by decide +kernel
theorem dX5_checksum_170 : decode cX5_checksum 170 = .ok (.i2l, 1) := by decide +kernel
theorem dX5_checksum_171 : decode cX5_checksum 171 = .ok (.ladd, 1) := by decide +kernel
theorem dX5_checksum_172 : decode cX5_checksum 172 = .ok (.lstore_n 1, 1) := by decide +kernel
theorem dX5_checksum_173 : decode cX5_checksum 173 = .ok (.iinc 4 1, 3) := by decide +kernel
theorem dX5_checksum_176 : decode cX5_checksum 176 = .ok (.goto (-32), 3) := by decide +kernel
theorem dX5_checksum_179 : decode cX5_checksum 179 = .ok (.iinc 3 1, 3) := by decide +kernel
theorem dX5_checksum_182 : decode cX5_checksum 182 = .ok (.goto (-49), 3) := by decide +kernel
theorem dX5_checksum_185 : decode cX5_checksum 185 = .ok (.lload_n 1, 1) := by decide +kernel
theorem dX5_checksum_186 : decode cX5_checksum 186 = .ok (.lreturn, 1) := by decide +kernel
set_option maxRecDepth 20000 in
theorem ggX5_isTrue_X1_findChallenger : GoodIn wsX5_isTrue wsX1_findChallenger := goodIn_ca (goodIn_r _ [10, 11, 12, 13, 14, 15, 16, 17, 18, 19, 20, 21, 22, 23, 24, 25, 26, 27, 28, 29, 30, 31, 32, 33, 34, 35, 36, 37, 38, 39, 40, 41, 42, 43, 44, 45, 46, 47, 48, 49, 50, 51, 52, 53, 54, 55, 56, 57, 58, 59, 60, 61, 62, 63, 64, 65, 66, 67, 68, 69, 70, 71, 72, 73, 74, 75, 76, 77, 78, 79, 80, 81, 177, 178, 179, 180, 181, 182, 183, 171, 172, 173, 174, 175, 176, 184, 185, 186, 187, 188, 189, 190] (by decide +kernel) (by decide +kernel)) (goodIn_sub (fun _ h => List.mem_cons_of_mem _ (List.mem_append_right _ h)) (by decide +kernel))
set_option maxRecDepth 20000 in
theorem gX5_isTrue_X1_findChallenger : GoodIn wsX5_isTrue (wsV RX5 206 RX1 yX1_findChallenger wsX1_findChallenger) := goodIn_app (goodIn_of _ (by decide +kernel)) ggX5_isTrue_X1_findChallenger
set_option maxRecDepth 20000 in
theorem ggX5_isTrue_X1_findBest : GoodIn wsX5_isTrue wsX1_findBest := goodIn_ca (goodIn_r _ [85, 14, 86, 87, 88, 89, 9, 90, 11, 13, 91, 15, 16, 34, 35, 36, 37, 38, 39, 40, 41, 42, 43, 44, 45, 46, 47, 48, 49, 50, 51, 52, 53, 54, 55, 56, 57, 58, 59, 60, 61, 62, 63, 64, 65, 66, 67, 68, 69, 70, 71, 72, 73, 74, 75, 76, 77, 78, 79, 80, 81, 171, 172, 173, 174, 175, 176, 177, 178, 179, 180, 181, 182, 183, 184, 185, 186, 187, 188, 189, 190] (by decide +kernel) (by decide +kernel)) (goodIn_sub (fun _ h => List.mem_cons_of_mem _ (List.mem_append_right _ h)) (by decide +kernel))
set_option maxRecDepth 20000 in
theorem gX5_isTrue_X1_findBest : GoodIn wsX5_isTrue (wsV RX5 228 RX1 yX1_findBest wsX1_findBest) := goodIn_app (goodIn_of _ (by decide +kernel)) ggX5_isTrue_X1_findBest
set_option maxRecDepth 20000 in
theorem ggX5_isTrue_X2_allows : GoodIn wsX5_isTrue wsX2_allows := goodIn_ca (goodIn_r _ [95, 96, 97, 98, 99, 46, 47, 48, 100, 26, 27, 21, 28, 29, 19, 20, 22, 23, 24, 177, 178, 179, 180, 181, 182, 183] (by decide +kernel) (by decide +kernel)) (goodIn_sub (fun _ h => List.mem_cons_of_mem _ (List.mem_append_right _ h)) (by decide +kernel))
set_option maxRecDepth 20000 in
theorem gX5_isTrue_X2_allows : GoodIn wsX5_isTrue (wsV RX5 167 RX2 yX2_allows wsX2_allows) := goodIn_app (goodIn_of _ (by decide +kernel)) ggX5_isTrue_X2_allows
set_option maxRecDepth 20000 in
theorem ggX5_isTrue_X2_leadOf : GoodIn wsX5_isTrue wsX2_leadOf := goodIn_ca (goodIn_r _ [104, 105, 106, 107, 21, 108, 97, 109, 29, 19, 20, 22, 23, 24, 177, 178, 179, 180, 181, 182, 183] (by decide +kernel) (by decide +kernel)) (goodIn_sub (fun _ h => List.mem_cons_of_mem _ (List.mem_append_right _ h)) (by decide +kernel))
set_option maxRecDepth 20000 in
theorem gX5_isTrue_X2_leadOf : GoodIn wsX5_isTrue (wsV RX5 188 RX2 yX2_leadOf wsX2_leadOf) := goodIn_app (goodIn_of _ (by decide +kernel)) ggX5_isTrue_X2_leadOf
set_option maxRecDepth 20000 in
theorem ggX5_isTrue_X5_greatestKeptLead : GoodIn wsX5_isTrue wsX5_greatestKeptLead := goodIn_ca (goodIn_r _ [114, 115, 2, 116, 117, 118, 119, 120, 92, 93, 94, 21, 95, 96, 97, 98, 99, 46, 47, 48, 100, 26, 27, 28, 29, 19, 20, 22, 23, 24, 101, 102, 103, 104, 105, 106, 107, 108, 109, 164, 165, 166, 167, 168, 169, 170, 177, 178, 179, 180, 181, 182, 183] (by decide +kernel) (by decide +kernel)) (goodIn_sub (fun _ h => List.mem_cons_of_mem _ (List.mem_append_right _ h)) (by decide +kernel))
set_option maxRecDepth 20000 in
theorem gX5_isTrue_X5_greatestKeptLead : GoodIn wsX5_isTrue (wsV RX5 260 RX5 yX5_greatestKeptLead wsX5_greatestKeptLead) := goodIn_app (goodIn_of _ (by decide +kernel)) ggX5_isTrue_X5_greatestKeptLead
set_option maxRecDepth 20000 in
theorem ggX5_isTrue_X5_popularHolds : GoodIn wsX5_isTrue wsX5_popularHolds := goodIn_ca (goodIn_r _ [124, 2, 1, 125, 4, 126, 127, 128, 21, 129, 97, 109, 130, 131, 132, 9, 133, 14, 11, 134, 135, 136, 137, 138, 13, 139, 140, 119, 141, 142, 15, 16, 18, 19, 20, 22, 23, 24, 143, 144, 145, 146, 91, 34, 35, 36, 37, 38, 39, 40, 41, 42, 43, 44, 45, 46, 47, 48, 49, 50, 51, 52, 53, 54, 55, 56, 57, 58, 59, 60, 61, 62, 63, 64, 65, 66, 67, 68, 69, 70, 71, 72, 73, 74, 75, 76, 77, 147, 148, 149, 150, 151, 152, 153, 154, 155, 156, 157, 158, 159, 160, 161, 162, 163, 78, 79, 80, 81, 110, 111, 112, 113, 114, 115, 116, 117, 118, 120, 92, 93, 94, 95, 96, 98, 99, 100, 26, 27, 28, 29, 101, 102, 103, 104, 105, 106, 107, 108, 164, 165, 166, 167, 168, 169, 170, 171, 172, 173, 174, 175, 176, 177, 178, 179, 180, 181, 182, 183, 184, 185, 186, 187, 188, 189, 190] (by decide +kernel) (by decide +kernel)) (goodIn_sub (fun _ h => List.mem_cons_of_mem _ (List.mem_append_right _ h)) (by decide +kernel))
set_option maxRecDepth 20000 in
theorem gX5_isTrue_X5_popularHolds : GoodIn wsX5_isTrue (wsV RX5 264 RX5 yX5_popularHolds wsX5_popularHolds) := goodIn_app (goodIn_of _ (by decide +kernel)) ggX5_isTrue_X5_popularHolds
theorem dX5_isTrue_0 : decode cX5_isTrue 0 = .ok (.aload_n 0, 1) := by decide +kernel
theorem dX5_isTrue_1 : decode cX5_isTrue 1 = .ok (.getfield 26, 3) := by decide +kernel
theorem dX5_isTrue_4 : decode cX5_isTrue 4 = .ok (.aload_n 0, 1) := by decide +kernel
theorem dX5_isTrue_5 : decode cX5_isTrue 5 = .ok (.getfield 10, 3) := by decide +kernel
theorem dX5_isTrue_8 : decode cX5_isTrue 8 = .ok (.aload_n 0, 1) := by decide +kernel
theorem dX5_isTrue_9 : decode cX5_isTrue 9 = .ok (.getfield 37, 3) := by decide +kernel
theorem dX5_isTrue_12 : decode cX5_isTrue 12 = .ok (.invokevirtual 206, 3) := by decide +kernel
theorem dX5_isTrue_15 : decode cX5_isTrue 15 = .ok (.istore_n 1, 1) := by decide +kernel
theorem dX5_isTrue_16 : decode cX5_isTrue 16 = .ok (.aload_n 0, 1) := by decide +kernel
theorem dX5_isTrue_17 : decode cX5_isTrue 17 = .ok (.getfield 26, 3) := by decide +kernel
theorem dX5_isTrue_20 : decode cX5_isTrue 20 = .ok (.aload_n 0, 1) := by decide +kernel
theorem dX5_isTrue_21 : decode cX5_isTrue 21 = .ok (.getfield 10, 3) := by decide +kernel
theorem dX5_isTrue_24 : decode cX5_isTrue 24 = .ok (.invokevirtual 228, 3) := by decide +kernel
theorem dX5_isTrue_27 : decode cX5_isTrue 27 = .ok (.aload_n 0, 1) := by decide +kernel
theorem dX5_isTrue_28 : decode cX5_isTrue 28 = .ok (.getfield 10, 3) := by decide +kernel
theorem dX5_isTrue_31 : decode cX5_isTrue 31 = .ok (.aload_n 0, 1) := by decide +kernel
theorem dX5_isTrue_32 : decode cX5_isTrue 32 = .ok (.getfield 37, 3) := by decide +kernel
theorem dX5_isTrue_35 : decode cX5_isTrue 35 = .ok (.invokevirtual 167, 3) := by decide +kernel
theorem dX5_isTrue_38 : decode cX5_isTrue 38 = .ok (.ifCond .eq 82, 3) := by decide +kernel
theorem dX5_isTrue_41 : decode cX5_isTrue 41 = .ok (.aload_n 0, 1) := by decide +kernel
theorem dX5_isTrue_42 : decode cX5_isTrue 42 = .ok (.getfield 10, 3) := by decide +kernel
theorem dX5_isTrue_45 : decode cX5_isTrue 45 = .ok (.aload_n 0, 1) := by decide +kernel
theorem dX5_isTrue_46 : decode cX5_isTrue 46 = .ok (.getfield 26, 3) := by decide +kernel
theorem dX5_isTrue_49 : decode cX5_isTrue 49 = .ok (.getfield 232, 3) := by decide +kernel
theorem dX5_isTrue_52 : decode cX5_isTrue 52 = .ok (.invokevirtual 167, 3) := by decide +kernel
theorem dX5_isTrue_55 : decode cX5_isTrue 55 = .ok (.ifCond .eq 65, 3) := by decide +kernel
theorem dX5_isTrue_58 : decode cX5_isTrue 58 = .ok (.aload_n 0, 1) := by decide +kernel
theorem dX5_isTrue_59 : decode cX5_isTrue 59 = .ok (.getfield 10, 3) := by decide +kernel
theorem dX5_isTrue_62 : decode cX5_isTrue 62 = .ok (.aload_n 0, 1) := by decide +kernel
theorem dX5_isTrue_63 : decode cX5_isTrue 63 = .ok (.getfield 26, 3) := by decide +kernel
theorem dX5_isTrue_66 : decode cX5_isTrue 66 = .ok (.getfield 210, 3) := by decide +kernel
theorem dX5_isTrue_69 : decode cX5_isTrue 69 = .ok (.invokevirtual 167, 3) := by decide +kernel
theorem dX5_isTrue_72 : decode cX5_isTrue 72 = .ok (.ifCond .eq 48, 3) := by decide +kernel
theorem dX5_isTrue_75 : decode cX5_isTrue 75 = .ok (.aload_n 0, 1) := by decide +kernel
theorem dX5_isTrue_76 : decode cX5_isTrue 76 = .ok (.getfield 10, 3) := by decide +kernel
theorem dX5_isTrue_79 : decode cX5_isTrue 79 = .ok (.aload_n 0, 1) := by decide +kernel
theorem dX5_isTrue_80 : decode cX5_isTrue 80 = .ok (.getfield 26, 3) := by decide +kernel
theorem dX5_isTrue_83 : decode cX5_isTrue 83 = .ok (.getfield 210, 3) := by decide +kernel
theorem dX5_isTrue_86 : decode cX5_isTrue 86 = .ok (.aload_n 0, 1) := by decide +kernel
theorem dX5_isTrue_87 : decode cX5_isTrue 87 = .ok (.getfield 37, 3) := by decide +kernel
theorem dX5_isTrue_90 : decode cX5_isTrue 90 = .ok (.invokevirtual 188, 3) := by decide +kernel
theorem dX5_isTrue_93 : decode cX5_isTrue 93 = .ok (.iload_n 1, 1) := by decide +kernel
theorem dX5_isTrue_94 : decode cX5_isTrue 94 = .ok (.if_icmp .ne 26, 3) := by decide +kernel
theorem dX5_isTrue_97 : decode cX5_isTrue 97 = .ok (.aload_n 0, 1) := by decide +kernel
theorem dX5_isTrue_98 : decode cX5_isTrue 98 = .ok (.aload_n 0, 1) := by decide +kernel
theorem dX5_isTrue_99 : decode cX5_isTrue 99 = .ok (.getfield 37, 3) := by decide +kernel
theorem dX5_isTrue_102 : decode cX5_isTrue 102 = .ok (.invokevirtual 260, 3) := by decide +kernel
theorem dX5_isTrue_105 : decode cX5_isTrue 105 = .ok (.iload_n 1, 1) := by decide +kernel
theorem dX5_isTrue_106 : decode cX5_isTrue 106 = .ok (.if_icmp .gt 14, 3) := by decide +kernel
theorem dX5_isTrue_109 : decode cX5_isTrue 109 = .ok (.aload_n 0, 1) := by decide +kernel
theorem dX5_isTrue_110 : decode cX5_isTrue 110 = .ok (.invokevirtual 264, 3) := by decide +kernel
theorem dX5_isTrue_113 : decode cX5_isTrue 113 = .ok (.ifCond .eq 7, 3) := by decide +kernel
theorem dX5_isTrue_116 : decode cX5_isTrue 116 = .ok (.iconst 1, 1) := by decide +kernel
theorem dX5_isTrue_117 : decode cX5_isTrue 117 = .ok (.goto 4, 3) := by decide +kernel
theorem dX5_isTrue_120 : decode cX5_isTrue 120 = .ok (.iconst 0, 1) := by decide +kernel
theorem dX5_isTrue_121 : decode cX5_isTrue 121 = .ok (.ireturn, 1) := by decide +kernel
set_option maxRecDepth 20000 in
theorem ggX5_popularHolds_X2_hasLikeWeights : GoodIn wsX5_popularHolds wsX2_hasLikeWeights := goodIn_ca (goodIn_r _ [9, 10, 11, 151, 152, 153, 154, 155, 156, 157] (by decide +kernel) (by decide +kernel)) (goodIn_sub (fun _ h => List.mem_cons_of_mem _ (List.mem_append_right _ h)) (by decide +kernel))
set_option maxRecDepth 20000 in
theorem gX5_popularHolds_X2_hasLikeWeights : GoodIn wsX5_popularHolds (wsV RX5 267 RX2 yX2_hasLikeWeights wsX2_hasLikeWeights) := goodIn_app (goodIn_of _ (by decide +kernel)) ggX5_popularHolds_X2_hasLikeWeights
set_option maxRecDepth 20000 in
theorem ggX5_popularHolds_X1_findPopular : GoodIn wsX5_popularHolds wsX1_findPopular := goodIn_ca (goodIn_r _ [16, 17, 18, 19, 20, 21, 22, 15, 23, 24, 25, 26, 27, 28, 29, 30, 31, 32, 33, 34, 8, 35, 36, 37, 38, 39, 40, 41, 42, 43, 44, 45, 46, 47, 48, 49, 50, 51, 52, 53, 54, 55, 56, 57, 58, 59, 60, 61, 62, 63, 64, 65, 66, 67, 68, 69, 70, 71, 72, 73, 74, 75, 76, 77, 78, 79, 80, 81, 82, 83, 84, 85, 86, 87, 88, 89, 90, 91, 92, 93, 94, 95, 96, 97, 98, 99, 100, 101, 102, 103, 104, 105, 106, 107, 145, 146, 147, 148, 149, 150, 151, 152, 153, 154, 155, 156, 157, 158, 159, 160, 161, 162, 163, 164] (by decide +kernel) (by decide +kernel)) (goodIn_sub (fun _ h => List.mem_cons_of_mem _ (List.mem_append_right _ h)) (by decide +kernel))
set_option maxRecDepth 20000 in
theorem gX5_popularHolds_X1_findPopular : GoodIn wsX5_popularHolds (wsV RX5 216 RX1 yX1_findPopular wsX1_findPopular) := goodIn_app (goodIn_of _ (by decide +kernel)) ggX5_popularHolds_X1_findPopular
set_option maxRecDepth 20000 in
theorem ggX5_popularHolds_X5_greatestKeptLead : GoodIn wsX5_popularHolds wsX5_greatestKeptLead := goodIn_ca (goodIn_r _ [112, 113, 1, 114, 115, 116, 27, 117, 118, 119, 120, 8, 121, 122, 10, 123, 124, 55, 56, 57, 125, 126, 127, 128, 129, 33, 34, 35, 36, 37, 130, 131, 132, 133, 134, 135, 136, 137, 11, 138, 139, 140, 141, 142, 143, 144, 151, 152, 153, 154, 155, 156, 157] (by decide +kernel) (by decide +kernel)) (goodIn_sub (fun _ h => List.mem_cons_of_mem _ (List.mem_append_right _ h)) (by decide +kernel))
set_option maxRecDepth 20000 in
theorem gX5_popularHolds_X5_greatestKeptLead : GoodIn wsX5_popularHolds (wsV RX5 260 RX5 yX5_greatestKeptLead wsX5_greatestKeptLead) := goodIn_app (goodIn_of _ (by decide +kernel)) ggX5_popularHolds_X5_greatestKeptLead
set_option maxRecDepth 20000 in
theorem ggX5_popularHolds_X2_leadOf : GoodIn wsX5_popularHolds wsX2_leadOf := goodIn_ca (goodIn_r _ [133, 134, 135, 136, 8, 137, 10, 11, 129, 33, 34, 35, 36, 37, 151, 152, 153, 154, 155, 156, 157] (by decide +kernel) (by decide +kernel)) (goodIn_sub (fun _ h => List.mem_cons_of_mem _ (List.mem_append_right _ h)) (by decide +kernel))
set_option maxRecDepth 20000 in
theorem gX5_popularHolds_X2_leadOf : GoodIn wsX5_popularHolds (wsV RX5 188 RX2 yX2_leadOf wsX2_leadOf) := goodIn_app (goodIn_of _ (by decide +kernel)) ggX5_popularHolds_X2_leadOf
theorem dX5_popularHolds_0 : decode cX5_popularHolds 0 = .ok (.aload_n 0, 1) := by decide +kernel
theorem dX5_popularHolds_1 : decode cX5_popularHolds 1 = .ok (.getfield 10, 3) := by decide +kernel
theorem dX5_popularHolds_4 : decode cX5_popularHolds 4 = .ok (.invokevirtual 267, 3) := by decide +kernel
theorem dX5_popularHolds_7 : decode cX5_popularHolds 7 = .ok (.ifCond .eq 17, 3) := by decide +kernel
theorem dX5_popularHolds_10 : decode cX5_popularHolds 10 = .ok (.aload_n 0, 1) := by decide +kernel
theorem dX5_popularHolds_11 : decode cX5_popularHolds 11 = .ok (.getfield 26, 3) := by decide +kernel
theorem dX5_popularHolds_14 : decode cX5_popularHolds 14 = .ok (.aload_n 0, 1) := by decide +kernel
theorem dX5_popularHolds_15 : decode cX5_popularHolds 15 = .ok (.getfield 10, 3) := by decide +kernel
theorem dX5_popularHolds_18 : decode cX5_popularHolds 18 = .ok (.invokevirtual 216, 3) := by decide +kernel
theorem dX5_popularHolds_21 : decode cX5_popularHolds 21 = .ok (.ifCond .ne 5, 3) := by decide +kernel
theorem dX5_popularHolds_24 : decode cX5_popularHolds 24 = .ok (.iconst 1, 1) := by decide +kernel
theorem dX5_popularHolds_25 : decode cX5_popularHolds 25 = .ok (.ireturn, 1) := by decide +kernel
theorem dX5_popularHolds_26 : decode cX5_popularHolds 26 = .ok (.aload_n 0, 1) := by decide +kernel
theorem dX5_popularHolds_27 : decode cX5_popularHolds 27 = .ok (.aload_n 0, 1) := by decide +kernel
theorem dX5_popularHolds_28 : decode cX5_popularHolds 28 = .ok (.getfield 26, 3) := by decide +kernel
theorem dX5_popularHolds_31 : decode cX5_popularHolds 31 = .ok (.getfield 222, 3) := by decide +kernel
theorem dX5_popularHolds_34 : decode cX5_popularHolds 34 = .ok (.invokevirtual 260, 3) := by decide +kernel
theorem dX5_popularHolds_37 : decode cX5_popularHolds 37 = .ok (.ifCond .gt 31, 3) := by decide +kernel
theorem dX5_popularHolds_40 : decode cX5_popularHolds 40 = .ok (.aload_n 0, 1) := by decide +kernel
theorem dX5_popularHolds_41 : decode cX5_popularHolds 41 = .ok (.getfield 10, 3) := by decide +kernel
theorem dX5_popularHolds_44 : decode cX5_popularHolds 44 = .ok (.aload_n 0, 1) := by decide +kernel
theorem dX5_popularHolds_45 : decode cX5_popularHolds 45 = .ok (.getfield 26, 3) := by decide +kernel
theorem dX5_popularHolds_48 : decode cX5_popularHolds 48 = .ok (.getfield 232, 3) := by decide +kernel
theorem dX5_popularHolds_51 : decode cX5_popularHolds 51 = .ok (.aload_n 0, 1) := by decide +kernel
theorem dX5_popularHolds_52 : decode cX5_popularHolds 52 = .ok (.getfield 26, 3) := by decide +kernel
theorem dX5_popularHolds_55 : decode cX5_popularHolds 55 = .ok (.getfield 222, 3) := by decide +kernel
theorem dX5_popularHolds_58 : decode cX5_popularHolds 58 = .ok (.invokevirtual 188, 3) := by decide +kernel
theorem dX5_popularHolds_61 : decode cX5_popularHolds 61 = .ok (.ifCond .gt 7, 3) := by decide +kernel
theorem dX5_popularHolds_64 : decode cX5_popularHolds 64 = .ok (.iconst 1, 1) := by decide +kernel
theorem dX5_popularHolds_65 : decode cX5_popularHolds 65 = .ok (.goto 4, 3) := by decide +kernel
theorem dX5_popularHolds_68 : decode cX5_popularHolds 68 = .ok (.iconst 0, 1) := by decide +kernel
theorem dX5_popularHolds_69 : decode cX5_popularHolds 69 = .ok (.ireturn, 1) := by decide +kernel
set_option maxRecDepth 20000 in
theorem ggX5_greatestKeptLead_X2_allows : GoodIn wsX5_greatestKeptLead wsX2_allows := goodIn_ca (goodIn_r _ [12, 13, 14, 15, 16, 17, 18, 19, 20, 21, 22, 11, 23, 24, 25, 26, 27, 28, 29, 46, 47, 48, 49, 50, 51, 52] (by decide +kernel) (by decide +kernel)) (goodIn_sub (fun _ h => List.mem_cons_of_mem _ (List.mem_append_right _ h)) (by decide +kernel))
set_option maxRecDepth 20000 in
theorem gX5_greatestKeptLead_X2_allows : GoodIn wsX5_greatestKeptLead (wsV RX5 167 RX2 yX2_allows wsX2_allows) := goodIn_app (goodIn_of _ (by decide +kernel)) ggX5_greatestKeptLead_X2_allows
set_option maxRecDepth 20000 in
theorem ggX5_greatestKeptLead_X2_leadOf : GoodIn wsX5_greatestKeptLead wsX2_leadOf := goodIn_ca (goodIn_r _ [33, 34, 35, 36, 11, 37, 14, 38, 24, 25, 26, 27, 28, 29, 46, 47, 48, 49, 50, 51, 52] (by decide +kernel) (by decide +kernel)) (goodIn_sub (fun _ h => List.mem_cons_of_mem _ (List.mem_append_right _ h)) (by decide +kernel))
set_option maxRecDepth 20000 in
theorem gX5_greatestKeptLead_X2_leadOf : GoodIn wsX5_greatestKeptLead (wsV RX5 188 RX2 yX2_leadOf wsX2_leadOf) := goodIn_app (goodIn_of _ (by decide +kernel)) ggX5_greatestKeptLead_X2_leadOf
theorem dX5_greatestKeptLead_0 : decode cX5_greatestKeptLead 0 = .ok (.iconst 0, 1) := by decide +kernel
theorem dX5_greatestKeptLead_1 : decode cX5_greatestKeptLead 1 = .ok (.istore_n 2, 1) := by decide +kernel
theorem dX5_greatestKeptLead_2 : decode cX5_greatestKeptLead 2 = .ok (.iconst 0, 1) := by decide +kernel
theorem dX5_greatestKeptLead_3 : decode cX5_greatestKeptLead 3 = .ok (.istore_n 3, 1) := by decide +kernel
theorem dX5_greatestKeptLead_4 : decode cX5_greatestKeptLead 4 = .ok (.iload_n 3, 1) := by decide +kernel
theorem dX5_greatestKeptLead_5 : decode cX5_greatestKeptLead 5 = .ok (.aload_n 0, 1) := by decide +kernel
theorem dX5_greatestKeptLead_6 : decode cX5_greatestKeptLead 6 = .ok (.getfield 46, 3) := by decide +kernel
theorem dX5_greatestKeptLead_9 : decode cX5_greatestKeptLead 9 = .ok (.if_icmp .ge 44, 3) := by decide +kernel
theorem dX5_greatestKeptLead_12 : decode cX5_greatestKeptLead 12 = .ok (.aload_n 0, 1) := by decide +kernel
theorem dX5_greatestKeptLead_13 : decode cX5_greatestKeptLead 13 = .ok (.getfield 10, 3) := by decide +kernel
theorem dX5_greatestKeptLead_16 : decode cX5_greatestKeptLead 16 = .ok (.aload_n 0, 1) := by decide +kernel
theorem dX5_greatestKeptLead_17 : decode cX5_greatestKeptLead 17 = .ok (.getfield 43, 3) := by decide +kernel
theorem dX5_greatestKeptLead_20 : decode cX5_greatestKeptLead 20 = .ok (.iload_n 3, 1) := by decide +kernel
theorem dX5_greatestKeptLead_21 : decode cX5_greatestKeptLead 21 = .ok (.aaload, 1) := by decide +kernel
theorem dX5_greatestKeptLead_22 : decode cX5_greatestKeptLead 22 = .ok (.invokevirtual 167, 3) := by decide +kernel
theorem dX5_greatestKeptLead_25 : decode cX5_greatestKeptLead 25 = .ok (.ifCond .eq 22, 3) := by decide +kernel
theorem dX5_greatestKeptLead_28 : decode cX5_greatestKeptLead 28 = .ok (.iload_n 2, 1) := by decide +kernel
theorem dX5_greatestKeptLead_29 : decode cX5_greatestKeptLead 29 = .ok (.aload_n 0, 1) := by decide +kernel
theorem dX5_greatestKeptLead_30 : decode cX5_greatestKeptLead 30 = .ok (.getfield 10, 3) := by decide +kernel
theorem dX5_greatestKeptLead_33 : decode cX5_greatestKeptLead 33 = .ok (.aload_n 0, 1) := by decide +kernel
theorem dX5_greatestKeptLead_34 : decode cX5_greatestKeptLead 34 = .ok (.getfield 43, 3) := by decide +kernel
theorem dX5_greatestKeptLead_37 : decode cX5_greatestKeptLead 37 = .ok (.iload_n 3, 1) := by decide +kernel
theorem dX5_greatestKeptLead_38 : decode cX5_greatestKeptLead 38 = .ok (.aaload, 1) := by decide +kernel
theorem dX5_greatestKeptLead_39 : decode cX5_greatestKeptLead 39 = .ok (.aload_n 1, 1) := by decide +kernel
theorem dX5_greatestKeptLead_40 : decode cX5_greatestKeptLead 40 = .ok (.invokevirtual 188, 3) := by decide +kernel
theorem dX5_greatestKeptLead_43 : decode cX5_greatestKeptLead 43 = .ok (.invokestatic 270, 3) := by decide +kernel
theorem dX5_greatestKeptLead_46 : decode cX5_greatestKeptLead 46 = .ok (.istore_n 2, 1) := by decide +kernel
theorem dX5_greatestKeptLead_47 : decode cX5_greatestKeptLead 47 = .ok (.iinc 3 1, 3) := by decide +kernel
theorem dX5_greatestKeptLead_50 : decode cX5_greatestKeptLead 50 = .ok (.goto (-46), 3) := by decide +kernel
theorem dX5_greatestKeptLead_53 : decode cX5_greatestKeptLead 53 = .ok (.iload_n 2, 1) := by decide +kernel
theorem dX5_greatestKeptLead_54 : decode cX5_greatestKeptLead 54 = .ok (.ireturn, 1) := by decide +kernel
set_option maxRecDepth 20000 in
theorem ggX5_wantsPostOf_X2_levelOf : GoodIn wsX5_wantsPostOf wsX2_levelOf := goodIn_ca (goodIn_r _ [7, 8, 9, 17, 18, 19, 20, 21, 22, 23] (by decide +kernel) (by decide +kernel)) (goodIn_sub (fun _ h => List.mem_cons_of_mem _ (List.mem_append_right _ h)) (by decide +kernel))
set_option maxRecDepth 20000 in
theorem gX5_wantsPostOf_X2_levelOf : GoodIn wsX5_wantsPostOf (wsV RX5 239 RX2 yX2_levelOf wsX2_levelOf) := goodIn_app (goodIn_of _ (by decide +kernel)) ggX5_wantsPostOf_X2_levelOf
theorem dX5_wantsPostOf_0 : decode cX5_wantsPostOf 0 = .ok (.aload_n 0, 1) := by decide +kernel
theorem dX5_wantsPostOf_1 : decode cX5_wantsPostOf 1 = .ok (.getfield 10, 3) := by decide +kernel
theorem dX5_wantsPostOf_4 : decode cX5_wantsPostOf 4 = .ok (.iload_n 1, 1) := by decide +kernel
theorem dX5_wantsPostOf_5 : decode cX5_wantsPostOf 5 = .ok (.aload_n 0, 1) := by decide +kernel
theorem dX5_wantsPostOf_6 : decode cX5_wantsPostOf 6 = .ok (.getfield 37, 3) := by decide +kernel
theorem dX5_wantsPostOf_9 : decode cX5_wantsPostOf 9 = .ok (.iload_n 2, 1) := by decide +kernel
theorem dX5_wantsPostOf_10 : decode cX5_wantsPostOf 10 = .ok (.iaload, 1) := by decide +kernel
theorem dX5_wantsPostOf_11 : decode cX5_wantsPostOf 11 = .ok (.invokevirtual 239, 3) := by decide +kernel
theorem dX5_wantsPostOf_14 : decode cX5_wantsPostOf 14 = .ok (.aload_n 0, 1) := by decide +kernel
theorem dX5_wantsPostOf_15 : decode cX5_wantsPostOf 15 = .ok (.getfield 10, 3) := by decide +kernel
theorem dX5_wantsPostOf_18 : decode cX5_wantsPostOf 18 = .ok (.iload_n 1, 1) := by decide +kernel
theorem dX5_wantsPostOf_19 : decode cX5_wantsPostOf 19 = .ok (.aload_n 0, 1) := by decide +kernel
theorem dX5_wantsPostOf_20 : decode cX5_wantsPostOf 20 = .ok (.getfield 37, 3) := by decide +kernel
theorem dX5_wantsPostOf_23 : decode cX5_wantsPostOf 23 = .ok (.iload_n 1, 1) := by decide +kernel
theorem dX5_wantsPostOf_24 : decode cX5_wantsPostOf 24 = .ok (.iaload, 1) := by decide +kernel
theorem dX5_wantsPostOf_25 : decode cX5_wantsPostOf 25 = .ok (.invokevirtual 239, 3) := by decide +kernel
theorem dX5_wantsPostOf_28 : decode cX5_wantsPostOf 28 = .ok (.if_icmp .ge 7, 3) := by decide +kernel
theorem dX5_wantsPostOf_31 : decode cX5_wantsPostOf 31 = .ok (.iconst 1, 1) := by decide +kernel
theorem dX5_wantsPostOf_32 : decode cX5_wantsPostOf 32 = .ok (.goto 4, 3) := by decide +kernel
theorem dX5_wantsPostOf_35 : decode cX5_wantsPostOf 35 = .ok (.iconst 0, 1) := by decide +kernel
theorem dX5_wantsPostOf_36 : decode cX5_wantsPostOf 36 = .ok (.ireturn, 1) := by decide +kernel
theorem dX5_countMatched_0 : decode cX5_countMatched 0 = .ok (.iconst 0, 1) := by decide +kernel
theorem dX5_countMatched_1 : decode cX5_countMatched 1 = .ok (.istore_n 1, 1) := by decide +kernel
theorem dX5_countMatched_2 : decode cX5_countMatched 2 = .ok (.iconst 0, 1) := by decide +kernel
theorem dX5_countMatched_3 : decode cX5_countMatched 3 = .ok (.istore_n 2, 1) := by decide +kernel
theorem dX5_countMatched_4 : decode cX5_countMatched 4 = .ok (.iload_n 2, 1) := by decide +kernel
theorem dX5_countMatched_5 : decode cX5_countMatched 5 = .ok (.aload_n 0, 1) := by decide +kernel
theorem dX5_countMatched_6 : decode cX5_countMatched 6 = .ok (.getfield 10, 3) := by decide +kernel
theorem dX5_countMatched_9 : decode cX5_countMatched 9 = .ok (.getfield 60, 3) := by decide +kernel
theorem dX5_countMatched_12 : decode cX5_countMatched 12 = .ok (.if_icmp .ge 22, 3) := by decide +kernel
theorem dX5_countMatched_15 : decode cX5_countMatched 15 = .ok (.aload_n 0, 1) := by decide +kernel
theorem dX5_countMatched_16 : decode cX5_countMatched 16 = .ok (.getfield 37, 3) := by decide +kernel
theorem dX5_countMatched_19 : decode cX5_countMatched 19 = .ok (.iload_n 2, 1) := by decide +kernel
theorem dX5_countMatched_20 : decode cX5_countMatched 20 = .ok (.iaload, 1) := by decide +kernel
theorem dX5_countMatched_21 : decode cX5_countMatched 21 = .ok (.iconst (-1), 1) := by decide +kernel
theorem dX5_countMatched_22 : decode cX5_countMatched 22 = .ok (.if_icmp .eq 6, 3) := by decide +kernel
theorem dX5_countMatched_25 : decode cX5_countMatched 25 = .ok (.iinc 1 1, 3) := by decide +kernel
theorem dX5_countMatched_28 : decode cX5_countMatched 28 = .ok (.iinc 2 1, 3) := by decide +kernel
theorem dX5_countMatched_31 : decode cX5_countMatched 31 = .ok (.goto (-27), 3) := by decide +kernel
theorem dX5_countMatched_34 : decode cX5_countMatched 34 = .ok (.iload_n 1, 1) := by decide +kernel
theorem dX5_countMatched_35 : decode cX5_countMatched 35 = .ok (.ireturn, 1) := by decide +kernel
set_option maxRecDepth 20000 in
theorem ggX5_freePlaces_X2_takersOf : GoodIn wsX5_freePlaces wsX2_takersOf := goodIn_ca (goodIn_r _ [8, 9, 17, 18, 19, 20, 21, 22, 23] (by decide +kernel) (by decide +kernel)) (goodIn_sub (fun _ h => List.mem_cons_of_mem _ (List.mem_append_right _ h)) (by decide +kernel))
set_option maxRecDepth 20000 in
theorem gX5_freePlaces_X2_takersOf : GoodIn wsX5_freePlaces (wsV RX5 88 RX2 yX2_takersOf wsX2_takersOf) := goodIn_app (goodIn_of _ (by decide +kernel)) ggX5_freePlaces_X2_takersOf
theorem dX5_freePlaces_0 : decode cX5_freePlaces 0 = .ok (.aload_n 0, 1) := by decide +kernel
theorem dX5_freePlaces_1 : decode cX5_freePlaces 1 = .ok (.getfield 10, 3) := by decide +kernel
theorem dX5_freePlaces_4 : decode cX5_freePlaces 4 = .ok (.getfield 78, 3) := by decide +kernel
theorem dX5_freePlaces_7 : decode cX5_freePlaces 7 = .ok (.iload_n 1, 1) := by decide +kernel
theorem dX5_freePlaces_8 : decode cX5_freePlaces 8 = .ok (.iaload, 1) := by decide +kernel
theorem dX5_freePlaces_9 : decode cX5_freePlaces 9 = .ok (.aload_n 0, 1) := by decide +kernel
theorem dX5_freePlaces_10 : decode cX5_freePlaces 10 = .ok (.getfield 10, 3) := by decide +kernel
theorem dX5_freePlaces_13 : decode cX5_freePlaces 13 = .ok (.iload_n 1, 1) := by decide +kernel
theorem dX5_freePlaces_14 : decode cX5_freePlaces 14 = .ok (.aload_n 0, 1) := by decide +kernel
theorem dX5_freePlaces_15 : decode cX5_freePlaces 15 = .ok (.getfield 37, 3) := by decide +kernel
theorem dX5_freePlaces_18 : decode cX5_freePlaces 18 = .ok (.invokevirtual 88, 3) := by decide +kernel
theorem dX5_freePlaces_21 : decode cX5_freePlaces 21 = .ok (.isub, 1) := by decide +kernel
theorem dX5_freePlaces_22 : decode cX5_freePlaces 22 = .ok (.ireturn, 1) := by decide +kernel
set_option maxRecDepth 20000 in
theorem ggX5_dropUnlisted_X2_lists : GoodIn wsX5_dropUnlisted wsX2_lists := goodIn_ca (goodIn_r _ [7, 8, 9, 10, 6, 11, 12, 13, 21, 22, 23, 24, 25, 26, 27] (by decide +kernel) (by decide +kernel)) (goodIn_sub (fun _ h => List.mem_cons_of_mem _ (List.mem_append_right _ h)) (by decide +kernel))
set_option maxRecDepth 20000 in
theorem gX5_dropUnlisted_X2_lists : GoodIn wsX5_dropUnlisted (wsV RX5 145 RX2 yX2_lists wsX2_lists) := goodIn_app (goodIn_of _ (by decide +kernel)) ggX5_dropUnlisted_X2_lists
theorem dX5_dropUnlisted_0 : decode cX5_dropUnlisted 0 = .ok (.aload_n 0, 1) := by decide +kernel
theorem dX5_dropUnlisted_1 : decode cX5_dropUnlisted 1 = .ok (.getfield 10, 3) := by decide +kernel
theorem dX5_dropUnlisted_4 : decode cX5_dropUnlisted 4 = .ok (.iload_n 1, 1) := by decide +kernel
theorem dX5_dropUnlisted_5 : decode cX5_dropUnlisted 5 = .ok (.aload_n 0, 1) := by decide +kernel
theorem dX5_dropUnlisted_6 : decode cX5_dropUnlisted 6 = .ok (.getfield 37, 3) := by decide +kernel
theorem dX5_dropUnlisted_9 : decode cX5_dropUnlisted 9 = .ok (.iload_n 1, 1) := by decide +kernel
theorem dX5_dropUnlisted_10 : decode cX5_dropUnlisted 10 = .ok (.iaload, 1) := by decide +kernel
theorem dX5_dropUnlisted_11 : decode cX5_dropUnlisted 11 = .ok (.invokevirtual 145, 3) := by decide +kernel
theorem dX5_dropUnlisted_14 : decode cX5_dropUnlisted 14 = .ok (.ifCond .ne 10, 3) := by decide +kernel
theorem dX5_dropUnlisted_17 : decode cX5_dropUnlisted 17 = .ok (.aload_n 0, 1) := by decide +kernel
theorem dX5_dropUnlisted_18 : decode cX5_dropUnlisted 18 = .ok (.getfield 37, 3) := by decide +kernel
theorem dX5_dropUnlisted_21 : decode cX5_dropUnlisted 21 = .ok (.iload_n 1, 1) := by decide +kernel
theorem dX5_dropUnlisted_22 : decode cX5_dropUnlisted 22 = .ok (.iconst (-1), 1) := by decide +kernel
theorem dX5_dropUnlisted_23 : decode cX5_dropUnlisted 23 = .ok (.iastore, 1) := by decide +kernel
theorem dX5_dropUnlisted_24 : decode cX5_dropUnlisted 24 = .ok (.return_, 1) := by decide +kernel
theorem dX5_rowOf_0 : decode cX5_rowOf 0 = .ok (.iload_n 1, 1) := by decide +kernel
theorem dX5_rowOf_1 : decode cX5_rowOf 1 = .ok (.ifCond .lt 20, 3) := by decide +kernel
theorem dX5_rowOf_4 : decode cX5_rowOf 4 = .ok (.iload_n 1, 1) := by decide +kernel
theorem dX5_rowOf_5 : decode cX5_rowOf 5 = .ok (.aload_n 0, 1) := by decide +kernel
theorem dX5_rowOf_6 : decode cX5_rowOf 6 = .ok (.getfield 46, 3) := by decide +kernel
theorem dX5_rowOf_9 : decode cX5_rowOf 9 = .ok (.if_icmp .ge 12, 3) := by decide +kernel
theorem dX5_rowOf_12 : decode cX5_rowOf 12 = .ok (.aload_n 0, 1) := by decide +kernel
theorem dX5_rowOf_13 : decode cX5_rowOf 13 = .ok (.getfield 43, 3) := by decide +kernel
theorem dX5_rowOf_16 : decode cX5_rowOf 16 = .ok (.iload_n 1, 1) := by decide +kernel
theorem dX5_rowOf_17 : decode cX5_rowOf 17 = .ok (.aaload, 1) := by decide +kernel
theorem dX5_rowOf_18 : decode cX5_rowOf 18 = .ok (.goto 7, 3) := by decide +kernel
theorem dX5_rowOf_21 : decode cX5_rowOf 21 = .ok (.aload_n 0, 1) := by decide +kernel
theorem dX5_rowOf_22 : decode cX5_rowOf 22 = .ok (.getfield 37, 3) := by decide +kernel
theorem dX5_rowOf_25 : decode cX5_rowOf 25 = .ok (.areturn, 1) := by decide +kernel
theorem dX5_requireNumber_0 : decode cX5_requireNumber 0 = .ok (.iload_n 1, 1) := by decide +kernel
theorem dX5_requireNumber_1 : decode cX5_requireNumber 1 = .ok (.iload_n 2, 1) := by decide +kernel
theorem dX5_requireNumber_2 : decode cX5_requireNumber 2 = .ok (.if_icmp .lt 8, 3) := by decide +kernel
theorem dX5_requireNumber_5 : decode cX5_requireNumber 5 = .ok (.iload_n 1, 1) := by decide +kernel
theorem dX5_requireNumber_6 : decode cX5_requireNumber 6 = .ok (.iload_n 3, 1) := by decide +kernel
theorem dX5_requireNumber_7 : decode cX5_requireNumber 7 = .ok (.if_icmp .le 14, 3) := by decide +kernel
theorem dX5_requireNumber_10 : decode cX5_requireNumber 10 = .ok (.new 107, 3) := by decide +kernel
theorem dX5_requireNumber_13 : decode cX5_requireNumber 13 = .ok (.dup, 1) := by decide +kernel
theorem dX5_requireNumber_14 : decode cX5_requireNumber 14 = .ok (.ldc_w 275, 3) := by decide +kernel
theorem dX5_requireNumber_17 : decode cX5_requireNumber 17 = .ok (.invokespecial 111, 3) := by decide +kernel
theorem dX5_requireNumber_20 : decode cX5_requireNumber 20 = .ok (.athrow, 1) := by decide +kernel
theorem dX5_requireNumber_21 : decode cX5_requireNumber 21 = .ok (.return_, 1) := by decide +kernel
theorem dX5_requireApplicant_0 : decode cX5_requireApplicant 0 = .ok (.iload_n 1, 1) := by decide +kernel
theorem dX5_requireApplicant_1 : decode cX5_requireApplicant 1 = .ok (.ifCond .lt 14, 3) := by decide +kernel
theorem dX5_requireApplicant_4 : decode cX5_requireApplicant 4 = .ok (.iload_n 1, 1) := by decide +kernel
theorem dX5_requireApplicant_5 : decode cX5_requireApplicant 5 = .ok (.aload_n 0, 1) := by decide +kernel
theorem dX5_requireApplicant_6 : decode cX5_requireApplicant 6 = .ok (.getfield 10, 3) := by decide +kernel
theorem dX5_requireApplicant_9 : decode cX5_requireApplicant 9 = .ok (.getfield 60, 3) := by decide +kernel
theorem dX5_requireApplicant_12 : decode cX5_requireApplicant 12 = .ok (.if_icmp .lt 14, 3) := by decide +kernel
theorem dX5_requireApplicant_15 : decode cX5_requireApplicant 15 = .ok (.new 277, 3) := by decide +kernel
theorem dX5_requireApplicant_18 : decode cX5_requireApplicant 18 = .ok (.dup, 1) := by decide +kernel
theorem dX5_requireApplicant_19 : decode cX5_requireApplicant 19 = .ok (.ldc_w 279, 3) := by decide +kernel
theorem dX5_requireApplicant_22 : decode cX5_requireApplicant 22 = .ok (.invokespecial 281, 3) := by decide +kernel
theorem dX5_requireApplicant_25 : decode cX5_requireApplicant 25 = .ok (.athrow, 1) := by decide +kernel
theorem dX5_requireApplicant_26 : decode cX5_requireApplicant 26 = .ok (.return_, 1) := by decide +kernel
theorem dX5_requirePost_0 : decode cX5_requirePost 0 = .ok (.iload_n 1, 1) := by decide +kernel
theorem dX5_requirePost_1 : decode cX5_requirePost 1 = .ok (.ifCond .lt 14, 3) := by decide +kernel
theorem dX5_requirePost_4 : decode cX5_requirePost 4 = .ok (.iload_n 1, 1) := by decide +kernel
theorem dX5_requirePost_5 : decode cX5_requirePost 5 = .ok (.aload_n 0, 1) := by decide +kernel
theorem dX5_requirePost_6 : decode cX5_requirePost 6 = .ok (.getfield 10, 3) := by decide +kernel
theorem dX5_requirePost_9 : decode cX5_requirePost 9 = .ok (.getfield 73, 3) := by decide +kernel
theorem dX5_requirePost_12 : decode cX5_requirePost 12 = .ok (.if_icmp .lt 14, 3) := by decide +kernel
theorem dX5_requirePost_15 : decode cX5_requirePost 15 = .ok (.new 277, 3) := by decide +kernel
theorem dX5_requirePost_18 : decode cX5_requirePost 18 = .ok (.dup, 1) := by decide +kernel
theorem dX5_requirePost_19 : decode cX5_requirePost 19 = .ok (.ldc_w 282, 3) := by decide +kernel
theorem dX5_requirePost_22 : decode cX5_requirePost 22 = .ok (.invokespecial 281, 3) := by decide +kernel
theorem dX5_requirePost_25 : decode cX5_requirePost 25 = .ok (.athrow, 1) := by decide +kernel
theorem dX5_requirePost_26 : decode cX5_requirePost 26 = .ok (.return_, 1) := by decide +kernel
theorem dX5_requireKept_0 : decode cX5_requireKept 0 = .ok (.iload_n 1, 1) := by decide +kernel
theorem dX5_requireKept_1 : decode cX5_requireKept 1 = .ok (.ifCond .lt 11, 3) := by decide +kernel
theorem dX5_requireKept_4 : decode cX5_requireKept 4 = .ok (.iload_n 1, 1) := by decide +kernel
theorem dX5_requireKept_5 : decode cX5_requireKept 5 = .ok (.aload_n 0, 1) := by decide +kernel
theorem dX5_requireKept_6 : decode cX5_requireKept 6 = .ok (.getfield 46, 3) := by decide +kernel
theorem dX5_requireKept_9 : decode cX5_requireKept 9 = .ok (.if_icmp .lt 14, 3) := by decide +kernel
theorem dX5_requireKept_12 : decode cX5_requireKept 12 = .ok (.new 277, 3) := by decide +kernel
theorem dX5_requireKept_15 : decode cX5_requireKept 15 = .ok (.dup, 1) := by decide +kernel
theorem dX5_requireKept_16 : decode cX5_requireKept 16 = .ok (.ldc_w 284, 3) := by decide +kernel
theorem dX5_requireKept_19 : decode cX5_requireKept 19 = .ok (.invokespecial 281, 3) := by decide +kernel
theorem dX5_requireKept_22 : decode cX5_requireKept 22 = .ok (.athrow, 1) := by decide +kernel
theorem dX5_requireKept_23 : decode cX5_requireKept 23 = .ok (.return_, 1) := by decide +kernel
set_option maxRecDepth 20000 in
theorem ggX5_requireMatching_X5_requireKept : GoodIn wsX5_requireMatching wsX5_requireKept := goodIn_ca (goodIn_r _ [5, 6, 7, 8, 9, 10, 11, 12, 13, 14, 15] (by decide +kernel) (by decide +kernel)) (goodIn_sub (fun _ h => List.mem_cons_of_mem _ (List.mem_append_right _ h)) (by decide +kernel))
set_option maxRecDepth 20000 in
theorem gX5_requireMatching_X5_requireKept : GoodIn wsX5_requireMatching (wsV RX5 164 RX5 yX5_requireKept wsX5_requireKept) := goodIn_app (goodIn_of _ (by decide +kernel)) ggX5_requireMatching_X5_requireKept
theorem dX5_requireMatching_0 : decode cX5_requireMatching 0 = .ok (.iload_n 1, 1) := by decide +kernel
theorem dX5_requireMatching_1 : decode cX5_requireMatching 1 = .ok (.iconst (-1), 1) := by decide +kernel
theorem dX5_requireMatching_2 : decode cX5_requireMatching 2 = .ok (.if_icmp .eq 8, 3) := by decide +kernel
theorem dX5_requireMatching_5 : decode cX5_requireMatching 5 = .ok (.aload_n 0, 1) := by decide +kernel
theorem dX5_requireMatching_6 : decode cX5_requireMatching 6 = .ok (.iload_n 1, 1) := by decide +kernel
theorem dX5_requireMatching_7 : decode cX5_requireMatching 7 = .ok (.invokevirtual 164, 3) := by decide +kernel
theorem dX5_requireMatching_10 : decode cX5_requireMatching 10 = .ok (.return_, 1) := by decide +kernel
set_option maxRecDepth 20000 in
theorem ggX5_requireLikeWeights_X2_hasLikeWeights : GoodIn wsX5_requireLikeWeights wsX2_hasLikeWeights := goodIn_ca (goodIn_r _ [8, 9, 10, 18, 19, 20, 21, 22, 23, 24] (by decide +kernel) (by decide +kernel)) (goodIn_sub (fun _ h => List.mem_cons_of_mem _ (List.mem_append_right _ h)) (by decide +kernel))
set_option maxRecDepth 20000 in
theorem gX5_requireLikeWeights_X2_hasLikeWeights : GoodIn wsX5_requireLikeWeights (wsV RX5 267 RX2 yX2_hasLikeWeights wsX2_hasLikeWeights) := goodIn_app (goodIn_of _ (by decide +kernel)) ggX5_requireLikeWeights_X2_hasLikeWeights
theorem dX5_requireLikeWeights_0 : decode cX5_requireLikeWeights 0 = .ok (.aload_n 0, 1) := by decide +kernel
theorem dX5_requireLikeWeights_1 : decode cX5_requireLikeWeights 1 = .ok (.getfield 10, 3) := by decide +kernel
theorem dX5_requireLikeWeights_4 : decode cX5_requireLikeWeights 4 = .ok (.invokevirtual 267, 3) := by decide +kernel
theorem dX5_requireLikeWeights_7 : decode cX5_requireLikeWeights 7 = .ok (.ifCond .ne 14, 3) := by decide +kernel
theorem dX5_requireLikeWeights_10 : decode cX5_requireLikeWeights 10 = .ok (.new 92, 3) := by decide +kernel
theorem dX5_requireLikeWeights_13 : decode cX5_requireLikeWeights 13 = .ok (.dup, 1) := by decide +kernel
theorem dX5_requireLikeWeights_14 : decode cX5_requireLikeWeights 14 = .ok (.ldc_w 286, 3) := by decide +kernel
theorem dX5_requireLikeWeights_17 : decode cX5_requireLikeWeights 17 = .ok (.invokespecial 96, 3) := by decide +kernel
theorem dX5_requireLikeWeights_20 : decode cX5_requireLikeWeights 20 = .ok (.athrow, 1) := by decide +kernel
theorem dX5_requireLikeWeights_21 : decode cX5_requireLikeWeights 21 = .ok (.return_, 1) := by decide +kernel
