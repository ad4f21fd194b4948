theorem dX0_init_0 : decode cX0_init 0 = .ok (.aload_n 0, 1) := by decide +kernel
theorem dX0_init_1 : decode cX0_init 1 = .ok (.invokespecial 3, 3) := by decide +kernel
theorem dX0_init_4 : decode cX0_init 4 = .ok (.aload_n 0, 1) := by decide +kernel
theorem dX0_init_5 : decode cX0_init 5 = .ok (.iconst 0, 1) := by decide +kernel
theorem dX0_init_6 : decode cX0_init 6 = .ok (.putfield 9, 3) := by decide +kernel
theorem dX0_init_9 : decode cX0_init 9 = .ok (.aload_n 0, 1) := by decide +kernel
theorem dX0_init_10 : decode cX0_init 10 = .ok (.bipush 10, 2) := by decide +kernel
theorem dX0_init_12 : decode cX0_init 12 = .ok (.bipush 10, 2) := by decide +kernel
theorem dX0_init_14 : decode cX0_init 14 = .ok (.multianewarray 15 2, 4) := by decide +kernel
theorem dX0_init_18 : decode cX0_init 18 = .ok (.putfield 17, 3) := by decide +kernel
theorem dX0_init_21 : decode cX0_init 21 = .ok (.aload_n 0, 1) := by decide +kernel
theorem dX0_init_22 : decode cX0_init 22 = .ok (.bipush 10, 2) := by decide +kernel
theorem dX0_init_24 : decode cX0_init 24 = .ok (.newarray .int, 2) := by decide +kernel
theorem dX0_init_26 : decode cX0_init 26 = .ok (.putfield 20, 3) := by decide +kernel
theorem dX0_init_29 : decode cX0_init 29 = .ok (.return_, 1) := by decide +kernel
set_option maxRecDepth 20000 in
theorem ggX0_compare_X2_leadOf : GoodIn wsX0_compare wsX2_leadOf := goodIn_ca (goodIn_r _ [7, 8, 9, 10, 6, 11, 12, 13, 14, 15, 16, 17, 18, 19, 23, 24, 25, 26, 27, 28, 29] (by decide +kernel) (by decide +kernel)) (goodIn_sub (fun _ h => List.mem_cons_of_mem _ (List.mem_append_right _ h)) (by decide +kernel))
set_option maxRecDepth 20000 in
theorem gX0_compare_X2_leadOf : GoodIn wsX0_compare (wsV RX0 24 RX2 yX2_leadOf wsX2_leadOf) := goodIn_app (goodIn_of _ (by decide +kernel)) ggX0_compare_X2_leadOf
theorem dX0_compare_0 : decode cX0_compare 0 = .ok (.aload_n 0, 1) := by decide +kernel
theorem dX0_compare_1 : decode cX0_compare 1 = .ok (.iload_n 3, 1) := by decide +kernel
theorem dX0_compare_2 : decode cX0_compare 2 = .ok (.putfield 9, 3) := by decide +kernel
theorem dX0_compare_5 : decode cX0_compare 5 = .ok (.iconst 0, 1) := by decide +kernel
theorem dX0_compare_6 : decode cX0_compare 6 = .ok (.istore 4, 2) := by decide +kernel
theorem dX0_compare_8 : decode cX0_compare 8 = .ok (.iload 4, 2) := by decide +kernel
theorem dX0_compare_10 : decode cX0_compare 10 = .ok (.aload_n 0, 1) := by decide +kernel
theorem dX0_compare_11 : decode cX0_compare 11 = .ok (.getfield 9, 3) := by decide +kernel
theorem dX0_compare_14 : decode cX0_compare 14 = .ok (.if_icmp .ge 64, 3) := by decide +kernel
theorem dX0_compare_17 : decode cX0_compare 17 = .ok (.iconst 0, 1) := by decide +kernel
theorem dX0_compare_18 : decode cX0_compare 18 = .ok (.istore 5, 2) := by decide +kernel
theorem dX0_compare_20 : decode cX0_compare 20 = .ok (.iload 5, 2) := by decide +kernel
theorem dX0_compare_22 : decode cX0_compare 22 = .ok (.iload 4, 2) := by decide +kernel
theorem dX0_compare_24 : decode cX0_compare 24 = .ok (.if_icmp .ge 48, 3) := by decide +kernel
theorem dX0_compare_27 : decode cX0_compare 27 = .ok (.aload_n 1, 1) := by decide +kernel
theorem dX0_compare_28 : decode cX0_compare 28 = .ok (.aload_n 2, 1) := by decide +kernel
theorem dX0_compare_29 : decode cX0_compare 29 = .ok (.iload 4, 2) := by decide +kernel
theorem dX0_compare_31 : decode cX0_compare 31 = .ok (.aaload, 1) := by decide +kernel
theorem dX0_compare_32 : decode cX0_compare 32 = .ok (.aload_n 2, 1) := by decide +kernel
theorem dX0_compare_33 : decode cX0_compare 33 = .ok (.iload 5, 2) := by decide +kernel
theorem dX0_compare_35 : decode cX0_compare 35 = .ok (.aaload, 1) := by decide +kernel
theorem dX0_compare_36 : decode cX0_compare 36 = .ok (.invokevirtual 24, 3) := by decide +kernel
theorem dX0_compare_39 : decode cX0_compare 39 = .ok (.istore 6, 2) := by decide +kernel
theorem dX0_compare_41 : decode cX0_compare 41 = .ok (.aload_n 0, 1) := by decide +kernel
theorem dX0_compare_42 : decode cX0_compare 42 = .ok (.getfield 17, 3) := by decide +kernel
theorem dX0_compare_45 : decode cX0_compare 45 = .ok (.iload 4, 2) := by decide +kernel
theorem dX0_compare_47 : decode cX0_compare 47 = .ok (.aaload, 1) := by decide +kernel
theorem dX0_compare_48 : decode cX0_compare 48 = .ok (.iload 5, 2) := by decide +kernel
theorem dX0_compare_50 : decode cX0_compare 50 = .ok (.iload 6, 2) := by decide +kernel
theorem dX0_compare_52 : decode cX0_compare 52 = .ok (.iastore, 1) := by decide +kernel
theorem dX0_compare_53 : decode cX0_compare 53 = .ok (.aload_n 0, 1) := by decide +kernel
theorem dX0_compare_54 : decode cX0_compare 54 = .ok (.getfield 17, 3) := by decide +kernel
theorem dX0_compare_57 : decode cX0_compare 57 = .ok (.iload 5, 2) := by decide +kernel
theorem dX0_compare_59 : decode cX0_compare 59 = .ok (.aaload, 1) := by decide +kernel
theorem dX0_compare_60 : decode cX0_compare 60 = .ok (.iload 4, 2) := by decide +kernel
theorem dX0_compare_62 : decode cX0_compare 62 = .ok (.iload 6, 2) := by decide +kernel
theorem dX0_compare_64 : decode cX0_compare 64 = .ok (.ineg, 1) := by decide +kernel
theorem dX0_compare_65 : decode cX0_compare 65 = .ok (.iastore, 1) := by decide +kernel
theorem dX0_compare_66 : decode cX0_compare 66 = .ok (.iinc 5 1, 3) := by decide +kernel
theorem dX0_compare_69 : decode cX0_compare 69 = .ok (.goto (-49), 3) := by decide +kernel
theorem dX0_compare_72 : decode cX0_compare 72 = .ok (.iinc 4 1, 3) := by decide +kernel
theorem dX0_compare_75 : decode cX0_compare 75 = .ok (.goto (-67), 3) := by decide +kernel
theorem dX0_compare_78 : decode cX0_compare 78 = .ok (.return_, 1) := by decide +kernel
set_option maxRecDepth 20000 in
theorem ggX0_firstUnbeaten_X0_isBeaten : GoodIn wsX0_firstUnbeaten wsX0_isBeaten := goodIn_ca (goodIn_r _ [6, 1, 7, 8, 9, 10] (by decide +kernel) (by decide +kernel)) (goodIn_sub (fun _ h => List.mem_cons_of_mem _ (List.mem_append_right _ h)) (by decide +kernel))
set_option maxRecDepth 20000 in
theorem gX0_firstUnbeaten_X0_isBeaten : GoodIn wsX0_firstUnbeaten (wsV RX0 30 RX0 yX0_isBeaten wsX0_isBeaten) := goodIn_app (goodIn_of _ (by decide +kernel)) ggX0_firstUnbeaten_X0_isBeaten
theorem dX0_firstUnbeaten_0 : decode cX0_firstUnbeaten 0 = .ok (.iconst 0, 1) := by decide +kernel
theorem dX0_firstUnbeaten_1 : decode cX0_firstUnbeaten 1 = .ok (.istore_n 1, 1) := by decide +kernel
theorem dX0_firstUnbeaten_2 : decode cX0_firstUnbeaten 2 = .ok (.iload_n 1, 1) := by decide +kernel
theorem dX0_firstUnbeaten_3 : decode cX0_firstUnbeaten 3 = .ok (.aload_n 0, 1) := by decide +kernel
theorem dX0_firstUnbeaten_4 : decode cX0_firstUnbeaten 4 = .ok (.getfield 9, 3) := by decide +kernel
theorem dX0_firstUnbeaten_7 : decode cX0_firstUnbeaten 7 = .ok (.if_icmp .ge 19, 3) := by decide +kernel
theorem dX0_firstUnbeaten_10 : decode cX0_firstUnbeaten 10 = .ok (.aload_n 0, 1) := by decide +kernel
theorem dX0_firstUnbeaten_11 : decode cX0_firstUnbeaten 11 = .ok (.iload_n 1, 1) := by decide +kernel
theorem dX0_firstUnbeaten_12 : decode cX0_firstUnbeaten 12 = .ok (.invokevirtual 30, 3) := by decide +kernel
theorem dX0_firstUnbeaten_15 : decode cX0_firstUnbeaten 15 = .ok (.ifCond .ne 5, 3) := by decide +kernel
theorem dX0_firstUnbeaten_18 : decode cX0_firstUnbeaten 18 = .ok (.iload_n 1, 1) := by decide +kernel
theorem dX0_firstUnbeaten_19 : decode cX0_firstUnbeaten 19 = .ok (.ireturn, 1) := by decide +kernel
theorem dX0_firstUnbeaten_20 : decode cX0_firstUnbeaten 20 = .ok (.iinc 1 1, 3) := by decide +kernel
theorem dX0_firstUnbeaten_23 : decode cX0_firstUnbeaten 23 = .ok (.goto (-21), 3) := by decide +kernel
theorem dX0_firstUnbeaten_26 : decode cX0_firstUnbeaten 26 = .ok (.iconst (-1), 1) := by decide +kernel
theorem dX0_firstUnbeaten_27 : decode cX0_firstUnbeaten 27 = .ok (.ireturn, 1) := by decide +kernel
theorem dX0_isBeaten_0 : decode cX0_isBeaten 0 = .ok (.iconst 0, 1) := by decide +kernel
theorem dX0_isBeaten_1 : decode cX0_isBeaten 1 = .ok (.istore_n 2, 1) := by decide +kernel
theorem dX0_isBeaten_2 : decode cX0_isBeaten 2 = .ok (.iload_n 2, 1) := by decide +kernel
theorem dX0_isBeaten_3 : decode cX0_isBeaten 3 = .ok (.aload_n 0, 1) := by decide +kernel
theorem dX0_isBeaten_4 : decode cX0_isBeaten 4 = .ok (.getfield 9, 3) := by decide +kernel
theorem dX0_isBeaten_7 : decode cX0_isBeaten 7 = .ok (.if_icmp .ge 22, 3) := by decide +kernel
theorem dX0_isBeaten_10 : decode cX0_isBeaten 10 = .ok (.aload_n 0, 1) := by decide +kernel
theorem dX0_isBeaten_11 : decode cX0_isBeaten 11 = .ok (.getfield 17, 3) := by decide +kernel
theorem dX0_isBeaten_14 : decode cX0_isBeaten 14 = .ok (.iload_n 2, 1) := by decide +kernel
theorem dX0_isBeaten_15 : decode cX0_isBeaten 15 = .ok (.aaload, 1) := by decide +kernel
theorem dX0_isBeaten_16 : decode cX0_isBeaten 16 = .ok (.iload_n 1, 1) := by decide +kernel
theorem dX0_isBeaten_17 : decode cX0_isBeaten 17 = .ok (.iaload, 1) := by decide +kernel
theorem dX0_isBeaten_18 : decode cX0_isBeaten 18 = .ok (.ifCond .le 5, 3) := by decide +kernel
theorem dX0_isBeaten_21 : decode cX0_isBeaten 21 = .ok (.iconst 1, 1) := by decide +kernel
theorem dX0_isBeaten_22 : decode cX0_isBeaten 22 = .ok (.ireturn, 1) := by decide +kernel
theorem dX0_isBeaten_23 : decode cX0_isBeaten 23 = .ok (.iinc 2 1, 3) := by decide +kernel
theorem dX0_isBeaten_26 : decode cX0_isBeaten 26 = .ok (.goto (-24), 3) := by decide +kernel
theorem dX0_isBeaten_29 : decode cX0_isBeaten 29 = .ok (.iconst 0, 1) := by decide +kernel
theorem dX0_isBeaten_30 : decode cX0_isBeaten 30 = .ok (.ireturn, 1) := by decide +kernel
set_option maxRecDepth 20000 in
theorem ggX0_shortestRow_J7_fill_53178 : GoodIn wsX0_shortestRow wsJ7_fill_53178 := goodIn_r _ [6] (by decide +kernel) (by decide +kernel)
set_option maxRecDepth 20000 in
theorem gX0_shortestRow_J7_fill_53178 : GoodIn wsX0_shortestRow (va_wsS RX0 34 yJ7_fill_53178 wsJ7_fill_53178) := goodIn_app (goodIn_of _ (by decide +kernel)) ggX0_shortestRow_J7_fill_53178
set_option maxRecDepth 20000 in
theorem ggX0_shortestRow_X0_stepFrom : GoodIn wsX0_shortestRow wsX0_stepFrom := goodIn_ca (goodIn_r _ [11, 2, 1, 12, 13, 14, 15] (by decide +kernel) (by decide +kernel)) (goodIn_sub (fun _ h => List.mem_cons_of_mem _ (List.mem_append_right _ h)) (by decide +kernel))
set_option maxRecDepth 20000 in
theorem gX0_shortestRow_X0_stepFrom : GoodIn wsX0_shortestRow (wsV RX0 40 RX0 yX0_stepFrom wsX0_stepFrom) := goodIn_app (goodIn_of _ (by decide +kernel)) ggX0_shortestRow_X0_stepFrom
theorem dX0_shortestRow_0 : decode cX0_shortestRow 0 = .ok (.aload_n 0, 1) := by decide +kernel
theorem dX0_shortestRow_1 : decode cX0_shortestRow 1 = .ok (.getfield 20, 3) := by decide +kernel
theorem dX0_shortestRow_4 : decode cX0_shortestRow 4 = .ok (.iconst 0, 1) := by decide +kernel
theorem dX0_shortestRow_5 : decode cX0_shortestRow 5 = .ok (.invokestatic 34, 3) := by decide +kernel
theorem dX0_shortestRow_8 : decode cX0_shortestRow 8 = .ok (.aload_n 0, 1) := by decide +kernel
theorem dX0_shortestRow_9 : decode cX0_shortestRow 9 = .ok (.iload_n 1, 1) := by decide +kernel
theorem dX0_shortestRow_10 : decode cX0_shortestRow 10 = .ok (.iconst 1, 1) := by decide +kernel
theorem dX0_shortestRow_11 : decode cX0_shortestRow 11 = .ok (.invokevirtual 40, 3) := by decide +kernel
theorem dX0_shortestRow_14 : decode cX0_shortestRow 14 = .ok (.iconst 1, 1) := by decide +kernel
theorem dX0_shortestRow_15 : decode cX0_shortestRow 15 = .ok (.istore_n 3, 1) := by decide +kernel
theorem dX0_shortestRow_16 : decode cX0_shortestRow 16 = .ok (.iload_n 3, 1) := by decide +kernel
theorem dX0_shortestRow_17 : decode cX0_shortestRow 17 = .ok (.aload_n 0, 1) := by decide +kernel
theorem dX0_shortestRow_18 : decode cX0_shortestRow 18 = .ok (.getfield 9, 3) := by decide +kernel
theorem dX0_shortestRow_21 : decode cX0_shortestRow 21 = .ok (.if_icmp .ge 56, 3) := by decide +kernel
theorem dX0_shortestRow_24 : decode cX0_shortestRow 24 = .ok (.aload_n 0, 1) := by decide +kernel
theorem dX0_shortestRow_25 : decode cX0_shortestRow 25 = .ok (.getfield 20, 3) := by decide +kernel
theorem dX0_shortestRow_28 : decode cX0_shortestRow 28 = .ok (.iload_n 2, 1) := by decide +kernel
theorem dX0_shortestRow_29 : decode cX0_shortestRow 29 = .ok (.iaload, 1) := by decide +kernel
theorem dX0_shortestRow_30 : decode cX0_shortestRow 30 = .ok (.ifCond .ne 47, 3) := by decide +kernel
theorem dX0_shortestRow_33 : decode cX0_shortestRow 33 = .ok (.iconst 0, 1) := by decide +kernel
theorem dX0_shortestRow_34 : decode cX0_shortestRow 34 = .ok (.istore 4, 2) := by decide +kernel
theorem dX0_shortestRow_36 : decode cX0_shortestRow 36 = .ok (.iload 4, 2) := by decide +kernel
theorem dX0_shortestRow_38 : decode cX0_shortestRow 38 = .ok (.aload_n 0, 1) := by decide +kernel
theorem dX0_shortestRow_39 : decode cX0_shortestRow 39 = .ok (.getfield 9, 3) := by decide +kernel
theorem dX0_shortestRow_42 : decode cX0_shortestRow 42 = .ok (.if_icmp .ge 29, 3) := by decide +kernel
theorem dX0_shortestRow_45 : decode cX0_shortestRow 45 = .ok (.aload_n 0, 1) := by decide +kernel
theorem dX0_shortestRow_46 : decode cX0_shortestRow 46 = .ok (.getfield 20, 3) := by decide +kernel
theorem dX0_shortestRow_49 : decode cX0_shortestRow 49 = .ok (.iload 4, 2) := by decide +kernel
theorem dX0_shortestRow_51 : decode cX0_shortestRow 51 = .ok (.iaload, 1) := by decide +kernel
theorem dX0_shortestRow_52 : decode cX0_shortestRow 52 = .ok (.iload_n 3, 1) := by decide +kernel
theorem dX0_shortestRow_53 : decode cX0_shortestRow 53 = .ok (.if_icmp .ne 12, 3) := by decide +kernel
theorem dX0_shortestRow_56 : decode cX0_shortestRow 56 = .ok (.aload_n 0, 1) := by decide +kernel
theorem dX0_shortestRow_57 : decode cX0_shortestRow 57 = .ok (.iload 4, 2) := by decide +kernel
theorem dX0_shortestRow_59 : decode cX0_shortestRow 59 = .ok (.iload_n 3, 1) := by decide +kernel
theorem dX0_shortestRow_60 : decode cX0_shortestRow 60 = .ok (.iconst 1, 1) := by decide +kernel
theorem dX0_shortestRow_61 : decode cX0_shortestRow 61 = .ok (.iadd, 1) := by decide +kernel
theorem dX0_shortestRow_62 : decode cX0_shortestRow 62 = .ok (.invokevirtual 40, 3) := by decide +kernel
theorem dX0_shortestRow_65 : decode cX0_shortestRow 65 = .ok (.iinc 4 1, 3) := by decide +kernel
theorem dX0_shortestRow_68 : decode cX0_shortestRow 68 = .ok (.goto (-32), 3) := by decide +kernel
theorem dX0_shortestRow_71 : decode cX0_shortestRow 71 = .ok (.iinc 3 1, 3) := by decide +kernel
theorem dX0_shortestRow_74 : decode cX0_shortestRow 74 = .ok (.goto (-58), 3) := by decide +kernel
theorem dX0_shortestRow_77 : decode cX0_shortestRow 77 = .ok (.aload_n 0, 1) := by decide +kernel
theorem dX0_shortestRow_78 : decode cX0_shortestRow 78 = .ok (.getfield 20, 3) := by decide +kernel
theorem dX0_shortestRow_81 : decode cX0_shortestRow 81 = .ok (.iload_n 2, 1) := by decide +kernel
theorem dX0_shortestRow_82 : decode cX0_shortestRow 82 = .ok (.iaload, 1) := by decide +kernel
theorem dX0_shortestRow_83 : decode cX0_shortestRow 83 = .ok (.ireturn, 1) := by decide +kernel
theorem dX0_stepFrom_0 : decode cX0_stepFrom 0 = .ok (.iconst 0, 1) := by decide +kernel
theorem dX0_stepFrom_1 : decode cX0_stepFrom 1 = .ok (.istore_n 3, 1) := by decide +kernel
theorem dX0_stepFrom_2 : decode cX0_stepFrom 2 = .ok (.iload_n 3, 1) := by decide +kernel
theorem dX0_stepFrom_3 : decode cX0_stepFrom 3 = .ok (.aload_n 0, 1) := by decide +kernel
theorem dX0_stepFrom_4 : decode cX0_stepFrom 4 = .ok (.getfield 9, 3) := by decide +kernel
theorem dX0_stepFrom_7 : decode cX0_stepFrom 7 = .ok (.if_icmp .ge 36, 3) := by decide +kernel
theorem dX0_stepFrom_10 : decode cX0_stepFrom 10 = .ok (.aload_n 0, 1) := by decide +kernel
theorem dX0_stepFrom_11 : decode cX0_stepFrom 11 = .ok (.getfield 20, 3) := by decide +kernel
theorem dX0_stepFrom_14 : decode cX0_stepFrom 14 = .ok (.iload_n 3, 1) := by decide +kernel
theorem dX0_stepFrom_15 : decode cX0_stepFrom 15 = .ok (.iaload, 1) := by decide +kernel
theorem dX0_stepFrom_16 : decode cX0_stepFrom 16 = .ok (.ifCond .ne 21, 3) := by decide +kernel
theorem dX0_stepFrom_19 : decode cX0_stepFrom 19 = .ok (.aload_n 0, 1) := by decide +kernel
theorem dX0_stepFrom_20 : decode cX0_stepFrom 20 = .ok (.getfield 17, 3) := by decide +kernel
theorem dX0_stepFrom_23 : decode cX0_stepFrom 23 = .ok (.iload_n 3, 1) := by decide +kernel
theorem dX0_stepFrom_24 : decode cX0_stepFrom 24 = .ok (.aaload, 1) := by decide +kernel
theorem dX0_stepFrom_25 : decode cX0_stepFrom 25 = .ok (.iload_n 1, 1) := by decide +kernel
theorem dX0_stepFrom_26 : decode cX0_stepFrom 26 = .ok (.iaload, 1) := by decide +kernel
theorem dX0_stepFrom_27 : decode cX0_stepFrom 27 = .ok (.ifCond .le 10, 3) := by decide +kernel
theorem dX0_stepFrom_30 : decode cX0_stepFrom 30 = .ok (.aload_n 0, 1) := by decide +kernel
theorem dX0_stepFrom_31 : decode cX0_stepFrom 31 = .ok (.getfield 20, 3) := by decide +kernel
theorem dX0_stepFrom_34 : decode cX0_stepFrom 34 = .ok (.iload_n 3, 1) := by decide +kernel
theorem dX0_stepFrom_35 : decode cX0_stepFrom 35 = .ok (.iload_n 2, 1) := by decide +kernel
theorem dX0_stepFrom_36 : decode cX0_stepFrom 36 = .ok (.iastore, 1) := by decide +kernel
theorem dX0_stepFrom_37 : decode cX0_stepFrom 37 = .ok (.iinc 3 1, 3) := by decide +kernel
theorem dX0_stepFrom_40 : decode cX0_stepFrom 40 = .ok (.goto (-38), 3) := by decide +kernel
theorem dX0_stepFrom_43 : decode cX0_stepFrom 43 = .ok (.return_, 1) := by decide +kernel
set_option maxRecDepth 20000 in
theorem ggX1_init_X3_init : GoodIn wsX1_init wsX3_init := goodIn_r _ [16, 17, 2, 3, 18, 19, 20, 4, 21, 22, 23, 24, 25, 26, 33, 34, 35, 36, 37, 38, 39] (by decide +kernel) (by decide +kernel)
set_option maxRecDepth 20000 in
theorem gX1_init_X3_init_n23 : GoodIn wsX1_init (wsX3_init) := ggX1_init_X3_init
theorem dX1_init_0 : decode cX1_init 0 = .ok (.aload_n 0, 1) := by decide +kernel
theorem dX1_init_1 : decode cX1_init 1 = .ok (.invokespecial 3, 3) := by decide +kernel
theorem dX1_init_4 : decode cX1_init 4 = .ok (.aload_n 0, 1) := by decide +kernel
theorem dX1_init_5 : decode cX1_init 5 = .ok (.bipush 10, 2) := by decide +kernel
theorem dX1_init_7 : decode cX1_init 7 = .ok (.newarray .int, 2) := by decide +kernel
theorem dX1_init_9 : decode cX1_init 9 = .ok (.putfield 9, 3) := by decide +kernel
theorem dX1_init_12 : decode cX1_init 12 = .ok (.aload_n 0, 1) := by decide +kernel
theorem dX1_init_13 : decode cX1_init 13 = .ok (.bipush 10, 2) := by decide +kernel
theorem dX1_init_15 : decode cX1_init 15 = .ok (.newarray .int, 2) := by decide +kernel
theorem dX1_init_17 : decode cX1_init 17 = .ok (.putfield 15, 3) := by decide +kernel
theorem dX1_init_20 : decode cX1_init 20 = .ok (.aload_n 0, 1) := by decide +kernel
theorem dX1_init_21 : decode cX1_init 21 = .ok (.bipush 10, 2) := by decide +kernel
theorem dX1_init_23 : decode cX1_init 23 = .ok (.newarray .int, 2) := by decide +kernel
theorem dX1_init_25 : decode cX1_init 25 = .ok (.putfield 18, 3) := by decide +kernel
theorem dX1_init_28 : decode cX1_init 28 = .ok (.aload_n 0, 1) := by decide +kernel
theorem dX1_init_29 : decode cX1_init 29 = .ok (.new 21, 3) := by decide +kernel
theorem dX1_init_32 : decode cX1_init 32 = .ok (.dup, 1) := by decide +kernel
theorem dX1_init_33 : decode cX1_init 33 = .ok (.invokespecial 23, 3) := by decide +kernel
theorem dX1_init_36 : decode cX1_init 36 = .ok (.putfield 24, 3) := by decide +kernel
theorem dX1_init_39 : decode cX1_init 39 = .ok (.aload_n 0, 1) := by decide +kernel
theorem dX1_init_40 : decode cX1_init 40 = .ok (.bipush 10, 2) := by decide +kernel
theorem dX1_init_42 : decode cX1_init 42 = .ok (.newarray .int, 2) := by decide +kernel
theorem dX1_init_44 : decode cX1_init 44 = .ok (.putfield 28, 3) := by decide +kernel
theorem dX1_init_47 : decode cX1_init 47 = .ok (.aload_n 0, 1) := by decide +kernel
theorem dX1_init_48 : decode cX1_init 48 = .ok (.bipush 10, 2) := by decide +kernel
theorem dX1_init_50 : decode cX1_init 50 = .ok (.newarray .boolean, 2) := by decide +kernel
theorem dX1_init_52 : decode cX1_init 52 = .ok (.putfield 31, 3) := by decide +kernel
theorem dX1_init_55 : decode cX1_init 55 = .ok (.return_, 1) := by decide +kernel
set_option maxRecDepth 20000 in
theorem ggX1_findChallenger_X2_levelOf : GoodIn wsX1_findChallenger wsX2_levelOf := goodIn_ca (goodIn_r _ [12, 13, 14, 72, 73, 74, 75, 76, 77, 78] (by decide +kernel) (by decide +kernel)) (goodIn_sub (fun _ h => List.mem_cons_of_mem _ (List.mem_append_right _ h)) (by decide +kernel))
set_option maxRecDepth 20000 in
theorem gX1_findChallenger_X2_levelOf : GoodIn wsX1_findChallenger (wsV RX1 41 RX2 yX2_levelOf wsX2_levelOf) := goodIn_app (goodIn_of _ (by decide +kernel)) ggX1_findChallenger_X2_levelOf
set_option maxRecDepth 20000 in
theorem ggX1_findChallenger_X2_lists : GoodIn wsX1_findChallenger wsX2_lists := goodIn_ca (goodIn_r _ [18, 19, 9, 10, 11, 12, 13, 14, 72, 73, 74, 75, 76, 77, 78] (by decide +kernel) (by decide +kernel)) (goodIn_sub (fun _ h => List.mem_cons_of_mem _ (List.mem_append_right _ h)) (by decide +kernel))
set_option maxRecDepth 20000 in
theorem gX1_findChallenger_X2_lists : GoodIn wsX1_findChallenger (wsV RX1 55 RX2 yX2_lists wsX2_lists) := goodIn_app (goodIn_of _ (by decide +kernel)) ggX1_findChallenger_X2_lists
set_option maxRecDepth 20000 in
theorem ggX1_findChallenger_J6_compare_7cf53 : GoodIn wsX1_findChallenger wsJ6_compare_7cf53 := goodIn_r _ [23] (by decide +kernel) (by decide +kernel)
set_option maxRecDepth 20000 in
theorem gX1_findChallenger_J6_compare_7cf53 : GoodIn wsX1_findChallenger (va_wsS RX1 59 yJ6_compare_7cf53 wsJ6_compare_7cf53) := goodIn_app (goodIn_of _ (by decide +kernel)) ggX1_findChallenger_J6_compare_7cf53
set_option maxRecDepth 20000 in
theorem ggX1_findChallenger_X3_share : GoodIn wsX1_findChallenger wsX3_share := goodIn_ca (goodIn_r _ [28, 29, 30, 31, 32, 33, 34, 35, 36, 37, 38, 39, 40, 41, 27, 42, 43, 44, 45, 46, 47, 48, 49, 50, 51, 52, 53, 54, 55, 56, 57, 58, 59, 60, 61, 62, 63, 64, 65, 66, 67, 72, 73, 74, 75, 76, 77, 78, 85, 86, 87, 88, 89, 90, 91] (by decide +kernel) (by decide +kernel)) (goodIn_sub (fun _ h => List.mem_cons_of_mem _ (List.mem_append_right _ h)) (by decide +kernel))
set_option maxRecDepth 20000 in
theorem gX1_findChallenger_X3_share : GoodIn wsX1_findChallenger (wsV RX1 66 RX3 yX3_share wsX3_share) := goodIn_app (goodIn_of _ (by decide +kernel)) ggX1_findChallenger_X3_share
set_option maxRecDepth 20000 in
theorem ggX1_findChallenger_X3_copyTo : GoodIn wsX1_findChallenger wsX3_copyTo := goodIn_ca (goodIn_r _ [71, 32, 30, 85, 86, 87, 88, 89, 90, 91] (by decide +kernel) (by decide +kernel)) (goodIn_sub (fun _ h => List.mem_cons_of_mem _ (List.mem_append_right _ h)) (by decide +kernel))
set_option maxRecDepth 20000 in
theorem gX1_findChallenger_X3_copyTo : GoodIn wsX1_findChallenger (wsV RX1 70 RX3 yX3_copyTo wsX3_copyTo) := goodIn_app (goodIn_of _ (by decide +kernel)) ggX1_findChallenger_X3_copyTo
theorem dX1_findChallenger_0 : decode cX1_findChallenger 0 = .ok (.iconst 0, 1) := by decide +kernel
theorem dX1_findChallenger_1 : decode cX1_findChallenger 1 = .ok (.istore_n 3, 1) := by decide +kernel
theorem dX1_findChallenger_2 : decode cX1_findChallenger 2 = .ok (.iload_n 3, 1) := by decide +kernel
theorem dX1_findChallenger_3 : decode cX1_findChallenger 3 = .ok (.aload_n 1, 1) := by decide +kernel
theorem dX1_findChallenger_4 : decode cX1_findChallenger 4 = .ok (.getfield 35, 3) := by decide +kernel
theorem dX1_findChallenger_7 : decode cX1_findChallenger 7 = .ok (.if_icmp .ge 115, 3) := by decide +kernel
theorem dX1_findChallenger_10 : decode cX1_findChallenger 10 = .ok (.aload_n 1, 1) := by decide +kernel
theorem dX1_findChallenger_11 : decode cX1_findChallenger 11 = .ok (.iload_n 3, 1) := by decide +kernel
theorem dX1_findChallenger_12 : decode cX1_findChallenger 12 = .ok (.aload_n 2, 1) := by decide +kernel
theorem dX1_findChallenger_13 : decode cX1_findChallenger 13 = .ok (.iload_n 3, 1) := by decide +kernel
theorem dX1_findChallenger_14 : decode cX1_findChallenger 14 = .ok (.iaload, 1) := by decide +kernel
theorem dX1_findChallenger_15 : decode cX1_findChallenger 15 = .ok (.invokevirtual 41, 3) := by decide +kernel
theorem dX1_findChallenger_18 : decode cX1_findChallenger 18 = .ok (.istore 4, 2) := by decide +kernel
theorem dX1_findChallenger_20 : decode cX1_findChallenger 20 = .ok (.aload_n 1, 1) := by decide +kernel
theorem dX1_findChallenger_21 : decode cX1_findChallenger 21 = .ok (.getfield 45, 3) := by decide +kernel
theorem dX1_findChallenger_24 : decode cX1_findChallenger 24 = .ok (.iload_n 3, 1) := by decide +kernel
theorem dX1_findChallenger_25 : decode cX1_findChallenger 25 = .ok (.iaload, 1) := by decide +kernel
theorem dX1_findChallenger_26 : decode cX1_findChallenger 26 = .ok (.i2l, 1) := by decide +kernel
theorem dX1_findChallenger_27 : decode cX1_findChallenger 27 = .ok (.lstore 5, 2) := by decide +kernel
theorem dX1_findChallenger_29 : decode cX1_findChallenger 29 = .ok (.iconst 0, 1) := by decide +kernel
theorem dX1_findChallenger_30 : decode cX1_findChallenger 30 = .ok (.istore 7, 2) := by decide +kernel
theorem dX1_findChallenger_32 : decode cX1_findChallenger 32 = .ok (.iload 7, 2) := by decide +kernel
theorem dX1_findChallenger_34 : decode cX1_findChallenger 34 = .ok (.aload_n 1, 1) := by decide +kernel
theorem dX1_findChallenger_35 : decode cX1_findChallenger 35 = .ok (.getfield 48, 3) := by decide +kernel
theorem dX1_findChallenger_38 : decode cX1_findChallenger 38 = .ok (.if_icmp .ge 53, 3) := by decide +kernel
theorem dX1_findChallenger_41 : decode cX1_findChallenger 41 = .ok (.aload_n 0, 1) := by decide +kernel
theorem dX1_findChallenger_42 : decode cX1_findChallenger 42 = .ok (.getfield 24, 3) := by decide +kernel
theorem dX1_findChallenger_45 : decode cX1_findChallenger 45 = .ok (.getfield 51, 3) := by decide +kernel
theorem dX1_findChallenger_48 : decode cX1_findChallenger 48 = .ok (.iload_n 3, 1) := by decide +kernel
theorem dX1_findChallenger_49 : decode cX1_findChallenger 49 = .ok (.aaload, 1) := by decide +kernel
theorem dX1_findChallenger_50 : decode cX1_findChallenger 50 = .ok (.iload 7, 2) := by decide +kernel
theorem dX1_findChallenger_52 : decode cX1_findChallenger 52 = .ok (.aload_n 1, 1) := by decide +kernel
theorem dX1_findChallenger_53 : decode cX1_findChallenger 53 = .ok (.iload_n 3, 1) := by decide +kernel
theorem dX1_findChallenger_54 : decode cX1_findChallenger 54 = .ok (.iload 7, 2) := by decide +kernel
theorem dX1_findChallenger_56 : decode cX1_findChallenger 56 = .ok (.invokevirtual 55, 3) := by decide +kernel
theorem dX1_findChallenger_59 : decode cX1_findChallenger 59 = .ok (.ifCond .eq 22, 3) := by decide +kernel
theorem dX1_findChallenger_62 : decode cX1_findChallenger 62 = .ok (.lload 5, 2) := by decide +kernel
theorem dX1_findChallenger_64 : decode cX1_findChallenger 64 = .ok (.iload 4, 2) := by decide +kernel
theorem dX1_findChallenger_66 : decode cX1_findChallenger 66 = .ok (.aload_n 1, 1) := by decide +kernel
theorem dX1_findChallenger_67 : decode cX1_findChallenger 67 = .ok (.iload_n 3, 1) := by decide +kernel
theorem dX1_findChallenger_68 : decode cX1_findChallenger 68 = .ok (.iload 7, 2) := by decide +kernel
theorem dX1_findChallenger_70 : decode cX1_findChallenger 70 = .ok (.invokevirtual 41, 3) := by decide +kernel
theorem dX1_findChallenger_73 : decode cX1_findChallenger 73 = .ok (.invokestatic 59, 3) := by decide +kernel
theorem dX1_findChallenger_76 : decode cX1_findChallenger 76 = .ok (.i2l, 1) := by decide +kernel
theorem dX1_findChallenger_77 : decode cX1_findChallenger 77 = .ok (.lmul, 1) := by decide +kernel
theorem dX1_findChallenger_78 : decode cX1_findChallenger 78 = .ok (.goto 6, 3) := by decide +kernel
theorem dX1_findChallenger_81 : decode cX1_findChallenger 81 = .ok (.ldc2_w 64, 3) := by decide +kernel
theorem dX1_findChallenger_84 : decode cX1_findChallenger 84 = .ok (.lastore, 1) := by decide +kernel
theorem dX1_findChallenger_85 : decode cX1_findChallenger 85 = .ok (.iinc 7 1, 3) := by decide +kernel
theorem dX1_findChallenger_88 : decode cX1_findChallenger 88 = .ok (.goto (-56), 3) := by decide +kernel
theorem dX1_findChallenger_91 : decode cX1_findChallenger 91 = .ok (.aload_n 0, 1) := by decide +kernel
theorem dX1_findChallenger_92 : decode cX1_findChallenger 92 = .ok (.getfield 24, 3) := by decide +kernel
theorem dX1_findChallenger_95 : decode cX1_findChallenger 95 = .ok (.getfield 51, 3) := by decide +kernel
theorem dX1_findChallenger_98 : decode cX1_findChallenger 98 = .ok (.iload_n 3, 1) := by decide +kernel
theorem dX1_findChallenger_99 : decode cX1_findChallenger 99 = .ok (.aaload, 1) := by decide +kernel
theorem dX1_findChallenger_100 : decode cX1_findChallenger 100 = .ok (.aload_n 1, 1) := by decide +kernel
theorem dX1_findChallenger_101 : decode cX1_findChallenger 101 = .ok (.getfield 48, 3) := by decide +kernel
theorem dX1_findChallenger_104 : decode cX1_findChallenger 104 = .ok (.lload 5, 2) := by decide +kernel
theorem dX1_findChallenger_106 : decode cX1_findChallenger 106 = .ok (.iload 4, 2) := by decide +kernel
theorem dX1_findChallenger_108 : decode cX1_findChallenger 108 = .ok (.bipush 10, 2) := by decide +kernel
theorem dX1_findChallenger_110 : decode cX1_findChallenger 110 = .ok (.invokestatic 59, 3) := by decide +kernel
theorem dX1_findChallenger_113 : decode cX1_findChallenger 113 = .ok (.i2l, 1) := by decide +kernel
theorem dX1_findChallenger_114 : decode cX1_findChallenger 114 = .ok (.lmul, 1) := by decide +kernel
theorem dX1_findChallenger_115 : decode cX1_findChallenger 115 = .ok (.lastore, 1) := by decide +kernel
theorem dX1_findChallenger_116 : decode cX1_findChallenger 116 = .ok (.iinc 3 1, 3) := by decide +kernel
theorem dX1_findChallenger_119 : decode cX1_findChallenger 119 = .ok (.goto (-117), 3) := by decide +kernel
theorem dX1_findChallenger_122 : decode cX1_findChallenger 122 = .ok (.aload_n 0, 1) := by decide +kernel
theorem dX1_findChallenger_123 : decode cX1_findChallenger 123 = .ok (.getfield 24, 3) := by decide +kernel
theorem dX1_findChallenger_126 : decode cX1_findChallenger 126 = .ok (.aload_n 1, 1) := by decide +kernel
theorem dX1_findChallenger_127 : decode cX1_findChallenger 127 = .ok (.invokevirtual 66, 3) := by decide +kernel
theorem dX1_findChallenger_130 : decode cX1_findChallenger 130 = .ok (.lstore_n 3, 1) := by decide +kernel
theorem dX1_findChallenger_131 : decode cX1_findChallenger 131 = .ok (.aload_n 0, 1) := by decide +kernel
theorem dX1_findChallenger_132 : decode cX1_findChallenger 132 = .ok (.getfield 24, 3) := by decide +kernel
theorem dX1_findChallenger_135 : decode cX1_findChallenger 135 = .ok (.aload_n 0, 1) := by decide +kernel
theorem dX1_findChallenger_136 : decode cX1_findChallenger 136 = .ok (.getfield 9, 3) := by decide +kernel
theorem dX1_findChallenger_139 : decode cX1_findChallenger 139 = .ok (.invokevirtual 70, 3) := by decide +kernel
theorem dX1_findChallenger_142 : decode cX1_findChallenger 142 = .ok (.lload_n 3, 1) := by decide +kernel
theorem dX1_findChallenger_143 : decode cX1_findChallenger 143 = .ok (.l2i, 1) := by decide +kernel
theorem dX1_findChallenger_144 : decode cX1_findChallenger 144 = .ok (.ireturn, 1) := by decide +kernel
set_option maxRecDepth 20000 in
theorem ggX1_findBest_X1_valueRanks : GoodIn wsX1_findBest wsX1_valueRanks := goodIn_ca (goodIn_r _ [7, 8, 9, 10, 1, 11, 12, 67, 68, 69, 70, 71, 72, 73, 61, 62, 63, 64, 65, 66, 74, 75, 76, 77, 78, 79, 80] (by decide +kernel) (by decide +kernel)) (goodIn_sub (fun _ h => List.mem_cons_of_mem _ (List.mem_append_right _ h)) (by decide +kernel))
set_option maxRecDepth 20000 in
theorem gX1_findBest_X1_valueRanks : GoodIn wsX1_findBest (wsV RX1 74 RX1 yX1_valueRanks wsX1_valueRanks) := goodIn_app (goodIn_of _ (by decide +kernel)) ggX1_findBest_X1_valueRanks
set_option maxRecDepth 20000 in
theorem ggX1_findBest_X3_share : GoodIn wsX1_findBest wsX3_share := goodIn_ca (goodIn_r _ [17, 18, 19, 20, 21, 22, 23, 24, 25, 26, 27, 28, 29, 30, 16, 31, 32, 33, 34, 35, 36, 37, 38, 39, 40, 41, 42, 43, 44, 45, 46, 47, 48, 49, 50, 51, 52, 53, 54, 55, 56, 67, 68, 69, 70, 71, 72, 73, 74, 75, 76, 77, 78, 79, 80] (by decide +kernel) (by decide +kernel)) (goodIn_sub (fun _ h => List.mem_cons_of_mem _ (List.mem_append_right _ h)) (by decide +kernel))
set_option maxRecDepth 20000 in
theorem gX1_findBest_X3_share : GoodIn wsX1_findBest (wsV RX1 66 RX3 yX3_share wsX3_share) := goodIn_app (goodIn_of _ (by decide +kernel)) ggX1_findBest_X3_share
set_option maxRecDepth 20000 in
theorem ggX1_findBest_X3_copyTo : GoodIn wsX1_findBest wsX3_copyTo := goodIn_ca (goodIn_r _ [60, 21, 19, 74, 75, 76, 77, 78, 79, 80] (by decide +kernel) (by decide +kernel)) (goodIn_sub (fun _ h => List.mem_cons_of_mem _ (List.mem_append_right _ h)) (by decide +kernel))
set_option maxRecDepth 20000 in
theorem gX1_findBest_X3_copyTo : GoodIn wsX1_findBest (wsV RX1 70 RX3 yX3_copyTo wsX3_copyTo) := goodIn_app (goodIn_of _ (by decide +kernel)) ggX1_findBest_X3_copyTo
theorem dX1_findBest_0 : decode cX1_findBest 0 = .ok (.aload_n 0, 1) := by decide +kernel
theorem dX1_findBest_1 : decode cX1_findBest 1 = .ok (.aload_n 1, 1) := by decide +kernel
theorem dX1_findBest_2 : decode cX1_findBest 2 = .ok (.invokevirtual 74, 3) := by decide +kernel
theorem dX1_findBest_5 : decode cX1_findBest 5 = .ok (.aload_n 0, 1) := by decide +kernel
theorem dX1_findBest_6 : decode cX1_findBest 6 = .ok (.getfield 24, 3) := by decide +kernel
theorem dX1_findBest_9 : decode cX1_findBest 9 = .ok (.aload_n 1, 1) := by decide +kernel
theorem dX1_findBest_10 : decode cX1_findBest 10 = .ok (.invokevirtual 66, 3) := by decide +kernel
theorem dX1_findBest_13 : decode cX1_findBest 13 = .ok (.pop2, 1) := by decide +kernel
theorem dX1_findBest_14 : decode cX1_findBest 14 = .ok (.aload_n 0, 1) := by decide +kernel
theorem dX1_findBest_15 : decode cX1_findBest 15 = .ok (.getfield 24, 3) := by decide +kernel
theorem dX1_findBest_18 : decode cX1_findBest 18 = .ok (.aload_n 0, 1) := by decide +kernel
theorem dX1_findBest_19 : decode cX1_findBest 19 = .ok (.getfield 15, 3) := by decide +kernel
theorem dX1_findBest_22 : decode cX1_findBest 22 = .ok (.invokevirtual 70, 3) := by decide +kernel
theorem dX1_findBest_25 : decode cX1_findBest 25 = .ok (.return_, 1) := by decide +kernel
set_option maxRecDepth 20000 in
theorem ggX1_mustServe_X1_valueRanks : GoodIn wsX1_mustServe wsX1_valueRanks := goodIn_ca (goodIn_r _ [6, 7, 8, 9, 1, 10, 11, 66, 67, 68, 69, 70, 71, 72, 60, 61, 62, 63, 64, 65, 73, 74, 75, 76, 77, 78, 79] (by decide +kernel) (by decide +kernel)) (goodIn_sub (fun _ h => List.mem_cons_of_mem _ (List.mem_append_right _ h)) (by decide +kernel))
set_option maxRecDepth 20000 in
theorem gX1_mustServe_X1_valueRanks : GoodIn wsX1_mustServe (wsV RX1 74 RX1 yX1_valueRanks wsX1_valueRanks) := goodIn_app (goodIn_of _ (by decide +kernel)) ggX1_mustServe_X1_valueRanks
set_option maxRecDepth 20000 in
theorem ggX1_mustServe_X3_share : GoodIn wsX1_mustServe wsX3_share := goodIn_ca (goodIn_r _ [16, 17, 18, 19, 20, 21, 22, 23, 24, 25, 26, 27, 28, 29, 15, 30, 31, 32, 33, 34, 35, 36, 37, 38, 39, 40, 41, 42, 43, 44, 45, 46, 47, 48, 49, 50, 51, 52, 53, 54, 55, 66, 67, 68, 69, 70, 71, 72, 73, 74, 75, 76, 77, 78, 79] (by decide +kernel) (by decide +kernel)) (goodIn_sub (fun _ h => List.mem_cons_of_mem _ (List.mem_append_right _ h)) (by decide +kernel))
set_option maxRecDepth 20000 in
theorem gX1_mustServe_X3_share : GoodIn wsX1_mustServe (wsV RX1 66 RX3 yX3_share wsX3_share) := goodIn_app (goodIn_of _ (by decide +kernel)) ggX1_mustServe_X3_share
set_option maxRecDepth 20000 in
theorem ggX1_mustServe_X1_closePosts : GoodIn wsX1_mustServe wsX1_closePosts := goodIn_ca (goodIn_r _ [59, 8, 1, 10, 11, 66, 67, 68, 69, 70, 71, 72, 60, 61, 62, 63, 64, 65, 73, 74, 75, 76, 77, 78, 79] (by decide +kernel) (by decide +kernel)) (goodIn_sub (fun _ h => List.mem_cons_of_mem _ (List.mem_append_right _ h)) (by decide +kernel))
set_option maxRecDepth 20000 in
theorem gX1_mustServe_X1_closePosts : GoodIn wsX1_mustServe (wsV RX1 78 RX1 yX1_closePosts wsX1_closePosts) := goodIn_app (goodIn_of _ (by decide +kernel)) ggX1_mustServe_X1_closePosts
theorem dX1_mustServe_0 : decode cX1_mustServe 0 = .ok (.aload_n 0, 1) := by decide +kernel
theorem dX1_mustServe_1 : decode cX1_mustServe 1 = .ok (.aload_n 1, 1) := by decide +kernel
theorem dX1_mustServe_2 : decode cX1_mustServe 2 = .ok (.invokevirtual 74, 3) := by decide +kernel
theorem dX1_mustServe_5 : decode cX1_mustServe 5 = .ok (.aload_n 0, 1) := by decide +kernel
theorem dX1_mustServe_6 : decode cX1_mustServe 6 = .ok (.getfield 24, 3) := by decide +kernel
theorem dX1_mustServe_9 : decode cX1_mustServe 9 = .ok (.aload_n 1, 1) := by decide +kernel
theorem dX1_mustServe_10 : decode cX1_mustServe 10 = .ok (.invokevirtual 66, 3) := by decide +kernel
theorem dX1_mustServe_13 : decode cX1_mustServe 13 = .ok (.lstore_n 3, 1) := by decide +kernel
theorem dX1_mustServe_14 : decode cX1_mustServe 14 = .ok (.aload_n 0, 1) := by decide +kernel
theorem dX1_mustServe_15 : decode cX1_mustServe 15 = .ok (.aload_n 1, 1) := by decide +kernel
theorem dX1_mustServe_16 : decode cX1_mustServe 16 = .ok (.iload_n 2, 1) := by decide +kernel
theorem dX1_mustServe_17 : decode cX1_mustServe 17 = .ok (.invokevirtual 78, 3) := by decide +kernel
theorem dX1_mustServe_20 : decode cX1_mustServe 20 = .ok (.aload_n 0, 1) := by decide +kernel
theorem dX1_mustServe_21 : decode cX1_mustServe 21 = .ok (.getfield 24, 3) := by decide +kernel
theorem dX1_mustServe_24 : decode cX1_mustServe 24 = .ok (.aload_n 1, 1) := by decide +kernel
theorem dX1_mustServe_25 : decode cX1_mustServe 25 = .ok (.invokevirtual 66, 3) := by decide +kernel
theorem dX1_mustServe_28 : decode cX1_mustServe 28 = .ok (.lload_n 3, 1) := by decide +kernel
theorem dX1_mustServe_29 : decode cX1_mustServe 29 = .ok (.lcmp, 1) := by decide +kernel
theorem dX1_mustServe_30 : decode cX1_mustServe 30 = .ok (.ifCond .eq 7, 3) := by decide +kernel
theorem dX1_mustServe_33 : decode cX1_mustServe 33 = .ok (.iconst 1, 1) := by decide +kernel
theorem dX1_mustServe_34 : decode cX1_mustServe 34 = .ok (.goto 4, 3) := by decide +kernel
theorem dX1_mustServe_37 : decode cX1_mustServe 37 = .ok (.iconst 0, 1) := by decide +kernel
theorem dX1_mustServe_38 : decode cX1_mustServe 38 = .ok (.ireturn, 1) := by decide +kernel
set_option maxRecDepth 20000 in
theorem ggX1_servesAlone_X1_valueRanks : GoodIn wsX1_servesAlone wsX1_valueRanks := goodIn_ca (goodIn_r _ [8, 9, 10, 11, 1, 2, 12, 74, 75, 76, 77, 78, 79, 80, 61, 62, 63, 64, 65, 66, 67, 68, 69, 70, 71, 72, 73] (by decide +kernel) (by decide +kernel)) (goodIn_sub (fun _ h => List.mem_cons_of_mem _ (List.mem_append_right _ h)) (by decide +kernel))
set_option maxRecDepth 20000 in
theorem gX1_servesAlone_X1_valueRanks : GoodIn wsX1_servesAlone (wsV RX1 74 RX1 yX1_valueRanks wsX1_valueRanks) := goodIn_app (goodIn_of _ (by decide +kernel)) ggX1_servesAlone_X1_valueRanks
set_option maxRecDepth 20000 in
theorem ggX1_servesAlone_X1_closePosts : GoodIn wsX1_servesAlone wsX1_closePosts := goodIn_ca (goodIn_r _ [16, 10, 1, 2, 12, 74, 75, 76, 77, 78, 79, 80, 61, 62, 63, 64, 65, 66, 67, 68, 69, 70, 71, 72, 73] (by decide +kernel) (by decide +kernel)) (goodIn_sub (fun _ h => List.mem_cons_of_mem _ (List.mem_append_right _ h)) (by decide +kernel))
set_option maxRecDepth 20000 in
theorem gX1_servesAlone_X1_closePosts : GoodIn wsX1_servesAlone (wsV RX1 78 RX1 yX1_closePosts wsX1_closePosts) := goodIn_app (goodIn_of _ (by decide +kernel)) ggX1_servesAlone_X1_closePosts
set_option maxRecDepth 20000 in
theorem ggX1_servesAlone_X3_share : GoodIn wsX1_servesAlone wsX3_share := goodIn_ca (goodIn_r _ [21, 22, 23, 24, 25, 26, 27, 28, 29, 30, 31, 32, 33, 34, 20, 35, 36, 37, 38, 39, 40, 41, 42, 43, 44, 45, 46, 47, 48, 49, 50, 51, 52, 53, 54, 55, 56, 57, 58, 59, 60, 74, 75, 76, 77, 78, 79, 80, 67, 68, 69, 70, 71, 72, 73] (by decide +kernel) (by decide +kernel)) (goodIn_sub (fun _ h => List.mem_cons_of_mem _ (List.mem_append_right _ h)) (by decide +kernel))
set_option maxRecDepth 20000 in
theorem gX1_servesAlone_X3_share : GoodIn wsX1_servesAlone (wsV RX1 66 RX3 yX3_share wsX3_share) := goodIn_app (goodIn_of _ (by decide +kernel)) ggX1_servesAlone_X3_share
theorem dX1_servesAlone_0 : decode cX1_servesAlone 0 = .ok (.aload_n 0, 1) := by decide +kernel
theorem dX1_servesAlone_1 : decode cX1_servesAlone 1 = .ok (.aload_n 1, 1) := by decide +kernel
theorem dX1_servesAlone_2 : decode cX1_servesAlone 2 = .ok (.invokevirtual 74, 3) := by decide +kernel
theorem dX1_servesAlone_5 : decode cX1_servesAlone 5 = .ok (.aload_n 0, 1) := by decide +kernel
theorem dX1_servesAlone_6 : decode cX1_servesAlone 6 = .ok (.aload_n 1, 1) := by decide +kernel
theorem dX1_servesAlone_7 : decode cX1_servesAlone 7 = .ok (.iload_n 2, 1) := by decide +kernel
theorem dX1_servesAlone_8 : decode cX1_servesAlone 8 = .ok (.invokevirtual 78, 3) := by decide +kernel
theorem dX1_servesAlone_11 : decode cX1_servesAlone 11 = .ok (.aload_n 0, 1) := by decide +kernel
theorem dX1_servesAlone_12 : decode cX1_servesAlone 12 = .ok (.getfield 24, 3) := by decide +kernel
theorem dX1_servesAlone_15 : decode cX1_servesAlone 15 = .ok (.getfield 51, 3) := by decide +kernel
theorem dX1_servesAlone_18 : decode cX1_servesAlone 18 = .ok (.iload_n 2, 1) := by decide +kernel
theorem dX1_servesAlone_19 : decode cX1_servesAlone 19 = .ok (.aaload, 1) := by decide +kernel
theorem dX1_servesAlone_20 : decode cX1_servesAlone 20 = .ok (.iload_n 3, 1) := by decide +kernel
theorem dX1_servesAlone_21 : decode cX1_servesAlone 21 = .ok (.getstatic 82, 3) := by decide +kernel
theorem dX1_servesAlone_24 : decode cX1_servesAlone 24 = .ok (.iconst 1, 1) := by decide +kernel
theorem dX1_servesAlone_25 : decode cX1_servesAlone 25 = .ok (.laload, 1) := by decide +kernel
theorem dX1_servesAlone_26 : decode cX1_servesAlone 26 = .ok (.lastore, 1) := by decide +kernel
theorem dX1_servesAlone_27 : decode cX1_servesAlone 27 = .ok (.aload_n 0, 1) := by decide +kernel
theorem dX1_servesAlone_28 : decode cX1_servesAlone 28 = .ok (.getfield 24, 3) := by decide +kernel
theorem dX1_servesAlone_31 : decode cX1_servesAlone 31 = .ok (.aload_n 1, 1) := by decide +kernel
theorem dX1_servesAlone_32 : decode cX1_servesAlone 32 = .ok (.invokevirtual 66, 3) := by decide +kernel
theorem dX1_servesAlone_35 : decode cX1_servesAlone 35 = .ok (.pop2, 1) := by decide +kernel
theorem dX1_servesAlone_36 : decode cX1_servesAlone 36 = .ok (.aload_n 0, 1) := by decide +kernel
theorem dX1_servesAlone_37 : decode cX1_servesAlone 37 = .ok (.getfield 24, 3) := by decide +kernel
theorem dX1_servesAlone_40 : decode cX1_servesAlone 40 = .ok (.getfield 86, 3) := by decide +kernel
theorem dX1_servesAlone_43 : decode cX1_servesAlone 43 = .ok (.iload_n 2, 1) := by decide +kernel
theorem dX1_servesAlone_44 : decode cX1_servesAlone 44 = .ok (.iaload, 1) := by decide +kernel
theorem dX1_servesAlone_45 : decode cX1_servesAlone 45 = .ok (.iload_n 3, 1) := by decide +kernel
theorem dX1_servesAlone_46 : decode cX1_servesAlone 46 = .ok (.if_icmp .ne 7, 3) := by decide +kernel
theorem dX1_servesAlone_49 : decode cX1_servesAlone 49 = .ok (.iconst 1, 1) := by decide +kernel
theorem dX1_servesAlone_50 : decode cX1_servesAlone 50 = .ok (.goto 4, 3) := by decide +kernel
theorem dX1_servesAlone_53 : decode cX1_servesAlone 53 = .ok (.iconst 0, 1) := by decide +kernel
theorem dX1_servesAlone_54 : decode cX1_servesAlone 54 = .ok (.ireturn, 1) := by decide +kernel
set_option maxRecDepth 20000 in
theorem ggX1_findPopular_X1_valueFirstChoices : GoodIn wsX1_findPopular wsX1_valueFirstChoices := goodIn_ca (goodIn_r _ [8, 2, 9, 10, 11, 12, 13, 14, 1, 15, 16, 17, 18, 19, 20, 21, 22, 23, 24, 25, 26, 7, 27, 28, 100, 101, 102, 103, 104, 105, 106, 94, 95, 96, 97, 98, 99, 107, 108, 109, 110, 111, 112, 113] (by decide +kernel) (by decide +kernel)) (goodIn_sub (fun _ h => List.mem_cons_of_mem _ (List.mem_append_right _ h)) (by decide +kernel))
set_option maxRecDepth 20000 in
theorem gX1_findPopular_X1_valueFirstChoices : GoodIn wsX1_findPopular (wsV RX1 89 RX1 yX1_valueFirstChoices wsX1_valueFirstChoices) := goodIn_app (goodIn_of _ (by decide +kernel)) ggX1_findPopular_X1_valueFirstChoices
set_option maxRecDepth 20000 in
theorem ggX1_findPopular_X3_share : GoodIn wsX1_findPopular wsX3_share := goodIn_ca (goodIn_r _ [33, 34, 35, 36, 37, 38, 39, 40, 41, 42, 43, 44, 45, 46, 32, 47, 48, 49, 50, 51, 52, 53, 54, 55, 56, 57, 58, 59, 60, 61, 62, 63, 64, 65, 66, 67, 68, 69, 70, 71, 72, 100, 101, 102, 103, 104, 105, 106, 107, 108, 109, 110, 111, 112, 113] (by decide +kernel) (by decide +kernel)) (goodIn_sub (fun _ h => List.mem_cons_of_mem _ (List.mem_append_right _ h)) (by decide +kernel))
set_option maxRecDepth 20000 in
theorem gX1_findPopular_X3_share : GoodIn wsX1_findPopular (wsV RX1 66 RX3 yX3_share wsX3_share) := goodIn_app (goodIn_of _ (by decide +kernel)) ggX1_findPopular_X3_share
set_option maxRecDepth 20000 in
theorem ggX1_findPopular_X1_markEven : GoodIn wsX1_findPopular wsX1_markEven := goodIn_ca (goodIn_r _ [76, 9, 77, 1, 78, 79, 2, 80, 81, 82, 83, 7, 84, 24, 25, 26, 27, 28, 14, 100, 101, 102, 103, 104, 105, 106, 94, 95, 96, 97, 98, 99, 107, 108, 109, 110, 111, 112, 113] (by decide +kernel) (by decide +kernel)) (goodIn_sub (fun _ h => List.mem_cons_of_mem _ (List.mem_append_right _ h)) (by decide +kernel))
set_option maxRecDepth 20000 in
theorem gX1_findPopular_X1_markEven : GoodIn wsX1_findPopular (wsV RX1 92 RX1 yX1_markEven wsX1_markEven) := goodIn_app (goodIn_of _ (by decide +kernel)) ggX1_findPopular_X1_markEven
set_option maxRecDepth 20000 in
theorem ggX1_findPopular_X1_valuePopular : GoodIn wsX1_findPopular wsX1_valuePopular := goodIn_ca (goodIn_r _ [88, 9, 77, 10, 11, 12, 13, 1, 15, 28, 16, 89, 17, 18, 19, 20, 21, 22, 23, 24, 25, 26, 7, 27, 14, 100, 101, 102, 103, 104, 105, 106, 94, 95, 96, 97, 98, 99, 107, 108, 109, 110, 111, 112, 113] (by decide +kernel) (by decide +kernel)) (goodIn_sub (fun _ h => List.mem_cons_of_mem _ (List.mem_append_right _ h)) (by decide +kernel))
set_option maxRecDepth 20000 in
theorem gX1_findPopular_X1_valuePopular : GoodIn wsX1_findPopular (wsV RX1 95 RX1 yX1_valuePopular wsX1_valuePopular) := goodIn_app (goodIn_of _ (by decide +kernel)) ggX1_findPopular_X1_valuePopular
set_option maxRecDepth 20000 in
theorem ggX1_findPopular_X3_copyTo : GoodIn wsX1_findPopular wsX3_copyTo := goodIn_ca (goodIn_r _ [93, 37, 35, 107, 108, 109, 110, 111, 112, 113] (by decide +kernel) (by decide +kernel)) (goodIn_sub (fun _ h => List.mem_cons_of_mem _ (List.mem_append_right _ h)) (by decide +kernel))
set_option maxRecDepth 20000 in
theorem gX1_findPopular_X3_copyTo : GoodIn wsX1_findPopular (wsV RX1 70 RX3 yX3_copyTo wsX3_copyTo) := goodIn_app (goodIn_of _ (by decide +kernel)) ggX1_findPopular_X3_copyTo
theorem dX1_findPopular_0 : decode cX1_findPopular 0 = .ok (.aload_n 0, 1) := by decide +kernel
theorem dX1_findPopular_1 : decode cX1_findPopular 1 = .ok (.aload_n 1, 1) := by decide +kernel
theorem dX1_findPopular_2 : decode cX1_findPopular 2 = .ok (.invokevirtual 89, 3) := by decide +kernel
theorem dX1_findPopular_5 : decode cX1_findPopular 5 = .ok (.aload_n 0, 1) := by decide +kernel
theorem dX1_findPopular_6 : decode cX1_findPopular 6 = .ok (.getfield 24, 3) := by decide +kernel
theorem dX1_findPopular_9 : decode cX1_findPopular 9 = .ok (.aload_n 1, 1) := by decide +kernel
theorem dX1_findPopular_10 : decode cX1_findPopular 10 = .ok (.invokevirtual 66, 3) := by decide +kernel
theorem dX1_findPopular_13 : decode cX1_findPopular 13 = .ok (.lstore_n 2, 1) := by decide +kernel
theorem dX1_findPopular_14 : decode cX1_findPopular 14 = .ok (.aload_n 0, 1) := by decide +kernel
theorem dX1_findPopular_15 : decode cX1_findPopular 15 = .ok (.aload_n 1, 1) := by decide +kernel
theorem dX1_findPopular_16 : decode cX1_findPopular 16 = .ok (.invokevirtual 92, 3) := by decide +kernel
theorem dX1_findPopular_19 : decode cX1_findPopular 19 = .ok (.iconst 0, 1) := by decide +kernel
theorem dX1_findPopular_20 : decode cX1_findPopular 20 = .ok (.istore 4, 2) := by decide +kernel
theorem dX1_findPopular_22 : decode cX1_findPopular 22 = .ok (.iload 4, 2) := by decide +kernel
theorem dX1_findPopular_24 : decode cX1_findPopular 24 = .ok (.aload_n 1, 1) := by decide +kernel
theorem dX1_findPopular_25 : decode cX1_findPopular 25 = .ok (.getfield 35, 3) := by decide +kernel
theorem dX1_findPopular_28 : decode cX1_findPopular 28 = .ok (.if_icmp .ge 16, 3) := by decide +kernel
theorem dX1_findPopular_31 : decode cX1_findPopular 31 = .ok (.aload_n 0, 1) := by decide +kernel
theorem dX1_findPopular_32 : decode cX1_findPopular 32 = .ok (.aload_n 1, 1) := by decide +kernel
theorem dX1_findPopular_33 : decode cX1_findPopular 33 = .ok (.iload 4, 2) := by decide +kernel
theorem dX1_findPopular_35 : decode cX1_findPopular 35 = .ok (.invokevirtual 95, 3) := by decide +kernel
theorem dX1_findPopular_38 : decode cX1_findPopular 38 = .ok (.iinc 4 1, 3) := by decide +kernel
theorem dX1_findPopular_41 : decode cX1_findPopular 41 = .ok (.goto (-19), 3) := by decide +kernel
theorem dX1_findPopular_44 : decode cX1_findPopular 44 = .ok (.aload_n 0, 1) := by decide +kernel
theorem dX1_findPopular_45 : decode cX1_findPopular 45 = .ok (.getfield 24, 3) := by decide +kernel
theorem dX1_findPopular_48 : decode cX1_findPopular 48 = .ok (.aload_n 1, 1) := by decide +kernel
theorem dX1_findPopular_49 : decode cX1_findPopular 49 = .ok (.invokevirtual 66, 3) := by decide +kernel
theorem dX1_findPopular_52 : decode cX1_findPopular 52 = .ok (.lload_n 2, 1) := by decide +kernel
theorem dX1_findPopular_53 : decode cX1_findPopular 53 = .ok (.lcmp, 1) := by decide +kernel
theorem dX1_findPopular_54 : decode cX1_findPopular 54 = .ok (.ifCond .ne 7, 3) := by decide +kernel
theorem dX1_findPopular_57 : decode cX1_findPopular 57 = .ok (.iconst 1, 1) := by decide +kernel
theorem dX1_findPopular_58 : decode cX1_findPopular 58 = .ok (.goto 4, 3) := by decide +kernel
theorem dX1_findPopular_61 : decode cX1_findPopular 61 = .ok (.iconst 0, 1) := by decide +kernel
theorem dX1_findPopular_62 : decode cX1_findPopular 62 = .ok (.istore 4, 2) := by decide +kernel
theorem dX1_findPopular_64 : decode cX1_findPopular 64 = .ok (.aload_n 0, 1) := by decide +kernel
theorem dX1_findPopular_65 : decode cX1_findPopular 65 = .ok (.getfield 24, 3) := by decide +kernel
theorem dX1_findPopular_68 : decode cX1_findPopular 68 = .ok (.aload_n 0, 1) := by decide +kernel
theorem dX1_findPopular_69 : decode cX1_findPopular 69 = .ok (.getfield 18, 3) := by decide +kernel
theorem dX1_findPopular_72 : decode cX1_findPopular 72 = .ok (.invokevirtual 70, 3) := by decide +kernel
theorem dX1_findPopular_75 : decode cX1_findPopular 75 = .ok (.iload 4, 2) := by decide +kernel
theorem dX1_findPopular_77 : decode cX1_findPopular 77 = .ok (.ireturn, 1) := by decide +kernel
theorem dX1_valueRanks_0 : decode cX1_valueRanks 0 = .ok (.iconst 0, 1) := by decide +kernel
theorem dX1_valueRanks_1 : decode cX1_valueRanks 1 = .ok (.istore_n 2, 1) := by decide +kernel
theorem dX1_valueRanks_2 : decode cX1_valueRanks 2 = .ok (.iload_n 2, 1) := by decide +kernel
theorem dX1_valueRanks_3 : decode cX1_valueRanks 3 = .ok (.aload_n 1, 1) := by decide +kernel
theorem dX1_valueRanks_4 : decode cX1_valueRanks 4 = .ok (.getfield 35, 3) := by decide +kernel
theorem dX1_valueRanks_7 : decode cX1_valueRanks 7 = .ok (.if_icmp .ge 78, 3) := by decide +kernel
theorem dX1_valueRanks_10 : decode cX1_valueRanks 10 = .ok (.iconst 0, 1) := by decide +kernel
theorem dX1_valueRanks_11 : decode cX1_valueRanks 11 = .ok (.istore_n 3, 1) := by decide +kernel
theorem dX1_valueRanks_12 : decode cX1_valueRanks 12 = .ok (.iload_n 3, 1) := by decide +kernel
theorem dX1_valueRanks_13 : decode cX1_valueRanks 13 = .ok (.aload_n 1, 1) := by decide +kernel
theorem dX1_valueRanks_14 : decode cX1_valueRanks 14 = .ok (.getfield 48, 3) := by decide +kernel
theorem dX1_valueRanks_17 : decode cX1_valueRanks 17 = .ok (.if_icmp .ge 47, 3) := by decide +kernel
theorem dX1_valueRanks_20 : decode cX1_valueRanks 20 = .ok (.aload_n 1, 1) := by decide +kernel
theorem dX1_valueRanks_21 : decode cX1_valueRanks 21 = .ok (.getfield 98, 3) := by decide +kernel
theorem dX1_valueRanks_24 : decode cX1_valueRanks 24 = .ok (.iload_n 2, 1) := by decide +kernel
theorem dX1_valueRanks_25 : decode cX1_valueRanks 25 = .ok (.aaload, 1) := by decide +kernel
theorem dX1_valueRanks_26 : decode cX1_valueRanks 26 = .ok (.iload_n 3, 1) := by decide +kernel
theorem dX1_valueRanks_27 : decode cX1_valueRanks 27 = .ok (.iaload, 1) := by decide +kernel
theorem dX1_valueRanks_28 : decode cX1_valueRanks 28 = .ok (.istore 4, 2) := by decide +kernel
theorem dX1_valueRanks_30 : decode cX1_valueRanks 30 = .ok (.aload_n 0, 1) := by decide +kernel
theorem dX1_valueRanks_31 : decode cX1_valueRanks 31 = .ok (.getfield 24, 3) := by decide +kernel
theorem dX1_valueRanks_34 : decode cX1_valueRanks 34 = .ok (.getfield 51, 3) := by decide +kernel
theorem dX1_valueRanks_37 : decode cX1_valueRanks 37 = .ok (.iload_n 2, 1) := by decide +kernel
theorem dX1_valueRanks_38 : decode cX1_valueRanks 38 = .ok (.aaload, 1) := by decide +kernel
theorem dX1_valueRanks_39 : decode cX1_valueRanks 39 = .ok (.iload_n 3, 1) := by decide +kernel
theorem dX1_valueRanks_40 : decode cX1_valueRanks 40 = .ok (.iload 4, 2) := by decide +kernel
theorem dX1_valueRanks_42 : decode cX1_valueRanks 42 = .ok (.ifCond .le 12, 3) := by decide +kernel
theorem dX1_valueRanks_45 : decode cX1_valueRanks 45 = .ok (.getstatic 82, 3) := by decide +kernel
theorem dX1_valueRanks_48 : decode cX1_valueRanks 48 = .ok (.iload 4, 2) := by decide +kernel
theorem dX1_valueRanks_50 : decode cX1_valueRanks 50 = .ok (.laload, 1) := by decide +kernel
theorem dX1_valueRanks_51 : decode cX1_valueRanks 51 = .ok (.goto 6, 3) := by decide +kernel
theorem dX1_valueRanks_54 : decode cX1_valueRanks 54 = .ok (.ldc2_w 64, 3) := by decide +kernel
theorem dX1_valueRanks_57 : decode cX1_valueRanks 57 = .ok (.lastore, 1) := by decide +kernel
theorem dX1_valueRanks_58 : decode cX1_valueRanks 58 = .ok (.iinc 3 1, 3) := by decide +kernel
theorem dX1_valueRanks_61 : decode cX1_valueRanks 61 = .ok (.goto (-49), 3) := by decide +kernel
theorem dX1_valueRanks_64 : decode cX1_valueRanks 64 = .ok (.aload_n 0, 1) := by decide +kernel
theorem dX1_valueRanks_65 : decode cX1_valueRanks 65 = .ok (.getfield 24, 3) := by decide +kernel
theorem dX1_valueRanks_68 : decode cX1_valueRanks 68 = .ok (.getfield 51, 3) := by decide +kernel
theorem dX1_valueRanks_71 : decode cX1_valueRanks 71 = .ok (.iload_n 2, 1) := by decide +kernel
theorem dX1_valueRanks_72 : decode cX1_valueRanks 72 = .ok (.aaload, 1) := by decide +kernel
theorem dX1_valueRanks_73 : decode cX1_valueRanks 73 = .ok (.aload_n 1, 1) := by decide +kernel
theorem dX1_valueRanks_74 : decode cX1_valueRanks 74 = .ok (.getfield 48, 3) := by decide +kernel
theorem dX1_valueRanks_77 : decode cX1_valueRanks 77 = .ok (.lconst 0, 1) := by decide +kernel
theorem dX1_valueRanks_78 : decode cX1_valueRanks 78 = .ok (.lastore, 1) := by decide +kernel
theorem dX1_valueRanks_79 : decode cX1_valueRanks 79 = .ok (.iinc 2 1, 3) := by decide +kernel
theorem dX1_valueRanks_82 : decode cX1_valueRanks 82 = .ok (.goto (-80), 3) := by decide +kernel
theorem dX1_valueRanks_85 : decode cX1_valueRanks 85 = .ok (.return_, 1) := by decide +kernel
theorem dX1_closePosts_0 : decode cX1_closePosts 0 = .ok (.iconst 0, 1) := by decide +kernel
theorem dX1_closePosts_1 : decode cX1_closePosts 1 = .ok (.istore_n 3, 1) := by decide +kernel
theorem dX1_closePosts_2 : decode cX1_closePosts 2 = .ok (.iload_n 3, 1) := by decide +kernel
theorem dX1_closePosts_3 : decode cX1_closePosts 3 = .ok (.aload_n 1, 1) := by decide +kernel
theorem dX1_closePosts_4 : decode cX1_closePosts 4 = .ok (.getfield 48, 3) := by decide +kernel
theorem dX1_closePosts_7 : decode cX1_closePosts 7 = .ok (.if_icmp .ge 23, 3) := by decide +kernel
theorem dX1_closePosts_10 : decode cX1_closePosts 10 = .ok (.aload_n 0, 1) := by decide +kernel
theorem dX1_closePosts_11 : decode cX1_closePosts 11 = .ok (.getfield 24, 3) := by decide +kernel
theorem dX1_closePosts_14 : decode cX1_closePosts 14 = .ok (.getfield 51, 3) := by decide +kernel
theorem dX1_closePosts_17 : decode cX1_closePosts 17 = .ok (.iload_n 2, 1) := by decide +kernel
theorem dX1_closePosts_18 : decode cX1_closePosts 18 = .ok (.aaload, 1) := by decide +kernel
theorem dX1_closePosts_19 : decode cX1_closePosts 19 = .ok (.iload_n 3, 1) := by decide +kernel
theorem dX1_closePosts_20 : decode cX1_closePosts 20 = .ok (.ldc2_w 64, 3) := by decide +kernel
theorem dX1_closePosts_23 : decode cX1_closePosts 23 = .ok (.lastore, 1) := by decide +kernel
theorem dX1_closePosts_24 : decode cX1_closePosts 24 = .ok (.iinc 3 1, 3) := by decide +kernel
theorem dX1_closePosts_27 : decode cX1_closePosts 27 = .ok (.goto (-25), 3) := by decide +kernel
theorem dX1_closePosts_30 : decode cX1_closePosts 30 = .ok (.return_, 1) := by decide +kernel
set_option maxRecDepth 20000 in
theorem ggX1_valueFirstChoices_X2_levelOf : GoodIn wsX1_valueFirstChoices wsX2_levelOf := goodIn_ca (goodIn_r _ [15, 16, 17, 24, 25, 26, 27, 28, 29, 30] (by decide +kernel) (by decide +kernel)) (goodIn_sub (fun _ h => List.mem_cons_of_mem _ (List.mem_append_right _ h)) (by decide +kernel))
set_option maxRecDepth 20000 in
theorem gX1_valueFirstChoices_X2_levelOf : GoodIn wsX1_valueFirstChoices (wsV RX1 41 RX2 yX2_levelOf wsX2_levelOf) := goodIn_app (goodIn_of _ (by decide +kernel)) ggX1_valueFirstChoices_X2_levelOf
set_option maxRecDepth 20000 in
theorem ggX1_valueFirstChoices_X1_isFirstChoice : GoodIn wsX1_valueFirstChoices wsX1_isFirstChoice := goodIn_ca (goodIn_r _ [22, 23, 7, 24, 25, 26, 27, 28, 29, 30, 31, 32, 33, 34, 35, 36] (by decide +kernel) (by decide +kernel)) (goodIn_sub (fun _ h => List.mem_cons_of_mem _ (List.mem_append_right _ h)) (by decide +kernel))
set_option maxRecDepth 20000 in
theorem gX1_valueFirstChoices_X1_isFirstChoice : GoodIn wsX1_valueFirstChoices (wsV RX1 107 RX1 yX1_isFirstChoice wsX1_isFirstChoice) := goodIn_app (goodIn_of _ (by decide +kernel)) ggX1_valueFirstChoices_X1_isFirstChoice
theorem dX1_valueFirstChoices_0 : decode cX1_valueFirstChoices 0 = .ok (.iconst 0, 1) := by decide +kernel
theorem dX1_valueFirstChoices_1 : decode cX1_valueFirstChoices 1 = .ok (.istore_n 2, 1) := by decide +kernel
theorem dX1_valueFirstChoices_2 : decode cX1_valueFirstChoices 2 = .ok (.iload_n 2, 1) := by decide +kernel
theorem dX1_valueFirstChoices_3 : decode cX1_valueFirstChoices 3 = .ok (.aload_n 1, 1) := by decide +kernel
theorem dX1_valueFirstChoices_4 : decode cX1_valueFirstChoices 4 = .ok (.getfield 35, 3) := by decide +kernel
theorem dX1_valueFirstChoices_7 : decode cX1_valueFirstChoices 7 = .ok (.if_icmp .ge 112, 3) := by decide +kernel
theorem dX1_valueFirstChoices_10 : decode cX1_valueFirstChoices 10 = .ok (.bipush 10, 2) := by decide +kernel
theorem dX1_valueFirstChoices_12 : decode cX1_valueFirstChoices 12 = .ok (.istore_n 3, 1) := by decide +kernel
theorem dX1_valueFirstChoices_13 : decode cX1_valueFirstChoices 13 = .ok (.iconst 0, 1) := by decide +kernel
theorem dX1_valueFirstChoices_14 : decode cX1_valueFirstChoices 14 = .ok (.istore 4, 2) := by decide +kernel
theorem dX1_valueFirstChoices_16 : decode cX1_valueFirstChoices 16 = .ok (.iload 4, 2) := by decide +kernel
theorem dX1_valueFirstChoices_18 : decode cX1_valueFirstChoices 18 = .ok (.aload_n 1, 1) := by decide +kernel
theorem dX1_valueFirstChoices_19 : decode cX1_valueFirstChoices 19 = .ok (.getfield 48, 3) := by decide +kernel
theorem dX1_valueFirstChoices_22 : decode cX1_valueFirstChoices 22 = .ok (.if_icmp .ge 21, 3) := by decide +kernel
theorem dX1_valueFirstChoices_25 : decode cX1_valueFirstChoices 25 = .ok (.iload_n 3, 1) := by decide +kernel
theorem dX1_valueFirstChoices_26 : decode cX1_valueFirstChoices 26 = .ok (.aload_n 1, 1) := by decide +kernel
theorem dX1_valueFirstChoices_27 : decode cX1_valueFirstChoices 27 = .ok (.iload_n 2, 1) := by decide +kernel
theorem dX1_valueFirstChoices_28 : decode cX1_valueFirstChoices 28 = .ok (.iload 4, 2) := by decide +kernel
theorem dX1_valueFirstChoices_30 : decode cX1_valueFirstChoices 30 = .ok (.invokevirtual 41, 3) := by decide +kernel
theorem dX1_valueFirstChoices_33 : decode cX1_valueFirstChoices 33 = .ok (.invokestatic 102, 3) := by decide +kernel
theorem dX1_valueFirstChoices_36 : decode cX1_valueFirstChoices 36 = .ok (.istore_n 3, 1) := by decide +kernel
theorem dX1_valueFirstChoices_37 : decode cX1_valueFirstChoices 37 = .ok (.iinc 4 1, 3) := by decide +kernel
theorem dX1_valueFirstChoices_40 : decode cX1_valueFirstChoices 40 = .ok (.goto (-24), 3) := by decide +kernel
theorem dX1_valueFirstChoices_43 : decode cX1_valueFirstChoices 43 = .ok (.aload_n 0, 1) := by decide +kernel
theorem dX1_valueFirstChoices_44 : decode cX1_valueFirstChoices 44 = .ok (.getfield 28, 3) := by decide +kernel
theorem dX1_valueFirstChoices_47 : decode cX1_valueFirstChoices 47 = .ok (.iload_n 2, 1) := by decide +kernel
theorem dX1_valueFirstChoices_48 : decode cX1_valueFirstChoices 48 = .ok (.iload_n 3, 1) := by decide +kernel
theorem dX1_valueFirstChoices_49 : decode cX1_valueFirstChoices 49 = .ok (.iastore, 1) := by decide +kernel
theorem dX1_valueFirstChoices_50 : decode cX1_valueFirstChoices 50 = .ok (.iconst 0, 1) := by decide +kernel
theorem dX1_valueFirstChoices_51 : decode cX1_valueFirstChoices 51 = .ok (.istore 4, 2) := by decide +kernel
theorem dX1_valueFirstChoices_53 : decode cX1_valueFirstChoices 53 = .ok (.iload 4, 2) := by decide +kernel
theorem dX1_valueFirstChoices_55 : decode cX1_valueFirstChoices 55 = .ok (.aload_n 1, 1) := by decide +kernel
theorem dX1_valueFirstChoices_56 : decode cX1_valueFirstChoices 56 = .ok (.getfield 48, 3) := by decide +kernel
theorem dX1_valueFirstChoices_59 : decode cX1_valueFirstChoices 59 = .ok (.if_icmp .ge 39, 3) := by decide +kernel
theorem dX1_valueFirstChoices_62 : decode cX1_valueFirstChoices 62 = .ok (.aload_n 0, 1) := by decide +kernel
theorem dX1_valueFirstChoices_63 : decode cX1_valueFirstChoices 63 = .ok (.getfield 24, 3) := by decide +kernel
theorem dX1_valueFirstChoices_66 : decode cX1_valueFirstChoices 66 = .ok (.getfield 51, 3) := by decide +kernel
theorem dX1_valueFirstChoices_69 : decode cX1_valueFirstChoices 69 = .ok (.iload_n 2, 1) := by decide +kernel
theorem dX1_valueFirstChoices_70 : decode cX1_valueFirstChoices 70 = .ok (.aaload, 1) := by decide +kernel
theorem dX1_valueFirstChoices_71 : decode cX1_valueFirstChoices 71 = .ok (.iload 4, 2) := by decide +kernel
theorem dX1_valueFirstChoices_73 : decode cX1_valueFirstChoices 73 = .ok (.aload_n 0, 1) := by decide +kernel
theorem dX1_valueFirstChoices_74 : decode cX1_valueFirstChoices 74 = .ok (.aload_n 1, 1) := by decide +kernel
theorem dX1_valueFirstChoices_75 : decode cX1_valueFirstChoices 75 = .ok (.iload_n 2, 1) := by decide +kernel
theorem dX1_valueFirstChoices_76 : decode cX1_valueFirstChoices 76 = .ok (.iload 4, 2) := by decide +kernel
theorem dX1_valueFirstChoices_78 : decode cX1_valueFirstChoices 78 = .ok (.invokevirtual 107, 3) := by decide +kernel
theorem dX1_valueFirstChoices_81 : decode cX1_valueFirstChoices 81 = .ok (.ifCond .eq 7, 3) := by decide +kernel
theorem dX1_valueFirstChoices_84 : decode cX1_valueFirstChoices 84 = .ok (.lconst 1, 1) := by decide +kernel
theorem dX1_valueFirstChoices_85 : decode cX1_valueFirstChoices 85 = .ok (.goto 6, 3) := by decide +kernel
theorem dX1_valueFirstChoices_88 : decode cX1_valueFirstChoices 88 = .ok (.ldc2_w 64, 3) := by decide +kernel
theorem dX1_valueFirstChoices_91 : decode cX1_valueFirstChoices 91 = .ok (.lastore, 1) := by decide +kernel
theorem dX1_valueFirstChoices_92 : decode cX1_valueFirstChoices 92 = .ok (.iinc 4 1, 3) := by decide +kernel
theorem dX1_valueFirstChoices_95 : decode cX1_valueFirstChoices 95 = .ok (.goto (-42), 3) := by decide +kernel
theorem dX1_valueFirstChoices_98 : decode cX1_valueFirstChoices 98 = .ok (.aload_n 0, 1) := by decide +kernel
theorem dX1_valueFirstChoices_99 : decode cX1_valueFirstChoices 99 = .ok (.getfield 24, 3) := by decide +kernel
theorem dX1_valueFirstChoices_102 : decode cX1_valueFirstChoices 102 = .ok (.getfield 51, 3) := by decide +kernel
theorem dX1_valueFirstChoices_105 : decode cX1_valueFirstChoices 105 = .ok (.iload_n 2, 1) := by decide +kernel
theorem dX1_valueFirstChoices_106 : decode cX1_valueFirstChoices 106 = .ok (.aaload, 1) := by decide +kernel
theorem dX1_valueFirstChoices_107 : decode cX1_valueFirstChoices 107 = .ok (.aload_n 1, 1) := by decide +kernel
theorem dX1_valueFirstChoices_108 : decode cX1_valueFirstChoices 108 = .ok (.getfield 48, 3) := by decide +kernel
theorem dX1_valueFirstChoices_111 : decode cX1_valueFirstChoices 111 = .ok (.lconst 0, 1) := by decide +kernel
theorem dX1_valueFirstChoices_112 : decode cX1_valueFirstChoices 112 = .ok (.lastore, 1) := by decide +kernel
theorem dX1_valueFirstChoices_113 : decode cX1_valueFirstChoices 113 = .ok (.iinc 2 1, 3) := by decide +kernel
theorem dX1_valueFirstChoices_116 : decode cX1_valueFirstChoices 116 = .ok (.goto (-114), 3) := by decide +kernel
theorem dX1_valueFirstChoices_119 : decode cX1_valueFirstChoices 119 = .ok (.return_, 1) := by decide +kernel
theorem dX1_isFirstChoice_0 : decode cX1_isFirstChoice 0 = .ok (.aload_n 1, 1) := by decide +kernel
theorem dX1_isFirstChoice_1 : decode cX1_isFirstChoice 1 = .ok (.getfield 98, 3) := by decide +kernel
theorem dX1_isFirstChoice_4 : decode cX1_isFirstChoice 4 = .ok (.iload_n 2, 1) := by decide +kernel
theorem dX1_isFirstChoice_5 : decode cX1_isFirstChoice 5 = .ok (.aaload, 1) := by decide +kernel
theorem dX1_isFirstChoice_6 : decode cX1_isFirstChoice 6 = .ok (.iload_n 3, 1) := by decide +kernel
theorem dX1_isFirstChoice_7 : decode cX1_isFirstChoice 7 = .ok (.iaload, 1) := by decide +kernel
theorem dX1_isFirstChoice_8 : decode cX1_isFirstChoice 8 = .ok (.aload_n 0, 1) := by decide +kernel
theorem dX1_isFirstChoice_9 : decode cX1_isFirstChoice 9 = .ok (.getfield 28, 3) := by decide +kernel
theorem dX1_isFirstChoice_12 : decode cX1_isFirstChoice 12 = .ok (.iload_n 2, 1) := by decide +kernel
theorem dX1_isFirstChoice_13 : decode cX1_isFirstChoice 13 = .ok (.iaload, 1) := by decide +kernel
theorem dX1_isFirstChoice_14 : decode cX1_isFirstChoice 14 = .ok (.if_icmp .ne 7, 3) := by decide +kernel
theorem dX1_isFirstChoice_17 : decode cX1_isFirstChoice 17 = .ok (.iconst 1, 1) := by decide +kernel
theorem dX1_isFirstChoice_18 : decode cX1_isFirstChoice 18 = .ok (.goto 4, 3) := by decide +kernel
theorem dX1_isFirstChoice_21 : decode cX1_isFirstChoice 21 = .ok (.iconst 0, 1) := by decide +kernel
theorem dX1_isFirstChoice_22 : decode cX1_isFirstChoice 22 = .ok (.ireturn, 1) := by decide +kernel
set_option maxRecDepth 20000 in
theorem ggX1_markEven_X1_hasEvenFirstChoice : GoodIn wsX1_markEven wsX1_hasEvenFirstChoice := goodIn_ca (goodIn_r _ [12, 1, 2, 13, 14, 15, 11, 16, 17, 18, 19, 20, 21, 22, 23, 24, 25, 26, 27, 28, 29, 30, 31] (by decide +kernel) (by decide +kernel)) (goodIn_sub (fun _ h => List.mem_cons_of_mem _ (List.mem_append_right _ h)) (by decide +kernel))
set_option maxRecDepth 20000 in
theorem gX1_markEven_X1_hasEvenFirstChoice : GoodIn wsX1_markEven (wsV RX1 117 RX1 yX1_hasEvenFirstChoice wsX1_hasEvenFirstChoice) := goodIn_app (goodIn_of _ (by decide +kernel)) ggX1_markEven_X1_hasEvenFirstChoice
theorem dX1_markEven_0 : decode cX1_markEven 0 = .ok (.iconst 0, 1) := by decide +kernel
theorem dX1_markEven_1 : decode cX1_markEven 1 = .ok (.istore_n 2, 1) := by decide +kernel
theorem dX1_markEven_2 : decode cX1_markEven 2 = .ok (.iload_n 2, 1) := by decide +kernel
theorem dX1_markEven_3 : decode cX1_markEven 3 = .ok (.aload_n 1, 1) := by decide +kernel
theorem dX1_markEven_4 : decode cX1_markEven 4 = .ok (.getfield 48, 3) := by decide +kernel
theorem dX1_markEven_7 : decode cX1_markEven 7 = .ok (.if_icmp .ge 38, 3) := by decide +kernel
theorem dX1_markEven_10 : decode cX1_markEven 10 = .ok (.aload_n 0, 1) := by decide +kernel
theorem dX1_markEven_11 : decode cX1_markEven 11 = .ok (.getfield 31, 3) := by decide +kernel
theorem dX1_markEven_14 : decode cX1_markEven 14 = .ok (.iload_n 2, 1) := by decide +kernel
theorem dX1_markEven_15 : decode cX1_markEven 15 = .ok (.aload_n 0, 1) := by decide +kernel
theorem dX1_markEven_16 : decode cX1_markEven 16 = .ok (.getfield 24, 3) := by decide +kernel
theorem dX1_markEven_19 : decode cX1_markEven 19 = .ok (.getfield 111, 3) := by decide +kernel
theorem dX1_markEven_22 : decode cX1_markEven 22 = .ok (.iload_n 2, 1) := by decide +kernel
theorem dX1_markEven_23 : decode cX1_markEven 23 = .ok (.iaload, 1) := by decide +kernel
theorem dX1_markEven_24 : decode cX1_markEven 24 = .ok (.aload_n 1, 1) := by decide +kernel
theorem dX1_markEven_25 : decode cX1_markEven 25 = .ok (.getfield 114, 3) := by decide +kernel
theorem dX1_markEven_28 : decode cX1_markEven 28 = .ok (.iload_n 2, 1) := by decide +kernel
theorem dX1_markEven_29 : decode cX1_markEven 29 = .ok (.iaload, 1) := by decide +kernel
theorem dX1_markEven_30 : decode cX1_markEven 30 = .ok (.if_icmp .ge 7, 3) := by decide +kernel
theorem dX1_markEven_33 : decode cX1_markEven 33 = .ok (.iconst 1, 1) := by decide +kernel
theorem dX1_markEven_34 : decode cX1_markEven 34 = .ok (.goto 4, 3) := by decide +kernel
theorem dX1_markEven_37 : decode cX1_markEven 37 = .ok (.iconst 0, 1) := by decide +kernel
theorem dX1_markEven_38 : decode cX1_markEven 38 = .ok (.bastore, 1) := by decide +kernel
theorem dX1_markEven_39 : decode cX1_markEven 39 = .ok (.iinc 2 1, 3) := by decide +kernel
theorem dX1_markEven_42 : decode cX1_markEven 42 = .ok (.goto (-40), 3) := by decide +kernel
theorem dX1_markEven_45 : decode cX1_markEven 45 = .ok (.iconst 1, 1) := by decide +kernel
theorem dX1_markEven_46 : decode cX1_markEven 46 = .ok (.istore_n 2, 1) := by decide +kernel
theorem dX1_markEven_47 : decode cX1_markEven 47 = .ok (.iconst 0, 1) := by decide +kernel
theorem dX1_markEven_48 : decode cX1_markEven 48 = .ok (.istore_n 3, 1) := by decide +kernel
theorem dX1_markEven_49 : decode cX1_markEven 49 = .ok (.iload_n 3, 1) := by decide +kernel
theorem dX1_markEven_50 : decode cX1_markEven 50 = .ok (.bipush 10, 2) := by decide +kernel
theorem dX1_markEven_52 : decode cX1_markEven 52 = .ok (.if_icmp .gt 89, 3) := by decide +kernel
theorem dX1_markEven_55 : decode cX1_markEven 55 = .ok (.iload_n 2, 1) := by decide +kernel
theorem dX1_markEven_56 : decode cX1_markEven 56 = .ok (.ifCond .eq 85, 3) := by decide +kernel
theorem dX1_markEven_59 : decode cX1_markEven 59 = .ok (.iconst 0, 1) := by decide +kernel
theorem dX1_markEven_60 : decode cX1_markEven 60 = .ok (.istore_n 2, 1) := by decide +kernel
theorem dX1_markEven_61 : decode cX1_markEven 61 = .ok (.iconst 0, 1) := by decide +kernel
theorem dX1_markEven_62 : decode cX1_markEven 62 = .ok (.istore 4, 2) := by decide +kernel
theorem dX1_markEven_64 : decode cX1_markEven 64 = .ok (.iload 4, 2) := by decide +kernel
theorem dX1_markEven_66 : decode cX1_markEven 66 = .ok (.aload_n 1, 1) := by decide +kernel
theorem dX1_markEven_67 : decode cX1_markEven 67 = .ok (.getfield 35, 3) := by decide +kernel
theorem dX1_markEven_70 : decode cX1_markEven 70 = .ok (.if_icmp .ge 65, 3) := by decide +kernel
theorem dX1_markEven_73 : decode cX1_markEven 73 = .ok (.aload_n 0, 1) := by decide +kernel
theorem dX1_markEven_74 : decode cX1_markEven 74 = .ok (.getfield 24, 3) := by decide +kernel
theorem dX1_markEven_77 : decode cX1_markEven 77 = .ok (.getfield 86, 3) := by decide +kernel
theorem dX1_markEven_80 : decode cX1_markEven 80 = .ok (.iload 4, 2) := by decide +kernel
theorem dX1_markEven_82 : decode cX1_markEven 82 = .ok (.iaload, 1) := by decide +kernel
theorem dX1_markEven_83 : decode cX1_markEven 83 = .ok (.istore 5, 2) := by decide +kernel
theorem dX1_markEven_85 : decode cX1_markEven 85 = .ok (.iload 5, 2) := by decide +kernel
theorem dX1_markEven_87 : decode cX1_markEven 87 = .ok (.ifCond .lt 42, 3) := by decide +kernel
theorem dX1_markEven_90 : decode cX1_markEven 90 = .ok (.iload 5, 2) := by decide +kernel
theorem dX1_markEven_92 : decode cX1_markEven 92 = .ok (.aload_n 1, 1) := by decide +kernel
theorem dX1_markEven_93 : decode cX1_markEven 93 = .ok (.getfield 48, 3) := by decide +kernel
theorem dX1_markEven_96 : decode cX1_markEven 96 = .ok (.if_icmp .ge 33, 3) := by decide +kernel
theorem dX1_markEven_99 : decode cX1_markEven 99 = .ok (.aload_n 0, 1) := by decide +kernel
theorem dX1_markEven_100 : decode cX1_markEven 100 = .ok (.getfield 31, 3) := by decide +kernel
theorem dX1_markEven_103 : decode cX1_markEven 103 = .ok (.iload 5, 2) := by decide +kernel
theorem dX1_markEven_105 : decode cX1_markEven 105 = .ok (.baload, 1) := by decide +kernel
theorem dX1_markEven_106 : decode cX1_markEven 106 = .ok (.ifCond .ne 23, 3) := by decide +kernel
theorem dX1_markEven_109 : decode cX1_markEven 109 = .ok (.aload_n 0, 1) := by decide +kernel
theorem dX1_markEven_110 : decode cX1_markEven 110 = .ok (.aload_n 1, 1) := by decide +kernel
theorem dX1_markEven_111 : decode cX1_markEven 111 = .ok (.iload 4, 2) := by decide +kernel
theorem dX1_markEven_113 : decode cX1_markEven 113 = .ok (.invokevirtual 117, 3) := by decide +kernel
theorem dX1_markEven_116 : decode cX1_markEven 116 = .ok (.ifCond .eq 13, 3) := by decide +kernel
theorem dX1_markEven_119 : decode cX1_markEven 119 = .ok (.aload_n 0, 1) := by decide +kernel
theorem dX1_markEven_120 : decode cX1_markEven 120 = .ok (.getfield 31, 3) := by decide +kernel
theorem dX1_markEven_123 : decode cX1_markEven 123 = .ok (.iload 5, 2) := by decide +kernel
theorem dX1_markEven_125 : decode cX1_markEven 125 = .ok (.iconst 1, 1) := by decide +kernel
theorem dX1_markEven_126 : decode cX1_markEven 126 = .ok (.bastore, 1) := by decide +kernel
theorem dX1_markEven_127 : decode cX1_markEven 127 = .ok (.iconst 1, 1) := by decide +kernel
theorem dX1_markEven_128 : decode cX1_markEven 128 = .ok (.istore_n 2, 1) := by decide +kernel
theorem dX1_markEven_129 : decode cX1_markEven 129 = .ok (.iinc 4 1, 3) := by decide +kernel
theorem dX1_markEven_132 : decode cX1_markEven 132 = .ok (.goto (-68), 3) := by decide +kernel
theorem dX1_markEven_135 : decode cX1_markEven 135 = .ok (.iinc 3 1, 3) := by decide +kernel
theorem dX1_markEven_138 : decode cX1_markEven 138 = .ok (.goto (-89), 3) := by decide +kernel
theorem dX1_markEven_141 : decode cX1_markEven 141 = .ok (.return_, 1) := by decide +kernel
set_option maxRecDepth 20000 in
theorem ggX1_hasEvenFirstChoice_X1_isFirstChoice : GoodIn wsX1_hasEvenFirstChoice wsX1_isFirstChoice := goodIn_ca (goodIn_r _ [7, 8, 9, 10, 11, 12, 13, 14, 15, 16, 17, 18, 19, 20, 21, 22] (by decide +kernel) (by decide +kernel)) (goodIn_sub (fun _ h => List.mem_cons_of_mem _ (List.mem_append_right _ h)) (by decide +kernel))
set_option maxRecDepth 20000 in
theorem gX1_hasEvenFirstChoice_X1_isFirstChoice : GoodIn wsX1_hasEvenFirstChoice (wsV RX1 107 RX1 yX1_isFirstChoice wsX1_isFirstChoice) := goodIn_app (goodIn_of _ (by decide +kernel)) ggX1_hasEvenFirstChoice_X1_isFirstChoice
theorem dX1_hasEvenFirstChoice_0 : decode cX1_hasEvenFirstChoice 0 = .ok (.iconst 0, 1) := by decide +kernel
theorem dX1_hasEvenFirstChoice_1 : decode cX1_hasEvenFirstChoice 1 = .ok (.istore_n 3, 1) := by decide +kernel
theorem dX1_hasEvenFirstChoice_2 : decode cX1_hasEvenFirstChoice 2 = .ok (.iload_n 3, 1) := by decide +kernel
theorem dX1_hasEvenFirstChoice_3 : decode cX1_hasEvenFirstChoice 3 = .ok (.aload_n 1, 1) := by decide +kernel
theorem dX1_hasEvenFirstChoice_4 : decode cX1_hasEvenFirstChoice 4 = .ok (.getfield 48, 3) := by decide +kernel
theorem dX1_hasEvenFirstChoice_7 : decode cX1_hasEvenFirstChoice 7 = .ok (.if_icmp .ge 30, 3) := by decide +kernel
theorem dX1_hasEvenFirstChoice_10 : decode cX1_hasEvenFirstChoice 10 = .ok (.aload_n 0, 1) := by decide +kernel
theorem dX1_hasEvenFirstChoice_11 : decode cX1_hasEvenFirstChoice 11 = .ok (.getfield 31, 3) := by decide +kernel
theorem dX1_hasEvenFirstChoice_14 : decode cX1_hasEvenFirstChoice 14 = .ok (.iload_n 3, 1) := by decide +kernel
theorem dX1_hasEvenFirstChoice_15 : decode cX1_hasEvenFirstChoice 15 = .ok (.baload, 1) := by decide +kernel
theorem dX1_hasEvenFirstChoice_16 : decode cX1_hasEvenFirstChoice 16 = .ok (.ifCond .eq 15, 3) := by decide +kernel
theorem dX1_hasEvenFirstChoice_19 : decode cX1_hasEvenFirstChoice 19 = .ok (.aload_n 0, 1) := by decide +kernel
theorem dX1_hasEvenFirstChoice_20 : decode cX1_hasEvenFirstChoice 20 = .ok (.aload_n 1, 1) := by decide +kernel
theorem dX1_hasEvenFirstChoice_21 : decode cX1_hasEvenFirstChoice 21 = .ok (.iload_n 2, 1) := by decide +kernel
theorem dX1_hasEvenFirstChoice_22 : decode cX1_hasEvenFirstChoice 22 = .ok (.iload_n 3, 1) := by decide +kernel
theorem dX1_hasEvenFirstChoice_23 : decode cX1_hasEvenFirstChoice 23 = .ok (.invokevirtual 107, 3) := by decide +kernel
theorem dX1_hasEvenFirstChoice_26 : decode cX1_hasEvenFirstChoice 26 = .ok (.ifCond .eq 5, 3) := by decide +kernel
theorem dX1_hasEvenFirstChoice_29 : decode cX1_hasEvenFirstChoice 29 = .ok (.iconst 1, 1) := by decide +kernel
theorem dX1_hasEvenFirstChoice_30 : decode cX1_hasEvenFirstChoice 30 = .ok (.ireturn, 1) := by decide +kernel
theorem dX1_hasEvenFirstChoice_31 : decode cX1_hasEvenFirstChoice 31 = .ok (.iinc 3 1, 3) := by decide +kernel
theorem dX1_hasEvenFirstChoice_34 : decode cX1_hasEvenFirstChoice 34 = .ok (.goto (-32), 3) := by decide +kernel
theorem dX1_hasEvenFirstChoice_37 : decode cX1_hasEvenFirstChoice 37 = .ok (.iconst 0, 1) := by decide +kernel
theorem dX1_hasEvenFirstChoice_38 : decode cX1_hasEvenFirstChoice 38 = .ok (.ireturn, 1) := by decide +kernel
set_option maxRecDepth 20000 in
theorem ggX1_valuePopular_X2_levelOf : GoodIn wsX1_valuePopular wsX2_levelOf := goodIn_ca (goodIn_r _ [16, 17, 18, 25, 26, 27, 28, 29, 30, 31] (by decide +kernel) (by decide +kernel)) (goodIn_sub (fun _ h => List.mem_cons_of_mem _ (List.mem_append_right _ h)) (by decide +kernel))
set_option maxRecDepth 20000 in
theorem gX1_valuePopular_X2_levelOf : GoodIn wsX1_valuePopular (wsV RX1 41 RX2 yX2_levelOf wsX2_levelOf) := goodIn_app (goodIn_of _ (by decide +kernel)) ggX1_valuePopular_X2_levelOf
set_option maxRecDepth 20000 in
theorem ggX1_valuePopular_X1_isFirstChoice : GoodIn wsX1_valuePopular wsX1_isFirstChoice := goodIn_ca (goodIn_r _ [23, 9, 24, 25, 26, 27, 28, 29, 30, 31, 32, 33, 34, 35, 36, 37] (by decide +kernel) (by decide +kernel)) (goodIn_sub (fun _ h => List.mem_cons_of_mem _ (List.mem_append_right _ h)) (by decide +kernel))
set_option maxRecDepth 20000 in
theorem gX1_valuePopular_X1_isFirstChoice : GoodIn wsX1_valuePopular (wsV RX1 107 RX1 yX1_isFirstChoice wsX1_isFirstChoice) := goodIn_app (goodIn_of _ (by decide +kernel)) ggX1_valuePopular_X1_isFirstChoice
theorem dX1_valuePopular_0 : decode cX1_valuePopular 0 = .ok (.bipush 10, 2) := by decide +kernel
theorem dX1_valuePopular_2 : decode cX1_valuePopular 2 = .ok (.istore_n 3, 1) := by decide +kernel
theorem dX1_valuePopular_3 : decode cX1_valuePopular 3 = .ok (.iconst 0, 1) := by decide +kernel
theorem dX1_valuePopular_4 : decode cX1_valuePopular 4 = .ok (.istore 4, 2) := by decide +kernel
theorem dX1_valuePopular_6 : decode cX1_valuePopular 6 = .ok (.iload 4, 2) := by decide +kernel
theorem dX1_valuePopular_8 : decode cX1_valuePopular 8 = .ok (.aload_n 1, 1) := by decide +kernel
theorem dX1_valuePopular_9 : decode cX1_valuePopular 9 = .ok (.getfield 48, 3) := by decide +kernel
theorem dX1_valuePopular_12 : decode cX1_valuePopular 12 = .ok (.if_icmp .ge 31, 3) := by decide +kernel
theorem dX1_valuePopular_15 : decode cX1_valuePopular 15 = .ok (.aload_n 0, 1) := by decide +kernel
theorem dX1_valuePopular_16 : decode cX1_valuePopular 16 = .ok (.getfield 31, 3) := by decide +kernel
theorem dX1_valuePopular_19 : decode cX1_valuePopular 19 = .ok (.iload 4, 2) := by decide +kernel
theorem dX1_valuePopular_21 : decode cX1_valuePopular 21 = .ok (.baload, 1) := by decide +kernel
theorem dX1_valuePopular_22 : decode cX1_valuePopular 22 = .ok (.ifCond .eq 15, 3) := by decide +kernel
theorem dX1_valuePopular_25 : decode cX1_valuePopular 25 = .ok (.iload_n 3, 1) := by decide +kernel
theorem dX1_valuePopular_26 : decode cX1_valuePopular 26 = .ok (.aload_n 1, 1) := by decide +kernel
theorem dX1_valuePopular_27 : decode cX1_valuePopular 27 = .ok (.iload_n 2, 1) := by decide +kernel
theorem dX1_valuePopular_28 : decode cX1_valuePopular 28 = .ok (.iload 4, 2) := by decide +kernel
theorem dX1_valuePopular_30 : decode cX1_valuePopular 30 = .ok (.invokevirtual 41, 3) := by decide +kernel
theorem dX1_valuePopular_33 : decode cX1_valuePopular 33 = .ok (.invokestatic 102, 3) := by decide +kernel
theorem dX1_valuePopular_36 : decode cX1_valuePopular 36 = .ok (.istore_n 3, 1) := by decide +kernel
theorem dX1_valuePopular_37 : decode cX1_valuePopular 37 = .ok (.iinc 4 1, 3) := by decide +kernel
theorem dX1_valuePopular_40 : decode cX1_valuePopular 40 = .ok (.goto (-34), 3) := by decide +kernel
theorem dX1_valuePopular_43 : decode cX1_valuePopular 43 = .ok (.aload_n 0, 1) := by decide +kernel
theorem dX1_valuePopular_44 : decode cX1_valuePopular 44 = .ok (.getfield 24, 3) := by decide +kernel
theorem dX1_valuePopular_47 : decode cX1_valuePopular 47 = .ok (.getfield 51, 3) := by decide +kernel
theorem dX1_valuePopular_50 : decode cX1_valuePopular 50 = .ok (.iload_n 2, 1) := by decide +kernel
theorem dX1_valuePopular_51 : decode cX1_valuePopular 51 = .ok (.aaload, 1) := by decide +kernel
theorem dX1_valuePopular_52 : decode cX1_valuePopular 52 = .ok (.astore 4, 2) := by decide +kernel
theorem dX1_valuePopular_54 : decode cX1_valuePopular 54 = .ok (.iconst 0, 1) := by decide +kernel
theorem dX1_valuePopular_55 : decode cX1_valuePopular 55 = .ok (.istore 5, 2) := by decide +kernel
theorem dX1_valuePopular_57 : decode cX1_valuePopular 57 = .ok (.iload 5, 2) := by decide +kernel
theorem dX1_valuePopular_59 : decode cX1_valuePopular 59 = .ok (.aload_n 1, 1) := by decide +kernel
theorem dX1_valuePopular_60 : decode cX1_valuePopular 60 = .ok (.getfield 48, 3) := by decide +kernel
theorem dX1_valuePopular_63 : decode cX1_valuePopular 63 = .ok (.if_icmp .ge 64, 3) := by decide +kernel
theorem dX1_valuePopular_66 : decode cX1_valuePopular 66 = .ok (.aload_n 0, 1) := by decide +kernel
theorem dX1_valuePopular_67 : decode cX1_valuePopular 67 = .ok (.aload_n 1, 1) := by decide +kernel
theorem dX1_valuePopular_68 : decode cX1_valuePopular 68 = .ok (.iload_n 2, 1) := by decide +kernel
theorem dX1_valuePopular_69 : decode cX1_valuePopular 69 = .ok (.iload 5, 2) := by decide +kernel
theorem dX1_valuePopular_71 : decode cX1_valuePopular 71 = .ok (.invokevirtual 107, 3) := by decide +kernel
theorem dX1_valuePopular_74 : decode cX1_valuePopular 74 = .ok (.ifCond .eq 12, 3) := by decide +kernel
theorem dX1_valuePopular_77 : decode cX1_valuePopular 77 = .ok (.aload 4, 2) := by decide +kernel
theorem dX1_valuePopular_79 : decode cX1_valuePopular 79 = .ok (.iload 5, 2) := by decide +kernel
theorem dX1_valuePopular_81 : decode cX1_valuePopular 81 = .ok (.lconst 1, 1) := by decide +kernel
theorem dX1_valuePopular_82 : decode cX1_valuePopular 82 = .ok (.lastore, 1) := by decide +kernel
theorem dX1_valuePopular_83 : decode cX1_valuePopular 83 = .ok (.goto 38, 3) := by decide +kernel
theorem dX1_valuePopular_86 : decode cX1_valuePopular 86 = .ok (.aload 4, 2) := by decide +kernel
theorem dX1_valuePopular_88 : decode cX1_valuePopular 88 = .ok (.iload 5, 2) := by decide +kernel
theorem dX1_valuePopular_90 : decode cX1_valuePopular 90 = .ok (.aload_n 0, 1) := by decide +kernel
theorem dX1_valuePopular_91 : decode cX1_valuePopular 91 = .ok (.getfield 31, 3) := by decide +kernel
theorem dX1_valuePopular_94 : decode cX1_valuePopular 94 = .ok (.iload 5, 2) := by decide +kernel
theorem dX1_valuePopular_96 : decode cX1_valuePopular 96 = .ok (.baload, 1) := by decide +kernel
theorem dX1_valuePopular_97 : decode cX1_valuePopular 97 = .ok (.ifCond .eq 20, 3) := by decide +kernel
theorem dX1_valuePopular_100 : decode cX1_valuePopular 100 = .ok (.aload_n 1, 1) := by decide +kernel
theorem dX1_valuePopular_101 : decode cX1_valuePopular 101 = .ok (.getfield 98, 3) := by decide +kernel
theorem dX1_valuePopular_104 : decode cX1_valuePopular 104 = .ok (.iload_n 2, 1) := by decide +kernel
theorem dX1_valuePopular_105 : decode cX1_valuePopular 105 = .ok (.aaload, 1) := by decide +kernel
theorem dX1_valuePopular_106 : decode cX1_valuePopular 106 = .ok (.iload 5, 2) := by decide +kernel
theorem dX1_valuePopular_108 : decode cX1_valuePopular 108 = .ok (.iaload, 1) := by decide +kernel
theorem dX1_valuePopular_109 : decode cX1_valuePopular 109 = .ok (.iload_n 3, 1) := by decide +kernel
theorem dX1_valuePopular_110 : decode cX1_valuePopular 110 = .ok (.if_icmp .ne 7, 3) := by decide +kernel
theorem dX1_valuePopular_113 : decode cX1_valuePopular 113 = .ok (.lconst 0, 1) := by decide +kernel
theorem dX1_valuePopular_114 : decode cX1_valuePopular 114 = .ok (.goto 6, 3) := by decide +kernel
theorem dX1_valuePopular_117 : decode cX1_valuePopular 117 = .ok (.ldc2_w 64, 3) := by decide +kernel
theorem dX1_valuePopular_120 : decode cX1_valuePopular 120 = .ok (.lastore, 1) := by decide +kernel
theorem dX1_valuePopular_121 : decode cX1_valuePopular 121 = .ok (.iinc 5 1, 3) := by decide +kernel
theorem dX1_valuePopular_124 : decode cX1_valuePopular 124 = .ok (.goto (-67), 3) := by decide +kernel
theorem dX1_valuePopular_127 : decode cX1_valuePopular 127 = .ok (.aload 4, 2) := by decide +kernel
theorem dX1_valuePopular_129 : decode cX1_valuePopular 129 = .ok (.aload_n 1, 1) := by decide +kernel
theorem dX1_valuePopular_130 : decode cX1_valuePopular 130 = .ok (.getfield 48, 3) := by decide +kernel
theorem dX1_valuePopular_133 : decode cX1_valuePopular 133 = .ok (.iload_n 3, 1) := by decide +kernel
theorem dX1_valuePopular_134 : decode cX1_valuePopular 134 = .ok (.bipush 10, 2) := by decide +kernel
theorem dX1_valuePopular_136 : decode cX1_valuePopular 136 = .ok (.if_icmp .ne 7, 3) := by decide +kernel
theorem dX1_valuePopular_139 : decode cX1_valuePopular 139 = .ok (.lconst 0, 1) := by decide +kernel
theorem dX1_valuePopular_140 : decode cX1_valuePopular 140 = .ok (.goto 6, 3) := by decide +kernel
theorem dX1_valuePopular_143 : decode cX1_valuePopular 143 = .ok (.ldc2_w 121, 3) := by decide +kernel
theorem dX1_valuePopular_146 : decode cX1_valuePopular 146 = .ok (.lastore, 1) := by decide +kernel
theorem dX1_valuePopular_147 : decode cX1_valuePopular 147 = .ok (.return_, 1) := by decide +kernel
theorem dX2_init_0 : decode cX2_init 0 = .ok (.aload_n 0, 1) := by decide +kernel
theorem dX2_init_1 : decode cX2_init 1 = .ok (.invokespecial 3, 3) := by decide +kernel
theorem dX2_init_4 : decode cX2_init 4 = .ok (.aload_n 0, 1) := by decide +kernel
theorem dX2_init_5 : decode cX2_init 5 = .ok (.iconst 0, 1) := by decide +kernel
theorem dX2_init_6 : decode cX2_init 6 = .ok (.putfield 9, 3) := by decide +kernel
theorem dX2_init_9 : decode cX2_init 9 = .ok (.aload_n 0, 1) := by decide +kernel
theorem dX2_init_10 : decode cX2_init 10 = .ok (.iconst 0, 1) := by decide +kernel
theorem dX2_init_11 : decode cX2_init 11 = .ok (.putfield 15, 3) := by decide +kernel
theorem dX2_init_14 : decode cX2_init 14 = .ok (.aload_n 0, 1) := by decide +kernel
theorem dX2_init_15 : decode cX2_init 15 = .ok (.bipush 10, 2) := by decide +kernel
theorem dX2_init_17 : decode cX2_init 17 = .ok (.newarray .int, 2) := by decide +kernel
theorem dX2_init_19 : decode cX2_init 19 = .ok (.putfield 18, 3) := by decide +kernel
theorem dX2_init_22 : decode cX2_init 22 = .ok (.aload_n 0, 1) := by decide +kernel
theorem dX2_init_23 : decode cX2_init 23 = .ok (.bipush 10, 2) := by decide +kernel
theorem dX2_init_25 : decode cX2_init 25 = .ok (.newarray .int, 2) := by decide +kernel
theorem dX2_init_27 : decode cX2_init 27 = .ok (.putfield 22, 3) := by decide +kernel
theorem dX2_init_30 : decode cX2_init 30 = .ok (.aload_n 0, 1) := by decide +kernel
theorem dX2_init_31 : decode cX2_init 31 = .ok (.bipush 10, 2) := by decide +kernel
theorem dX2_init_33 : decode cX2_init 33 = .ok (.bipush 10, 2) := by decide +kernel
theorem dX2_init_35 : decode cX2_init 35 = .ok (.multianewarray 25 2, 4) := by decide +kernel
theorem dX2_init_39 : decode cX2_init 39 = .ok (.putfield 27, 3) := by decide +kernel
theorem dX2_init_42 : decode cX2_init 42 = .ok (.aload_n 0, 1) := by decide +kernel
theorem dX2_init_43 : decode cX2_init 43 = .ok (.bipush 20, 2) := by decide +kernel
theorem dX2_init_45 : decode cX2_init 45 = .ok (.newarray .char, 2) := by decide +kernel
theorem dX2_init_47 : decode cX2_init 47 = .ok (.putfield 30, 3) := by decide +kernel
theorem dX2_init_50 : decode cX2_init 50 = .ok (.aload_n 0, 1) := by decide +kernel
theorem dX2_init_51 : decode cX2_init 51 = .ok (.bipush 10, 2) := by decide +kernel
theorem dX2_init_53 : decode cX2_init 53 = .ok (.newarray .int, 2) := by decide +kernel
theorem dX2_init_55 : decode cX2_init 55 = .ok (.putfield 34, 3) := by decide +kernel
theorem dX2_init_58 : decode cX2_init 58 = .ok (.return_, 1) := by decide +kernel
set_option maxRecDepth 20000 in
theorem ggX2_lists_X2_levelOf : GoodIn wsX2_lists wsX2_levelOf := goodIn_ca (goodIn_r _ [5, 6, 7, 8, 9, 10, 11, 12, 13, 14] (by decide +kernel) (by decide +kernel)) (goodIn_sub (fun _ h => List.mem_cons_of_mem _ (List.mem_append_right _ h)) (by decide +kernel))
set_option maxRecDepth 20000 in
theorem gX2_lists_X2_levelOf : GoodIn wsX2_lists (wsV RX2 37 RX2 yX2_levelOf wsX2_levelOf) := goodIn_app (goodIn_of _ (by decide +kernel)) ggX2_lists_X2_levelOf
theorem dX2_lists_0 : decode cX2_lists 0 = .ok (.aload_n 0, 1) := by decide +kernel
theorem dX2_lists_1 : decode cX2_lists 1 = .ok (.iload_n 1, 1) := by decide +kernel
theorem dX2_lists_2 : decode cX2_lists 2 = .ok (.iload_n 2, 1) := by decide +kernel
theorem dX2_lists_3 : decode cX2_lists 3 = .ok (.invokevirtual 37, 3) := by decide +kernel
theorem dX2_lists_6 : decode cX2_lists 6 = .ok (.bipush 10, 2) := by decide +kernel
theorem dX2_lists_8 : decode cX2_lists 8 = .ok (.if_icmp .eq 7, 3) := by decide +kernel
theorem dX2_lists_11 : decode cX2_lists 11 = .ok (.iconst 1, 1) := by decide +kernel
theorem dX2_lists_12 : decode cX2_lists 12 = .ok (.goto 4, 3) := by decide +kernel
theorem dX2_lists_15 : decode cX2_lists 15 = .ok (.iconst 0, 1) := by decide +kernel
theorem dX2_lists_16 : decode cX2_lists 16 = .ok (.ireturn, 1) := by decide +kernel
theorem dX2_levelOf_0 : decode cX2_levelOf 0 = .ok (.iload_n 2, 1) := by decide +kernel
theorem dX2_levelOf_1 : decode cX2_levelOf 1 = .ok (.ifCond .lt 11, 3) := by decide +kernel
theorem dX2_levelOf_4 : decode cX2_levelOf 4 = .ok (.iload_n 2, 1) := by decide +kernel
theorem dX2_levelOf_5 : decode cX2_levelOf 5 = .ok (.aload_n 0, 1) := by decide +kernel
theorem dX2_levelOf_6 : decode cX2_levelOf 6 = .ok (.getfield 15, 3) := by decide +kernel
theorem dX2_levelOf_9 : decode cX2_levelOf 9 = .ok (.if_icmp .lt 6, 3) := by decide +kernel
theorem dX2_levelOf_12 : decode cX2_levelOf 12 = .ok (.bipush 10, 2) := by decide +kernel
theorem dX2_levelOf_14 : decode cX2_levelOf 14 = .ok (.ireturn, 1) := by decide +kernel
theorem dX2_levelOf_15 : decode cX2_levelOf 15 = .ok (.aload_n 0, 1) := by decide +kernel
theorem dX2_levelOf_16 : decode cX2_levelOf 16 = .ok (.getfield 27, 3) := by decide +kernel
theorem dX2_levelOf_19 : decode cX2_levelOf 19 = .ok (.iload_n 1, 1) := by decide +kernel
theorem dX2_levelOf_20 : decode cX2_levelOf 20 = .ok (.aaload, 1) := by decide +kernel
theorem dX2_levelOf_21 : decode cX2_levelOf 21 = .ok (.iload_n 2, 1) := by decide +kernel
theorem dX2_levelOf_22 : decode cX2_levelOf 22 = .ok (.iaload, 1) := by decide +kernel
theorem dX2_levelOf_23 : decode cX2_levelOf 23 = .ok (.istore_n 3, 1) := by decide +kernel
theorem dX2_levelOf_24 : decode cX2_levelOf 24 = .ok (.iload_n 3, 1) := by decide +kernel
theorem dX2_levelOf_25 : decode cX2_levelOf 25 = .ok (.ifCond .ne 8, 3) := by decide +kernel
theorem dX2_levelOf_28 : decode cX2_levelOf 28 = .ok (.bipush 10, 2) := by decide +kernel
theorem dX2_levelOf_30 : decode cX2_levelOf 30 = .ok (.goto 4, 3) := by decide +kernel
theorem dX2_levelOf_33 : decode cX2_levelOf 33 = .ok (.iload_n 3, 1) := by decide +kernel
theorem dX2_levelOf_34 : decode cX2_levelOf 34 = .ok (.ireturn, 1) := by decide +kernel
theorem dX2_hasLikeWeights_0 : decode cX2_hasLikeWeights 0 = .ok (.iconst 1, 1) := by decide +kernel
theorem dX2_hasLikeWeights_1 : decode cX2_hasLikeWeights 1 = .ok (.istore_n 1, 1) := by decide +kernel
theorem dX2_hasLikeWeights_2 : decode cX2_hasLikeWeights 2 = .ok (.iload_n 1, 1) := by decide +kernel
theorem dX2_hasLikeWeights_3 : decode cX2_hasLikeWeights 3 = .ok (.aload_n 0, 1) := by decide +kernel
theorem dX2_hasLikeWeights_4 : decode cX2_hasLikeWeights 4 = .ok (.getfield 9, 3) := by decide +kernel
theorem dX2_hasLikeWeights_7 : decode cX2_hasLikeWeights 7 = .ok (.if_icmp .ge 26, 3) := by decide +kernel
theorem dX2_hasLikeWeights_10 : decode cX2_hasLikeWeights 10 = .ok (.aload_n 0, 1) := by decide +kernel
theorem dX2_hasLikeWeights_11 : decode cX2_hasLikeWeights 11 = .ok (.getfield 18, 3) := by decide +kernel
theorem dX2_hasLikeWeights_14 : decode cX2_hasLikeWeights 14 = .ok (.iload_n 1, 1) := by decide +kernel
theorem dX2_hasLikeWeights_15 : decode cX2_hasLikeWeights 15 = .ok (.iaload, 1) := by decide +kernel
theorem dX2_hasLikeWeights_16 : decode cX2_hasLikeWeights 16 = .ok (.aload_n 0, 1) := by decide +kernel
theorem dX2_hasLikeWeights_17 : decode cX2_hasLikeWeights 17 = .ok (.getfield 18, 3) := by decide +kernel
theorem dX2_hasLikeWeights_20 : decode cX2_hasLikeWeights 20 = .ok (.iconst 0, 1) := by decide +kernel
theorem dX2_hasLikeWeights_21 : decode cX2_hasLikeWeights 21 = .ok (.iaload, 1) := by decide +kernel
theorem dX2_hasLikeWeights_22 : decode cX2_hasLikeWeights 22 = .ok (.if_icmp .eq 5, 3) := by decide +kernel
theorem dX2_hasLikeWeights_25 : decode cX2_hasLikeWeights 25 = .ok (.iconst 0, 1) := by decide +kernel
theorem dX2_hasLikeWeights_26 : decode cX2_hasLikeWeights 26 = .ok (.ireturn, 1) := by decide +kernel
theorem dX2_hasLikeWeights_27 : decode cX2_hasLikeWeights 27 = .ok (.iinc 1 1, 3) := by decide +kernel
theorem dX2_hasLikeWeights_30 : decode cX2_hasLikeWeights 30 = .ok (.goto (-28), 3) := by decide +kernel
theorem dX2_hasLikeWeights_33 : decode cX2_hasLikeWeights 33 = .ok (.iconst 1, 1) := by decide +kernel
theorem dX2_hasLikeWeights_34 : decode cX2_hasLikeWeights 34 = .ok (.ireturn, 1) := by decide +kernel
theorem dX2_takersOf_0 : decode cX2_takersOf 0 = .ok (.iconst 0, 1) := by decide +kernel
theorem dX2_takersOf_1 : decode cX2_takersOf 1 = .ok (.istore_n 3, 1) := by decide +kernel
theorem dX2_takersOf_2 : decode cX2_takersOf 2 = .ok (.iconst 0, 1) := by decide +kernel
theorem dX2_takersOf_3 : decode cX2_takersOf 3 = .ok (.istore 4, 2) := by decide +kernel
theorem dX2_takersOf_5 : decode cX2_takersOf 5 = .ok (.iload 4, 2) := by decide +kernel
theorem dX2_takersOf_7 : decode cX2_takersOf 7 = .ok (.aload_n 0, 1) := by decide +kernel
theorem dX2_takersOf_8 : decode cX2_takersOf 8 = .ok (.getfield 9, 3) := by decide +kernel
theorem dX2_takersOf_11 : decode cX2_takersOf 11 = .ok (.if_icmp .ge 20, 3) := by decide +kernel
theorem dX2_takersOf_14 : decode cX2_takersOf 14 = .ok (.aload_n 2, 1) := by decide +kernel
theorem dX2_takersOf_15 : decode cX2_takersOf 15 = .ok (.iload 4, 2) := by decide +kernel
theorem dX2_takersOf_17 : decode cX2_takersOf 17 = .ok (.iaload, 1) := by decide +kernel
theorem dX2_takersOf_18 : decode cX2_takersOf 18 = .ok (.iload_n 1, 1) := by decide +kernel
theorem dX2_takersOf_19 : decode cX2_takersOf 19 = .ok (.if_icmp .ne 6, 3) := by decide +kernel
theorem dX2_takersOf_22 : decode cX2_takersOf 22 = .ok (.iinc 3 1, 3) := by decide +kernel
theorem dX2_takersOf_25 : decode cX2_takersOf 25 = .ok (.iinc 4 1, 3) := by decide +kernel
theorem dX2_takersOf_28 : decode cX2_takersOf 28 = .ok (.goto (-23), 3) := by decide +kernel
theorem dX2_takersOf_31 : decode cX2_takersOf 31 = .ok (.iload_n 3, 1) := by decide +kernel
theorem dX2_takersOf_32 : decode cX2_takersOf 32 = .ok (.ireturn, 1) := by decide +kernel
set_option maxRecDepth 20000 in
theorem ggX2_allows_J7_fill_53178 : GoodIn wsX2_allows wsJ7_fill_53178 := goodIn_r _ [7] (by decide +kernel) (by decide +kernel)
set_option maxRecDepth 20000 in
theorem gX2_allows_J7_fill_53178 : GoodIn wsX2_allows (va_wsS RX2 41 yJ7_fill_53178 wsJ7_fill_53178) := goodIn_app (goodIn_of _ (by decide +kernel)) ggX2_allows_J7_fill_53178
set_option maxRecDepth 20000 in
theorem ggX2_allows_X2_lists : GoodIn wsX2_allows wsX2_lists := goodIn_ca (goodIn_r _ [12, 13, 14, 15, 11, 16, 17, 18, 19, 20, 21, 22, 23, 24, 25] (by decide +kernel) (by decide +kernel)) (goodIn_sub (fun _ h => List.mem_cons_of_mem _ (List.mem_append_right _ h)) (by decide +kernel))
set_option maxRecDepth 20000 in
theorem gX2_allows_X2_lists : GoodIn wsX2_allows (wsV RX2 47 RX2 yX2_lists wsX2_lists) := goodIn_app (goodIn_of _ (by decide +kernel)) ggX2_allows_X2_lists
theorem dX2_allows_0 : decode cX2_allows 0 = .ok (.aload_n 0, 1) := by decide +kernel
theorem dX2_allows_1 : decode cX2_allows 1 = .ok (.getfield 34, 3) := by decide +kernel
theorem dX2_allows_4 : decode cX2_allows 4 = .ok (.iconst 0, 1) := by decide +kernel
theorem dX2_allows_5 : decode cX2_allows 5 = .ok (.invokestatic 41, 3) := by decide +kernel
theorem dX2_allows_8 : decode cX2_allows 8 = .ok (.iconst 0, 1) := by decide +kernel
theorem dX2_allows_9 : decode cX2_allows 9 = .ok (.istore_n 2, 1) := by decide +kernel
theorem dX2_allows_10 : decode cX2_allows 10 = .ok (.iload_n 2, 1) := by decide +kernel
theorem dX2_allows_11 : decode cX2_allows 11 = .ok (.aload_n 0, 1) := by decide +kernel
theorem dX2_allows_12 : decode cX2_allows 12 = .ok (.getfield 9, 3) := by decide +kernel
theorem dX2_allows_15 : decode cX2_allows 15 = .ok (.if_icmp .ge 57, 3) := by decide +kernel
theorem dX2_allows_18 : decode cX2_allows 18 = .ok (.aload_n 1, 1) := by decide +kernel
theorem dX2_allows_19 : decode cX2_allows 19 = .ok (.iload_n 2, 1) := by decide +kernel
theorem dX2_allows_20 : decode cX2_allows 20 = .ok (.iaload, 1) := by decide +kernel
theorem dX2_allows_21 : decode cX2_allows 21 = .ok (.istore_n 3, 1) := by decide +kernel
theorem dX2_allows_22 : decode cX2_allows 22 = .ok (.iload_n 3, 1) := by decide +kernel
theorem dX2_allows_23 : decode cX2_allows 23 = .ok (.iconst (-1), 1) := by decide +kernel
theorem dX2_allows_24 : decode cX2_allows 24 = .ok (.if_icmp .ne 6, 3) := by decide +kernel
theorem dX2_allows_27 : decode cX2_allows 27 = .ok (.goto 39, 3) := by decide +kernel
theorem dX2_allows_30 : decode cX2_allows 30 = .ok (.aload_n 0, 1) := by decide +kernel
theorem dX2_allows_31 : decode cX2_allows 31 = .ok (.iload_n 2, 1) := by decide +kernel
theorem dX2_allows_32 : decode cX2_allows 32 = .ok (.iload_n 3, 1) := by decide +kernel
theorem dX2_allows_33 : decode cX2_allows 33 = .ok (.invokevirtual 47, 3) := by decide +kernel
theorem dX2_allows_36 : decode cX2_allows 36 = .ok (.ifCond .eq 18, 3) := by decide +kernel
theorem dX2_allows_39 : decode cX2_allows 39 = .ok (.aload_n 0, 1) := by decide +kernel
theorem dX2_allows_40 : decode cX2_allows 40 = .ok (.getfield 34, 3) := by decide +kernel
theorem dX2_allows_43 : decode cX2_allows 43 = .ok (.iload_n 3, 1) := by decide +kernel
theorem dX2_allows_44 : decode cX2_allows 44 = .ok (.iaload, 1) := by decide +kernel
theorem dX2_allows_45 : decode cX2_allows 45 = .ok (.aload_n 0, 1) := by decide +kernel
theorem dX2_allows_46 : decode cX2_allows 46 = .ok (.getfield 22, 3) := by decide +kernel
theorem dX2_allows_49 : decode cX2_allows 49 = .ok (.iload_n 3, 1) := by decide +kernel
theorem dX2_allows_50 : decode cX2_allows 50 = .ok (.iaload, 1) := by decide +kernel
theorem dX2_allows_51 : decode cX2_allows 51 = .ok (.if_icmp .lt 5, 3) := by decide +kernel
theorem dX2_allows_54 : decode cX2_allows 54 = .ok (.iconst 0, 1) := by decide +kernel
theorem dX2_allows_55 : decode cX2_allows 55 = .ok (.ireturn, 1) := by decide +kernel
theorem dX2_allows_56 : decode cX2_allows 56 = .ok (.aload_n 0, 1) := by decide +kernel
theorem dX2_allows_57 : decode cX2_allows 57 = .ok (.getfield 34, 3) := by decide +kernel
theorem dX2_allows_60 : decode cX2_allows 60 = .ok (.iload_n 3, 1) := by decide +kernel
theorem dX2_allows_61 : decode cX2_allows 61 = .ok (.dup2, 1) := by decide +kernel
theorem dX2_allows_62 : decode cX2_allows 62 = .ok (.iaload, 1) := by decide +kernel
theorem dX2_allows_63 : decode cX2_allows 63 = .ok (.iconst 1, 1) := by decide +kernel
theorem dX2_allows_64 : decode cX2_allows 64 = .ok (.iadd, 1) := by decide +kernel
theorem dX2_allows_65 : decode cX2_allows 65 = .ok (.iastore, 1) := by decide +kernel
theorem dX2_allows_66 : decode cX2_allows 66 = .ok (.iinc 2 1, 3) := by decide +kernel
theorem dX2_allows_69 : decode cX2_allows 69 = .ok (.goto (-59), 3) := by decide +kernel
theorem dX2_allows_72 : decode cX2_allows 72 = .ok (.iconst 1, 1) := by decide +kernel
theorem dX2_allows_73 : decode cX2_allows 73 = .ok (.ireturn, 1) := by decide +kernel
set_option maxRecDepth 20000 in
theorem ggX2_weightFor_X2_levelOf : GoodIn wsX2_weightFor wsX2_levelOf := goodIn_ca (goodIn_r _ [7, 8, 9, 10, 11, 12, 13, 14, 15, 16] (by decide +kernel) (by decide +kernel)) (goodIn_sub (fun _ h => List.mem_cons_of_mem _ (List.mem_append_right _ h)) (by decide +kernel))
set_option maxRecDepth 20000 in
theorem gX2_weightFor_X2_levelOf : GoodIn wsX2_weightFor (wsV RX2 37 RX2 yX2_levelOf wsX2_levelOf) := goodIn_app (goodIn_of _ (by decide +kernel)) ggX2_weightFor_X2_levelOf
theorem dX2_weightFor_0 : decode cX2_weightFor 0 = .ok (.iconst 0, 1) := by decide +kernel
theorem dX2_weightFor_1 : decode cX2_weightFor 1 = .ok (.istore_n 3, 1) := by decide +kernel
theorem dX2_weightFor_2 : decode cX2_weightFor 2 = .ok (.iconst 0, 1) := by decide +kernel
theorem dX2_weightFor_3 : decode cX2_weightFor 3 = .ok (.istore 4, 2) := by decide +kernel
theorem dX2_weightFor_5 : decode cX2_weightFor 5 = .ok (.iload 4, 2) := by decide +kernel
theorem dX2_weightFor_7 : decode cX2_weightFor 7 = .ok (.aload_n 0, 1) := by decide +kernel
theorem dX2_weightFor_8 : decode cX2_weightFor 8 = .ok (.getfield 9, 3) := by decide +kernel
theorem dX2_weightFor_11 : decode cX2_weightFor 11 = .ok (.if_icmp .ge 42, 3) := by decide +kernel
theorem dX2_weightFor_14 : decode cX2_weightFor 14 = .ok (.aload_n 0, 1) := by decide +kernel
theorem dX2_weightFor_15 : decode cX2_weightFor 15 = .ok (.iload 4, 2) := by decide +kernel
theorem dX2_weightFor_17 : decode cX2_weightFor 17 = .ok (.aload_n 1, 1) := by decide +kernel
theorem dX2_weightFor_18 : decode cX2_weightFor 18 = .ok (.iload 4, 2) := by decide +kernel
theorem dX2_weightFor_20 : decode cX2_weightFor 20 = .ok (.iaload, 1) := by decide +kernel
theorem dX2_weightFor_21 : decode cX2_weightFor 21 = .ok (.invokevirtual 37, 3) := by decide +kernel
theorem dX2_weightFor_24 : decode cX2_weightFor 24 = .ok (.aload_n 0, 1) := by decide +kernel
theorem dX2_weightFor_25 : decode cX2_weightFor 25 = .ok (.iload 4, 2) := by decide +kernel
theorem dX2_weightFor_27 : decode cX2_weightFor 27 = .ok (.aload_n 2, 1) := by decide +kernel
theorem dX2_weightFor_28 : decode cX2_weightFor 28 = .ok (.iload 4, 2) := by decide +kernel
theorem dX2_weightFor_30 : decode cX2_weightFor 30 = .ok (.iaload, 1) := by decide +kernel
theorem dX2_weightFor_31 : decode cX2_weightFor 31 = .ok (.invokevirtual 37, 3) := by decide +kernel
theorem dX2_weightFor_34 : decode cX2_weightFor 34 = .ok (.if_icmp .ge 13, 3) := by decide +kernel
theorem dX2_weightFor_37 : decode cX2_weightFor 37 = .ok (.iload_n 3, 1) := by decide +kernel
theorem dX2_weightFor_38 : decode cX2_weightFor 38 = .ok (.aload_n 0, 1) := by decide +kernel
theorem dX2_weightFor_39 : decode cX2_weightFor 39 = .ok (.getfield 18, 3) := by decide +kernel
theorem dX2_weightFor_42 : decode cX2_weightFor 42 = .ok (.iload 4, 2) := by decide +kernel
theorem dX2_weightFor_44 : decode cX2_weightFor 44 = .ok (.iaload, 1) := by decide +kernel
theorem dX2_weightFor_45 : decode cX2_weightFor 45 = .ok (.iadd, 1) := by decide +kernel
theorem dX2_weightFor_46 : decode cX2_weightFor 46 = .ok (.istore_n 3, 1) := by decide +kernel
theorem dX2_weightFor_47 : decode cX2_weightFor 47 = .ok (.iinc 4 1, 3) := by decide +kernel
theorem dX2_weightFor_50 : decode cX2_weightFor 50 = .ok (.goto (-45), 3) := by decide +kernel
theorem dX2_weightFor_53 : decode cX2_weightFor 53 = .ok (.iload_n 3, 1) := by decide +kernel
theorem dX2_weightFor_54 : decode cX2_weightFor 54 = .ok (.ireturn, 1) := by decide +kernel
set_option maxRecDepth 20000 in
theorem ggX2_leadOf_X2_weightFor : GoodIn wsX2_leadOf wsX2_weightFor := goodIn_ca (goodIn_r _ [5, 6, 7, 8, 9, 10, 4, 11, 12, 13, 14, 15, 16, 17, 18, 19, 20] (by decide +kernel) (by decide +kernel)) (goodIn_sub (fun _ h => List.mem_cons_of_mem _ (List.mem_append_right _ h)) (by decide +kernel))
set_option maxRecDepth 20000 in
theorem gX2_leadOf_X2_weightFor : GoodIn wsX2_leadOf (wsV RX2 51 RX2 yX2_weightFor wsX2_weightFor) := goodIn_app (goodIn_of _ (by decide +kernel)) ggX2_leadOf_X2_weightFor
theorem dX2_leadOf_0 : decode cX2_leadOf 0 = .ok (.aload_n 0, 1) := by decide +kernel
theorem dX2_leadOf_1 : decode cX2_leadOf 1 = .ok (.aload_n 1, 1) := by decide +kernel
theorem dX2_leadOf_2 : decode cX2_leadOf 2 = .ok (.aload_n 2, 1) := by decide +kernel
theorem dX2_leadOf_3 : decode cX2_leadOf 3 = .ok (.invokevirtual 51, 3) := by decide +kernel
theorem dX2_leadOf_6 : decode cX2_leadOf 6 = .ok (.aload_n 0, 1) := by decide +kernel
theorem dX2_leadOf_7 : decode cX2_leadOf 7 = .ok (.aload_n 2, 1) := by decide +kernel
theorem dX2_leadOf_8 : decode cX2_leadOf 8 = .ok (.aload_n 1, 1) := by decide +kernel
theorem dX2_leadOf_9 : decode cX2_leadOf 9 = .ok (.invokevirtual 51, 3) := by decide +kernel
theorem dX2_leadOf_12 : decode cX2_leadOf 12 = .ok (.isub, 1) := by decide +kernel
theorem dX2_leadOf_13 : decode cX2_leadOf 13 = .ok (.ireturn, 1) := by decide +kernel
set_option maxRecDepth 20000 in
theorem ggX2_countRank_X2_levelOf : GoodIn wsX2_countRank wsX2_levelOf := goodIn_ca (goodIn_r _ [6, 7, 8, 9, 10, 11, 12, 13, 14, 15] (by decide +kernel) (by decide +kernel)) (goodIn_sub (fun _ h => List.mem_cons_of_mem _ (List.mem_append_right _ h)) (by decide +kernel))
set_option maxRecDepth 20000 in
theorem gX2_countRank_X2_levelOf : GoodIn wsX2_countRank (wsV RX2 37 RX2 yX2_levelOf wsX2_levelOf) := goodIn_app (goodIn_of _ (by decide +kernel)) ggX2_countRank_X2_levelOf
theorem dX2_countRank_0 : decode cX2_countRank 0 = .ok (.iconst 0, 1) := by decide +kernel
theorem dX2_countRank_1 : decode cX2_countRank 1 = .ok (.istore_n 3, 1) := by decide +kernel
theorem dX2_countRank_2 : decode cX2_countRank 2 = .ok (.iconst 0, 1) := by decide +kernel
theorem dX2_countRank_3 : decode cX2_countRank 3 = .ok (.istore 4, 2) := by decide +kernel
theorem dX2_countRank_5 : decode cX2_countRank 5 = .ok (.iload 4, 2) := by decide +kernel
theorem dX2_countRank_7 : decode cX2_countRank 7 = .ok (.aload_n 0, 1) := by decide +kernel
theorem dX2_countRank_8 : decode cX2_countRank 8 = .ok (.getfield 9, 3) := by decide +kernel
theorem dX2_countRank_11 : decode cX2_countRank 11 = .ok (.if_icmp .ge 26, 3) := by decide +kernel
theorem dX2_countRank_14 : decode cX2_countRank 14 = .ok (.aload_n 0, 1) := by decide +kernel
theorem dX2_countRank_15 : decode cX2_countRank 15 = .ok (.iload 4, 2) := by decide +kernel
theorem dX2_countRank_17 : decode cX2_countRank 17 = .ok (.aload_n 2, 1) := by decide +kernel
theorem dX2_countRank_18 : decode cX2_countRank 18 = .ok (.iload 4, 2) := by decide +kernel
theorem dX2_countRank_20 : decode cX2_countRank 20 = .ok (.iaload, 1) := by decide +kernel
theorem dX2_countRank_21 : decode cX2_countRank 21 = .ok (.invokevirtual 37, 3) := by decide +kernel
theorem dX2_countRank_24 : decode cX2_countRank 24 = .ok (.iload_n 1, 1) := by decide +kernel
theorem dX2_countRank_25 : decode cX2_countRank 25 = .ok (.if_icmp .ne 6, 3) := by decide +kernel
theorem dX2_countRank_28 : decode cX2_countRank 28 = .ok (.iinc 3 1, 3) := by decide +kernel
theorem dX2_countRank_31 : decode cX2_countRank 31 = .ok (.iinc 4 1, 3) := by decide +kernel
theorem dX2_countRank_34 : decode cX2_countRank 34 = .ok (.goto (-29), 3) := by decide +kernel
theorem dX2_countRank_37 : decode cX2_countRank 37 = .ok (.iload_n 3, 1) := by decide +kernel
theorem dX2_countRank_38 : decode cX2_countRank 38 = .ok (.ireturn, 1) := by decide +kernel
set_option maxRecDepth 20000 in
theorem ggX2_writeText_X2_writePost : GoodIn wsX2_writeText wsX2_writePost := goodIn_ca (goodIn_r _ [7, 8, 9, 10, 11, 12, 13, 14, 15] (by decide +kernel) (by decide +kernel)) (goodIn_sub (fun _ h => List.mem_cons_of_mem _ (List.mem_append_right _ h)) (by decide +kernel))
set_option maxRecDepth 20000 in
theorem gX2_writeText_X2_writePost : GoodIn wsX2_writeText (wsV RX2 55 RX2 yX2_writePost wsX2_writePost) := goodIn_app (goodIn_of _ (by decide +kernel)) ggX2_writeText_X2_writePost
theorem dX2_writeText_0 : decode cX2_writeText 0 = .ok (.iconst 0, 1) := by decide +kernel
theorem dX2_writeText_1 : decode cX2_writeText 1 = .ok (.istore_n 2, 1) := by decide +kernel
theorem dX2_writeText_2 : decode cX2_writeText 2 = .ok (.iconst 1, 1) := by decide +kernel
theorem dX2_writeText_3 : decode cX2_writeText 3 = .ok (.istore_n 3, 1) := by decide +kernel
theorem dX2_writeText_4 : decode cX2_writeText 4 = .ok (.iload_n 3, 1) := by decide +kernel
theorem dX2_writeText_5 : decode cX2_writeText 5 = .ok (.bipush 9, 2) := by decide +kernel
theorem dX2_writeText_7 : decode cX2_writeText 7 = .ok (.if_icmp .gt 56, 3) := by decide +kernel
theorem dX2_writeText_10 : decode cX2_writeText 10 = .ok (.iconst 0, 1) := by decide +kernel
theorem dX2_writeText_11 : decode cX2_writeText 11 = .ok (.istore 4, 2) := by decide +kernel
theorem dX2_writeText_13 : decode cX2_writeText 13 = .ok (.iconst 0, 1) := by decide +kernel
theorem dX2_writeText_14 : decode cX2_writeText 14 = .ok (.istore 5, 2) := by decide +kernel
theorem dX2_writeText_16 : decode cX2_writeText 16 = .ok (.iload 5, 2) := by decide +kernel
theorem dX2_writeText_18 : decode cX2_writeText 18 = .ok (.aload_n 0, 1) := by decide +kernel
theorem dX2_writeText_19 : decode cX2_writeText 19 = .ok (.getfield 15, 3) := by decide +kernel
theorem dX2_writeText_22 : decode cX2_writeText 22 = .ok (.if_icmp .ge 35, 3) := by decide +kernel
theorem dX2_writeText_25 : decode cX2_writeText 25 = .ok (.aload_n 0, 1) := by decide +kernel
theorem dX2_writeText_26 : decode cX2_writeText 26 = .ok (.getfield 27, 3) := by decide +kernel
theorem dX2_writeText_29 : decode cX2_writeText 29 = .ok (.iload_n 1, 1) := by decide +kernel
theorem dX2_writeText_30 : decode cX2_writeText 30 = .ok (.aaload, 1) := by decide +kernel
theorem dX2_writeText_31 : decode cX2_writeText 31 = .ok (.iload 5, 2) := by decide +kernel
theorem dX2_writeText_33 : decode cX2_writeText 33 = .ok (.iaload, 1) := by decide +kernel
theorem dX2_writeText_34 : decode cX2_writeText 34 = .ok (.iload_n 3, 1) := by decide +kernel
theorem dX2_writeText_35 : decode cX2_writeText 35 = .ok (.if_icmp .ne 16, 3) := by decide +kernel
theorem dX2_writeText_38 : decode cX2_writeText 38 = .ok (.aload_n 0, 1) := by decide +kernel
theorem dX2_writeText_39 : decode cX2_writeText 39 = .ok (.iload 5, 2) := by decide +kernel
theorem dX2_writeText_41 : decode cX2_writeText 41 = .ok (.iload 4, 2) := by decide +kernel
theorem dX2_writeText_43 : decode cX2_writeText 43 = .ok (.iload_n 2, 1) := by decide +kernel
theorem dX2_writeText_44 : decode cX2_writeText 44 = .ok (.invokevirtual 55, 3) := by decide +kernel
theorem dX2_writeText_47 : decode cX2_writeText 47 = .ok (.istore_n 2, 1) := by decide +kernel
theorem dX2_writeText_48 : decode cX2_writeText 48 = .ok (.iconst 1, 1) := by decide +kernel
theorem dX2_writeText_49 : decode cX2_writeText 49 = .ok (.istore 4, 2) := by decide +kernel
theorem dX2_writeText_51 : decode cX2_writeText 51 = .ok (.iinc 5 1, 3) := by decide +kernel
theorem dX2_writeText_54 : decode cX2_writeText 54 = .ok (.goto (-38), 3) := by decide +kernel
theorem dX2_writeText_57 : decode cX2_writeText 57 = .ok (.iinc 3 1, 3) := by decide +kernel
theorem dX2_writeText_60 : decode cX2_writeText 60 = .ok (.goto (-56), 3) := by decide +kernel
theorem dX2_writeText_63 : decode cX2_writeText 63 = .ok (.iload_n 2, 1) := by decide +kernel
theorem dX2_writeText_64 : decode cX2_writeText 64 = .ok (.ireturn, 1) := by decide +kernel
theorem dX2_writePost_0 : decode cX2_writePost 0 = .ok (.iload_n 3, 1) := by decide +kernel
theorem dX2_writePost_1 : decode cX2_writePost 1 = .ok (.istore 4, 2) := by decide +kernel
theorem dX2_writePost_3 : decode cX2_writePost 3 = .ok (.iload 4, 2) := by decide +kernel
theorem dX2_writePost_5 : decode cX2_writePost 5 = .ok (.ifCond .le 34, 3) := by decide +kernel
theorem dX2_writePost_8 : decode cX2_writePost 8 = .ok (.iload 4, 2) := by decide +kernel
theorem dX2_writePost_10 : decode cX2_writePost 10 = .ok (.aload_n 0, 1) := by decide +kernel
theorem dX2_writePost_11 : decode cX2_writePost 11 = .ok (.getfield 30, 3) := by decide +kernel
theorem dX2_writePost_14 : decode cX2_writePost 14 = .ok (.arraylength, 1) := by decide +kernel
theorem dX2_writePost_15 : decode cX2_writePost 15 = .ok (.if_icmp .ge 24, 3) := by decide +kernel
theorem dX2_writePost_18 : decode cX2_writePost 18 = .ok (.aload_n 0, 1) := by decide +kernel
theorem dX2_writePost_19 : decode cX2_writePost 19 = .ok (.getfield 30, 3) := by decide +kernel
theorem dX2_writePost_22 : decode cX2_writePost 22 = .ok (.iload 4, 2) := by decide +kernel
theorem dX2_writePost_24 : decode cX2_writePost 24 = .ok (.iload_n 2, 1) := by decide +kernel
theorem dX2_writePost_25 : decode cX2_writePost 25 = .ok (.ifCond .eq 8, 3) := by decide +kernel
theorem dX2_writePost_28 : decode cX2_writePost 28 = .ok (.bipush 61, 2) := by decide +kernel
theorem dX2_writePost_30 : decode cX2_writePost 30 = .ok (.goto 5, 3) := by decide +kernel
theorem dX2_writePost_33 : decode cX2_writePost 33 = .ok (.bipush 62, 2) := by decide +kernel
theorem dX2_writePost_35 : decode cX2_writePost 35 = .ok (.castore, 1) := by decide +kernel
theorem dX2_writePost_36 : decode cX2_writePost 36 = .ok (.iinc 4 1, 3) := by decide +kernel
theorem dX2_writePost_39 : decode cX2_writePost 39 = .ok (.iload 4, 2) := by decide +kernel
theorem dX2_writePost_41 : decode cX2_writePost 41 = .ok (.aload_n 0, 1) := by decide +kernel
theorem dX2_writePost_42 : decode cX2_writePost 42 = .ok (.getfield 30, 3) := by decide +kernel
theorem dX2_writePost_45 : decode cX2_writePost 45 = .ok (.arraylength, 1) := by decide +kernel
theorem dX2_writePost_46 : decode cX2_writePost 46 = .ok (.if_icmp .ge 18, 3) := by decide +kernel
theorem dX2_writePost_49 : decode cX2_writePost 49 = .ok (.aload_n 0, 1) := by decide +kernel
theorem dX2_writePost_50 : decode cX2_writePost 50 = .ok (.getfield 30, 3) := by decide +kernel
theorem dX2_writePost_53 : decode cX2_writePost 53 = .ok (.iload 4, 2) := by decide +kernel
theorem dX2_writePost_55 : decode cX2_writePost 55 = .ok (.bipush 97, 2) := by decide +kernel
theorem dX2_writePost_57 : decode cX2_writePost 57 = .ok (.iload_n 1, 1) := by decide +kernel
theorem dX2_writePost_58 : decode cX2_writePost 58 = .ok (.iadd, 1) := by decide +kernel
theorem dX2_writePost_59 : decode cX2_writePost 59 = .ok (.i2c, 1) := by decide +kernel
theorem dX2_writePost_60 : decode cX2_writePost 60 = .ok (.castore, 1) := by decide +kernel
theorem dX2_writePost_61 : decode cX2_writePost 61 = .ok (.iinc 4 1, 3) := by decide +kernel
theorem dX2_writePost_64 : decode cX2_writePost 64 = .ok (.iload 4, 2) := by decide +kernel
theorem dX2_writePost_66 : decode cX2_writePost 66 = .ok (.ireturn, 1) := by decide +kernel
theorem dX3_init_0 : decode cX3_init 0 = .ok (.aload_n 0, 1) := by decide +kernel
theorem dX3_init_1 : decode cX3_init 1 = .ok (.invokespecial 3, 3) := by decide +kernel
theorem dX3_init_4 : decode cX3_init 4 = .ok (.aload_n 0, 1) := by decide +kernel
theorem dX3_init_5 : decode cX3_init 5 = .ok (.bipush 10, 2) := by decide +kernel
theorem dX3_init_7 : decode cX3_init 7 = .ok (.bipush 11, 2) := by decide +kernel
theorem dX3_init_9 : decode cX3_init 9 = .ok (.multianewarray 9 2, 4) := by decide +kernel
theorem dX3_init_13 : decode cX3_init 13 = .ok (.putfield 11, 3) := by decide +kernel
theorem dX3_init_16 : decode cX3_init 16 = .ok (.aload_n 0, 1) := by decide +kernel
theorem dX3_init_17 : decode cX3_init 17 = .ok (.bipush 10, 2) := by decide +kernel
theorem dX3_init_19 : decode cX3_init 19 = .ok (.newarray .int, 2) := by decide +kernel
theorem dX3_init_21 : decode cX3_init 21 = .ok (.putfield 16, 3) := by decide +kernel
theorem dX3_init_24 : decode cX3_init 24 = .ok (.aload_n 0, 1) := by decide +kernel
theorem dX3_init_25 : decode cX3_init 25 = .ok (.bipush 11, 2) := by decide +kernel
theorem dX3_init_27 : decode cX3_init 27 = .ok (.newarray .int, 2) := by decide +kernel
theorem dX3_init_29 : decode cX3_init 29 = .ok (.putfield 20, 3) := by decide +kernel
theorem dX3_init_32 : decode cX3_init 32 = .ok (.aload_n 0, 1) := by decide +kernel
theorem dX3_init_33 : decode cX3_init 33 = .ok (.iconst 0, 1) := by decide +kernel
theorem dX3_init_34 : decode cX3_init 34 = .ok (.putfield 23, 3) := by decide +kernel
theorem dX3_init_37 : decode cX3_init 37 = .ok (.aload_n 0, 1) := by decide +kernel
theorem dX3_init_38 : decode cX3_init 38 = .ok (.bipush 11, 2) := by decide +kernel
theorem dX3_init_40 : decode cX3_init 40 = .ok (.newarray .long, 2) := by decide +kernel
theorem dX3_init_42 : decode cX3_init 42 = .ok (.putfield 27, 3) := by decide +kernel
theorem dX3_init_45 : decode cX3_init 45 = .ok (.aload_n 0, 1) := by decide +kernel
theorem dX3_init_46 : decode cX3_init 46 = .ok (.bipush 11, 2) := by decide +kernel
theorem dX3_init_48 : decode cX3_init 48 = .ok (.newarray .long, 2) := by decide +kernel
theorem dX3_init_50 : decode cX3_init 50 = .ok (.putfield 31, 3) := by decide +kernel
theorem dX3_init_53 : decode cX3_init 53 = .ok (.aload_n 0, 1) := by decide +kernel
theorem dX3_init_54 : decode cX3_init 54 = .ok (.bipush 11, 2) := by decide +kernel
theorem dX3_init_56 : decode cX3_init 56 = .ok (.newarray .int, 2) := by decide +kernel
theorem dX3_init_58 : decode cX3_init 58 = .ok (.putfield 34, 3) := by decide +kernel
theorem dX3_init_61 : decode cX3_init 61 = .ok (.return_, 1) := by decide +kernel
set_option maxRecDepth 20000 in
theorem ggX3_share_J7_fill_53178 : GoodIn wsX3_share wsJ7_fill_53178 := goodIn_r _ [10] (by decide +kernel) (by decide +kernel)
set_option maxRecDepth 20000 in
theorem gX3_share_J7_fill_53178 : GoodIn wsX3_share (va_wsS RX3 42 yJ7_fill_53178 wsJ7_fill_53178) := goodIn_app (goodIn_of _ (by decide +kernel)) ggX3_share_J7_fill_53178
set_option maxRecDepth 20000 in
theorem ggX3_share_X3_reachAll : GoodIn wsX3_share wsX3_reachAll := goodIn_ca (goodIn_r _ [15, 16, 4, 17, 6, 18, 7, 8, 9, 10, 19, 20, 21, 14, 22, 2, 23, 24, 25, 26, 27, 28, 29, 30, 31, 48, 49, 50, 51, 52, 53, 54] (by decide +kernel) (by decide +kernel)) (goodIn_sub (fun _ h => List.mem_cons_of_mem _ (List.mem_append_right _ h)) (by decide +kernel))
set_option maxRecDepth 20000 in
theorem gX3_share_X3_reachAll : GoodIn wsX3_share (wsV RX3 51 RX3 yX3_reachAll wsX3_reachAll) := goodIn_app (goodIn_of _ (by decide +kernel)) ggX3_share_X3_reachAll
set_option maxRecDepth 20000 in
theorem ggX3_share_X3_bestEnd : GoodIn wsX3_share wsX3_bestEnd := goodIn_ca (goodIn_r _ [35, 2, 16, 3, 36, 17, 18, 28, 29, 30, 14, 31, 48, 49, 50, 51, 52, 53, 54, 41, 42, 43, 44, 45, 46, 47] (by decide +kernel) (by decide +kernel)) (goodIn_sub (fun _ h => List.mem_cons_of_mem _ (List.mem_append_right _ h)) (by decide +kernel))
set_option maxRecDepth 20000 in
theorem gX3_share_X3_bestEnd : GoodIn wsX3_share (wsV RX3 55 RX3 yX3_bestEnd wsX3_bestEnd) := goodIn_app (goodIn_of _ (by decide +kernel)) ggX3_share_X3_bestEnd
set_option maxRecDepth 20000 in
theorem ggX3_share_X3_moveAlong : GoodIn wsX3_share wsX3_moveAlong := goodIn_ca (goodIn_r _ [40, 3, 16, 4, 48, 49, 50, 51, 52, 53, 54] (by decide +kernel) (by decide +kernel)) (goodIn_sub (fun _ h => List.mem_cons_of_mem _ (List.mem_append_right _ h)) (by decide +kernel))
set_option maxRecDepth 20000 in
theorem gX3_share_X3_moveAlong : GoodIn wsX3_share (wsV RX3 59 RX3 yX3_moveAlong wsX3_moveAlong) := goodIn_app (goodIn_of _ (by decide +kernel)) ggX3_share_X3_moveAlong
theorem dX3_share_0 : decode cX3_share 0 = .ok (.aload_n 0, 1) := by decide +kernel
theorem dX3_share_1 : decode cX3_share 1 = .ok (.aload_n 1, 1) := by decide +kernel
theorem dX3_share_2 : decode cX3_share 2 = .ok (.getfield 37, 3) := by decide +kernel
theorem dX3_share_5 : decode cX3_share 5 = .ok (.putfield 23, 3) := by decide +kernel
theorem dX3_share_8 : decode cX3_share 8 = .ok (.aload_n 0, 1) := by decide +kernel
theorem dX3_share_9 : decode cX3_share 9 = .ok (.getfield 20, 3) := by decide +kernel
theorem dX3_share_12 : decode cX3_share 12 = .ok (.iconst 0, 1) := by decide +kernel
theorem dX3_share_13 : decode cX3_share 13 = .ok (.invokestatic 42, 3) := by decide +kernel
theorem dX3_share_16 : decode cX3_share 16 = .ok (.aload_n 0, 1) := by decide +kernel
theorem dX3_share_17 : decode cX3_share 17 = .ok (.getfield 16, 3) := by decide +kernel
theorem dX3_share_20 : decode cX3_share 20 = .ok (.iconst (-1), 1) := by decide +kernel
theorem dX3_share_21 : decode cX3_share 21 = .ok (.invokestatic 42, 3) := by decide +kernel
theorem dX3_share_24 : decode cX3_share 24 = .ok (.iconst 0, 1) := by decide +kernel
theorem dX3_share_25 : decode cX3_share 25 = .ok (.istore_n 2, 1) := by decide +kernel
theorem dX3_share_26 : decode cX3_share 26 = .ok (.iload_n 2, 1) := by decide +kernel
theorem dX3_share_27 : decode cX3_share 27 = .ok (.aload_n 1, 1) := by decide +kernel
theorem dX3_share_28 : decode cX3_share 28 = .ok (.getfield 48, 3) := by decide +kernel
theorem dX3_share_31 : decode cX3_share 31 = .ok (.if_icmp .ge 23, 3) := by decide +kernel
theorem dX3_share_34 : decode cX3_share 34 = .ok (.aload_n 0, 1) := by decide +kernel
theorem dX3_share_35 : decode cX3_share 35 = .ok (.iload_n 2, 1) := by decide +kernel
theorem dX3_share_36 : decode cX3_share 36 = .ok (.invokevirtual 51, 3) := by decide +kernel
theorem dX3_share_39 : decode cX3_share 39 = .ok (.aload_n 0, 1) := by decide +kernel
theorem dX3_share_40 : decode cX3_share 40 = .ok (.aload_n 0, 1) := by decide +kernel
theorem dX3_share_41 : decode cX3_share 41 = .ok (.aload_n 1, 1) := by decide +kernel
theorem dX3_share_42 : decode cX3_share 42 = .ok (.invokevirtual 55, 3) := by decide +kernel
theorem dX3_share_45 : decode cX3_share 45 = .ok (.invokevirtual 59, 3) := by decide +kernel
theorem dX3_share_48 : decode cX3_share 48 = .ok (.iinc 2 1, 3) := by decide +kernel
theorem dX3_share_51 : decode cX3_share 51 = .ok (.goto (-25), 3) := by decide +kernel
theorem dX3_share_54 : decode cX3_share 54 = .ok (.lconst 0, 1) := by decide +kernel
theorem dX3_share_55 : decode cX3_share 55 = .ok (.lstore_n 2, 1) := by decide +kernel
theorem dX3_share_56 : decode cX3_share 56 = .ok (.iconst 0, 1) := by decide +kernel
theorem dX3_share_57 : decode cX3_share 57 = .ok (.istore 4, 2) := by decide +kernel
theorem dX3_share_59 : decode cX3_share 59 = .ok (.iload 4, 2) := by decide +kernel
theorem dX3_share_61 : decode cX3_share 61 = .ok (.aload_n 1, 1) := by decide +kernel
theorem dX3_share_62 : decode cX3_share 62 = .ok (.getfield 48, 3) := by decide +kernel
theorem dX3_share_65 : decode cX3_share 65 = .ok (.if_icmp .ge 37, 3) := by decide +kernel
theorem dX3_share_68 : decode cX3_share 68 = .ok (.aload_n 0, 1) := by decide +kernel
theorem dX3_share_69 : decode cX3_share 69 = .ok (.getfield 16, 3) := by decide +kernel
theorem dX3_share_72 : decode cX3_share 72 = .ok (.iload 4, 2) := by decide +kernel
theorem dX3_share_74 : decode cX3_share 74 = .ok (.iaload, 1) := by decide +kernel
theorem dX3_share_75 : decode cX3_share 75 = .ok (.ifCond .lt 21, 3) := by decide +kernel
theorem dX3_share_78 : decode cX3_share 78 = .ok (.lload_n 2, 1) := by decide +kernel
theorem dX3_share_79 : decode cX3_share 79 = .ok (.aload_n 0, 1) := by decide +kernel
theorem dX3_share_80 : decode cX3_share 80 = .ok (.getfield 11, 3) := by decide +kernel
theorem dX3_share_83 : decode cX3_share 83 = .ok (.iload 4, 2) := by decide +kernel
theorem dX3_share_85 : decode cX3_share 85 = .ok (.aaload, 1) := by decide +kernel
theorem dX3_share_86 : decode cX3_share 86 = .ok (.aload_n 0, 1) := by decide +kernel
theorem dX3_share_87 : decode cX3_share 87 = .ok (.getfield 16, 3) := by decide +kernel
theorem dX3_share_90 : decode cX3_share 90 = .ok (.iload 4, 2) := by decide +kernel
theorem dX3_share_92 : decode cX3_share 92 = .ok (.iaload, 1) := by decide +kernel
theorem dX3_share_93 : decode cX3_share 93 = .ok (.laload, 1) := by decide +kernel
theorem dX3_share_94 : decode cX3_share 94 = .ok (.ladd, 1) := by decide +kernel
theorem dX3_share_95 : decode cX3_share 95 = .ok (.lstore_n 2, 1) := by decide +kernel
theorem dX3_share_96 : decode cX3_share 96 = .ok (.iinc 4 1, 3) := by decide +kernel
theorem dX3_share_99 : decode cX3_share 99 = .ok (.goto (-40), 3) := by decide +kernel
theorem dX3_share_102 : decode cX3_share 102 = .ok (.lload_n 2, 1) := by decide +kernel
theorem dX3_share_103 : decode cX3_share 103 = .ok (.lreturn, 1) := by decide +kernel
theorem dX3_copyTo_0 : decode cX3_copyTo 0 = .ok (.iconst 0, 1) := by decide +kernel
theorem dX3_copyTo_1 : decode cX3_copyTo 1 = .ok (.istore_n 2, 1) := by decide +kernel
theorem dX3_copyTo_2 : decode cX3_copyTo 2 = .ok (.iload_n 2, 1) := by decide +kernel
theorem dX3_copyTo_3 : decode cX3_copyTo 3 = .ok (.bipush 10, 2) := by decide +kernel
theorem dX3_copyTo_5 : decode cX3_copyTo 5 = .ok (.if_icmp .ge 35, 3) := by decide +kernel
theorem dX3_copyTo_8 : decode cX3_copyTo 8 = .ok (.aload_n 1, 1) := by decide +kernel
theorem dX3_copyTo_9 : decode cX3_copyTo 9 = .ok (.iload_n 2, 1) := by decide +kernel
theorem dX3_copyTo_10 : decode cX3_copyTo 10 = .ok (.aload_n 0, 1) := by decide +kernel
theorem dX3_copyTo_11 : decode cX3_copyTo 11 = .ok (.getfield 16, 3) := by decide +kernel
theorem dX3_copyTo_14 : decode cX3_copyTo 14 = .ok (.iload_n 2, 1) := by decide +kernel
theorem dX3_copyTo_15 : decode cX3_copyTo 15 = .ok (.iaload, 1) := by decide +kernel
theorem dX3_copyTo_16 : decode cX3_copyTo 16 = .ok (.aload_n 0, 1) := by decide +kernel
theorem dX3_copyTo_17 : decode cX3_copyTo 17 = .ok (.getfield 23, 3) := by decide +kernel
theorem dX3_copyTo_20 : decode cX3_copyTo 20 = .ok (.if_icmp .lt 7, 3) := by decide +kernel
theorem dX3_copyTo_23 : decode cX3_copyTo 23 = .ok (.iconst (-1), 1) := by decide +kernel
theorem dX3_copyTo_24 : decode cX3_copyTo 24 = .ok (.goto 9, 3) := by decide +kernel
theorem dX3_copyTo_27 : decode cX3_copyTo 27 = .ok (.aload_n 0, 1) := by decide +kernel
theorem dX3_copyTo_28 : decode cX3_copyTo 28 = .ok (.getfield 16, 3) := by decide +kernel
theorem dX3_copyTo_31 : decode cX3_copyTo 31 = .ok (.iload_n 2, 1) := by decide +kernel
theorem dX3_copyTo_32 : decode cX3_copyTo 32 = .ok (.iaload, 1) := by decide +kernel
theorem dX3_copyTo_33 : decode cX3_copyTo 33 = .ok (.iastore, 1) := by decide +kernel
theorem dX3_copyTo_34 : decode cX3_copyTo 34 = .ok (.iinc 2 1, 3) := by decide +kernel
theorem dX3_copyTo_37 : decode cX3_copyTo 37 = .ok (.goto (-35), 3) := by decide +kernel
theorem dX3_copyTo_40 : decode cX3_copyTo 40 = .ok (.return_, 1) := by decide +kernel
theorem dX3_orderOf_0 : decode cX3_orderOf 0 = .ok (.getstatic 62, 3) := by decide +kernel
theorem dX3_orderOf_3 : decode cX3_orderOf 3 = .ok (.iload_n 1, 1) := by decide +kernel
theorem dX3_orderOf_4 : decode cX3_orderOf 4 = .ok (.laload, 1) := by decide +kernel
theorem dX3_orderOf_5 : decode cX3_orderOf 5 = .ok (.aload_n 0, 1) := by decide +kernel
theorem dX3_orderOf_6 : decode cX3_orderOf 6 = .ok (.getfield 23, 3) := by decide +kernel
theorem dX3_orderOf_9 : decode cX3_orderOf 9 = .ok (.iload_n 2, 1) := by decide +kernel
theorem dX3_orderOf_10 : decode cX3_orderOf 10 = .ok (.isub, 1) := by decide +kernel
theorem dX3_orderOf_11 : decode cX3_orderOf 11 = .ok (.i2l, 1) := by decide +kernel
theorem dX3_orderOf_12 : decode cX3_orderOf 12 = .ok (.lmul, 1) := by decide +kernel
theorem dX3_orderOf_13 : decode cX3_orderOf 13 = .ok (.lreturn, 1) := by decide +kernel
set_option maxRecDepth 20000 in
theorem ggX3_reachAll_J7_fill_53178 : GoodIn wsX3_reachAll wsJ7_fill_53178 := goodIn_r _ [9] (by decide +kernel) (by decide +kernel)
set_option maxRecDepth 20000 in
theorem gX3_reachAll_J7_fill_53178 : GoodIn wsX3_reachAll (va_wsS RX3 42 yJ7_fill_53178 wsJ7_fill_53178) := goodIn_app (goodIn_of _ (by decide +kernel)) ggX3_reachAll_J7_fill_53178
set_option maxRecDepth 20000 in
theorem ggX3_reachAll_X3_reachFrom : GoodIn wsX3_reachAll wsX3_reachFrom := goodIn_ca (goodIn_r _ [14, 15, 2, 4, 16, 1, 3, 5, 17, 18, 19, 13, 20, 21, 22, 23, 24, 25, 26, 27, 28, 29, 30, 31] (by decide +kernel) (by decide +kernel)) (goodIn_sub (fun _ h => List.mem_cons_of_mem _ (List.mem_append_right _ h)) (by decide +kernel))
set_option maxRecDepth 20000 in
theorem gX3_reachAll_X3_reachFrom : GoodIn wsX3_reachAll (wsV RX3 65 RX3 yX3_reachFrom wsX3_reachFrom) := goodIn_app (goodIn_of _ (by decide +kernel)) ggX3_reachAll_X3_reachFrom
set_option maxRecDepth 20000 in
theorem ggX3_reachAll_X3_orderOf : GoodIn wsX3_reachAll wsX3_orderOf := goodIn_ca (goodIn_r _ [20, 15, 25, 26, 27, 28, 29, 30, 31] (by decide +kernel) (by decide +kernel)) (goodIn_sub (fun _ h => List.mem_cons_of_mem _ (List.mem_append_right _ h)) (by decide +kernel))
set_option maxRecDepth 20000 in
theorem gX3_reachAll_X3_orderOf : GoodIn wsX3_reachAll (wsV RX3 69 RX3 yX3_orderOf wsX3_orderOf) := goodIn_app (goodIn_of _ (by decide +kernel)) ggX3_reachAll_X3_orderOf
theorem dX3_reachAll_0 : decode cX3_reachAll 0 = .ok (.aload_n 0, 1) := by decide +kernel
theorem dX3_reachAll_1 : decode cX3_reachAll 1 = .ok (.getfield 34, 3) := by decide +kernel
theorem dX3_reachAll_4 : decode cX3_reachAll 4 = .ok (.iconst (-1), 1) := by decide +kernel
theorem dX3_reachAll_5 : decode cX3_reachAll 5 = .ok (.invokestatic 42, 3) := by decide +kernel
theorem dX3_reachAll_8 : decode cX3_reachAll 8 = .ok (.aload_n 0, 1) := by decide +kernel
theorem dX3_reachAll_9 : decode cX3_reachAll 9 = .ok (.iload_n 1, 1) := by decide +kernel
theorem dX3_reachAll_10 : decode cX3_reachAll 10 = .ok (.lconst 0, 1) := by decide +kernel
theorem dX3_reachAll_11 : decode cX3_reachAll 11 = .ok (.lconst 0, 1) := by decide +kernel
theorem dX3_reachAll_12 : decode cX3_reachAll 12 = .ok (.invokevirtual 65, 3) := by decide +kernel
theorem dX3_reachAll_15 : decode cX3_reachAll 15 = .ok (.pop, 1) := by decide +kernel
theorem dX3_reachAll_16 : decode cX3_reachAll 16 = .ok (.iconst 1, 1) := by decide +kernel
theorem dX3_reachAll_17 : decode cX3_reachAll 17 = .ok (.istore_n 2, 1) := by decide +kernel
theorem dX3_reachAll_18 : decode cX3_reachAll 18 = .ok (.iconst 0, 1) := by decide +kernel
theorem dX3_reachAll_19 : decode cX3_reachAll 19 = .ok (.istore_n 3, 1) := by decide +kernel
theorem dX3_reachAll_20 : decode cX3_reachAll 20 = .ok (.iload_n 3, 1) := by decide +kernel
theorem dX3_reachAll_21 : decode cX3_reachAll 21 = .ok (.bipush 11, 2) := by decide +kernel
theorem dX3_reachAll_23 : decode cX3_reachAll 23 = .ok (.if_icmp .gt 99, 3) := by decide +kernel
theorem dX3_reachAll_26 : decode cX3_reachAll 26 = .ok (.iload_n 2, 1) := by decide +kernel
theorem dX3_reachAll_27 : decode cX3_reachAll 27 = .ok (.ifCond .eq 95, 3) := by decide +kernel
theorem dX3_reachAll_30 : decode cX3_reachAll 30 = .ok (.iconst 0, 1) := by decide +kernel
theorem dX3_reachAll_31 : decode cX3_reachAll 31 = .ok (.istore_n 2, 1) := by decide +kernel
theorem dX3_reachAll_32 : decode cX3_reachAll 32 = .ok (.iconst 0, 1) := by decide +kernel
theorem dX3_reachAll_33 : decode cX3_reachAll 33 = .ok (.istore 4, 2) := by decide +kernel
theorem dX3_reachAll_35 : decode cX3_reachAll 35 = .ok (.iload 4, 2) := by decide +kernel
theorem dX3_reachAll_37 : decode cX3_reachAll 37 = .ok (.iload_n 1, 1) := by decide +kernel
theorem dX3_reachAll_38 : decode cX3_reachAll 38 = .ok (.if_icmp .ge 78, 3) := by decide +kernel
theorem dX3_reachAll_41 : decode cX3_reachAll 41 = .ok (.aload_n 0, 1) := by decide +kernel
theorem dX3_reachAll_42 : decode cX3_reachAll 42 = .ok (.getfield 16, 3) := by decide +kernel
theorem dX3_reachAll_45 : decode cX3_reachAll 45 = .ok (.iload 4, 2) := by decide +kernel
theorem dX3_reachAll_47 : decode cX3_reachAll 47 = .ok (.iaload, 1) := by decide +kernel
theorem dX3_reachAll_48 : decode cX3_reachAll 48 = .ok (.istore 5, 2) := by decide +kernel
theorem dX3_reachAll_50 : decode cX3_reachAll 50 = .ok (.iload 5, 2) := by decide +kernel
theorem dX3_reachAll_52 : decode cX3_reachAll 52 = .ok (.ifCond .lt 58, 3) := by decide +kernel
theorem dX3_reachAll_55 : decode cX3_reachAll 55 = .ok (.aload_n 0, 1) := by decide +kernel
theorem dX3_reachAll_56 : decode cX3_reachAll 56 = .ok (.getfield 34, 3) := by decide +kernel
theorem dX3_reachAll_59 : decode cX3_reachAll 59 = .ok (.iload 5, 2) := by decide +kernel
theorem dX3_reachAll_61 : decode cX3_reachAll 61 = .ok (.iaload, 1) := by decide +kernel
theorem dX3_reachAll_62 : decode cX3_reachAll 62 = .ok (.ifCond .lt 48, 3) := by decide +kernel
theorem dX3_reachAll_65 : decode cX3_reachAll 65 = .ok (.aload_n 0, 1) := by decide +kernel
theorem dX3_reachAll_66 : decode cX3_reachAll 66 = .ok (.iload 4, 2) := by decide +kernel
theorem dX3_reachAll_68 : decode cX3_reachAll 68 = .ok (.aload_n 0, 1) := by decide +kernel
theorem dX3_reachAll_69 : decode cX3_reachAll 69 = .ok (.getfield 27, 3) := by decide +kernel
theorem dX3_reachAll_72 : decode cX3_reachAll 72 = .ok (.iload 5, 2) := by decide +kernel
theorem dX3_reachAll_74 : decode cX3_reachAll 74 = .ok (.laload, 1) := by decide +kernel
theorem dX3_reachAll_75 : decode cX3_reachAll 75 = .ok (.aload_n 0, 1) := by decide +kernel
theorem dX3_reachAll_76 : decode cX3_reachAll 76 = .ok (.getfield 11, 3) := by decide +kernel
theorem dX3_reachAll_79 : decode cX3_reachAll 79 = .ok (.iload 4, 2) := by decide +kernel
theorem dX3_reachAll_81 : decode cX3_reachAll 81 = .ok (.aaload, 1) := by decide +kernel
theorem dX3_reachAll_82 : decode cX3_reachAll 82 = .ok (.iload 5, 2) := by decide +kernel
theorem dX3_reachAll_84 : decode cX3_reachAll 84 = .ok (.laload, 1) := by decide +kernel
theorem dX3_reachAll_85 : decode cX3_reachAll 85 = .ok (.lsub, 1) := by decide +kernel
theorem dX3_reachAll_86 : decode cX3_reachAll 86 = .ok (.aload_n 0, 1) := by decide +kernel
theorem dX3_reachAll_87 : decode cX3_reachAll 87 = .ok (.getfield 31, 3) := by decide +kernel
theorem dX3_reachAll_90 : decode cX3_reachAll 90 = .ok (.iload 5, 2) := by decide +kernel
theorem dX3_reachAll_92 : decode cX3_reachAll 92 = .ok (.laload, 1) := by decide +kernel
theorem dX3_reachAll_93 : decode cX3_reachAll 93 = .ok (.aload_n 0, 1) := by decide +kernel
theorem dX3_reachAll_94 : decode cX3_reachAll 94 = .ok (.iload 4, 2) := by decide +kernel
theorem dX3_reachAll_96 : decode cX3_reachAll 96 = .ok (.iload 5, 2) := by decide +kernel
theorem dX3_reachAll_98 : decode cX3_reachAll 98 = .ok (.invokevirtual 69, 3) := by decide +kernel
theorem dX3_reachAll_101 : decode cX3_reachAll 101 = .ok (.lsub, 1) := by decide +kernel
theorem dX3_reachAll_102 : decode cX3_reachAll 102 = .ok (.invokevirtual 65, 3) := by decide +kernel
theorem dX3_reachAll_105 : decode cX3_reachAll 105 = .ok (.ifCond .eq 5, 3) := by decide +kernel
theorem dX3_reachAll_108 : decode cX3_reachAll 108 = .ok (.iconst 1, 1) := by decide +kernel
theorem dX3_reachAll_109 : decode cX3_reachAll 109 = .ok (.istore_n 2, 1) := by decide +kernel
theorem dX3_reachAll_110 : decode cX3_reachAll 110 = .ok (.iinc 4 1, 3) := by decide +kernel
theorem dX3_reachAll_113 : decode cX3_reachAll 113 = .ok (.goto (-78), 3) := by decide +kernel
theorem dX3_reachAll_116 : decode cX3_reachAll 116 = .ok (.iinc 3 1, 3) := by decide +kernel
theorem dX3_reachAll_119 : decode cX3_reachAll 119 = .ok (.goto (-99), 3) := by decide +kernel
theorem dX3_reachAll_122 : decode cX3_reachAll 122 = .ok (.return_, 1) := by decide +kernel
set_option maxRecDepth 20000 in
theorem ggX3_reachFrom_X3_orderOf : GoodIn wsX3_reachFrom wsX3_orderOf := goodIn_ca (goodIn_r _ [12, 1, 17, 18, 19, 20, 21, 22, 23] (by decide +kernel) (by decide +kernel)) (goodIn_sub (fun _ h => List.mem_cons_of_mem _ (List.mem_append_right _ h)) (by decide +kernel))
set_option maxRecDepth 20000 in
theorem gX3_reachFrom_X3_orderOf : GoodIn wsX3_reachFrom (wsV RX3 69 RX3 yX3_orderOf wsX3_orderOf) := goodIn_app (goodIn_of _ (by decide +kernel)) ggX3_reachFrom_X3_orderOf
set_option maxRecDepth 20000 in
theorem ggX3_reachFrom_X3_isBetter : GoodIn wsX3_reachFrom wsX3_isBetter := goodIn_ca (goodIn_r _ [16, 6, 7, 17, 18, 19, 20, 21, 22, 23] (by decide +kernel) (by decide +kernel)) (goodIn_sub (fun _ h => List.mem_cons_of_mem _ (List.mem_append_right _ h)) (by decide +kernel))
set_option maxRecDepth 20000 in
theorem gX3_reachFrom_X3_isBetter : GoodIn wsX3_reachFrom (wsV RX3 75 RX3 yX3_isBetter wsX3_isBetter) := goodIn_app (goodIn_of _ (by decide +kernel)) ggX3_reachFrom_X3_isBetter
theorem dX3_reachFrom_0 : decode cX3_reachFrom 0 = .ok (.iconst 0, 1) := by decide +kernel
theorem dX3_reachFrom_1 : decode cX3_reachFrom 1 = .ok (.istore 6, 2) := by decide +kernel
theorem dX3_reachFrom_3 : decode cX3_reachFrom 3 = .ok (.iconst 0, 1) := by decide +kernel
theorem dX3_reachFrom_4 : decode cX3_reachFrom 4 = .ok (.istore 7, 2) := by decide +kernel
theorem dX3_reachFrom_6 : decode cX3_reachFrom 6 = .ok (.iload 7, 2) := by decide +kernel
theorem dX3_reachFrom_8 : decode cX3_reachFrom 8 = .ok (.aload_n 0, 1) := by decide +kernel
theorem dX3_reachFrom_9 : decode cX3_reachFrom 9 = .ok (.getfield 23, 3) := by decide +kernel
theorem dX3_reachFrom_12 : decode cX3_reachFrom 12 = .ok (.if_icmp .gt 116, 3) := by decide +kernel
theorem dX3_reachFrom_15 : decode cX3_reachFrom 15 = .ok (.iload 7, 2) := by decide +kernel
theorem dX3_reachFrom_17 : decode cX3_reachFrom 17 = .ok (.aload_n 0, 1) := by decide +kernel
theorem dX3_reachFrom_18 : decode cX3_reachFrom 18 = .ok (.getfield 16, 3) := by decide +kernel
theorem dX3_reachFrom_21 : decode cX3_reachFrom 21 = .ok (.iload_n 1, 1) := by decide +kernel
theorem dX3_reachFrom_22 : decode cX3_reachFrom 22 = .ok (.iaload, 1) := by decide +kernel
theorem dX3_reachFrom_23 : decode cX3_reachFrom 23 = .ok (.if_icmp .eq 99, 3) := by decide +kernel
theorem dX3_reachFrom_26 : decode cX3_reachFrom 26 = .ok (.aload_n 0, 1) := by decide +kernel
theorem dX3_reachFrom_27 : decode cX3_reachFrom 27 = .ok (.getfield 11, 3) := by decide +kernel
theorem dX3_reachFrom_30 : decode cX3_reachFrom 30 = .ok (.iload_n 1, 1) := by decide +kernel
theorem dX3_reachFrom_31 : decode cX3_reachFrom 31 = .ok (.aaload, 1) := by decide +kernel
theorem dX3_reachFrom_32 : decode cX3_reachFrom 32 = .ok (.iload 7, 2) := by decide +kernel
theorem dX3_reachFrom_34 : decode cX3_reachFrom 34 = .ok (.laload, 1) := by decide +kernel
theorem dX3_reachFrom_35 : decode cX3_reachFrom 35 = .ok (.ldc2_w 73, 3) := by decide +kernel
theorem dX3_reachFrom_38 : decode cX3_reachFrom 38 = .ok (.lcmp, 1) := by decide +kernel
theorem dX3_reachFrom_39 : decode cX3_reachFrom 39 = .ok (.ifCond .ne 6, 3) := by decide +kernel
theorem dX3_reachFrom_42 : decode cX3_reachFrom 42 = .ok (.goto 80, 3) := by decide +kernel
theorem dX3_reachFrom_45 : decode cX3_reachFrom 45 = .ok (.lload_n 2, 1) := by decide +kernel
theorem dX3_reachFrom_46 : decode cX3_reachFrom 46 = .ok (.aload_n 0, 1) := by decide +kernel
theorem dX3_reachFrom_47 : decode cX3_reachFrom 47 = .ok (.getfield 11, 3) := by decide +kernel
theorem dX3_reachFrom_50 : decode cX3_reachFrom 50 = .ok (.iload_n 1, 1) := by decide +kernel
theorem dX3_reachFrom_51 : decode cX3_reachFrom 51 = .ok (.aaload, 1) := by decide +kernel
theorem dX3_reachFrom_52 : decode cX3_reachFrom 52 = .ok (.iload 7, 2) := by decide +kernel
theorem dX3_reachFrom_54 : decode cX3_reachFrom 54 = .ok (.laload, 1) := by decide +kernel
theorem dX3_reachFrom_55 : decode cX3_reachFrom 55 = .ok (.ladd, 1) := by decide +kernel
theorem dX3_reachFrom_56 : decode cX3_reachFrom 56 = .ok (.lstore 8, 2) := by decide +kernel
theorem dX3_reachFrom_58 : decode cX3_reachFrom 58 = .ok (.lload 4, 2) := by decide +kernel
theorem dX3_reachFrom_60 : decode cX3_reachFrom 60 = .ok (.aload_n 0, 1) := by decide +kernel
theorem dX3_reachFrom_61 : decode cX3_reachFrom 61 = .ok (.iload_n 1, 1) := by decide +kernel
theorem dX3_reachFrom_62 : decode cX3_reachFrom 62 = .ok (.iload 7, 2) := by decide +kernel
theorem dX3_reachFrom_64 : decode cX3_reachFrom 64 = .ok (.invokevirtual 69, 3) := by decide +kernel
theorem dX3_reachFrom_67 : decode cX3_reachFrom 67 = .ok (.ladd, 1) := by decide +kernel
theorem dX3_reachFrom_68 : decode cX3_reachFrom 68 = .ok (.lstore 10, 2) := by decide +kernel
theorem dX3_reachFrom_70 : decode cX3_reachFrom 70 = .ok (.aload_n 0, 1) := by decide +kernel
theorem dX3_reachFrom_71 : decode cX3_reachFrom 71 = .ok (.getfield 34, 3) := by decide +kernel
theorem dX3_reachFrom_74 : decode cX3_reachFrom 74 = .ok (.iload 7, 2) := by decide +kernel
theorem dX3_reachFrom_76 : decode cX3_reachFrom 76 = .ok (.iaload, 1) := by decide +kernel
theorem dX3_reachFrom_77 : decode cX3_reachFrom 77 = .ok (.ifCond .lt 16, 3) := by decide +kernel
theorem dX3_reachFrom_80 : decode cX3_reachFrom 80 = .ok (.aload_n 0, 1) := by decide +kernel
theorem dX3_reachFrom_81 : decode cX3_reachFrom 81 = .ok (.lload 8, 2) := by decide +kernel
theorem dX3_reachFrom_83 : decode cX3_reachFrom 83 = .ok (.lload 10, 2) := by decide +kernel
theorem dX3_reachFrom_85 : decode cX3_reachFrom 85 = .ok (.iload 7, 2) := by decide +kernel
theorem dX3_reachFrom_87 : decode cX3_reachFrom 87 = .ok (.invokevirtual 75, 3) := by decide +kernel
theorem dX3_reachFrom_90 : decode cX3_reachFrom 90 = .ok (.ifCond .eq 32, 3) := by decide +kernel
theorem dX3_reachFrom_93 : decode cX3_reachFrom 93 = .ok (.aload_n 0, 1) := by decide +kernel
theorem dX3_reachFrom_94 : decode cX3_reachFrom 94 = .ok (.getfield 27, 3) := by decide +kernel
theorem dX3_reachFrom_97 : decode cX3_reachFrom 97 = .ok (.iload 7, 2) := by decide +kernel
theorem dX3_reachFrom_99 : decode cX3_reachFrom 99 = .ok (.lload 8, 2) := by decide +kernel
theorem dX3_reachFrom_101 : decode cX3_reachFrom 101 = .ok (.lastore, 1) := by decide +kernel
theorem dX3_reachFrom_102 : decode cX3_reachFrom 102 = .ok (.aload_n 0, 1) := by decide +kernel
theorem dX3_reachFrom_103 : decode cX3_reachFrom 103 = .ok (.getfield 31, 3) := by decide +kernel
theorem dX3_reachFrom_106 : decode cX3_reachFrom 106 = .ok (.iload 7, 2) := by decide +kernel
theorem dX3_reachFrom_108 : decode cX3_reachFrom 108 = .ok (.lload 10, 2) := by decide +kernel
theorem dX3_reachFrom_110 : decode cX3_reachFrom 110 = .ok (.lastore, 1) := by decide +kernel
theorem dX3_reachFrom_111 : decode cX3_reachFrom 111 = .ok (.aload_n 0, 1) := by decide +kernel
theorem dX3_reachFrom_112 : decode cX3_reachFrom 112 = .ok (.getfield 34, 3) := by decide +kernel
theorem dX3_reachFrom_115 : decode cX3_reachFrom 115 = .ok (.iload 7, 2) := by decide +kernel
theorem dX3_reachFrom_117 : decode cX3_reachFrom 117 = .ok (.iload_n 1, 1) := by decide +kernel
theorem dX3_reachFrom_118 : decode cX3_reachFrom 118 = .ok (.iastore, 1) := by decide +kernel
theorem dX3_reachFrom_119 : decode cX3_reachFrom 119 = .ok (.iconst 1, 1) := by decide +kernel
theorem dX3_reachFrom_120 : decode cX3_reachFrom 120 = .ok (.istore 6, 2) := by decide +kernel
theorem dX3_reachFrom_122 : decode cX3_reachFrom 122 = .ok (.iinc 7 1, 3) := by decide +kernel
theorem dX3_reachFrom_125 : decode cX3_reachFrom 125 = .ok (.goto (-119), 3) := by decide +kernel
theorem dX3_reachFrom_128 : decode cX3_reachFrom 128 = .ok (.iload 6, 2) := by decide +kernel
theorem dX3_reachFrom_130 : decode cX3_reachFrom 130 = .ok (.ireturn, 1) := by decide +kernel
theorem dX3_isBetter_0 : decode cX3_isBetter 0 = .ok (.lload_n 1, 1) := by decide +kernel
theorem dX3_isBetter_1 : decode cX3_isBetter 1 = .ok (.aload_n 0, 1) := by decide +kernel
theorem dX3_isBetter_2 : decode cX3_isBetter 2 = .ok (.getfield 27, 3) := by decide +kernel
theorem dX3_isBetter_5 : decode cX3_isBetter 5 = .ok (.iload 5, 2) := by decide +kernel
theorem dX3_isBetter_7 : decode cX3_isBetter 7 = .ok (.laload, 1) := by decide +kernel
theorem dX3_isBetter_8 : decode cX3_isBetter 8 = .ok (.lcmp, 1) := by decide +kernel
theorem dX3_isBetter_9 : decode cX3_isBetter 9 = .ok (.ifCond .gt 27, 3) := by decide +kernel
theorem dX3_isBetter_12 : decode cX3_isBetter 12 = .ok (.lload_n 1, 1) := by decide +kernel
theorem dX3_isBetter_13 : decode cX3_isBetter 13 = .ok (.aload_n 0, 1) := by decide +kernel
theorem dX3_isBetter_14 : decode cX3_isBetter 14 = .ok (.getfield 27, 3) := by decide +kernel
theorem dX3_isBetter_17 : decode cX3_isBetter 17 = .ok (.iload 5, 2) := by decide +kernel
theorem dX3_isBetter_19 : decode cX3_isBetter 19 = .ok (.laload, 1) := by decide +kernel
theorem dX3_isBetter_20 : decode cX3_isBetter 20 = .ok (.lcmp, 1) := by decide +kernel
theorem dX3_isBetter_21 : decode cX3_isBetter 21 = .ok (.ifCond .ne 19, 3) := by decide +kernel
theorem dX3_isBetter_24 : decode cX3_isBetter 24 = .ok (.lload_n 3, 1) := by decide +kernel
theorem dX3_isBetter_25 : decode cX3_isBetter 25 = .ok (.aload_n 0, 1) := by decide +kernel
theorem dX3_isBetter_26 : decode cX3_isBetter 26 = .ok (.getfield 31, 3) := by decide +kernel
theorem dX3_isBetter_29 : decode cX3_isBetter 29 = .ok (.iload 5, 2) := by decide +kernel
theorem dX3_isBetter_31 : decode cX3_isBetter 31 = .ok (.laload, 1) := by decide +kernel
theorem dX3_isBetter_32 : decode cX3_isBetter 32 = .ok (.lcmp, 1) := by decide +kernel
theorem dX3_isBetter_33 : decode cX3_isBetter 33 = .ok (.ifCond .le 7, 3) := by decide +kernel
theorem dX3_isBetter_36 : decode cX3_isBetter 36 = .ok (.iconst 1, 1) := by decide +kernel
theorem dX3_isBetter_37 : decode cX3_isBetter 37 = .ok (.goto 4, 3) := by decide +kernel
theorem dX3_isBetter_40 : decode cX3_isBetter 40 = .ok (.iconst 0, 1) := by decide +kernel
theorem dX3_isBetter_41 : decode cX3_isBetter 41 = .ok (.ireturn, 1) := by decide +kernel
set_option maxRecDepth 20000 in
theorem ggX3_bestEnd_X3_isBetter : GoodIn wsX3_bestEnd wsX3_isBetter := goodIn_ca (goodIn_r _ [11, 5, 6, 12, 13, 14, 15, 16, 17, 18] (by decide +kernel) (by decide +kernel)) (goodIn_sub (fun _ h => List.mem_cons_of_mem _ (List.mem_append_right _ h)) (by decide +kernel))
set_option maxRecDepth 20000 in
theorem gX3_bestEnd_X3_isBetter : GoodIn wsX3_bestEnd (wsV RX3 75 RX3 yX3_isBetter wsX3_isBetter) := goodIn_app (goodIn_of _ (by decide +kernel)) ggX3_bestEnd_X3_isBetter
theorem dX3_bestEnd_0 : decode cX3_bestEnd 0 = .ok (.aload_n 0, 1) := by decide +kernel
theorem dX3_bestEnd_1 : decode cX3_bestEnd 1 = .ok (.getfield 23, 3) := by decide +kernel
theorem dX3_bestEnd_4 : decode cX3_bestEnd 4 = .ok (.istore_n 2, 1) := by decide +kernel
theorem dX3_bestEnd_5 : decode cX3_bestEnd 5 = .ok (.iconst 0, 1) := by decide +kernel
theorem dX3_bestEnd_6 : decode cX3_bestEnd 6 = .ok (.istore_n 3, 1) := by decide +kernel
theorem dX3_bestEnd_7 : decode cX3_bestEnd 7 = .ok (.iload_n 3, 1) := by decide +kernel
theorem dX3_bestEnd_8 : decode cX3_bestEnd 8 = .ok (.aload_n 0, 1) := by decide +kernel
theorem dX3_bestEnd_9 : decode cX3_bestEnd 9 = .ok (.getfield 23, 3) := by decide +kernel
theorem dX3_bestEnd_12 : decode cX3_bestEnd 12 = .ok (.if_icmp .ge 55, 3) := by decide +kernel
theorem dX3_bestEnd_15 : decode cX3_bestEnd 15 = .ok (.aload_n 0, 1) := by decide +kernel
theorem dX3_bestEnd_16 : decode cX3_bestEnd 16 = .ok (.getfield 34, 3) := by decide +kernel
theorem dX3_bestEnd_19 : decode cX3_bestEnd 19 = .ok (.iload_n 3, 1) := by decide +kernel
theorem dX3_bestEnd_20 : decode cX3_bestEnd 20 = .ok (.iaload, 1) := by decide +kernel
theorem dX3_bestEnd_21 : decode cX3_bestEnd 21 = .ok (.ifCond .lt 40, 3) := by decide +kernel
theorem dX3_bestEnd_24 : decode cX3_bestEnd 24 = .ok (.aload_n 0, 1) := by decide +kernel
theorem dX3_bestEnd_25 : decode cX3_bestEnd 25 = .ok (.getfield 20, 3) := by decide +kernel
theorem dX3_bestEnd_28 : decode cX3_bestEnd 28 = .ok (.iload_n 3, 1) := by decide +kernel
theorem dX3_bestEnd_29 : decode cX3_bestEnd 29 = .ok (.iaload, 1) := by decide +kernel
theorem dX3_bestEnd_30 : decode cX3_bestEnd 30 = .ok (.aload_n 1, 1) := by decide +kernel
theorem dX3_bestEnd_31 : decode cX3_bestEnd 31 = .ok (.getfield 79, 3) := by decide +kernel
theorem dX3_bestEnd_34 : decode cX3_bestEnd 34 = .ok (.iload_n 3, 1) := by decide +kernel
theorem dX3_bestEnd_35 : decode cX3_bestEnd 35 = .ok (.iaload, 1) := by decide +kernel
theorem dX3_bestEnd_36 : decode cX3_bestEnd 36 = .ok (.if_icmp .ge 25, 3) := by decide +kernel
theorem dX3_bestEnd_39 : decode cX3_bestEnd 39 = .ok (.aload_n 0, 1) := by decide +kernel
theorem dX3_bestEnd_40 : decode cX3_bestEnd 40 = .ok (.aload_n 0, 1) := by decide +kernel
theorem dX3_bestEnd_41 : decode cX3_bestEnd 41 = .ok (.getfield 27, 3) := by decide +kernel
theorem dX3_bestEnd_44 : decode cX3_bestEnd 44 = .ok (.iload_n 3, 1) := by decide +kernel
theorem dX3_bestEnd_45 : decode cX3_bestEnd 45 = .ok (.laload, 1) := by decide +kernel
theorem dX3_bestEnd_46 : decode cX3_bestEnd 46 = .ok (.aload_n 0, 1) := by decide +kernel
theorem dX3_bestEnd_47 : decode cX3_bestEnd 47 = .ok (.getfield 31, 3) := by decide +kernel
theorem dX3_bestEnd_50 : decode cX3_bestEnd 50 = .ok (.iload_n 3, 1) := by decide +kernel
theorem dX3_bestEnd_51 : decode cX3_bestEnd 51 = .ok (.laload, 1) := by decide +kernel
theorem dX3_bestEnd_52 : decode cX3_bestEnd 52 = .ok (.iload_n 2, 1) := by decide +kernel
theorem dX3_bestEnd_53 : decode cX3_bestEnd 53 = .ok (.invokevirtual 75, 3) := by decide +kernel
theorem dX3_bestEnd_56 : decode cX3_bestEnd 56 = .ok (.ifCond .eq 5, 3) := by decide +kernel
theorem dX3_bestEnd_59 : decode cX3_bestEnd 59 = .ok (.iload_n 3, 1) := by decide +kernel
theorem dX3_bestEnd_60 : decode cX3_bestEnd 60 = .ok (.istore_n 2, 1) := by decide +kernel
theorem dX3_bestEnd_61 : decode cX3_bestEnd 61 = .ok (.iinc 3 1, 3) := by decide +kernel
theorem dX3_bestEnd_64 : decode cX3_bestEnd 64 = .ok (.goto (-57), 3) := by decide +kernel
theorem dX3_bestEnd_67 : decode cX3_bestEnd 67 = .ok (.iload_n 2, 1) := by decide +kernel
theorem dX3_bestEnd_68 : decode cX3_bestEnd 68 = .ok (.ireturn, 1) := by decide +kernel
theorem dX3_moveAlong_0 : decode cX3_moveAlong 0 = .ok (.aload_n 0, 1) := by decide +kernel
theorem dX3_moveAlong_1 : decode cX3_moveAlong 1 = .ok (.getfield 20, 3) := by decide +kernel
theorem dX3_moveAlong_4 : decode cX3_moveAlong 4 = .ok (.iload_n 1, 1) := by decide +kernel
theorem dX3_moveAlong_5 : decode cX3_moveAlong 5 = .ok (.dup2, 1) := by decide +kernel
theorem dX3_moveAlong_6 : decode cX3_moveAlong 6 = .ok (.iaload, 1) := by decide +kernel
theorem dX3_moveAlong_7 : decode cX3_moveAlong 7 = .ok (.iconst 1, 1) := by decide +kernel
theorem dX3_moveAlong_8 : decode cX3_moveAlong 8 = .ok (.iadd, 1) := by decide +kernel
theorem dX3_moveAlong_9 : decode cX3_moveAlong 9 = .ok (.iastore, 1) := by decide +kernel
theorem dX3_moveAlong_10 : decode cX3_moveAlong 10 = .ok (.iload_n 1, 1) := by decide +kernel
theorem dX3_moveAlong_11 : decode cX3_moveAlong 11 = .ok (.istore_n 2, 1) := by decide +kernel
theorem dX3_moveAlong_12 : decode cX3_moveAlong 12 = .ok (.iconst 0, 1) := by decide +kernel
theorem dX3_moveAlong_13 : decode cX3_moveAlong 13 = .ok (.istore_n 3, 1) := by decide +kernel
theorem dX3_moveAlong_14 : decode cX3_moveAlong 14 = .ok (.iload_n 3, 1) := by decide +kernel
theorem dX3_moveAlong_15 : decode cX3_moveAlong 15 = .ok (.bipush 10, 2) := by decide +kernel
theorem dX3_moveAlong_17 : decode cX3_moveAlong 17 = .ok (.if_icmp .gt 47, 3) := by decide +kernel
theorem dX3_moveAlong_20 : decode cX3_moveAlong 20 = .ok (.iload_n 2, 1) := by decide +kernel
theorem dX3_moveAlong_21 : decode cX3_moveAlong 21 = .ok (.ifCond .lt 43, 3) := by decide +kernel
theorem dX3_moveAlong_24 : decode cX3_moveAlong 24 = .ok (.aload_n 0, 1) := by decide +kernel
theorem dX3_moveAlong_25 : decode cX3_moveAlong 25 = .ok (.getfield 34, 3) := by decide +kernel
theorem dX3_moveAlong_28 : decode cX3_moveAlong 28 = .ok (.iload_n 2, 1) := by decide +kernel
theorem dX3_moveAlong_29 : decode cX3_moveAlong 29 = .ok (.iaload, 1) := by decide +kernel
theorem dX3_moveAlong_30 : decode cX3_moveAlong 30 = .ok (.istore 4, 2) := by decide +kernel
theorem dX3_moveAlong_32 : decode cX3_moveAlong 32 = .ok (.iload 4, 2) := by decide +kernel
theorem dX3_moveAlong_34 : decode cX3_moveAlong 34 = .ok (.ifCond .ge 4, 3) := by decide +kernel
theorem dX3_moveAlong_37 : decode cX3_moveAlong 37 = .ok (.return_, 1) := by decide +kernel
theorem dX3_moveAlong_38 : decode cX3_moveAlong 38 = .ok (.aload_n 0, 1) := by decide +kernel
theorem dX3_moveAlong_39 : decode cX3_moveAlong 39 = .ok (.getfield 16, 3) := by decide +kernel
theorem dX3_moveAlong_42 : decode cX3_moveAlong 42 = .ok (.iload 4, 2) := by decide +kernel
theorem dX3_moveAlong_44 : decode cX3_moveAlong 44 = .ok (.iaload, 1) := by decide +kernel
theorem dX3_moveAlong_45 : decode cX3_moveAlong 45 = .ok (.istore 5, 2) := by decide +kernel
theorem dX3_moveAlong_47 : decode cX3_moveAlong 47 = .ok (.aload_n 0, 1) := by decide +kernel
theorem dX3_moveAlong_48 : decode cX3_moveAlong 48 = .ok (.getfield 16, 3) := by decide +kernel
theorem dX3_moveAlong_51 : decode cX3_moveAlong 51 = .ok (.iload 4, 2) := by decide +kernel
theorem dX3_moveAlong_53 : decode cX3_moveAlong 53 = .ok (.iload_n 2, 1) := by decide +kernel
theorem dX3_moveAlong_54 : decode cX3_moveAlong 54 = .ok (.iastore, 1) := by decide +kernel
theorem dX3_moveAlong_55 : decode cX3_moveAlong 55 = .ok (.iload 5, 2) := by decide +kernel
theorem dX3_moveAlong_57 : decode cX3_moveAlong 57 = .ok (.istore_n 2, 1) := by decide +kernel
theorem dX3_moveAlong_58 : decode cX3_moveAlong 58 = .ok (.iinc 3 1, 3) := by decide +kernel
theorem dX3_moveAlong_61 : decode cX3_moveAlong 61 = .ok (.goto (-47), 3) := by decide +kernel
theorem dX3_moveAlong_64 : decode cX3_moveAlong 64 = .ok (.return_, 1) := by decide +kernel
theorem dX4_init_0 : decode cX4_init 0 = .ok (.aload_n 0, 1) := by decide +kernel
theorem dX4_init_1 : decode cX4_init 1 = .ok (.invokespecial 3, 3) := by decide +kernel
theorem dX4_init_4 : decode cX4_init 4 = .ok (.aload_n 0, 1) := by decide +kernel
theorem dX4_init_5 : decode cX4_init 5 = .ok (.iconst 0, 1) := by decide +kernel
theorem dX4_init_6 : decode cX4_init 6 = .ok (.putfield 9, 3) := by decide +kernel
theorem dX4_init_9 : decode cX4_init 9 = .ok (.aload_n 0, 1) := by decide +kernel
theorem dX4_init_10 : decode cX4_init 10 = .ok (.bipush 10, 2) := by decide +kernel
theorem dX4_init_12 : decode cX4_init 12 = .ok (.newarray .int, 2) := by decide +kernel
theorem dX4_init_14 : decode cX4_init 14 = .ok (.putfield 15, 3) := by decide +kernel
theorem dX4_init_17 : decode cX4_init 17 = .ok (.aload_n 0, 1) := by decide +kernel
theorem dX4_init_18 : decode cX4_init 18 = .ok (.bipush 20, 2) := by decide +kernel
theorem dX4_init_20 : decode cX4_init 20 = .ok (.newarray .char, 2) := by decide +kernel
theorem dX4_init_22 : decode cX4_init 22 = .ok (.putfield 19, 3) := by decide +kernel
theorem dX4_init_25 : decode cX4_init 25 = .ok (.return_, 1) := by decide +kernel
theorem dX4_knows_0 : decode cX4_knows 0 = .ok (.iload_n 0, 1) := by decide +kernel
theorem dX4_knows_1 : decode cX4_knows 1 = .ok (.bipush 62, 2) := by decide +kernel
theorem dX4_knows_3 : decode cX4_knows 3 = .ok (.if_icmp .eq 21, 3) := by decide +kernel
theorem dX4_knows_6 : decode cX4_knows 6 = .ok (.iload_n 0, 1) := by decide +kernel
theorem dX4_knows_7 : decode cX4_knows 7 = .ok (.bipush 61, 2) := by decide +kernel
theorem dX4_knows_9 : decode cX4_knows 9 = .ok (.if_icmp .eq 15, 3) := by decide +kernel
theorem dX4_knows_12 : decode cX4_knows 12 = .ok (.iload_n 0, 1) := by decide +kernel
theorem dX4_knows_13 : decode cX4_knows 13 = .ok (.bipush 97, 2) := by decide +kernel
theorem dX4_knows_15 : decode cX4_knows 15 = .ok (.if_icmp .lt 13, 3) := by decide +kernel
theorem dX4_knows_18 : decode cX4_knows 18 = .ok (.iload_n 0, 1) := by decide +kernel
theorem dX4_knows_19 : decode cX4_knows 19 = .ok (.bipush 106, 2) := by decide +kernel
theorem dX4_knows_21 : decode cX4_knows 21 = .ok (.if_icmp .gt 7, 3) := by decide +kernel
theorem dX4_knows_24 : decode cX4_knows 24 = .ok (.iconst 1, 1) := by decide +kernel
theorem dX4_knows_25 : decode cX4_knows 25 = .ok (.goto 4, 3) := by decide +kernel
theorem dX4_knows_28 : decode cX4_knows 28 = .ok (.iconst 0, 1) := by decide +kernel
theorem dX4_knows_29 : decode cX4_knows 29 = .ok (.ireturn, 1) := by decide +kernel
theorem dX4_isFull_0 : decode cX4_isFull 0 = .ok (.aload_n 0, 1) := by decide +kernel
theorem dX4_isFull_1 : decode cX4_isFull 1 = .ok (.getfield 9, 3) := by decide +kernel
theorem dX4_isFull_4 : decode cX4_isFull 4 = .ok (.bipush 20, 2) := by decide +kernel
theorem dX4_isFull_6 : decode cX4_isFull 6 = .ok (.if_icmp .lt 7, 3) := by decide +kernel
theorem dX4_isFull_9 : decode cX4_isFull 9 = .ok (.iconst 1, 1) := by decide +kernel
theorem dX4_isFull_10 : decode cX4_isFull 10 = .ok (.goto 4, 3) := by decide +kernel
theorem dX4_isFull_13 : decode cX4_isFull 13 = .ok (.iconst 0, 1) := by decide +kernel
theorem dX4_isFull_14 : decode cX4_isFull 14 = .ok (.ireturn, 1) := by decide +kernel
set_option maxRecDepth 20000 in
theorem ggX4_append_X4_isFull : GoodIn wsX4_append wsX4_isFull := goodIn_r _ [7, 2, 8, 9, 10] (by decide +kernel) (by decide +kernel)
set_option maxRecDepth 20000 in
theorem gX4_append_X4_isFull : GoodIn wsX4_append (wsV RX4 23 RX4 yX4_isFull wsX4_isFull) := goodIn_app (goodIn_of _ (by decide +kernel)) ggX4_append_X4_isFull
theorem dX4_append_0 : decode cX4_append 0 = .ok (.aload_n 0, 1) := by decide +kernel
theorem dX4_append_1 : decode cX4_append 1 = .ok (.invokevirtual 23, 3) := by decide +kernel
theorem dX4_append_4 : decode cX4_append 4 = .ok (.ifCond .ne 23, 3) := by decide +kernel
theorem dX4_append_7 : decode cX4_append 7 = .ok (.aload_n 0, 1) := by decide +kernel
theorem dX4_append_8 : decode cX4_append 8 = .ok (.getfield 19, 3) := by decide +kernel
theorem dX4_append_11 : decode cX4_append 11 = .ok (.aload_n 0, 1) := by decide +kernel
theorem dX4_append_12 : decode cX4_append 12 = .ok (.getfield 9, 3) := by decide +kernel
theorem dX4_append_15 : decode cX4_append 15 = .ok (.iload_n 1, 1) := by decide +kernel
theorem dX4_append_16 : decode cX4_append 16 = .ok (.castore, 1) := by decide +kernel
theorem dX4_append_17 : decode cX4_append 17 = .ok (.aload_n 0, 1) := by decide +kernel
theorem dX4_append_18 : decode cX4_append 18 = .ok (.dup, 1) := by decide +kernel
theorem dX4_append_19 : decode cX4_append 19 = .ok (.getfield 9, 3) := by decide +kernel
theorem dX4_append_22 : decode cX4_append 22 = .ok (.iconst 1, 1) := by decide +kernel
theorem dX4_append_23 : decode cX4_append 23 = .ok (.iadd, 1) := by decide +kernel
theorem dX4_append_24 : decode cX4_append 24 = .ok (.putfield 9, 3) := by decide +kernel
theorem dX4_append_27 : decode cX4_append 27 = .ok (.aload_n 0, 1) := by decide +kernel
theorem dX4_append_28 : decode cX4_append 28 = .ok (.getfield 9, 3) := by decide +kernel
theorem dX4_append_31 : decode cX4_append 31 = .ok (.ireturn, 1) := by decide +kernel
set_option maxRecDepth 20000 in
theorem ggX4_read_J7_fill_53178 : GoodIn wsX4_read wsJ7_fill_53178 := goodIn_r _ [7] (by decide +kernel) (by decide +kernel)
set_option maxRecDepth 20000 in
theorem gX4_read_J7_fill_53178 : GoodIn wsX4_read (va_wsS RX4 27 yJ7_fill_53178 wsJ7_fill_53178) := goodIn_app (goodIn_of _ (by decide +kernel)) ggX4_read_J7_fill_53178
theorem dX4_read_0 : decode cX4_read 0 = .ok (.aload_n 0, 1) := by decide +kernel
theorem dX4_read_1 : decode cX4_read 1 = .ok (.getfield 15, 3) := by decide +kernel
theorem dX4_read_4 : decode cX4_read 4 = .ok (.iconst 0, 1) := by decide +kernel
theorem dX4_read_5 : decode cX4_read 5 = .ok (.invokestatic 27, 3) := by decide +kernel
theorem dX4_read_8 : decode cX4_read 8 = .ok (.iconst 1, 1) := by decide +kernel
theorem dX4_read_9 : decode cX4_read 9 = .ok (.istore_n 2, 1) := by decide +kernel
theorem dX4_read_10 : decode cX4_read 10 = .ok (.iconst 0, 1) := by decide +kernel
theorem dX4_read_11 : decode cX4_read 11 = .ok (.istore_n 3, 1) := by decide +kernel
theorem dX4_read_12 : decode cX4_read 12 = .ok (.iload_n 3, 1) := by decide +kernel
theorem dX4_read_13 : decode cX4_read 13 = .ok (.aload_n 0, 1) := by decide +kernel
theorem dX4_read_14 : decode cX4_read 14 = .ok (.getfield 9, 3) := by decide +kernel
theorem dX4_read_17 : decode cX4_read 17 = .ok (.if_icmp .ge 86, 3) := by decide +kernel
theorem dX4_read_20 : decode cX4_read 20 = .ok (.aload_n 0, 1) := by decide +kernel
theorem dX4_read_21 : decode cX4_read 21 = .ok (.getfield 19, 3) := by decide +kernel
theorem dX4_read_24 : decode cX4_read 24 = .ok (.iload_n 3, 1) := by decide +kernel
theorem dX4_read_25 : decode cX4_read 25 = .ok (.caload, 1) := by decide +kernel
theorem dX4_read_26 : decode cX4_read 26 = .ok (.istore 4, 2) := by decide +kernel
theorem dX4_read_28 : decode cX4_read 28 = .ok (.iload_n 3, 1) := by decide +kernel
theorem dX4_read_29 : decode cX4_read 29 = .ok (.iconst 2, 1) := by decide +kernel
theorem dX4_read_30 : decode cX4_read 30 = .ok (.irem, 1) := by decide +kernel
theorem dX4_read_31 : decode cX4_read 31 = .ok (.ifCond .ne 44, 3) := by decide +kernel
theorem dX4_read_34 : decode cX4_read 34 = .ok (.iload 4, 2) := by decide +kernel
theorem dX4_read_36 : decode cX4_read 36 = .ok (.bipush 97, 2) := by decide +kernel
theorem dX4_read_38 : decode cX4_read 38 = .ok (.isub, 1) := by decide +kernel
theorem dX4_read_39 : decode cX4_read 39 = .ok (.istore 5, 2) := by decide +kernel
theorem dX4_read_41 : decode cX4_read 41 = .ok (.iload 5, 2) := by decide +kernel
theorem dX4_read_43 : decode cX4_read 43 = .ok (.ifCond .lt 19, 3) := by decide +kernel
theorem dX4_read_46 : decode cX4_read 46 = .ok (.iload 5, 2) := by decide +kernel
theorem dX4_read_48 : decode cX4_read 48 = .ok (.iload_n 1, 1) := by decide +kernel
theorem dX4_read_49 : decode cX4_read 49 = .ok (.if_icmp .ge 13, 3) := by decide +kernel
theorem dX4_read_52 : decode cX4_read 52 = .ok (.aload_n 0, 1) := by decide +kernel
theorem dX4_read_53 : decode cX4_read 53 = .ok (.getfield 15, 3) := by decide +kernel
theorem dX4_read_56 : decode cX4_read 56 = .ok (.iload 5, 2) := by decide +kernel
theorem dX4_read_58 : decode cX4_read 58 = .ok (.iaload, 1) := by decide +kernel
theorem dX4_read_59 : decode cX4_read 59 = .ok (.ifCond .eq 5, 3) := by decide +kernel
theorem dX4_read_62 : decode cX4_read 62 = .ok (.iconst 0, 1) := by decide +kernel
theorem dX4_read_63 : decode cX4_read 63 = .ok (.ireturn, 1) := by decide +kernel
theorem dX4_read_64 : decode cX4_read 64 = .ok (.aload_n 0, 1) := by decide +kernel
theorem dX4_read_65 : decode cX4_read 65 = .ok (.getfield 15, 3) := by decide +kernel
theorem dX4_read_68 : decode cX4_read 68 = .ok (.iload 5, 2) := by decide +kernel
theorem dX4_read_70 : decode cX4_read 70 = .ok (.iload_n 2, 1) := by decide +kernel
theorem dX4_read_71 : decode cX4_read 71 = .ok (.iastore, 1) := by decide +kernel
theorem dX4_read_72 : decode cX4_read 72 = .ok (.goto 25, 3) := by decide +kernel
theorem dX4_read_75 : decode cX4_read 75 = .ok (.iload 4, 2) := by decide +kernel
theorem dX4_read_77 : decode cX4_read 77 = .ok (.bipush 62, 2) := by decide +kernel
theorem dX4_read_79 : decode cX4_read 79 = .ok (.if_icmp .ne 9, 3) := by decide +kernel
theorem dX4_read_82 : decode cX4_read 82 = .ok (.iinc 2 1, 3) := by decide +kernel
theorem dX4_read_85 : decode cX4_read 85 = .ok (.goto 12, 3) := by decide +kernel
theorem dX4_read_88 : decode cX4_read 88 = .ok (.iload 4, 2) := by decide +kernel
theorem dX4_read_90 : decode cX4_read 90 = .ok (.bipush 61, 2) := by decide +kernel
theorem dX4_read_92 : decode cX4_read 92 = .ok (.if_icmp .eq 5, 3) := by decide +kernel
theorem dX4_read_95 : decode cX4_read 95 = .ok (.iconst 0, 1) := by decide +kernel
theorem dX4_read_96 : decode cX4_read 96 = .ok (.ireturn, 1) := by decide +kernel
theorem dX4_read_97 : decode cX4_read 97 = .ok (.iinc 3 1, 3) := by decide +kernel
theorem dX4_read_100 : decode cX4_read 100 = .ok (.goto (-88), 3) := by decide +kernel
theorem dX4_read_103 : decode cX4_read 103 = .ok (.aload_n 0, 1) := by decide +kernel
theorem dX4_read_104 : decode cX4_read 104 = .ok (.getfield 9, 3) := by decide +kernel
theorem dX4_read_107 : decode cX4_read 107 = .ok (.iconst 2, 1) := by decide +kernel
theorem dX4_read_108 : decode cX4_read 108 = .ok (.irem, 1) := by decide +kernel
theorem dX4_read_109 : decode cX4_read 109 = .ok (.ifCond .eq 9, 3) := by decide +kernel
theorem dX4_read_112 : decode cX4_read 112 = .ok (.iload_n 2, 1) := by decide +kernel
theorem dX4_read_113 : decode cX4_read 113 = .ok (.bipush 9, 2) := by decide +kernel
theorem dX4_read_115 : decode cX4_read 115 = .ok (.if_icmp .le 7, 3) := by decide +kernel
theorem dX4_read_118 : decode cX4_read 118 = .ok (.iconst 0, 1) := by decide +kernel
theorem dX4_read_119 : decode cX4_read 119 = .ok (.goto 11, 3) := by decide +kernel
theorem dX4_read_122 : decode cX4_read 122 = .ok (.aload_n 0, 1) := by decide +kernel
theorem dX4_read_123 : decode cX4_read 123 = .ok (.getfield 9, 3) := by decide +kernel
theorem dX4_read_126 : decode cX4_read 126 = .ok (.iconst 1, 1) := by decide +kernel
theorem dX4_read_127 : decode cX4_read 127 = .ok (.iadd, 1) := by decide +kernel
theorem dX4_read_128 : decode cX4_read 128 = .ok (.iconst 2, 1) := by decide +kernel
theorem dX4_read_129 : decode cX4_read 129 = .ok (.idiv, 1) := by decide +kernel
theorem dX4_read_130 : decode cX4_read 130 = .ok (.ireturn, 1) := by decide +kernel
