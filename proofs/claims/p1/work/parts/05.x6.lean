set_option maxRecDepth 20000 in
theorem ggX6_init_Jx4a65c_init_da8c8 : GoodIn wsX6_init wsJx4a65c_init_da8c8 := goodIn_r _ [20, 21, 22, 23, 24, 25, 26, 27, 28, 29, 30, 31, 32, 2, 3, 66, 67, 68] (by decide +kernel) (by decide +kernel)
set_option maxRecDepth 20000 in
theorem gX6_init_Jx4a65c_init_da8c8 : GoodIn wsX6_init (wsJx4a65c_init_da8c8) := ggX6_init_Jx4a65c_init_da8c8
set_option maxRecDepth 20000 in
theorem ggX6_init_J4_init_da8c8 : GoodIn wsX6_init wsJ4_init_da8c8 := goodIn_r _ [35, 36, 37, 38, 39, 40, 2, 3, 41, 42, 43, 44, 45, 46, 47, 48, 49, 50, 51, 52, 69, 70, 71, 72] (by decide +kernel) (by decide +kernel)
set_option maxRecDepth 20000 in
theorem gX6_init_J4_init_da8c8 : GoodIn wsX6_init (wsJ4_init_da8c8) := ggX6_init_J4_init_da8c8
set_option maxRecDepth 20000 in
theorem ggX6_init_J7_fill_53178 : GoodIn wsX6_init wsJ7_fill_53178 := goodIn_r _ [56] (by decide +kernel) (by decide +kernel)
set_option maxRecDepth 20000 in
theorem gX6_init_J7_fill_53178 : GoodIn wsX6_init (va_wsS RX6 38 yJ7_fill_53178 wsJ7_fill_53178) := goodIn_app (goodIn_of _ (by decide +kernel)) ggX6_init_J7_fill_53178
theorem dX6_init_0 : decode cX6_init 0 = .ok (.aload_n 0, 1) := by decide +kernel
theorem dX6_init_1 : decode cX6_init 1 = .ok (.invokespecial 1, 3) := by decide +kernel
theorem dX6_init_4 : decode cX6_init 4 = .ok (.aload_n 0, 1) := by decide +kernel
theorem dX6_init_5 : decode cX6_init 5 = .ok (.bipush 10, 2) := by decide +kernel
theorem dX6_init_7 : decode cX6_init 7 = .ok (.newarray .int, 2) := by decide +kernel
theorem dX6_init_9 : decode cX6_init 9 = .ok (.putfield 9, 3) := by decide +kernel
theorem dX6_init_12 : decode cX6_init 12 = .ok (.aload_n 0, 1) := by decide +kernel
theorem dX6_init_13 : decode cX6_init 13 = .ok (.bipush 10, 2) := by decide +kernel
theorem dX6_init_15 : decode cX6_init 15 = .ok (.newarray .int, 2) := by decide +kernel
theorem dX6_init_17 : decode cX6_init 17 = .ok (.putfield 13, 3) := by decide +kernel
theorem dX6_init_20 : decode cX6_init 20 = .ok (.aload_n 0, 1) := by decide +kernel
theorem dX6_init_21 : decode cX6_init 21 = .ok (.bipush 10, 2) := by decide +kernel
theorem dX6_init_23 : decode cX6_init 23 = .ok (.newarray .int, 2) := by decide +kernel
theorem dX6_init_25 : decode cX6_init 25 = .ok (.putfield 16, 3) := by decide +kernel
theorem dX6_init_28 : decode cX6_init 28 = .ok (.aload_n 0, 1) := by decide +kernel
theorem dX6_init_29 : decode cX6_init 29 = .ok (.bipush 10, 2) := by decide +kernel
theorem dX6_init_31 : decode cX6_init 31 = .ok (.bipush 10, 2) := by decide +kernel
theorem dX6_init_33 : decode cX6_init 33 = .ok (.multianewarray 19 2, 4) := by decide +kernel
theorem dX6_init_37 : decode cX6_init 37 = .ok (.putfield 21, 3) := by decide +kernel
theorem dX6_init_40 : decode cX6_init 40 = .ok (.aload_n 0, 1) := by decide +kernel
theorem dX6_init_41 : decode cX6_init 41 = .ok (.new 24, 3) := by decide +kernel
theorem dX6_init_44 : decode cX6_init 44 = .ok (.dup, 1) := by decide +kernel
theorem dX6_init_45 : decode cX6_init 45 = .ok (.invokespecial 26, 3) := by decide +kernel
theorem dX6_init_48 : decode cX6_init 48 = .ok (.putfield 27, 3) := by decide +kernel
theorem dX6_init_51 : decode cX6_init 51 = .ok (.aload_n 0, 1) := by decide +kernel
theorem dX6_init_52 : decode cX6_init 52 = .ok (.new 31, 3) := by decide +kernel
theorem dX6_init_55 : decode cX6_init 55 = .ok (.dup, 1) := by decide +kernel
theorem dX6_init_56 : decode cX6_init 56 = .ok (.invokespecial 33, 3) := by decide +kernel
theorem dX6_init_59 : decode cX6_init 59 = .ok (.putfield 34, 3) := by decide +kernel
theorem dX6_init_62 : decode cX6_init 62 = .ok (.aload_n 0, 1) := by decide +kernel
theorem dX6_init_63 : decode cX6_init 63 = .ok (.getfield 16, 3) := by decide +kernel
theorem dX6_init_66 : decode cX6_init 66 = .ok (.iconst (-1), 1) := by decide +kernel
theorem dX6_init_67 : decode cX6_init 67 = .ok (.invokestatic 38, 3) := by decide +kernel
theorem dX6_init_70 : decode cX6_init 70 = .ok (.return_, 1) := by decide +kernel
theorem dX6_thrown_0 : decode cX6_thrown 0 = .ok (.aload_n 0, 1) := by decide +kernel
theorem dX6_thrown_1 : decode cX6_thrown 1 = .ok (.getfield 44, 3) := by decide +kernel
theorem dX6_thrown_4 : decode cX6_thrown 4 = .ok (.ireturn, 1) := by decide +kernel
theorem dX6_no_0 : decode cX6_no 0 = .ok (.aload_n 0, 1) := by decide +kernel
theorem dX6_no_1 : decode cX6_no 1 = .ok (.iload_n 1, 1) := by decide +kernel
theorem dX6_no_2 : decode cX6_no 2 = .ok (.ifCond .eq 7, 3) := by decide +kernel
theorem dX6_no_5 : decode cX6_no 5 = .ok (.iconst 0, 1) := by decide +kernel
theorem dX6_no_6 : decode cX6_no 6 = .ok (.goto 4, 3) := by decide +kernel
theorem dX6_no_9 : decode cX6_no 9 = .ok (.iload_n 2, 1) := by decide +kernel
theorem dX6_no_10 : decode cX6_no 10 = .ok (.putfield 44, 3) := by decide +kernel
theorem dX6_no_13 : decode cX6_no 13 = .ok (.iload_n 1, 1) := by decide +kernel
theorem dX6_no_14 : decode cX6_no 14 = .ok (.ifCond .ne 7, 3) := by decide +kernel
theorem dX6_no_17 : decode cX6_no 17 = .ok (.iconst 1, 1) := by decide +kernel
theorem dX6_no_18 : decode cX6_no 18 = .ok (.goto 4, 3) := by decide +kernel
theorem dX6_no_21 : decode cX6_no 21 = .ok (.iconst 0, 1) := by decide +kernel
theorem dX6_no_22 : decode cX6_no 22 = .ok (.ireturn, 1) := by decide +kernel
theorem dX6_isIn_0 : decode cX6_isIn 0 = .ok (.iload_n 0, 1) := by decide +kernel
theorem dX6_isIn_1 : decode cX6_isIn 1 = .ok (.iload_n 1, 1) := by decide +kernel
theorem dX6_isIn_2 : decode cX6_isIn 2 = .ok (.if_icmp .lt 12, 3) := by decide +kernel
theorem dX6_isIn_5 : decode cX6_isIn 5 = .ok (.iload_n 0, 1) := by decide +kernel
theorem dX6_isIn_6 : decode cX6_isIn 6 = .ok (.iload_n 2, 1) := by decide +kernel
theorem dX6_isIn_7 : decode cX6_isIn 7 = .ok (.if_icmp .gt 7, 3) := by decide +kernel
theorem dX6_isIn_10 : decode cX6_isIn 10 = .ok (.iconst 1, 1) := by decide +kernel
theorem dX6_isIn_11 : decode cX6_isIn 11 = .ok (.goto 4, 3) := by decide +kernel
theorem dX6_isIn_14 : decode cX6_isIn 14 = .ok (.iconst 0, 1) := by decide +kernel
theorem dX6_isIn_15 : decode cX6_isIn 15 = .ok (.ireturn, 1) := by decide +kernel
set_option maxRecDepth 20000 in
theorem ggX6_isWho_X6_isIn : GoodIn wsX6_isWho wsX6_isIn := goodIn_r _ [5] (by decide +kernel) (by decide +kernel)
set_option maxRecDepth 20000 in
theorem gX6_isWho_X6_isIn : GoodIn wsX6_isWho (va_wsS RX6 51 yX6_isIn wsX6_isIn) := goodIn_app (goodIn_of _ (by decide +kernel)) ggX6_isWho_X6_isIn
theorem dX6_isWho_0 : decode cX6_isWho 0 = .ok (.iload_n 1, 1) := by decide +kernel
theorem dX6_isWho_1 : decode cX6_isWho 1 = .ok (.iconst 0, 1) := by decide +kernel
theorem dX6_isWho_2 : decode cX6_isWho 2 = .ok (.aload_n 0, 1) := by decide +kernel
theorem dX6_isWho_3 : decode cX6_isWho 3 = .ok (.getfield 48, 3) := by decide +kernel
theorem dX6_isWho_6 : decode cX6_isWho 6 = .ok (.iconst 1, 1) := by decide +kernel
theorem dX6_isWho_7 : decode cX6_isWho 7 = .ok (.isub, 1) := by decide +kernel
theorem dX6_isWho_8 : decode cX6_isWho 8 = .ok (.invokestatic 51, 3) := by decide +kernel
theorem dX6_isWho_11 : decode cX6_isWho 11 = .ok (.ireturn, 1) := by decide +kernel
set_option maxRecDepth 20000 in
theorem ggX6_isPost_X6_isIn : GoodIn wsX6_isPost wsX6_isIn := goodIn_r _ [5] (by decide +kernel) (by decide +kernel)
set_option maxRecDepth 20000 in
theorem gX6_isPost_X6_isIn : GoodIn wsX6_isPost (va_wsS RX6 51 yX6_isIn wsX6_isIn) := goodIn_app (goodIn_of _ (by decide +kernel)) ggX6_isPost_X6_isIn
theorem dX6_isPost_0 : decode cX6_isPost 0 = .ok (.iload_n 1, 1) := by decide +kernel
theorem dX6_isPost_1 : decode cX6_isPost 1 = .ok (.iconst 0, 1) := by decide +kernel
theorem dX6_isPost_2 : decode cX6_isPost 2 = .ok (.aload_n 0, 1) := by decide +kernel
theorem dX6_isPost_3 : decode cX6_isPost 3 = .ok (.getfield 55, 3) := by decide +kernel
theorem dX6_isPost_6 : decode cX6_isPost 6 = .ok (.iconst 1, 1) := by decide +kernel
theorem dX6_isPost_7 : decode cX6_isPost 7 = .ok (.isub, 1) := by decide +kernel
theorem dX6_isPost_8 : decode cX6_isPost 8 = .ok (.invokestatic 51, 3) := by decide +kernel
theorem dX6_isPost_11 : decode cX6_isPost 11 = .ok (.ireturn, 1) := by decide +kernel
set_option maxRecDepth 20000 in
theorem ggX6_addApplicant_X6_isIn : GoodIn wsX6_addApplicant wsX6_isIn := goodIn_r _ [6] (by decide +kernel) (by decide +kernel)
set_option maxRecDepth 20000 in
theorem gX6_addApplicant_X6_isIn : GoodIn wsX6_addApplicant (va_wsS RX6 51 yX6_isIn wsX6_isIn) := goodIn_app (goodIn_of _ (by decide +kernel)) ggX6_addApplicant_X6_isIn
set_option maxRecDepth 20000 in
theorem ggX6_addApplicant_X6_no : GoodIn wsX6_addApplicant wsX6_no := goodIn_r _ [10, 11, 12, 13, 14, 15, 16, 17, 18, 19, 20] (by decide +kernel) (by decide +kernel)
set_option maxRecDepth 20000 in
theorem gX6_addApplicant_X6_no : GoodIn wsX6_addApplicant (wsV RX6 58 RX6 yX6_no wsX6_no) := goodIn_app (goodIn_of _ (by decide +kernel)) ggX6_addApplicant_X6_no
theorem dX6_addApplicant_0 : decode cX6_addApplicant 0 = .ok (.aload_n 0, 1) := by decide +kernel
theorem dX6_addApplicant_1 : decode cX6_addApplicant 1 = .ok (.iload_n 1, 1) := by decide +kernel
theorem dX6_addApplicant_2 : decode cX6_addApplicant 2 = .ok (.iconst 1, 1) := by decide +kernel
theorem dX6_addApplicant_3 : decode cX6_addApplicant 3 = .ok (.bipush 9, 2) := by decide +kernel
theorem dX6_addApplicant_5 : decode cX6_addApplicant 5 = .ok (.invokestatic 51, 3) := by decide +kernel
theorem dX6_addApplicant_8 : decode cX6_addApplicant 8 = .ok (.iconst 1, 1) := by decide +kernel
theorem dX6_addApplicant_9 : decode cX6_addApplicant 9 = .ok (.invokevirtual 58, 3) := by decide +kernel
theorem dX6_addApplicant_12 : decode cX6_addApplicant 12 = .ok (.ifCond .ne 25, 3) := by decide +kernel
theorem dX6_addApplicant_15 : decode cX6_addApplicant 15 = .ok (.aload_n 0, 1) := by decide +kernel
theorem dX6_addApplicant_16 : decode cX6_addApplicant 16 = .ok (.aload_n 0, 1) := by decide +kernel
theorem dX6_addApplicant_17 : decode cX6_addApplicant 17 = .ok (.getfield 48, 3) := by decide +kernel
theorem dX6_addApplicant_20 : decode cX6_addApplicant 20 = .ok (.bipush 10, 2) := by decide +kernel
theorem dX6_addApplicant_22 : decode cX6_addApplicant 22 = .ok (.if_icmp .ge 7, 3) := by decide +kernel
theorem dX6_addApplicant_25 : decode cX6_addApplicant 25 = .ok (.iconst 1, 1) := by decide +kernel
theorem dX6_addApplicant_26 : decode cX6_addApplicant 26 = .ok (.goto 4, 3) := by decide +kernel
theorem dX6_addApplicant_29 : decode cX6_addApplicant 29 = .ok (.iconst 0, 1) := by decide +kernel
theorem dX6_addApplicant_30 : decode cX6_addApplicant 30 = .ok (.iconst 2, 1) := by decide +kernel
theorem dX6_addApplicant_31 : decode cX6_addApplicant 31 = .ok (.invokevirtual 58, 3) := by decide +kernel
theorem dX6_addApplicant_34 : decode cX6_addApplicant 34 = .ok (.ifCond .eq 5, 3) := by decide +kernel
theorem dX6_addApplicant_37 : decode cX6_addApplicant 37 = .ok (.iconst 0, 1) := by decide +kernel
theorem dX6_addApplicant_38 : decode cX6_addApplicant 38 = .ok (.ireturn, 1) := by decide +kernel
theorem dX6_addApplicant_39 : decode cX6_addApplicant 39 = .ok (.aload_n 0, 1) := by decide +kernel
theorem dX6_addApplicant_40 : decode cX6_addApplicant 40 = .ok (.getfield 9, 3) := by decide +kernel
theorem dX6_addApplicant_43 : decode cX6_addApplicant 43 = .ok (.aload_n 0, 1) := by decide +kernel
theorem dX6_addApplicant_44 : decode cX6_addApplicant 44 = .ok (.getfield 48, 3) := by decide +kernel
theorem dX6_addApplicant_47 : decode cX6_addApplicant 47 = .ok (.iload_n 1, 1) := by decide +kernel
theorem dX6_addApplicant_48 : decode cX6_addApplicant 48 = .ok (.iastore, 1) := by decide +kernel
theorem dX6_addApplicant_49 : decode cX6_addApplicant 49 = .ok (.aload_n 0, 1) := by decide +kernel
theorem dX6_addApplicant_50 : decode cX6_addApplicant 50 = .ok (.dup, 1) := by decide +kernel
theorem dX6_addApplicant_51 : decode cX6_addApplicant 51 = .ok (.getfield 48, 3) := by decide +kernel
theorem dX6_addApplicant_54 : decode cX6_addApplicant 54 = .ok (.iconst 1, 1) := by decide +kernel
theorem dX6_addApplicant_55 : decode cX6_addApplicant 55 = .ok (.iadd, 1) := by decide +kernel
theorem dX6_addApplicant_56 : decode cX6_addApplicant 56 = .ok (.putfield 48, 3) := by decide +kernel
theorem dX6_addApplicant_59 : decode cX6_addApplicant 59 = .ok (.aload_n 0, 1) := by decide +kernel
theorem dX6_addApplicant_60 : decode cX6_addApplicant 60 = .ok (.getfield 48, 3) := by decide +kernel
theorem dX6_addApplicant_63 : decode cX6_addApplicant 63 = .ok (.iconst 1, 1) := by decide +kernel
theorem dX6_addApplicant_64 : decode cX6_addApplicant 64 = .ok (.isub, 1) := by decide +kernel
theorem dX6_addApplicant_65 : decode cX6_addApplicant 65 = .ok (.ireturn, 1) := by decide +kernel
set_option maxRecDepth 20000 in
theorem ggX6_addPost_X6_isIn : GoodIn wsX6_addPost wsX6_isIn := goodIn_r _ [6] (by decide +kernel) (by decide +kernel)
set_option maxRecDepth 20000 in
theorem gX6_addPost_X6_isIn : GoodIn wsX6_addPost (va_wsS RX6 51 yX6_isIn wsX6_isIn) := goodIn_app (goodIn_of _ (by decide +kernel)) ggX6_addPost_X6_isIn
set_option maxRecDepth 20000 in
theorem ggX6_addPost_X6_no : GoodIn wsX6_addPost wsX6_no := goodIn_r _ [10, 11, 12, 13, 14, 15, 16, 17, 18, 19, 20] (by decide +kernel) (by decide +kernel)
set_option maxRecDepth 20000 in
theorem gX6_addPost_X6_no : GoodIn wsX6_addPost (wsV RX6 58 RX6 yX6_no wsX6_no) := goodIn_app (goodIn_of _ (by decide +kernel)) ggX6_addPost_X6_no
theorem dX6_addPost_0 : decode cX6_addPost 0 = .ok (.aload_n 0, 1) := by decide +kernel
theorem dX6_addPost_1 : decode cX6_addPost 1 = .ok (.iload_n 1, 1) := by decide +kernel
theorem dX6_addPost_2 : decode cX6_addPost 2 = .ok (.iconst 1, 1) := by decide +kernel
theorem dX6_addPost_3 : decode cX6_addPost 3 = .ok (.iconst 4, 1) := by decide +kernel
theorem dX6_addPost_4 : decode cX6_addPost 4 = .ok (.invokestatic 51, 3) := by decide +kernel
theorem dX6_addPost_7 : decode cX6_addPost 7 = .ok (.iconst 1, 1) := by decide +kernel
theorem dX6_addPost_8 : decode cX6_addPost 8 = .ok (.invokevirtual 58, 3) := by decide +kernel
theorem dX6_addPost_11 : decode cX6_addPost 11 = .ok (.ifCond .ne 25, 3) := by decide +kernel
theorem dX6_addPost_14 : decode cX6_addPost 14 = .ok (.aload_n 0, 1) := by decide +kernel
theorem dX6_addPost_15 : decode cX6_addPost 15 = .ok (.aload_n 0, 1) := by decide +kernel
theorem dX6_addPost_16 : decode cX6_addPost 16 = .ok (.getfield 55, 3) := by decide +kernel
theorem dX6_addPost_19 : decode cX6_addPost 19 = .ok (.bipush 10, 2) := by decide +kernel
theorem dX6_addPost_21 : decode cX6_addPost 21 = .ok (.if_icmp .ge 7, 3) := by decide +kernel
theorem dX6_addPost_24 : decode cX6_addPost 24 = .ok (.iconst 1, 1) := by decide +kernel
theorem dX6_addPost_25 : decode cX6_addPost 25 = .ok (.goto 4, 3) := by decide +kernel
theorem dX6_addPost_28 : decode cX6_addPost 28 = .ok (.iconst 0, 1) := by decide +kernel
theorem dX6_addPost_29 : decode cX6_addPost 29 = .ok (.iconst 2, 1) := by decide +kernel
theorem dX6_addPost_30 : decode cX6_addPost 30 = .ok (.invokevirtual 58, 3) := by decide +kernel
theorem dX6_addPost_33 : decode cX6_addPost 33 = .ok (.ifCond .eq 5, 3) := by decide +kernel
theorem dX6_addPost_36 : decode cX6_addPost 36 = .ok (.iconst 0, 1) := by decide +kernel
theorem dX6_addPost_37 : decode cX6_addPost 37 = .ok (.ireturn, 1) := by decide +kernel
theorem dX6_addPost_38 : decode cX6_addPost 38 = .ok (.aload_n 0, 1) := by decide +kernel
theorem dX6_addPost_39 : decode cX6_addPost 39 = .ok (.getfield 13, 3) := by decide +kernel
theorem dX6_addPost_42 : decode cX6_addPost 42 = .ok (.aload_n 0, 1) := by decide +kernel
theorem dX6_addPost_43 : decode cX6_addPost 43 = .ok (.getfield 55, 3) := by decide +kernel
theorem dX6_addPost_46 : decode cX6_addPost 46 = .ok (.iload_n 1, 1) := by decide +kernel
theorem dX6_addPost_47 : decode cX6_addPost 47 = .ok (.iastore, 1) := by decide +kernel
theorem dX6_addPost_48 : decode cX6_addPost 48 = .ok (.aload_n 0, 1) := by decide +kernel
theorem dX6_addPost_49 : decode cX6_addPost 49 = .ok (.dup, 1) := by decide +kernel
theorem dX6_addPost_50 : decode cX6_addPost 50 = .ok (.getfield 55, 3) := by decide +kernel
theorem dX6_addPost_53 : decode cX6_addPost 53 = .ok (.iconst 1, 1) := by decide +kernel
theorem dX6_addPost_54 : decode cX6_addPost 54 = .ok (.iadd, 1) := by decide +kernel
theorem dX6_addPost_55 : decode cX6_addPost 55 = .ok (.putfield 55, 3) := by decide +kernel
theorem dX6_addPost_58 : decode cX6_addPost 58 = .ok (.aload_n 0, 1) := by decide +kernel
theorem dX6_addPost_59 : decode cX6_addPost 59 = .ok (.getfield 55, 3) := by decide +kernel
theorem dX6_addPost_62 : decode cX6_addPost 62 = .ok (.iconst 1, 1) := by decide +kernel
theorem dX6_addPost_63 : decode cX6_addPost 63 = .ok (.isub, 1) := by decide +kernel
theorem dX6_addPost_64 : decode cX6_addPost 64 = .ok (.ireturn, 1) := by decide +kernel
set_option maxRecDepth 20000 in
theorem ggX6_setWeight_X6_isWho : GoodIn wsX6_setWeight wsX6_isWho := goodIn_r _ [6, 7, 8, 9, 5, 10, 16, 17, 18, 19, 20, 21, 22, 23, 24] (by decide +kernel) (by decide +kernel)
set_option maxRecDepth 20000 in
theorem gX6_setWeight_X6_isWho : GoodIn wsX6_setWeight (wsV RX6 62 RX6 yX6_isWho wsX6_isWho) := goodIn_app (goodIn_of _ (by decide +kernel)) ggX6_setWeight_X6_isWho
set_option maxRecDepth 20000 in
theorem ggX6_setWeight_X6_no : GoodIn wsX6_setWeight wsX6_no := goodIn_r _ [14, 15, 16, 17, 18, 19, 20, 21, 22, 23, 24] (by decide +kernel) (by decide +kernel)
set_option maxRecDepth 20000 in
theorem gX6_setWeight_X6_no : GoodIn wsX6_setWeight (wsV RX6 58 RX6 yX6_no wsX6_no) := goodIn_app (goodIn_of _ (by decide +kernel)) ggX6_setWeight_X6_no
set_option maxRecDepth 20000 in
theorem ggX6_setWeight_X6_isIn : GoodIn wsX6_setWeight wsX6_isIn := goodIn_r _ [10] (by decide +kernel) (by decide +kernel)
set_option maxRecDepth 20000 in
theorem gX6_setWeight_X6_isIn : GoodIn wsX6_setWeight (va_wsS RX6 51 yX6_isIn wsX6_isIn) := goodIn_app (goodIn_of _ (by decide +kernel)) ggX6_setWeight_X6_isIn
theorem dX6_setWeight_0 : decode cX6_setWeight 0 = .ok (.aload_n 0, 1) := by decide +kernel
theorem dX6_setWeight_1 : decode cX6_setWeight 1 = .ok (.aload_n 0, 1) := by decide +kernel
theorem dX6_setWeight_2 : decode cX6_setWeight 2 = .ok (.iload_n 1, 1) := by decide +kernel
theorem dX6_setWeight_3 : decode cX6_setWeight 3 = .ok (.invokevirtual 62, 3) := by decide +kernel
theorem dX6_setWeight_6 : decode cX6_setWeight 6 = .ok (.iconst 1, 1) := by decide +kernel
theorem dX6_setWeight_7 : decode cX6_setWeight 7 = .ok (.invokevirtual 58, 3) := by decide +kernel
theorem dX6_setWeight_10 : decode cX6_setWeight 10 = .ok (.ifCond .ne 18, 3) := by decide +kernel
theorem dX6_setWeight_13 : decode cX6_setWeight 13 = .ok (.aload_n 0, 1) := by decide +kernel
theorem dX6_setWeight_14 : decode cX6_setWeight 14 = .ok (.iload_n 2, 1) := by decide +kernel
theorem dX6_setWeight_15 : decode cX6_setWeight 15 = .ok (.iconst 1, 1) := by decide +kernel
theorem dX6_setWeight_16 : decode cX6_setWeight 16 = .ok (.bipush 9, 2) := by decide +kernel
theorem dX6_setWeight_18 : decode cX6_setWeight 18 = .ok (.invokestatic 51, 3) := by decide +kernel
theorem dX6_setWeight_21 : decode cX6_setWeight 21 = .ok (.iconst 2, 1) := by decide +kernel
theorem dX6_setWeight_22 : decode cX6_setWeight 22 = .ok (.invokevirtual 58, 3) := by decide +kernel
theorem dX6_setWeight_25 : decode cX6_setWeight 25 = .ok (.ifCond .eq 5, 3) := by decide +kernel
theorem dX6_setWeight_28 : decode cX6_setWeight 28 = .ok (.iconst 0, 1) := by decide +kernel
theorem dX6_setWeight_29 : decode cX6_setWeight 29 = .ok (.ireturn, 1) := by decide +kernel
theorem dX6_setWeight_30 : decode cX6_setWeight 30 = .ok (.aload_n 0, 1) := by decide +kernel
theorem dX6_setWeight_31 : decode cX6_setWeight 31 = .ok (.getfield 9, 3) := by decide +kernel
theorem dX6_setWeight_34 : decode cX6_setWeight 34 = .ok (.iload_n 1, 1) := by decide +kernel
theorem dX6_setWeight_35 : decode cX6_setWeight 35 = .ok (.iaload, 1) := by decide +kernel
theorem dX6_setWeight_36 : decode cX6_setWeight 36 = .ok (.istore_n 3, 1) := by decide +kernel
theorem dX6_setWeight_37 : decode cX6_setWeight 37 = .ok (.aload_n 0, 1) := by decide +kernel
theorem dX6_setWeight_38 : decode cX6_setWeight 38 = .ok (.getfield 9, 3) := by decide +kernel
theorem dX6_setWeight_41 : decode cX6_setWeight 41 = .ok (.iload_n 1, 1) := by decide +kernel
theorem dX6_setWeight_42 : decode cX6_setWeight 42 = .ok (.iload_n 2, 1) := by decide +kernel
theorem dX6_setWeight_43 : decode cX6_setWeight 43 = .ok (.iastore, 1) := by decide +kernel
theorem dX6_setWeight_44 : decode cX6_setWeight 44 = .ok (.iload_n 3, 1) := by decide +kernel
theorem dX6_setWeight_45 : decode cX6_setWeight 45 = .ok (.ireturn, 1) := by decide +kernel
theorem dX6_having_0 : decode cX6_having 0 = .ok (.iconst 0, 1) := by decide +kernel
theorem dX6_having_1 : decode cX6_having 1 = .ok (.istore_n 3, 1) := by decide +kernel
theorem dX6_having_2 : decode cX6_having 2 = .ok (.iconst 0, 1) := by decide +kernel
theorem dX6_having_3 : decode cX6_having 3 = .ok (.istore 4, 2) := by decide +kernel
theorem dX6_having_5 : decode cX6_having 5 = .ok (.iload 4, 2) := by decide +kernel
theorem dX6_having_7 : decode cX6_having 7 = .ok (.aload_n 0, 1) := by decide +kernel
theorem dX6_having_8 : decode cX6_having 8 = .ok (.getfield 48, 3) := by decide +kernel
theorem dX6_having_11 : decode cX6_having 11 = .ok (.if_icmp .ge 25, 3) := by decide +kernel
theorem dX6_having_14 : decode cX6_having 14 = .ok (.iload_n 3, 1) := by decide +kernel
theorem dX6_having_15 : decode cX6_having 15 = .ok (.aload_n 2, 1) := by decide +kernel
theorem dX6_having_16 : decode cX6_having 16 = .ok (.iload 4, 2) := by decide +kernel
theorem dX6_having_18 : decode cX6_having 18 = .ok (.iaload, 1) := by decide +kernel
theorem dX6_having_19 : decode cX6_having 19 = .ok (.iload_n 1, 1) := by decide +kernel
theorem dX6_having_20 : decode cX6_having 20 = .ok (.if_icmp .ne 7, 3) := by decide +kernel
theorem dX6_having_23 : decode cX6_having 23 = .ok (.iconst 1, 1) := by decide +kernel
theorem dX6_having_24 : decode cX6_having 24 = .ok (.goto 4, 3) := by decide +kernel
theorem dX6_having_27 : decode cX6_having 27 = .ok (.iconst 0, 1) := by decide +kernel
theorem dX6_having_28 : decode cX6_having 28 = .ok (.iadd, 1) := by decide +kernel
theorem dX6_having_29 : decode cX6_having 29 = .ok (.istore_n 3, 1) := by decide +kernel
theorem dX6_having_30 : decode cX6_having 30 = .ok (.iinc 4 1, 3) := by decide +kernel
theorem dX6_having_33 : decode cX6_having 33 = .ok (.goto (-28), 3) := by decide +kernel
theorem dX6_having_36 : decode cX6_having 36 = .ok (.iload_n 3, 1) := by decide +kernel
theorem dX6_having_37 : decode cX6_having 37 = .ok (.ireturn, 1) := by decide +kernel
set_option maxRecDepth 20000 in
theorem ggX6_setPlaces_X6_isPost : GoodIn wsX6_setPlaces wsX6_isPost := goodIn_r _ [7, 8, 9, 10, 6, 11, 22, 23, 24, 25, 26, 27, 28, 29, 30] (by decide +kernel) (by decide +kernel)
set_option maxRecDepth 20000 in
theorem gX6_setPlaces_X6_isPost : GoodIn wsX6_setPlaces (wsV RX6 66 RX6 yX6_isPost wsX6_isPost) := goodIn_app (goodIn_of _ (by decide +kernel)) ggX6_setPlaces_X6_isPost
set_option maxRecDepth 20000 in
theorem ggX6_setPlaces_X6_no : GoodIn wsX6_setPlaces wsX6_no := goodIn_r _ [15, 16, 22, 23, 24, 25, 26, 27, 28, 29, 30] (by decide +kernel) (by decide +kernel)
set_option maxRecDepth 20000 in
theorem gX6_setPlaces_X6_no : GoodIn wsX6_setPlaces (wsV RX6 58 RX6 yX6_no wsX6_no) := goodIn_app (goodIn_of _ (by decide +kernel)) ggX6_setPlaces_X6_no
set_option maxRecDepth 20000 in
theorem ggX6_setPlaces_X6_isIn : GoodIn wsX6_setPlaces wsX6_isIn := goodIn_r _ [11] (by decide +kernel) (by decide +kernel)
set_option maxRecDepth 20000 in
theorem gX6_setPlaces_X6_isIn : GoodIn wsX6_setPlaces (va_wsS RX6 51 yX6_isIn wsX6_isIn) := goodIn_app (goodIn_of _ (by decide +kernel)) ggX6_setPlaces_X6_isIn
set_option maxRecDepth 20000 in
theorem ggX6_setPlaces_X6_having : GoodIn wsX6_setPlaces wsX6_having := goodIn_ca (goodIn_r _ [20, 21, 22, 23, 24, 25, 26, 27, 28, 29, 30] (by decide +kernel) (by decide +kernel)) (goodIn_sub (fun _ h => List.mem_cons_of_mem _ (List.mem_append_right _ h)) (by decide +kernel))
set_option maxRecDepth 20000 in
theorem gX6_setPlaces_X6_having : GoodIn wsX6_setPlaces (wsV RX6 69 RX6 yX6_having wsX6_having) := goodIn_app (goodIn_of _ (by decide +kernel)) ggX6_setPlaces_X6_having
theorem dX6_setPlaces_0 : decode cX6_setPlaces 0 = .ok (.aload_n 0, 1) := by decide +kernel
theorem dX6_setPlaces_1 : decode cX6_setPlaces 1 = .ok (.aload_n 0, 1) := by decide +kernel
theorem dX6_setPlaces_2 : decode cX6_setPlaces 2 = .ok (.iload_n 1, 1) := by decide +kernel
theorem dX6_setPlaces_3 : decode cX6_setPlaces 3 = .ok (.invokevirtual 66, 3) := by decide +kernel
theorem dX6_setPlaces_6 : decode cX6_setPlaces 6 = .ok (.iconst 1, 1) := by decide +kernel
theorem dX6_setPlaces_7 : decode cX6_setPlaces 7 = .ok (.invokevirtual 58, 3) := by decide +kernel
theorem dX6_setPlaces_10 : decode cX6_setPlaces 10 = .ok (.ifCond .ne 43, 3) := by decide +kernel
theorem dX6_setPlaces_13 : decode cX6_setPlaces 13 = .ok (.aload_n 0, 1) := by decide +kernel
theorem dX6_setPlaces_14 : decode cX6_setPlaces 14 = .ok (.iload_n 2, 1) := by decide +kernel
theorem dX6_setPlaces_15 : decode cX6_setPlaces 15 = .ok (.iconst 1, 1) := by decide +kernel
theorem dX6_setPlaces_16 : decode cX6_setPlaces 16 = .ok (.iconst 4, 1) := by decide +kernel
theorem dX6_setPlaces_17 : decode cX6_setPlaces 17 = .ok (.invokestatic 51, 3) := by decide +kernel
theorem dX6_setPlaces_20 : decode cX6_setPlaces 20 = .ok (.iconst 2, 1) := by decide +kernel
theorem dX6_setPlaces_21 : decode cX6_setPlaces 21 = .ok (.invokevirtual 58, 3) := by decide +kernel
theorem dX6_setPlaces_24 : decode cX6_setPlaces 24 = .ok (.ifCond .ne 29, 3) := by decide +kernel
theorem dX6_setPlaces_27 : decode cX6_setPlaces 27 = .ok (.aload_n 0, 1) := by decide +kernel
theorem dX6_setPlaces_28 : decode cX6_setPlaces 28 = .ok (.aload_n 0, 1) := by decide +kernel
theorem dX6_setPlaces_29 : decode cX6_setPlaces 29 = .ok (.iload_n 1, 1) := by decide +kernel
theorem dX6_setPlaces_30 : decode cX6_setPlaces 30 = .ok (.aload_n 0, 1) := by decide +kernel
theorem dX6_setPlaces_31 : decode cX6_setPlaces 31 = .ok (.getfield 16, 3) := by decide +kernel
theorem dX6_setPlaces_34 : decode cX6_setPlaces 34 = .ok (.invokevirtual 69, 3) := by decide +kernel
theorem dX6_setPlaces_37 : decode cX6_setPlaces 37 = .ok (.iload_n 2, 1) := by decide +kernel
theorem dX6_setPlaces_38 : decode cX6_setPlaces 38 = .ok (.if_icmp .gt 7, 3) := by decide +kernel
theorem dX6_setPlaces_41 : decode cX6_setPlaces 41 = .ok (.iconst 1, 1) := by decide +kernel
theorem dX6_setPlaces_42 : decode cX6_setPlaces 42 = .ok (.goto 4, 3) := by decide +kernel
theorem dX6_setPlaces_45 : decode cX6_setPlaces 45 = .ok (.iconst 0, 1) := by decide +kernel
theorem dX6_setPlaces_46 : decode cX6_setPlaces 46 = .ok (.iconst 3, 1) := by decide +kernel
theorem dX6_setPlaces_47 : decode cX6_setPlaces 47 = .ok (.invokevirtual 58, 3) := by decide +kernel
theorem dX6_setPlaces_50 : decode cX6_setPlaces 50 = .ok (.ifCond .eq 5, 3) := by decide +kernel
theorem dX6_setPlaces_53 : decode cX6_setPlaces 53 = .ok (.iconst 0, 1) := by decide +kernel
theorem dX6_setPlaces_54 : decode cX6_setPlaces 54 = .ok (.ireturn, 1) := by decide +kernel
theorem dX6_setPlaces_55 : decode cX6_setPlaces 55 = .ok (.aload_n 0, 1) := by decide +kernel
theorem dX6_setPlaces_56 : decode cX6_setPlaces 56 = .ok (.getfield 13, 3) := by decide +kernel
theorem dX6_setPlaces_59 : decode cX6_setPlaces 59 = .ok (.iload_n 1, 1) := by decide +kernel
theorem dX6_setPlaces_60 : decode cX6_setPlaces 60 = .ok (.iaload, 1) := by decide +kernel
theorem dX6_setPlaces_61 : decode cX6_setPlaces 61 = .ok (.istore_n 3, 1) := by decide +kernel
theorem dX6_setPlaces_62 : decode cX6_setPlaces 62 = .ok (.aload_n 0, 1) := by decide +kernel
theorem dX6_setPlaces_63 : decode cX6_setPlaces 63 = .ok (.getfield 13, 3) := by decide +kernel
theorem dX6_setPlaces_66 : decode cX6_setPlaces 66 = .ok (.iload_n 1, 1) := by decide +kernel
theorem dX6_setPlaces_67 : decode cX6_setPlaces 67 = .ok (.iload_n 2, 1) := by decide +kernel
theorem dX6_setPlaces_68 : decode cX6_setPlaces 68 = .ok (.iastore, 1) := by decide +kernel
theorem dX6_setPlaces_69 : decode cX6_setPlaces 69 = .ok (.iload_n 3, 1) := by decide +kernel
theorem dX6_setPlaces_70 : decode cX6_setPlaces 70 = .ok (.ireturn, 1) := by decide +kernel
theorem dX6_settle_0 : decode cX6_settle 0 = .ok (.aload_n 0, 1) := by decide +kernel
theorem dX6_settle_1 : decode cX6_settle 1 = .ok (.getfield 16, 3) := by decide +kernel
theorem dX6_settle_4 : decode cX6_settle 4 = .ok (.iload_n 1, 1) := by decide +kernel
theorem dX6_settle_5 : decode cX6_settle 5 = .ok (.iaload, 1) := by decide +kernel
theorem dX6_settle_6 : decode cX6_settle 6 = .ok (.ifCond .lt 26, 3) := by decide +kernel
theorem dX6_settle_9 : decode cX6_settle 9 = .ok (.aload_n 0, 1) := by decide +kernel
theorem dX6_settle_10 : decode cX6_settle 10 = .ok (.getfield 21, 3) := by decide +kernel
theorem dX6_settle_13 : decode cX6_settle 13 = .ok (.iload_n 1, 1) := by decide +kernel
theorem dX6_settle_14 : decode cX6_settle 14 = .ok (.aaload, 1) := by decide +kernel
theorem dX6_settle_15 : decode cX6_settle 15 = .ok (.aload_n 0, 1) := by decide +kernel
theorem dX6_settle_16 : decode cX6_settle 16 = .ok (.getfield 16, 3) := by decide +kernel
theorem dX6_settle_19 : decode cX6_settle 19 = .ok (.iload_n 1, 1) := by decide +kernel
theorem dX6_settle_20 : decode cX6_settle 20 = .ok (.iaload, 1) := by decide +kernel
theorem dX6_settle_21 : decode cX6_settle 21 = .ok (.iaload, 1) := by decide +kernel
theorem dX6_settle_22 : decode cX6_settle 22 = .ok (.ifCond .ne 10, 3) := by decide +kernel
theorem dX6_settle_25 : decode cX6_settle 25 = .ok (.aload_n 0, 1) := by decide +kernel
theorem dX6_settle_26 : decode cX6_settle 26 = .ok (.getfield 16, 3) := by decide +kernel
theorem dX6_settle_29 : decode cX6_settle 29 = .ok (.iload_n 1, 1) := by decide +kernel
theorem dX6_settle_30 : decode cX6_settle 30 = .ok (.iconst (-1), 1) := by decide +kernel
theorem dX6_settle_31 : decode cX6_settle 31 = .ok (.iastore, 1) := by decide +kernel
theorem dX6_settle_32 : decode cX6_settle 32 = .ok (.return_, 1) := by decide +kernel
set_option maxRecDepth 20000 in
theorem ggX6_setRank_X6_isWho : GoodIn wsX6_setRank wsX6_isWho := goodIn_r _ [6, 7, 8, 9, 5, 10, 26, 27, 28, 29, 30, 31, 32, 33, 34] (by decide +kernel) (by decide +kernel)
set_option maxRecDepth 20000 in
theorem gX6_setRank_X6_isWho : GoodIn wsX6_setRank (wsV RX6 62 RX6 yX6_isWho wsX6_isWho) := goodIn_app (goodIn_of _ (by decide +kernel)) ggX6_setRank_X6_isWho
set_option maxRecDepth 20000 in
theorem ggX6_setRank_X6_isPost : GoodIn wsX6_setRank wsX6_isPost := goodIn_r _ [14, 15, 8, 9, 5, 10, 26, 27, 28, 29, 30, 31, 32, 33, 34] (by decide +kernel) (by decide +kernel)
set_option maxRecDepth 20000 in
theorem gX6_setRank_X6_isPost : GoodIn wsX6_setRank (wsV RX6 66 RX6 yX6_isPost wsX6_isPost) := goodIn_app (goodIn_of _ (by decide +kernel)) ggX6_setRank_X6_isPost
set_option maxRecDepth 20000 in
theorem ggX6_setRank_X6_no : GoodIn wsX6_setRank wsX6_no := goodIn_r _ [19, 20, 26, 27, 28, 29, 30, 31, 32, 33, 34] (by decide +kernel) (by decide +kernel)
set_option maxRecDepth 20000 in
theorem gX6_setRank_X6_no : GoodIn wsX6_setRank (wsV RX6 58 RX6 yX6_no wsX6_no) := goodIn_app (goodIn_of _ (by decide +kernel)) ggX6_setRank_X6_no
set_option maxRecDepth 20000 in
theorem ggX6_setRank_X6_isIn : GoodIn wsX6_setRank wsX6_isIn := goodIn_r _ [10] (by decide +kernel) (by decide +kernel)
set_option maxRecDepth 20000 in
theorem gX6_setRank_X6_isIn : GoodIn wsX6_setRank (va_wsS RX6 51 yX6_isIn wsX6_isIn) := goodIn_app (goodIn_of _ (by decide +kernel)) ggX6_setRank_X6_isIn
set_option maxRecDepth 20000 in
theorem ggX6_setRank_X6_settle : GoodIn wsX6_setRank wsX6_settle := goodIn_ca (goodIn_r _ [24, 25, 1, 26, 27, 28, 29, 30, 31, 32, 33, 34] (by decide +kernel) (by decide +kernel)) (goodIn_sub (fun _ h => List.mem_cons_of_mem _ (List.mem_append_right _ h)) (by decide +kernel))
set_option maxRecDepth 20000 in
theorem gX6_setRank_X6_settle : GoodIn wsX6_setRank (wsV RX6 73 RX6 yX6_settle wsX6_settle) := goodIn_app (goodIn_of _ (by decide +kernel)) ggX6_setRank_X6_settle
theorem dX6_setRank_0 : decode cX6_setRank 0 = .ok (.aload_n 0, 1) := by decide +kernel
theorem dX6_setRank_1 : decode cX6_setRank 1 = .ok (.aload_n 0, 1) := by decide +kernel
theorem dX6_setRank_2 : decode cX6_setRank 2 = .ok (.iload_n 1, 1) := by decide +kernel
theorem dX6_setRank_3 : decode cX6_setRank 3 = .ok (.invokevirtual 62, 3) := by decide +kernel
theorem dX6_setRank_6 : decode cX6_setRank 6 = .ok (.ifCond .eq 15, 3) := by decide +kernel
theorem dX6_setRank_9 : decode cX6_setRank 9 = .ok (.aload_n 0, 1) := by decide +kernel
theorem dX6_setRank_10 : decode cX6_setRank 10 = .ok (.iload_n 2, 1) := by decide +kernel
theorem dX6_setRank_11 : decode cX6_setRank 11 = .ok (.invokevirtual 66, 3) := by decide +kernel
theorem dX6_setRank_14 : decode cX6_setRank 14 = .ok (.ifCond .eq 7, 3) := by decide +kernel
theorem dX6_setRank_17 : decode cX6_setRank 17 = .ok (.iconst 1, 1) := by decide +kernel
theorem dX6_setRank_18 : decode cX6_setRank 18 = .ok (.goto 4, 3) := by decide +kernel
theorem dX6_setRank_21 : decode cX6_setRank 21 = .ok (.iconst 0, 1) := by decide +kernel
theorem dX6_setRank_22 : decode cX6_setRank 22 = .ok (.iconst 1, 1) := by decide +kernel
theorem dX6_setRank_23 : decode cX6_setRank 23 = .ok (.invokevirtual 58, 3) := by decide +kernel
theorem dX6_setRank_26 : decode cX6_setRank 26 = .ok (.ifCond .ne 18, 3) := by decide +kernel
theorem dX6_setRank_29 : decode cX6_setRank 29 = .ok (.aload_n 0, 1) := by decide +kernel
theorem dX6_setRank_30 : decode cX6_setRank 30 = .ok (.iload_n 3, 1) := by decide +kernel
theorem dX6_setRank_31 : decode cX6_setRank 31 = .ok (.iconst 0, 1) := by decide +kernel
theorem dX6_setRank_32 : decode cX6_setRank 32 = .ok (.bipush 9, 2) := by decide +kernel
theorem dX6_setRank_34 : decode cX6_setRank 34 = .ok (.invokestatic 51, 3) := by decide +kernel
theorem dX6_setRank_37 : decode cX6_setRank 37 = .ok (.iconst 2, 1) := by decide +kernel
theorem dX6_setRank_38 : decode cX6_setRank 38 = .ok (.invokevirtual 58, 3) := by decide +kernel
theorem dX6_setRank_41 : decode cX6_setRank 41 = .ok (.ifCond .eq 5, 3) := by decide +kernel
theorem dX6_setRank_44 : decode cX6_setRank 44 = .ok (.iconst 0, 1) := by decide +kernel
theorem dX6_setRank_45 : decode cX6_setRank 45 = .ok (.ireturn, 1) := by decide +kernel
theorem dX6_setRank_46 : decode cX6_setRank 46 = .ok (.aload_n 0, 1) := by decide +kernel
theorem dX6_setRank_47 : decode cX6_setRank 47 = .ok (.getfield 21, 3) := by decide +kernel
theorem dX6_setRank_50 : decode cX6_setRank 50 = .ok (.iload_n 1, 1) := by decide +kernel
theorem dX6_setRank_51 : decode cX6_setRank 51 = .ok (.aaload, 1) := by decide +kernel
theorem dX6_setRank_52 : decode cX6_setRank 52 = .ok (.iload_n 2, 1) := by decide +kernel
theorem dX6_setRank_53 : decode cX6_setRank 53 = .ok (.iaload, 1) := by decide +kernel
theorem dX6_setRank_54 : decode cX6_setRank 54 = .ok (.istore 4, 2) := by decide +kernel
theorem dX6_setRank_56 : decode cX6_setRank 56 = .ok (.aload_n 0, 1) := by decide +kernel
theorem dX6_setRank_57 : decode cX6_setRank 57 = .ok (.getfield 21, 3) := by decide +kernel
theorem dX6_setRank_60 : decode cX6_setRank 60 = .ok (.iload_n 1, 1) := by decide +kernel
theorem dX6_setRank_61 : decode cX6_setRank 61 = .ok (.aaload, 1) := by decide +kernel
theorem dX6_setRank_62 : decode cX6_setRank 62 = .ok (.iload_n 2, 1) := by decide +kernel
theorem dX6_setRank_63 : decode cX6_setRank 63 = .ok (.iload_n 3, 1) := by decide +kernel
theorem dX6_setRank_64 : decode cX6_setRank 64 = .ok (.iastore, 1) := by decide +kernel
theorem dX6_setRank_65 : decode cX6_setRank 65 = .ok (.aload_n 0, 1) := by decide +kernel
theorem dX6_setRank_66 : decode cX6_setRank 66 = .ok (.iload_n 1, 1) := by decide +kernel
theorem dX6_setRank_67 : decode cX6_setRank 67 = .ok (.invokevirtual 73, 3) := by decide +kernel
theorem dX6_setRank_70 : decode cX6_setRank 70 = .ok (.iload 4, 2) := by decide +kernel
theorem dX6_setRank_72 : decode cX6_setRank 72 = .ok (.ireturn, 1) := by decide +kernel
set_option maxRecDepth 20000 in
theorem ggX6_rankOf_X6_isWho : GoodIn wsX6_rankOf wsX6_isWho := goodIn_r _ [6, 7, 8, 9, 5, 10, 21, 22, 23, 24, 25, 26, 27, 28, 29] (by decide +kernel) (by decide +kernel)
set_option maxRecDepth 20000 in
theorem gX6_rankOf_X6_isWho : GoodIn wsX6_rankOf (wsV RX6 62 RX6 yX6_isWho wsX6_isWho) := goodIn_app (goodIn_of _ (by decide +kernel)) ggX6_rankOf_X6_isWho
set_option maxRecDepth 20000 in
theorem ggX6_rankOf_X6_isPost : GoodIn wsX6_rankOf wsX6_isPost := goodIn_r _ [14, 15, 8, 9, 5, 10, 21, 22, 23, 24, 25, 26, 27, 28, 29] (by decide +kernel) (by decide +kernel)
set_option maxRecDepth 20000 in
theorem gX6_rankOf_X6_isPost : GoodIn wsX6_rankOf (wsV RX6 66 RX6 yX6_isPost wsX6_isPost) := goodIn_app (goodIn_of _ (by decide +kernel)) ggX6_rankOf_X6_isPost
set_option maxRecDepth 20000 in
theorem ggX6_rankOf_X6_no : GoodIn wsX6_rankOf wsX6_no := goodIn_r _ [19, 20, 21, 22, 23, 24, 25, 26, 27, 28, 29] (by decide +kernel) (by decide +kernel)
set_option maxRecDepth 20000 in
theorem gX6_rankOf_X6_no : GoodIn wsX6_rankOf (wsV RX6 58 RX6 yX6_no wsX6_no) := goodIn_app (goodIn_of _ (by decide +kernel)) ggX6_rankOf_X6_no
theorem dX6_rankOf_0 : decode cX6_rankOf 0 = .ok (.aload_n 0, 1) := by decide +kernel
theorem dX6_rankOf_1 : decode cX6_rankOf 1 = .ok (.aload_n 0, 1) := by decide +kernel
theorem dX6_rankOf_2 : decode cX6_rankOf 2 = .ok (.iload_n 1, 1) := by decide +kernel
theorem dX6_rankOf_3 : decode cX6_rankOf 3 = .ok (.invokevirtual 62, 3) := by decide +kernel
theorem dX6_rankOf_6 : decode cX6_rankOf 6 = .ok (.ifCond .eq 15, 3) := by decide +kernel
theorem dX6_rankOf_9 : decode cX6_rankOf 9 = .ok (.aload_n 0, 1) := by decide +kernel
theorem dX6_rankOf_10 : decode cX6_rankOf 10 = .ok (.iload_n 2, 1) := by decide +kernel
theorem dX6_rankOf_11 : decode cX6_rankOf 11 = .ok (.invokevirtual 66, 3) := by decide +kernel
theorem dX6_rankOf_14 : decode cX6_rankOf 14 = .ok (.ifCond .eq 7, 3) := by decide +kernel
theorem dX6_rankOf_17 : decode cX6_rankOf 17 = .ok (.iconst 1, 1) := by decide +kernel
theorem dX6_rankOf_18 : decode cX6_rankOf 18 = .ok (.goto 4, 3) := by decide +kernel
theorem dX6_rankOf_21 : decode cX6_rankOf 21 = .ok (.iconst 0, 1) := by decide +kernel
theorem dX6_rankOf_22 : decode cX6_rankOf 22 = .ok (.iconst 1, 1) := by decide +kernel
theorem dX6_rankOf_23 : decode cX6_rankOf 23 = .ok (.invokevirtual 58, 3) := by decide +kernel
theorem dX6_rankOf_26 : decode cX6_rankOf 26 = .ok (.ifCond .eq 7, 3) := by decide +kernel
theorem dX6_rankOf_29 : decode cX6_rankOf 29 = .ok (.iconst 0, 1) := by decide +kernel
theorem dX6_rankOf_30 : decode cX6_rankOf 30 = .ok (.goto 11, 3) := by decide +kernel
theorem dX6_rankOf_33 : decode cX6_rankOf 33 = .ok (.aload_n 0, 1) := by decide +kernel
theorem dX6_rankOf_34 : decode cX6_rankOf 34 = .ok (.getfield 21, 3) := by decide +kernel
theorem dX6_rankOf_37 : decode cX6_rankOf 37 = .ok (.iload_n 1, 1) := by decide +kernel
theorem dX6_rankOf_38 : decode cX6_rankOf 38 = .ok (.aaload, 1) := by decide +kernel
theorem dX6_rankOf_39 : decode cX6_rankOf 39 = .ok (.iload_n 2, 1) := by decide +kernel
theorem dX6_rankOf_40 : decode cX6_rankOf 40 = .ok (.iaload, 1) := by decide +kernel
theorem dX6_rankOf_41 : decode cX6_rankOf 41 = .ok (.ireturn, 1) := by decide +kernel
set_option maxRecDepth 20000 in
theorem ggX6_type_X6_no : GoodIn wsX6_type wsX6_no := goodIn_r _ [6, 7, 133, 134, 135, 136, 137, 138, 139, 140, 141] (by decide +kernel) (by decide +kernel)
set_option maxRecDepth 20000 in
theorem gX6_type_X6_no : GoodIn wsX6_type (wsV RX6 58 RX6 yX6_no wsX6_no) := goodIn_app (goodIn_of _ (by decide +kernel)) ggX6_type_X6_no
set_option maxRecDepth 20000 in
theorem ggX6_type_J4_length_8abf5 : GoodIn wsX6_type wsJ4_length_8abf5 := goodIn_r _ [12, 13, 14, 15, 16, 17, 18, 19, 142, 143, 144, 145] (by decide +kernel) (by decide +kernel)
set_option maxRecDepth 20000 in
theorem gX6_type_J4_length_8abf5 : GoodIn wsX6_type (wsV RX6 77 RJ4 yJ4_length_8abf5 wsJ4_length_8abf5) := goodIn_app (goodIn_of _ (by decide +kernel)) ggX6_type_J4_length_8abf5
set_option maxRecDepth 20000 in
theorem ggX6_type_J4_append_cf468 : GoodIn wsX6_type wsJ4_append_cf468 := goodIn_r _ [23, 24, 25, 15, 26, 17, 27, 19, 28, 29, 30, 31, 32, 33, 34, 35, 36, 37, 38, 39, 40, 41, 42, 43, 44, 45, 46, 47, 48, 49, 50, 51, 52, 53, 54, 55, 56, 57, 58, 59, 60, 61, 62, 63, 64, 65, 66, 67, 68, 69, 70, 71, 72, 73, 74, 75, 76, 77, 78, 79, 80, 81, 82, 83, 84, 85, 86, 87, 88, 89, 90, 91, 92, 93, 94, 95, 96, 97, 98, 99, 100, 101, 102, 103, 104, 105, 106, 107, 108, 109, 110, 111, 112, 113, 114, 115, 116, 117, 118, 119, 120, 121, 122, 123, 124, 125, 126, 127, 128, 129, 130, 131, 132, 142, 143, 144, 145] (by decide +kernel) (by decide +kernel)
set_option maxRecDepth 20000 in
theorem gX6_type_J4_append_cf468 : GoodIn wsX6_type (wsV RX6 81 RJ4 yJ4_append_cf468 wsJ4_append_cf468) := goodIn_app (goodIn_of _ (by decide +kernel)) ggX6_type_J4_append_cf468
theorem dX6_type_0 : decode cX6_type 0 = .ok (.aload_n 0, 1) := by decide +kernel
theorem dX6_type_1 : decode cX6_type 1 = .ok (.iload_n 1, 1) := by decide +kernel
theorem dX6_type_2 : decode cX6_type 2 = .ok (.bipush 97, 2) := by decide +kernel
theorem dX6_type_4 : decode cX6_type 4 = .ok (.if_icmp .lt 9, 3) := by decide +kernel
theorem dX6_type_7 : decode cX6_type 7 = .ok (.iload_n 1, 1) := by decide +kernel
theorem dX6_type_8 : decode cX6_type 8 = .ok (.bipush 106, 2) := by decide +kernel
theorem dX6_type_10 : decode cX6_type 10 = .ok (.if_icmp .le 15, 3) := by decide +kernel
theorem dX6_type_13 : decode cX6_type 13 = .ok (.iload_n 1, 1) := by decide +kernel
theorem dX6_type_14 : decode cX6_type 14 = .ok (.bipush 62, 2) := by decide +kernel
theorem dX6_type_16 : decode cX6_type 16 = .ok (.if_icmp .eq 9, 3) := by decide +kernel
theorem dX6_type_19 : decode cX6_type 19 = .ok (.iload_n 1, 1) := by decide +kernel
theorem dX6_type_20 : decode cX6_type 20 = .ok (.bipush 61, 2) := by decide +kernel
theorem dX6_type_22 : decode cX6_type 22 = .ok (.if_icmp .ne 7, 3) := by decide +kernel
theorem dX6_type_25 : decode cX6_type 25 = .ok (.iconst 1, 1) := by decide +kernel
theorem dX6_type_26 : decode cX6_type 26 = .ok (.goto 4, 3) := by decide +kernel
theorem dX6_type_29 : decode cX6_type 29 = .ok (.iconst 0, 1) := by decide +kernel
theorem dX6_type_30 : decode cX6_type 30 = .ok (.iconst 1, 1) := by decide +kernel
theorem dX6_type_31 : decode cX6_type 31 = .ok (.invokevirtual 58, 3) := by decide +kernel
theorem dX6_type_34 : decode cX6_type 34 = .ok (.ifCond .ne 28, 3) := by decide +kernel
theorem dX6_type_37 : decode cX6_type 37 = .ok (.aload_n 0, 1) := by decide +kernel
theorem dX6_type_38 : decode cX6_type 38 = .ok (.aload_n 0, 1) := by decide +kernel
theorem dX6_type_39 : decode cX6_type 39 = .ok (.getfield 34, 3) := by decide +kernel
theorem dX6_type_42 : decode cX6_type 42 = .ok (.invokevirtual 77, 3) := by decide +kernel
theorem dX6_type_45 : decode cX6_type 45 = .ok (.bipush 20, 2) := by decide +kernel
theorem dX6_type_47 : decode cX6_type 47 = .ok (.if_icmp .ge 7, 3) := by decide +kernel
theorem dX6_type_50 : decode cX6_type 50 = .ok (.iconst 1, 1) := by decide +kernel
theorem dX6_type_51 : decode cX6_type 51 = .ok (.goto 4, 3) := by decide +kernel
theorem dX6_type_54 : decode cX6_type 54 = .ok (.iconst 0, 1) := by decide +kernel
theorem dX6_type_55 : decode cX6_type 55 = .ok (.iconst 2, 1) := by decide +kernel
theorem dX6_type_56 : decode cX6_type 56 = .ok (.invokevirtual 58, 3) := by decide +kernel
theorem dX6_type_59 : decode cX6_type 59 = .ok (.ifCond .eq 5, 3) := by decide +kernel
theorem dX6_type_62 : decode cX6_type 62 = .ok (.iconst 0, 1) := by decide +kernel
theorem dX6_type_63 : decode cX6_type 63 = .ok (.ireturn, 1) := by decide +kernel
theorem dX6_type_64 : decode cX6_type 64 = .ok (.aload_n 0, 1) := by decide +kernel
theorem dX6_type_65 : decode cX6_type 65 = .ok (.getfield 34, 3) := by decide +kernel
theorem dX6_type_68 : decode cX6_type 68 = .ok (.iload_n 1, 1) := by decide +kernel
theorem dX6_type_69 : decode cX6_type 69 = .ok (.invokevirtual 81, 3) := by decide +kernel
theorem dX6_type_72 : decode cX6_type 72 = .ok (.pop, 1) := by decide +kernel
theorem dX6_type_73 : decode cX6_type 73 = .ok (.aload_n 0, 1) := by decide +kernel
theorem dX6_type_74 : decode cX6_type 74 = .ok (.getfield 34, 3) := by decide +kernel
theorem dX6_type_77 : decode cX6_type 77 = .ok (.invokevirtual 77, 3) := by decide +kernel
theorem dX6_type_80 : decode cX6_type 80 = .ok (.ireturn, 1) := by decide +kernel
set_option maxRecDepth 20000 in
theorem ggX6_wipe_J4_length_8abf5 : GoodIn wsX6_wipe wsJ4_length_8abf5 := goodIn_r _ [6, 7, 8, 9, 10, 11, 12, 13, 104, 105, 106, 107] (by decide +kernel) (by decide +kernel)
set_option maxRecDepth 20000 in
theorem gX6_wipe_J4_length_8abf5 : GoodIn wsX6_wipe (wsV RX6 77 RJ4 yJ4_length_8abf5 wsJ4_length_8abf5) := goodIn_app (goodIn_of _ (by decide +kernel)) ggX6_wipe_J4_length_8abf5
set_option maxRecDepth 20000 in
theorem ggX6_wipe_J4_setLength_d00df : GoodIn wsX6_wipe wsJ4_setLength_d00df := goodIn_r _ [17, 18, 19, 9, 20, 11, 21, 22, 23, 24, 13, 25, 26, 27, 28, 29, 30, 31, 32, 33, 34, 35, 36, 37, 38, 39, 40, 41, 42, 43, 44, 45, 46, 47, 48, 49, 50, 51, 52, 53, 54, 55, 56, 57, 58, 59, 60, 61, 62, 63, 64, 65, 66, 67, 68, 69, 70, 71, 72, 73, 74, 75, 76, 77, 78, 79, 80, 81, 82, 83, 84, 85, 86, 5, 87, 88, 89, 90, 91, 92, 93, 94, 108, 109, 110, 111, 112, 113, 104, 105, 106, 107, 114, 115, 116, 117, 118, 119] (by decide +kernel) (by decide +kernel)
set_option maxRecDepth 20000 in
theorem gX6_wipe_J4_setLength_d00df : GoodIn wsX6_wipe (wsV RX6 85 RJ4 yJ4_setLength_d00df wsJ4_setLength_d00df) := goodIn_app (goodIn_of _ (by decide +kernel)) ggX6_wipe_J4_setLength_d00df
theorem dX6_wipe_0 : decode cX6_wipe 0 = .ok (.aload_n 0, 1) := by decide +kernel
theorem dX6_wipe_1 : decode cX6_wipe 1 = .ok (.getfield 34, 3) := by decide +kernel
theorem dX6_wipe_4 : decode cX6_wipe 4 = .ok (.invokevirtual 77, 3) := by decide +kernel
theorem dX6_wipe_7 : decode cX6_wipe 7 = .ok (.istore_n 1, 1) := by decide +kernel
theorem dX6_wipe_8 : decode cX6_wipe 8 = .ok (.aload_n 0, 1) := by decide +kernel
theorem dX6_wipe_9 : decode cX6_wipe 9 = .ok (.getfield 34, 3) := by decide +kernel
theorem dX6_wipe_12 : decode cX6_wipe 12 = .ok (.iconst 0, 1) := by decide +kernel
theorem dX6_wipe_13 : decode cX6_wipe 13 = .ok (.invokevirtual 85, 3) := by decide +kernel
theorem dX6_wipe_16 : decode cX6_wipe 16 = .ok (.iload_n 1, 1) := by decide +kernel
theorem dX6_wipe_17 : decode cX6_wipe 17 = .ok (.ireturn, 1) := by decide +kernel
set_option maxRecDepth 20000 in
theorem ggX6_parsed_J4_length_8abf5 : GoodIn wsX6_parsed wsJ4_length_8abf5 := goodIn_r _ [7, 8, 9, 10, 11, 12, 13, 14, 66, 67, 68, 69] (by decide +kernel) (by decide +kernel)
set_option maxRecDepth 20000 in
theorem gX6_parsed_J4_length_8abf5 : GoodIn wsX6_parsed (wsV RX6 77 RJ4 yJ4_length_8abf5 wsJ4_length_8abf5) := goodIn_app (goodIn_of _ (by decide +kernel)) ggX6_parsed_J4_length_8abf5
set_option maxRecDepth 20000 in
theorem ggX6_parsed_J4_charAt_5068e : GoodIn wsX6_parsed wsJ4_charAt_5068e := goodIn_r _ [18, 19, 20, 10, 21, 12, 22, 23, 24, 14, 25, 26, 27, 28, 29, 30, 31, 32, 33, 34, 35, 36, 37, 38, 39, 40, 41, 42, 43, 44, 45, 46, 47, 66, 67, 68, 69] (by decide +kernel) (by decide +kernel)
set_option maxRecDepth 20000 in
theorem gX6_parsed_J4_charAt_5068e : GoodIn wsX6_parsed (wsV RX6 88 RJ4 yJ4_charAt_5068e wsJ4_charAt_5068e) := goodIn_app (goodIn_of _ (by decide +kernel)) ggX6_parsed_J4_charAt_5068e
set_option maxRecDepth 20000 in
theorem ggX6_parsed_X6_isPost : GoodIn wsX6_parsed wsX6_isPost := goodIn_r _ [52, 53, 54, 55, 51, 56, 57, 58, 59, 60, 61, 62, 63, 64, 65] (by decide +kernel) (by decide +kernel)
set_option maxRecDepth 20000 in
theorem gX6_parsed_X6_isPost : GoodIn wsX6_parsed (wsV RX6 66 RX6 yX6_isPost wsX6_isPost) := goodIn_app (goodIn_of _ (by decide +kernel)) ggX6_parsed_X6_isPost
theorem dX6_parsed_0 : decode cX6_parsed 0 = .ok (.bipush 10, 2) := by decide +kernel
theorem dX6_parsed_2 : decode cX6_parsed 2 = .ok (.newarray .int, 2) := by decide +kernel
theorem dX6_parsed_4 : decode cX6_parsed 4 = .ok (.astore_n 1, 1) := by decide +kernel
theorem dX6_parsed_5 : decode cX6_parsed 5 = .ok (.iconst 1, 1) := by decide +kernel
theorem dX6_parsed_6 : decode cX6_parsed 6 = .ok (.istore_n 2, 1) := by decide +kernel
theorem dX6_parsed_7 : decode cX6_parsed 7 = .ok (.aload_n 0, 1) := by decide +kernel
theorem dX6_parsed_8 : decode cX6_parsed 8 = .ok (.getfield 34, 3) := by decide +kernel
theorem dX6_parsed_11 : decode cX6_parsed 11 = .ok (.invokevirtual 77, 3) := by decide +kernel
theorem dX6_parsed_14 : decode cX6_parsed 14 = .ok (.iconst 2, 1) := by decide +kernel
theorem dX6_parsed_15 : decode cX6_parsed 15 = .ok (.irem, 1) := by decide +kernel
theorem dX6_parsed_16 : decode cX6_parsed 16 = .ok (.ifCond .ne 5, 3) := by decide +kernel
theorem dX6_parsed_19 : decode cX6_parsed 19 = .ok (.aconst_null, 1) := by decide +kernel
theorem dX6_parsed_20 : decode cX6_parsed 20 = .ok (.areturn, 1) := by decide +kernel
theorem dX6_parsed_21 : decode cX6_parsed 21 = .ok (.iconst 0, 1) := by decide +kernel
theorem dX6_parsed_22 : decode cX6_parsed 22 = .ok (.istore_n 3, 1) := by decide +kernel
theorem dX6_parsed_23 : decode cX6_parsed 23 = .ok (.iload_n 3, 1) := by decide +kernel
theorem dX6_parsed_24 : decode cX6_parsed 24 = .ok (.aload_n 0, 1) := by decide +kernel
theorem dX6_parsed_25 : decode cX6_parsed 25 = .ok (.getfield 34, 3) := by decide +kernel
theorem dX6_parsed_28 : decode cX6_parsed 28 = .ok (.invokevirtual 77, 3) := by decide +kernel
theorem dX6_parsed_31 : decode cX6_parsed 31 = .ok (.if_icmp .ge 103, 3) := by decide +kernel
theorem dX6_parsed_34 : decode cX6_parsed 34 = .ok (.aload_n 0, 1) := by decide +kernel
theorem dX6_parsed_35 : decode cX6_parsed 35 = .ok (.getfield 34, 3) := by decide +kernel
theorem dX6_parsed_38 : decode cX6_parsed 38 = .ok (.iload_n 3, 1) := by decide +kernel
theorem dX6_parsed_39 : decode cX6_parsed 39 = .ok (.invokevirtual 88, 3) := by decide +kernel
theorem dX6_parsed_42 : decode cX6_parsed 42 = .ok (.istore 4, 2) := by decide +kernel
theorem dX6_parsed_44 : decode cX6_parsed 44 = .ok (.iload_n 3, 1) := by decide +kernel
theorem dX6_parsed_45 : decode cX6_parsed 45 = .ok (.iconst 2, 1) := by decide +kernel
theorem dX6_parsed_46 : decode cX6_parsed 46 = .ok (.irem, 1) := by decide +kernel
theorem dX6_parsed_47 : decode cX6_parsed 47 = .ok (.iconst 1, 1) := by decide +kernel
theorem dX6_parsed_48 : decode cX6_parsed 48 = .ok (.if_icmp .ne 37, 3) := by decide +kernel
theorem dX6_parsed_51 : decode cX6_parsed 51 = .ok (.iload 4, 2) := by decide +kernel
theorem dX6_parsed_53 : decode cX6_parsed 53 = .ok (.bipush 62, 2) := by decide +kernel
theorem dX6_parsed_55 : decode cX6_parsed 55 = .ok (.if_icmp .eq 12, 3) := by decide +kernel
theorem dX6_parsed_58 : decode cX6_parsed 58 = .ok (.iload 4, 2) := by decide +kernel
theorem dX6_parsed_60 : decode cX6_parsed 60 = .ok (.bipush 61, 2) := by decide +kernel
theorem dX6_parsed_62 : decode cX6_parsed 62 = .ok (.if_icmp .eq 5, 3) := by decide +kernel
theorem dX6_parsed_65 : decode cX6_parsed 65 = .ok (.aconst_null, 1) := by decide +kernel
theorem dX6_parsed_66 : decode cX6_parsed 66 = .ok (.areturn, 1) := by decide +kernel
theorem dX6_parsed_67 : decode cX6_parsed 67 = .ok (.iload_n 2, 1) := by decide +kernel
theorem dX6_parsed_68 : decode cX6_parsed 68 = .ok (.iload 4, 2) := by decide +kernel
theorem dX6_parsed_70 : decode cX6_parsed 70 = .ok (.bipush 62, 2) := by decide +kernel
theorem dX6_parsed_72 : decode cX6_parsed 72 = .ok (.if_icmp .ne 7, 3) := by decide +kernel
theorem dX6_parsed_75 : decode cX6_parsed 75 = .ok (.iconst 1, 1) := by decide +kernel
theorem dX6_parsed_76 : decode cX6_parsed 76 = .ok (.goto 4, 3) := by decide +kernel
theorem dX6_parsed_79 : decode cX6_parsed 79 = .ok (.iconst 0, 1) := by decide +kernel
theorem dX6_parsed_80 : decode cX6_parsed 80 = .ok (.iadd, 1) := by decide +kernel
theorem dX6_parsed_81 : decode cX6_parsed 81 = .ok (.istore_n 2, 1) := by decide +kernel
theorem dX6_parsed_82 : decode cX6_parsed 82 = .ok (.goto 46, 3) := by decide +kernel
theorem dX6_parsed_85 : decode cX6_parsed 85 = .ok (.iload 4, 2) := by decide +kernel
theorem dX6_parsed_87 : decode cX6_parsed 87 = .ok (.bipush 97, 2) := by decide +kernel
theorem dX6_parsed_89 : decode cX6_parsed 89 = .ok (.isub, 1) := by decide +kernel
theorem dX6_parsed_90 : decode cX6_parsed 90 = .ok (.istore 5, 2) := by decide +kernel
theorem dX6_parsed_92 : decode cX6_parsed 92 = .ok (.iload 4, 2) := by decide +kernel
theorem dX6_parsed_94 : decode cX6_parsed 94 = .ok (.bipush 97, 2) := by decide +kernel
theorem dX6_parsed_96 : decode cX6_parsed 96 = .ok (.if_icmp .lt 25, 3) := by decide +kernel
theorem dX6_parsed_99 : decode cX6_parsed 99 = .ok (.aload_n 0, 1) := by decide +kernel
theorem dX6_parsed_100 : decode cX6_parsed 100 = .ok (.iload 5, 2) := by decide +kernel
theorem dX6_parsed_102 : decode cX6_parsed 102 = .ok (.invokevirtual 66, 3) := by decide +kernel
theorem dX6_parsed_105 : decode cX6_parsed 105 = .ok (.ifCond .eq 16, 3) := by decide +kernel
theorem dX6_parsed_108 : decode cX6_parsed 108 = .ok (.aload_n 1, 1) := by decide +kernel
theorem dX6_parsed_109 : decode cX6_parsed 109 = .ok (.iload 5, 2) := by decide +kernel
theorem dX6_parsed_111 : decode cX6_parsed 111 = .ok (.iaload, 1) := by decide +kernel
theorem dX6_parsed_112 : decode cX6_parsed 112 = .ok (.ifCond .gt 9, 3) := by decide +kernel
theorem dX6_parsed_115 : decode cX6_parsed 115 = .ok (.iload_n 2, 1) := by decide +kernel
theorem dX6_parsed_116 : decode cX6_parsed 116 = .ok (.bipush 9, 2) := by decide +kernel
theorem dX6_parsed_118 : decode cX6_parsed 118 = .ok (.if_icmp .le 5, 3) := by decide +kernel
theorem dX6_parsed_121 : decode cX6_parsed 121 = .ok (.aconst_null, 1) := by decide +kernel
theorem dX6_parsed_122 : decode cX6_parsed 122 = .ok (.areturn, 1) := by decide +kernel
theorem dX6_parsed_123 : decode cX6_parsed 123 = .ok (.aload_n 1, 1) := by decide +kernel
theorem dX6_parsed_124 : decode cX6_parsed 124 = .ok (.iload 5, 2) := by decide +kernel
theorem dX6_parsed_126 : decode cX6_parsed 126 = .ok (.iload_n 2, 1) := by decide +kernel
theorem dX6_parsed_127 : decode cX6_parsed 127 = .ok (.iastore, 1) := by decide +kernel
theorem dX6_parsed_128 : decode cX6_parsed 128 = .ok (.iinc 3 1, 3) := by decide +kernel
theorem dX6_parsed_131 : decode cX6_parsed 131 = .ok (.goto (-108), 3) := by decide +kernel
theorem dX6_parsed_134 : decode cX6_parsed 134 = .ok (.aload_n 1, 1) := by decide +kernel
theorem dX6_parsed_135 : decode cX6_parsed 135 = .ok (.areturn, 1) := by decide +kernel
set_option maxRecDepth 20000 in
theorem ggX6_tell_X6_isWho : GoodIn wsX6_tell wsX6_isWho := goodIn_r _ [11, 12, 13, 14, 10, 15, 153, 154, 155, 156, 157, 158, 159, 160, 161] (by decide +kernel) (by decide +kernel)
set_option maxRecDepth 20000 in
theorem gX6_tell_X6_isWho : GoodIn wsX6_tell (wsV RX6 62 RX6 yX6_isWho wsX6_isWho) := goodIn_app (goodIn_of _ (by decide +kernel)) ggX6_tell_X6_isWho
set_option maxRecDepth 20000 in
theorem ggX6_tell_X6_no : GoodIn wsX6_tell wsX6_no := goodIn_r _ [19, 20, 153, 154, 155, 156, 157, 158, 159, 160, 161] (by decide +kernel) (by decide +kernel)
set_option maxRecDepth 20000 in
theorem gX6_tell_X6_no : GoodIn wsX6_tell (wsV RX6 58 RX6 yX6_no wsX6_no) := goodIn_app (goodIn_of _ (by decide +kernel)) ggX6_tell_X6_no
set_option maxRecDepth 20000 in
theorem ggX6_tell_X6_parsed : GoodIn wsX6_tell wsX6_parsed := goodIn_ca (goodIn_r _ [24, 25, 6, 26, 27, 28, 29, 30, 31, 32, 33, 34, 35, 36, 37, 38, 39, 40, 41, 42, 43, 44, 45, 46, 47, 48, 49, 50, 51, 52, 53, 54, 55, 56, 57, 58, 59, 60, 61, 62, 63, 64, 65, 66, 67, 68, 69, 70, 71, 72, 73, 10, 74, 75, 13, 14, 15, 153, 154, 155, 156, 157, 158, 159, 160, 161, 162, 163, 164, 165] (by decide +kernel) (by decide +kernel)) (goodIn_sub (fun _ h => List.mem_cons_of_mem _ (List.mem_append_right _ h)) (by decide +kernel))
set_option maxRecDepth 20000 in
theorem gX6_tell_X6_parsed : GoodIn wsX6_tell (wsV RX6 92 RX6 yX6_parsed wsX6_parsed) := goodIn_app (goodIn_of _ (by decide +kernel)) ggX6_tell_X6_parsed
set_option maxRecDepth 20000 in
theorem ggX6_tell_X6_settle : GoodIn wsX6_tell wsX6_settle := goodIn_ca (goodIn_r _ [79, 80, 1, 153, 154, 155, 156, 157, 158, 159, 160, 161] (by decide +kernel) (by decide +kernel)) (goodIn_sub (fun _ h => List.mem_cons_of_mem _ (List.mem_append_right _ h)) (by decide +kernel))
set_option maxRecDepth 20000 in
theorem gX6_tell_X6_settle : GoodIn wsX6_tell (wsV RX6 73 RX6 yX6_settle wsX6_settle) := goodIn_app (goodIn_of _ (by decide +kernel)) ggX6_tell_X6_settle
set_option maxRecDepth 20000 in
theorem ggX6_tell_J4_length_8abf5 : GoodIn wsX6_tell wsJ4_length_8abf5 := goodIn_r _ [30, 31, 32, 33, 34, 35, 36, 37, 162, 163, 164, 165] (by decide +kernel) (by decide +kernel)
set_option maxRecDepth 20000 in
theorem gX6_tell_J4_length_8abf5 : GoodIn wsX6_tell (wsV RX6 77 RJ4 yJ4_length_8abf5 wsJ4_length_8abf5) := goodIn_app (goodIn_of _ (by decide +kernel)) ggX6_tell_J4_length_8abf5
set_option maxRecDepth 20000 in
theorem ggX6_tell_J4_setLength_d00df : GoodIn wsX6_tell wsJ4_setLength_d00df := goodIn_r _ [84, 85, 86, 33, 87, 35, 88, 89, 90, 91, 37, 47, 92, 93, 94, 95, 96, 97, 46, 98, 99, 100, 101, 102, 103, 104, 105, 106, 107, 108, 109, 50, 110, 111, 112, 113, 114, 115, 116, 117, 118, 119, 120, 121, 122, 123, 124, 125, 126, 49, 51, 127, 3, 4, 5, 128, 129, 130, 131, 132, 133, 134, 135, 136, 137, 138, 139, 140, 141, 142, 143, 144, 145, 29, 146, 147, 148, 149, 150, 63, 151, 152, 166, 167, 168, 169, 170, 171, 162, 163, 164, 165, 172, 173, 174, 175, 176, 177] (by decide +kernel) (by decide +kernel)
set_option maxRecDepth 20000 in
theorem gX6_tell_J4_setLength_d00df : GoodIn wsX6_tell (wsV RX6 85 RJ4 yJ4_setLength_d00df wsJ4_setLength_d00df) := goodIn_app (goodIn_of _ (by decide +kernel)) ggX6_tell_J4_setLength_d00df
theorem dX6_tell_0 : decode cX6_tell 0 = .ok (.aload_n 0, 1) := by decide +kernel
theorem dX6_tell_1 : decode cX6_tell 1 = .ok (.aload_n 0, 1) := by decide +kernel
theorem dX6_tell_2 : decode cX6_tell 2 = .ok (.iload_n 1, 1) := by decide +kernel
theorem dX6_tell_3 : decode cX6_tell 3 = .ok (.invokevirtual 62, 3) := by decide +kernel
theorem dX6_tell_6 : decode cX6_tell 6 = .ok (.iconst 1, 1) := by decide +kernel
theorem dX6_tell_7 : decode cX6_tell 7 = .ok (.invokevirtual 58, 3) := by decide +kernel
theorem dX6_tell_10 : decode cX6_tell 10 = .ok (.ifCond .eq 5, 3) := by decide +kernel
theorem dX6_tell_13 : decode cX6_tell 13 = .ok (.iconst 0, 1) := by decide +kernel
theorem dX6_tell_14 : decode cX6_tell 14 = .ok (.ireturn, 1) := by decide +kernel
theorem dX6_tell_15 : decode cX6_tell 15 = .ok (.aload_n 0, 1) := by decide +kernel
theorem dX6_tell_16 : decode cX6_tell 16 = .ok (.invokevirtual 92, 3) := by decide +kernel
theorem dX6_tell_19 : decode cX6_tell 19 = .ok (.astore_n 2, 1) := by decide +kernel
theorem dX6_tell_20 : decode cX6_tell 20 = .ok (.aload_n 0, 1) := by decide +kernel
theorem dX6_tell_21 : decode cX6_tell 21 = .ok (.aload_n 2, 1) := by decide +kernel
theorem dX6_tell_22 : decode cX6_tell 22 = .ok (.ifnull 7, 3) := by decide +kernel
theorem dX6_tell_25 : decode cX6_tell 25 = .ok (.iconst 1, 1) := by decide +kernel
theorem dX6_tell_26 : decode cX6_tell 26 = .ok (.goto 4, 3) := by decide +kernel
theorem dX6_tell_29 : decode cX6_tell 29 = .ok (.iconst 0, 1) := by decide +kernel
theorem dX6_tell_30 : decode cX6_tell 30 = .ok (.iconst 2, 1) := by decide +kernel
theorem dX6_tell_31 : decode cX6_tell 31 = .ok (.invokevirtual 58, 3) := by decide +kernel
theorem dX6_tell_34 : decode cX6_tell 34 = .ok (.ifCond .eq 5, 3) := by decide +kernel
theorem dX6_tell_37 : decode cX6_tell 37 = .ok (.iconst 0, 1) := by decide +kernel
theorem dX6_tell_38 : decode cX6_tell 38 = .ok (.ireturn, 1) := by decide +kernel
theorem dX6_tell_39 : decode cX6_tell 39 = .ok (.aload_n 2, 1) := by decide +kernel
theorem dX6_tell_40 : decode cX6_tell 40 = .ok (.iconst 0, 1) := by decide +kernel
theorem dX6_tell_41 : decode cX6_tell 41 = .ok (.aload_n 0, 1) := by decide +kernel
theorem dX6_tell_42 : decode cX6_tell 42 = .ok (.getfield 21, 3) := by decide +kernel
theorem dX6_tell_45 : decode cX6_tell 45 = .ok (.iload_n 1, 1) := by decide +kernel
theorem dX6_tell_46 : decode cX6_tell 46 = .ok (.aaload, 1) := by decide +kernel
theorem dX6_tell_47 : decode cX6_tell 47 = .ok (.iconst 0, 1) := by decide +kernel
theorem dX6_tell_48 : decode cX6_tell 48 = .ok (.bipush 10, 2) := by decide +kernel
theorem dX6_tell_50 : decode cX6_tell 50 = .ok (.invokestatic 96, 3) := by decide +kernel
theorem dX6_tell_53 : decode cX6_tell 53 = .ok (.aload_n 0, 1) := by decide +kernel
theorem dX6_tell_54 : decode cX6_tell 54 = .ok (.iload_n 1, 1) := by decide +kernel
theorem dX6_tell_55 : decode cX6_tell 55 = .ok (.invokevirtual 73, 3) := by decide +kernel
theorem dX6_tell_58 : decode cX6_tell 58 = .ok (.aload_n 0, 1) := by decide +kernel
theorem dX6_tell_59 : decode cX6_tell 59 = .ok (.getfield 34, 3) := by decide +kernel
theorem dX6_tell_62 : decode cX6_tell 62 = .ok (.invokevirtual 77, 3) := by decide +kernel
theorem dX6_tell_65 : decode cX6_tell 65 = .ok (.iconst 1, 1) := by decide +kernel
theorem dX6_tell_66 : decode cX6_tell 66 = .ok (.iadd, 1) := by decide +kernel
theorem dX6_tell_67 : decode cX6_tell 67 = .ok (.iconst 2, 1) := by decide +kernel
theorem dX6_tell_68 : decode cX6_tell 68 = .ok (.idiv, 1) := by decide +kernel
theorem dX6_tell_69 : decode cX6_tell 69 = .ok (.istore_n 3, 1) := by decide +kernel
theorem dX6_tell_70 : decode cX6_tell 70 = .ok (.aload_n 0, 1) := by decide +kernel
theorem dX6_tell_71 : decode cX6_tell 71 = .ok (.getfield 34, 3) := by decide +kernel
theorem dX6_tell_74 : decode cX6_tell 74 = .ok (.iconst 0, 1) := by decide +kernel
theorem dX6_tell_75 : decode cX6_tell 75 = .ok (.invokevirtual 85, 3) := by decide +kernel
theorem dX6_tell_78 : decode cX6_tell 78 = .ok (.iload_n 3, 1) := by decide +kernel
theorem dX6_tell_79 : decode cX6_tell 79 = .ok (.ireturn, 1) := by decide +kernel
set_option maxRecDepth 20000 in
theorem ggX6_text_J4_init_da8c8 : GoodIn wsX6_text wsJ4_init_da8c8 := goodIn_r _ [8, 9, 10, 11, 12, 13, 14, 15, 16, 17, 18, 19, 20, 21, 22, 23, 24, 25, 26, 27, 186, 187, 188, 189] (by decide +kernel) (by decide +kernel)
set_option maxRecDepth 20000 in
theorem gX6_text_J4_init_da8c8 : GoodIn wsX6_text (wsJ4_init_da8c8) := ggX6_text_J4_init_da8c8
set_option maxRecDepth 20000 in
theorem ggX6_text_J4_append_cf468 : GoodIn wsX6_text wsJ4_append_cf468 := goodIn_r _ [31, 32, 33, 34, 35, 11, 36, 37, 18, 38, 39, 40, 41, 42, 19, 43, 44, 45, 46, 47, 48, 49, 50, 51, 52, 53, 54, 55, 56, 57, 58, 59, 60, 61, 62, 63, 64, 65, 66, 67, 68, 69, 70, 17, 71, 72, 73, 74, 75, 76, 77, 78, 79, 80, 81, 82, 16, 83, 84, 85, 86, 87, 88, 89, 90, 91, 20, 21, 22, 23, 24, 25, 26, 27, 92, 93, 94, 95, 96, 97, 98, 99, 100, 101, 102, 103, 104, 105, 106, 107, 108, 109, 110, 111, 112, 113, 114, 115, 116, 117, 118, 119, 120, 121, 122, 123, 124, 125, 126, 127, 128, 129, 130, 186, 187, 188, 189] (by decide +kernel) (by decide +kernel)
set_option maxRecDepth 20000 in
theorem gX6_text_J4_append_cf468 : GoodIn wsX6_text (wsV RX6 81 RJ4 yJ4_append_cf468 wsJ4_append_cf468) := goodIn_app (goodIn_of _ (by decide +kernel)) ggX6_text_J4_append_cf468
set_option maxRecDepth 20000 in
theorem ggX6_text_J4_toString_0e30d : GoodIn wsX6_text wsJ4_toString_0e30d := goodIn_r _ [134, 135, 136, 106, 137, 138, 139, 140, 141, 142, 143, 14, 15, 144, 145, 146, 147, 148, 149, 150, 151, 11, 152, 18, 153, 154, 155, 156, 157, 3, 158, 159, 34, 160, 161, 37, 162, 79, 80, 81, 82, 16, 19, 163, 164, 63, 165, 65, 66, 67, 68, 69, 70, 166, 167, 168, 17, 71, 72, 55, 73, 74, 75, 76, 77, 169, 170, 171, 172, 2, 173, 174, 22, 175, 176, 177, 178, 98, 99, 100, 101, 102, 103, 104, 105, 107, 108, 109, 110, 111, 112, 179, 180, 181, 116, 117, 118, 24, 25, 26, 27, 182, 183, 184, 185, 199, 200, 201, 202, 186, 187, 188, 189] (by decide +kernel) (by decide +kernel)
set_option maxRecDepth 20000 in
theorem gX6_text_J4_toString_0e30d : GoodIn wsX6_text (wsV RX6 102 RJ4 yJ4_toString_0e30d wsJ4_toString_0e30d) := goodIn_app (goodIn_of _ (by decide +kernel)) ggX6_text_J4_toString_0e30d
theorem dX6_text_0 : decode cX6_text 0 = .ok (.new 31, 3) := by decide +kernel
theorem dX6_text_3 : decode cX6_text 3 = .ok (.dup, 1) := by decide +kernel
theorem dX6_text_4 : decode cX6_text 4 = .ok (.invokespecial 33, 3) := by decide +kernel
theorem dX6_text_7 : decode cX6_text 7 = .ok (.astore_n 2, 1) := by decide +kernel
theorem dX6_text_8 : decode cX6_text 8 = .ok (.iconst 0, 1) := by decide +kernel
theorem dX6_text_9 : decode cX6_text 9 = .ok (.istore_n 3, 1) := by decide +kernel
theorem dX6_text_10 : decode cX6_text 10 = .ok (.iconst 1, 1) := by decide +kernel
theorem dX6_text_11 : decode cX6_text 11 = .ok (.istore 4, 2) := by decide +kernel
theorem dX6_text_13 : decode cX6_text 13 = .ok (.iload 4, 2) := by decide +kernel
theorem dX6_text_15 : decode cX6_text 15 = .ok (.bipush 9, 2) := by decide +kernel
theorem dX6_text_17 : decode cX6_text 17 = .ok (.if_icmp .gt 80, 3) := by decide +kernel
theorem dX6_text_20 : decode cX6_text 20 = .ok (.iconst 0, 1) := by decide +kernel
theorem dX6_text_21 : decode cX6_text 21 = .ok (.istore 5, 2) := by decide +kernel
theorem dX6_text_23 : decode cX6_text 23 = .ok (.iload 5, 2) := by decide +kernel
theorem dX6_text_25 : decode cX6_text 25 = .ok (.aload_n 0, 1) := by decide +kernel
theorem dX6_text_26 : decode cX6_text 26 = .ok (.getfield 55, 3) := by decide +kernel
theorem dX6_text_29 : decode cX6_text 29 = .ok (.if_icmp .ge 62, 3) := by decide +kernel
theorem dX6_text_32 : decode cX6_text 32 = .ok (.aload_n 0, 1) := by decide +kernel
theorem dX6_text_33 : decode cX6_text 33 = .ok (.getfield 21, 3) := by decide +kernel
theorem dX6_text_36 : decode cX6_text 36 = .ok (.iload_n 1, 1) := by decide +kernel
theorem dX6_text_37 : decode cX6_text 37 = .ok (.aaload, 1) := by decide +kernel
theorem dX6_text_38 : decode cX6_text 38 = .ok (.iload 5, 2) := by decide +kernel
theorem dX6_text_40 : decode cX6_text 40 = .ok (.iaload, 1) := by decide +kernel
theorem dX6_text_41 : decode cX6_text 41 = .ok (.iload 4, 2) := by decide +kernel
theorem dX6_text_43 : decode cX6_text 43 = .ok (.if_icmp .eq 6, 3) := by decide +kernel
theorem dX6_text_46 : decode cX6_text 46 = .ok (.goto 39, 3) := by decide +kernel
theorem dX6_text_49 : decode cX6_text 49 = .ok (.iload_n 3, 1) := by decide +kernel
theorem dX6_text_50 : decode cX6_text 50 = .ok (.ifCond .le 21, 3) := by decide +kernel
theorem dX6_text_53 : decode cX6_text 53 = .ok (.aload_n 2, 1) := by decide +kernel
theorem dX6_text_54 : decode cX6_text 54 = .ok (.iload_n 3, 1) := by decide +kernel
theorem dX6_text_55 : decode cX6_text 55 = .ok (.iload 4, 2) := by decide +kernel
theorem dX6_text_57 : decode cX6_text 57 = .ok (.if_icmp .ne 8, 3) := by decide +kernel
theorem dX6_text_60 : decode cX6_text 60 = .ok (.bipush 61, 2) := by decide +kernel
theorem dX6_text_62 : decode cX6_text 62 = .ok (.goto 5, 3) := by decide +kernel
theorem dX6_text_65 : decode cX6_text 65 = .ok (.bipush 62, 2) := by decide +kernel
theorem dX6_text_67 : decode cX6_text 67 = .ok (.invokevirtual 81, 3) := by decide +kernel
theorem dX6_text_70 : decode cX6_text 70 = .ok (.pop, 1) := by decide +kernel
theorem dX6_text_71 : decode cX6_text 71 = .ok (.aload_n 2, 1) := by decide +kernel
theorem dX6_text_72 : decode cX6_text 72 = .ok (.bipush 97, 2) := by decide +kernel
theorem dX6_text_74 : decode cX6_text 74 = .ok (.iload 5, 2) := by decide +kernel
theorem dX6_text_76 : decode cX6_text 76 = .ok (.iadd, 1) := by decide +kernel
theorem dX6_text_77 : decode cX6_text 77 = .ok (.i2c, 1) := by decide +kernel
theorem dX6_text_78 : decode cX6_text 78 = .ok (.invokevirtual 81, 3) := by decide +kernel
theorem dX6_text_81 : decode cX6_text 81 = .ok (.pop, 1) := by decide +kernel
theorem dX6_text_82 : decode cX6_text 82 = .ok (.iload 4, 2) := by decide +kernel
theorem dX6_text_84 : decode cX6_text 84 = .ok (.istore_n 3, 1) := by decide +kernel
theorem dX6_text_85 : decode cX6_text 85 = .ok (.iinc 5 1, 3) := by decide +kernel
theorem dX6_text_88 : decode cX6_text 88 = .ok (.goto (-65), 3) := by decide +kernel
theorem dX6_text_91 : decode cX6_text 91 = .ok (.iinc 4 1, 3) := by decide +kernel
theorem dX6_text_94 : decode cX6_text 94 = .ok (.goto (-81), 3) := by decide +kernel
theorem dX6_text_97 : decode cX6_text 97 = .ok (.aload_n 2, 1) := by decide +kernel
theorem dX6_text_98 : decode cX6_text 98 = .ok (.invokevirtual 102, 3) := by decide +kernel
theorem dX6_text_101 : decode cX6_text 101 = .ok (.areturn, 1) := by decide +kernel
set_option maxRecDepth 20000 in
theorem ggX6_textLength_X6_isWho : GoodIn wsX6_textLength wsX6_isWho := goodIn_r _ [5, 6, 7, 8, 4, 9, 212, 213, 214, 215, 216, 217, 218, 219, 220] (by decide +kernel) (by decide +kernel)
set_option maxRecDepth 20000 in
theorem gX6_textLength_X6_isWho : GoodIn wsX6_textLength (wsV RX6 62 RX6 yX6_isWho wsX6_isWho) := goodIn_app (goodIn_of _ (by decide +kernel)) ggX6_textLength_X6_isWho
set_option maxRecDepth 20000 in
theorem ggX6_textLength_X6_no : GoodIn wsX6_textLength wsX6_no := goodIn_r _ [13, 14, 212, 213, 214, 215, 216, 217, 218, 219, 220] (by decide +kernel) (by decide +kernel)
set_option maxRecDepth 20000 in
theorem gX6_textLength_X6_no : GoodIn wsX6_textLength (wsV RX6 58 RX6 yX6_no wsX6_no) := goodIn_app (goodIn_of _ (by decide +kernel)) ggX6_textLength_X6_no
set_option maxRecDepth 20000 in
theorem ggX6_textLength_X6_text : GoodIn wsX6_textLength wsX6_text := goodIn_ca (goodIn_r _ [18, 19, 20, 21, 22, 23, 24, 25, 26, 27, 28, 29, 30, 31, 32, 33, 34, 35, 36, 37, 38, 39, 40, 41, 42, 43, 44, 45, 46, 47, 48, 49, 50, 51, 52, 53, 54, 55, 56, 57, 58, 59, 60, 61, 62, 63, 64, 65, 66, 67, 68, 69, 70, 71, 72, 73, 74, 75, 76, 77, 78, 79, 80, 81, 82, 83, 84, 85, 86, 87, 88, 89, 90, 91, 92, 93, 94, 95, 96, 97, 98, 99, 100, 101, 102, 103, 104, 105, 106, 107, 108, 109, 110, 111, 112, 113, 114, 115, 116, 117, 118, 119, 120, 121, 122, 123, 124, 125, 126, 127, 128, 129, 130, 131, 132, 133, 134, 135, 136, 137, 138, 139, 140, 141, 142, 143, 144, 145, 146, 147, 148, 149, 150, 151, 152, 153, 154, 155, 156, 157, 158, 159, 160, 161, 162, 163, 164, 165, 166, 167, 168, 169, 170, 171, 172, 173, 174, 175, 176, 177, 178, 179, 180, 181, 182, 183, 184, 185, 186, 187, 188, 189, 190, 191, 192, 193, 194, 195, 196, 197, 198, 199, 200, 201, 202, 203, 221, 222, 223, 224, 212, 213, 214, 215, 216, 217, 218, 219, 220, 225, 226, 227, 228] (by decide +kernel) (by decide +kernel)) (goodIn_sub (fun _ h => List.mem_cons_of_mem _ (List.mem_append_right _ h)) (by decide +kernel))
set_option maxRecDepth 20000 in
theorem gX6_textLength_X6_text : GoodIn wsX6_textLength (wsV RX6 106 RX6 yX6_text wsX6_text) := goodIn_app (goodIn_of _ (by decide +kernel)) ggX6_textLength_X6_text
set_option maxRecDepth 20000 in
theorem ggX6_textLength_J0_length_8abf5 : GoodIn wsX6_textLength wsJ0_length_8abf5 := goodIn_r _ [207, 163, 208, 209, 210, 124, 211, 164, 162, 225, 226, 227, 228] (by decide +kernel) (by decide +kernel)
set_option maxRecDepth 20000 in
theorem gX6_textLength_J0_length_8abf5 : GoodIn wsX6_textLength (wsV RX6 110 RJ0 yJ0_length_8abf5 wsJ0_length_8abf5) := goodIn_app (goodIn_of _ (by decide +kernel)) ggX6_textLength_J0_length_8abf5
theorem dX6_textLength_0 : decode cX6_textLength 0 = .ok (.aload_n 0, 1) := by decide +kernel
theorem dX6_textLength_1 : decode cX6_textLength 1 = .ok (.aload_n 0, 1) := by decide +kernel
theorem dX6_textLength_2 : decode cX6_textLength 2 = .ok (.iload_n 1, 1) := by decide +kernel
theorem dX6_textLength_3 : decode cX6_textLength 3 = .ok (.invokevirtual 62, 3) := by decide +kernel
theorem dX6_textLength_6 : decode cX6_textLength 6 = .ok (.iconst 1, 1) := by decide +kernel
theorem dX6_textLength_7 : decode cX6_textLength 7 = .ok (.invokevirtual 58, 3) := by decide +kernel
theorem dX6_textLength_10 : decode cX6_textLength 10 = .ok (.ifCond .eq 7, 3) := by decide +kernel
theorem dX6_textLength_13 : decode cX6_textLength 13 = .ok (.iconst 0, 1) := by decide +kernel
theorem dX6_textLength_14 : decode cX6_textLength 14 = .ok (.goto 11, 3) := by decide +kernel
theorem dX6_textLength_17 : decode cX6_textLength 17 = .ok (.aload_n 0, 1) := by decide +kernel
theorem dX6_textLength_18 : decode cX6_textLength 18 = .ok (.iload_n 1, 1) := by decide +kernel
theorem dX6_textLength_19 : decode cX6_textLength 19 = .ok (.invokevirtual 106, 3) := by decide +kernel
theorem dX6_textLength_22 : decode cX6_textLength 22 = .ok (.invokevirtual 110, 3) := by decide +kernel
theorem dX6_textLength_25 : decode cX6_textLength 25 = .ok (.ireturn, 1) := by decide +kernel
set_option maxRecDepth 20000 in
theorem ggX6_textAt_X6_isWho : GoodIn wsX6_textAt wsX6_isWho := goodIn_r _ [5, 6, 7, 8, 4, 9, 227, 228, 229, 230, 231, 232, 233, 234, 235] (by decide +kernel) (by decide +kernel)
set_option maxRecDepth 20000 in
theorem gX6_textAt_X6_isWho : GoodIn wsX6_textAt (wsV RX6 62 RX6 yX6_isWho wsX6_isWho) := goodIn_app (goodIn_of _ (by decide +kernel)) ggX6_textAt_X6_isWho
set_option maxRecDepth 20000 in
theorem ggX6_textAt_X6_no : GoodIn wsX6_textAt wsX6_no := goodIn_r _ [13, 14, 227, 228, 229, 230, 231, 232, 233, 234, 235] (by decide +kernel) (by decide +kernel)
set_option maxRecDepth 20000 in
theorem gX6_textAt_X6_no : GoodIn wsX6_textAt (wsV RX6 58 RX6 yX6_no wsX6_no) := goodIn_app (goodIn_of _ (by decide +kernel)) ggX6_textAt_X6_no
set_option maxRecDepth 20000 in
theorem ggX6_textAt_X6_text : GoodIn wsX6_textAt wsX6_text := goodIn_ca (goodIn_r _ [18, 19, 20, 21, 22, 23, 24, 25, 26, 27, 28, 29, 30, 31, 32, 33, 34, 35, 36, 37, 38, 39, 40, 41, 42, 43, 44, 45, 46, 47, 48, 49, 50, 51, 52, 53, 54, 55, 56, 57, 58, 59, 60, 61, 62, 63, 64, 65, 66, 67, 68, 69, 70, 71, 72, 73, 74, 75, 76, 77, 78, 79, 80, 81, 82, 83, 84, 85, 86, 87, 88, 89, 90, 91, 92, 93, 94, 95, 96, 97, 98, 99, 100, 101, 102, 103, 104, 105, 106, 107, 108, 109, 110, 111, 112, 113, 114, 115, 116, 117, 118, 119, 120, 121, 122, 123, 124, 125, 126, 127, 128, 129, 130, 131, 132, 133, 134, 135, 136, 137, 138, 139, 140, 141, 142, 143, 144, 145, 146, 147, 148, 149, 150, 151, 152, 153, 154, 155, 156, 157, 158, 159, 160, 161, 162, 163, 164, 165, 166, 167, 168, 169, 170, 171, 172, 173, 174, 175, 176, 177, 178, 179, 180, 181, 182, 183, 184, 185, 186, 187, 188, 189, 190, 191, 192, 193, 194, 195, 196, 197, 198, 199, 200, 201, 202, 203, 236, 237, 238, 239, 227, 228, 229, 230, 231, 232, 233, 234, 235, 240, 241, 242, 243] (by decide +kernel) (by decide +kernel)) (goodIn_sub (fun _ h => List.mem_cons_of_mem _ (List.mem_append_right _ h)) (by decide +kernel))
set_option maxRecDepth 20000 in
theorem gX6_textAt_X6_text : GoodIn wsX6_textAt (wsV RX6 106 RX6 yX6_text wsX6_text) := goodIn_app (goodIn_of _ (by decide +kernel)) ggX6_textAt_X6_text
set_option maxRecDepth 20000 in
theorem ggX6_textAt_J0_length_8abf5 : GoodIn wsX6_textAt wsJ0_length_8abf5 := goodIn_r _ [207, 163, 208, 209, 210, 124, 211, 164, 162, 240, 241, 242, 243] (by decide +kernel) (by decide +kernel)
set_option maxRecDepth 20000 in
theorem gX6_textAt_J0_length_8abf5 : GoodIn wsX6_textAt (wsV RX6 110 RJ0 yJ0_length_8abf5 wsJ0_length_8abf5) := goodIn_app (goodIn_of _ (by decide +kernel)) ggX6_textAt_J0_length_8abf5
set_option maxRecDepth 20000 in
theorem ggX6_textAt_X6_isIn : GoodIn wsX6_textAt wsX6_isIn := goodIn_r _ [9] (by decide +kernel) (by decide +kernel)
set_option maxRecDepth 20000 in
theorem gX6_textAt_X6_isIn : GoodIn wsX6_textAt (va_wsS RX6 51 yX6_isIn wsX6_isIn) := goodIn_app (goodIn_of _ (by decide +kernel)) ggX6_textAt_X6_isIn
set_option maxRecDepth 20000 in
theorem ggX6_textAt_J0_charAt_5068e : GoodIn wsX6_textAt wsJ0_charAt_5068e := goodIn_r _ [215, 163, 216, 217, 218, 124, 219, 164, 162, 220, 221, 103, 222, 223, 144, 145, 126, 146, 147, 129, 148, 224, 225, 40, 226, 140, 141, 142, 119, 120, 121, 143, 197, 198, 199, 134, 135, 136, 240, 241, 242, 243] (by decide +kernel) (by decide +kernel)
set_option maxRecDepth 20000 in
theorem gX6_textAt_J0_charAt_5068e : GoodIn wsX6_textAt (wsV RX6 113 RJ0 yJ0_charAt_5068e wsJ0_charAt_5068e) := goodIn_app (goodIn_of _ (by decide +kernel)) ggX6_textAt_J0_charAt_5068e
theorem dX6_textAt_0 : decode cX6_textAt 0 = .ok (.aload_n 0, 1) := by decide +kernel
theorem dX6_textAt_1 : decode cX6_textAt 1 = .ok (.aload_n 0, 1) := by decide +kernel
theorem dX6_textAt_2 : decode cX6_textAt 2 = .ok (.iload_n 1, 1) := by decide +kernel
theorem dX6_textAt_3 : decode cX6_textAt 3 = .ok (.invokevirtual 62, 3) := by decide +kernel
theorem dX6_textAt_6 : decode cX6_textAt 6 = .ok (.iconst 1, 1) := by decide +kernel
theorem dX6_textAt_7 : decode cX6_textAt 7 = .ok (.invokevirtual 58, 3) := by decide +kernel
theorem dX6_textAt_10 : decode cX6_textAt 10 = .ok (.ifCond .ne 26, 3) := by decide +kernel
theorem dX6_textAt_13 : decode cX6_textAt 13 = .ok (.aload_n 0, 1) := by decide +kernel
theorem dX6_textAt_14 : decode cX6_textAt 14 = .ok (.iload_n 2, 1) := by decide +kernel
theorem dX6_textAt_15 : decode cX6_textAt 15 = .ok (.iconst 0, 1) := by decide +kernel
theorem dX6_textAt_16 : decode cX6_textAt 16 = .ok (.aload_n 0, 1) := by decide +kernel
theorem dX6_textAt_17 : decode cX6_textAt 17 = .ok (.iload_n 1, 1) := by decide +kernel
theorem dX6_textAt_18 : decode cX6_textAt 18 = .ok (.invokevirtual 106, 3) := by decide +kernel
theorem dX6_textAt_21 : decode cX6_textAt 21 = .ok (.invokevirtual 110, 3) := by decide +kernel
theorem dX6_textAt_24 : decode cX6_textAt 24 = .ok (.iconst 1, 1) := by decide +kernel
theorem dX6_textAt_25 : decode cX6_textAt 25 = .ok (.isub, 1) := by decide +kernel
theorem dX6_textAt_26 : decode cX6_textAt 26 = .ok (.invokestatic 51, 3) := by decide +kernel
theorem dX6_textAt_29 : decode cX6_textAt 29 = .ok (.iconst 2, 1) := by decide +kernel
theorem dX6_textAt_30 : decode cX6_textAt 30 = .ok (.invokevirtual 58, 3) := by decide +kernel
theorem dX6_textAt_33 : decode cX6_textAt 33 = .ok (.ifCond .eq 6, 3) := by decide +kernel
theorem dX6_textAt_36 : decode cX6_textAt 36 = .ok (.bipush 45, 2) := by decide +kernel
theorem dX6_textAt_38 : decode cX6_textAt 38 = .ok (.ireturn, 1) := by decide +kernel
theorem dX6_textAt_39 : decode cX6_textAt 39 = .ok (.aload_n 0, 1) := by decide +kernel
theorem dX6_textAt_40 : decode cX6_textAt 40 = .ok (.iload_n 1, 1) := by decide +kernel
theorem dX6_textAt_41 : decode cX6_textAt 41 = .ok (.invokevirtual 106, 3) := by decide +kernel
theorem dX6_textAt_44 : decode cX6_textAt 44 = .ok (.iload_n 2, 1) := by decide +kernel
theorem dX6_textAt_45 : decode cX6_textAt 45 = .ok (.invokevirtual 113, 3) := by decide +kernel
theorem dX6_textAt_48 : decode cX6_textAt 48 = .ok (.ireturn, 1) := by decide +kernel
set_option maxRecDepth 20000 in
theorem ggX6_assign_X6_isWho : GoodIn wsX6_assign wsX6_isWho := goodIn_r _ [8, 9, 10, 11, 7, 12, 27, 28, 29, 30, 31, 32, 33, 34, 35] (by decide +kernel) (by decide +kernel)
set_option maxRecDepth 20000 in
theorem gX6_assign_X6_isWho : GoodIn wsX6_assign (wsV RX6 62 RX6 yX6_isWho wsX6_isWho) := goodIn_app (goodIn_of _ (by decide +kernel)) ggX6_assign_X6_isWho
set_option maxRecDepth 20000 in
theorem ggX6_assign_X6_isPost : GoodIn wsX6_assign wsX6_isPost := goodIn_r _ [16, 17, 10, 11, 7, 12, 27, 28, 29, 30, 31, 32, 33, 34, 35] (by decide +kernel) (by decide +kernel)
set_option maxRecDepth 20000 in
theorem gX6_assign_X6_isPost : GoodIn wsX6_assign (wsV RX6 66 RX6 yX6_isPost wsX6_isPost) := goodIn_app (goodIn_of _ (by decide +kernel)) ggX6_assign_X6_isPost
set_option maxRecDepth 20000 in
theorem ggX6_assign_X6_no : GoodIn wsX6_assign wsX6_no := goodIn_r _ [21, 22, 27, 28, 29, 30, 31, 32, 33, 34, 35] (by decide +kernel) (by decide +kernel)
set_option maxRecDepth 20000 in
theorem gX6_assign_X6_no : GoodIn wsX6_assign (wsV RX6 58 RX6 yX6_no wsX6_no) := goodIn_app (goodIn_of _ (by decide +kernel)) ggX6_assign_X6_no
set_option maxRecDepth 20000 in
theorem ggX6_assign_X6_having : GoodIn wsX6_assign wsX6_having := goodIn_ca (goodIn_r _ [26, 9, 27, 28, 29, 30, 31, 32, 33, 34, 35] (by decide +kernel) (by decide +kernel)) (goodIn_sub (fun _ h => List.mem_cons_of_mem _ (List.mem_append_right _ h)) (by decide +kernel))
set_option maxRecDepth 20000 in
theorem gX6_assign_X6_having : GoodIn wsX6_assign (wsV RX6 69 RX6 yX6_having wsX6_having) := goodIn_app (goodIn_of _ (by decide +kernel)) ggX6_assign_X6_having
theorem dX6_assign_0 : decode cX6_assign 0 = .ok (.aload_n 0, 1) := by decide +kernel
theorem dX6_assign_1 : decode cX6_assign 1 = .ok (.aload_n 0, 1) := by decide +kernel
theorem dX6_assign_2 : decode cX6_assign 2 = .ok (.iload_n 1, 1) := by decide +kernel
theorem dX6_assign_3 : decode cX6_assign 3 = .ok (.invokevirtual 62, 3) := by decide +kernel
theorem dX6_assign_6 : decode cX6_assign 6 = .ok (.ifCond .eq 15, 3) := by decide +kernel
theorem dX6_assign_9 : decode cX6_assign 9 = .ok (.aload_n 0, 1) := by decide +kernel
theorem dX6_assign_10 : decode cX6_assign 10 = .ok (.iload_n 2, 1) := by decide +kernel
theorem dX6_assign_11 : decode cX6_assign 11 = .ok (.invokevirtual 66, 3) := by decide +kernel
theorem dX6_assign_14 : decode cX6_assign 14 = .ok (.ifCond .eq 7, 3) := by decide +kernel
theorem dX6_assign_17 : decode cX6_assign 17 = .ok (.iconst 1, 1) := by decide +kernel
theorem dX6_assign_18 : decode cX6_assign 18 = .ok (.goto 4, 3) := by decide +kernel
theorem dX6_assign_21 : decode cX6_assign 21 = .ok (.iconst 0, 1) := by decide +kernel
theorem dX6_assign_22 : decode cX6_assign 22 = .ok (.iconst 1, 1) := by decide +kernel
theorem dX6_assign_23 : decode cX6_assign 23 = .ok (.invokevirtual 58, 3) := by decide +kernel
theorem dX6_assign_26 : decode cX6_assign 26 = .ok (.ifCond .eq 5, 3) := by decide +kernel
theorem dX6_assign_29 : decode cX6_assign 29 = .ok (.iconst 0, 1) := by decide +kernel
theorem dX6_assign_30 : decode cX6_assign 30 = .ok (.ireturn, 1) := by decide +kernel
theorem dX6_assign_31 : decode cX6_assign 31 = .ok (.aload_n 0, 1) := by decide +kernel
theorem dX6_assign_32 : decode cX6_assign 32 = .ok (.aload_n 0, 1) := by decide +kernel
theorem dX6_assign_33 : decode cX6_assign 33 = .ok (.getfield 16, 3) := by decide +kernel
theorem dX6_assign_36 : decode cX6_assign 36 = .ok (.iload_n 1, 1) := by decide +kernel
theorem dX6_assign_37 : decode cX6_assign 37 = .ok (.iaload, 1) := by decide +kernel
theorem dX6_assign_38 : decode cX6_assign 38 = .ok (.iload_n 2, 1) := by decide +kernel
theorem dX6_assign_39 : decode cX6_assign 39 = .ok (.if_icmp .eq 36, 3) := by decide +kernel
theorem dX6_assign_42 : decode cX6_assign 42 = .ok (.aload_n 0, 1) := by decide +kernel
theorem dX6_assign_43 : decode cX6_assign 43 = .ok (.getfield 21, 3) := by decide +kernel
theorem dX6_assign_46 : decode cX6_assign 46 = .ok (.iload_n 1, 1) := by decide +kernel
theorem dX6_assign_47 : decode cX6_assign 47 = .ok (.aaload, 1) := by decide +kernel
theorem dX6_assign_48 : decode cX6_assign 48 = .ok (.iload_n 2, 1) := by decide +kernel
theorem dX6_assign_49 : decode cX6_assign 49 = .ok (.iaload, 1) := by decide +kernel
theorem dX6_assign_50 : decode cX6_assign 50 = .ok (.ifCond .le 25, 3) := by decide +kernel
theorem dX6_assign_53 : decode cX6_assign 53 = .ok (.aload_n 0, 1) := by decide +kernel
theorem dX6_assign_54 : decode cX6_assign 54 = .ok (.iload_n 2, 1) := by decide +kernel
theorem dX6_assign_55 : decode cX6_assign 55 = .ok (.aload_n 0, 1) := by decide +kernel
theorem dX6_assign_56 : decode cX6_assign 56 = .ok (.getfield 16, 3) := by decide +kernel
theorem dX6_assign_59 : decode cX6_assign 59 = .ok (.invokevirtual 69, 3) := by decide +kernel
theorem dX6_assign_62 : decode cX6_assign 62 = .ok (.aload_n 0, 1) := by decide +kernel
theorem dX6_assign_63 : decode cX6_assign 63 = .ok (.getfield 13, 3) := by decide +kernel
theorem dX6_assign_66 : decode cX6_assign 66 = .ok (.iload_n 2, 1) := by decide +kernel
theorem dX6_assign_67 : decode cX6_assign 67 = .ok (.iaload, 1) := by decide +kernel
theorem dX6_assign_68 : decode cX6_assign 68 = .ok (.if_icmp .ge 7, 3) := by decide +kernel
theorem dX6_assign_71 : decode cX6_assign 71 = .ok (.iconst 1, 1) := by decide +kernel
theorem dX6_assign_72 : decode cX6_assign 72 = .ok (.goto 4, 3) := by decide +kernel
theorem dX6_assign_75 : decode cX6_assign 75 = .ok (.iconst 0, 1) := by decide +kernel
theorem dX6_assign_76 : decode cX6_assign 76 = .ok (.iconst 2, 1) := by decide +kernel
theorem dX6_assign_77 : decode cX6_assign 77 = .ok (.invokevirtual 58, 3) := by decide +kernel
theorem dX6_assign_80 : decode cX6_assign 80 = .ok (.ifCond .eq 5, 3) := by decide +kernel
theorem dX6_assign_83 : decode cX6_assign 83 = .ok (.iconst 0, 1) := by decide +kernel
theorem dX6_assign_84 : decode cX6_assign 84 = .ok (.ireturn, 1) := by decide +kernel
theorem dX6_assign_85 : decode cX6_assign 85 = .ok (.aload_n 0, 1) := by decide +kernel
theorem dX6_assign_86 : decode cX6_assign 86 = .ok (.getfield 16, 3) := by decide +kernel
theorem dX6_assign_89 : decode cX6_assign 89 = .ok (.iload_n 1, 1) := by decide +kernel
theorem dX6_assign_90 : decode cX6_assign 90 = .ok (.iaload, 1) := by decide +kernel
theorem dX6_assign_91 : decode cX6_assign 91 = .ok (.istore_n 3, 1) := by decide +kernel
theorem dX6_assign_92 : decode cX6_assign 92 = .ok (.aload_n 0, 1) := by decide +kernel
theorem dX6_assign_93 : decode cX6_assign 93 = .ok (.getfield 16, 3) := by decide +kernel
theorem dX6_assign_96 : decode cX6_assign 96 = .ok (.iload_n 1, 1) := by decide +kernel
theorem dX6_assign_97 : decode cX6_assign 97 = .ok (.iload_n 2, 1) := by decide +kernel
theorem dX6_assign_98 : decode cX6_assign 98 = .ok (.iastore, 1) := by decide +kernel
theorem dX6_assign_99 : decode cX6_assign 99 = .ok (.iload_n 3, 1) := by decide +kernel
theorem dX6_assign_100 : decode cX6_assign 100 = .ok (.ireturn, 1) := by decide +kernel
set_option maxRecDepth 20000 in
theorem ggX6_release_X6_isWho : GoodIn wsX6_release wsX6_isWho := goodIn_r _ [6, 7, 8, 9, 5, 10, 16, 17, 18, 19, 20, 21, 22, 23, 24] (by decide +kernel) (by decide +kernel)
set_option maxRecDepth 20000 in
theorem gX6_release_X6_isWho : GoodIn wsX6_release (wsV RX6 62 RX6 yX6_isWho wsX6_isWho) := goodIn_app (goodIn_of _ (by decide +kernel)) ggX6_release_X6_isWho
set_option maxRecDepth 20000 in
theorem ggX6_release_X6_no : GoodIn wsX6_release wsX6_no := goodIn_r _ [14, 15, 16, 17, 18, 19, 20, 21, 22, 23, 24] (by decide +kernel) (by decide +kernel)
set_option maxRecDepth 20000 in
theorem gX6_release_X6_no : GoodIn wsX6_release (wsV RX6 58 RX6 yX6_no wsX6_no) := goodIn_app (goodIn_of _ (by decide +kernel)) ggX6_release_X6_no
theorem dX6_release_0 : decode cX6_release 0 = .ok (.aload_n 0, 1) := by decide +kernel
theorem dX6_release_1 : decode cX6_release 1 = .ok (.aload_n 0, 1) := by decide +kernel
theorem dX6_release_2 : decode cX6_release 2 = .ok (.iload_n 1, 1) := by decide +kernel
theorem dX6_release_3 : decode cX6_release 3 = .ok (.invokevirtual 62, 3) := by decide +kernel
theorem dX6_release_6 : decode cX6_release 6 = .ok (.iconst 1, 1) := by decide +kernel
theorem dX6_release_7 : decode cX6_release 7 = .ok (.invokevirtual 58, 3) := by decide +kernel
theorem dX6_release_10 : decode cX6_release 10 = .ok (.ifCond .ne 25, 3) := by decide +kernel
theorem dX6_release_13 : decode cX6_release 13 = .ok (.aload_n 0, 1) := by decide +kernel
theorem dX6_release_14 : decode cX6_release 14 = .ok (.aload_n 0, 1) := by decide +kernel
theorem dX6_release_15 : decode cX6_release 15 = .ok (.getfield 16, 3) := by decide +kernel
theorem dX6_release_18 : decode cX6_release 18 = .ok (.iload_n 1, 1) := by decide +kernel
theorem dX6_release_19 : decode cX6_release 19 = .ok (.iaload, 1) := by decide +kernel
theorem dX6_release_20 : decode cX6_release 20 = .ok (.ifCond .lt 7, 3) := by decide +kernel
theorem dX6_release_23 : decode cX6_release 23 = .ok (.iconst 1, 1) := by decide +kernel
theorem dX6_release_24 : decode cX6_release 24 = .ok (.goto 4, 3) := by decide +kernel
theorem dX6_release_27 : decode cX6_release 27 = .ok (.iconst 0, 1) := by decide +kernel
theorem dX6_release_28 : decode cX6_release 28 = .ok (.iconst 2, 1) := by decide +kernel
theorem dX6_release_29 : decode cX6_release 29 = .ok (.invokevirtual 58, 3) := by decide +kernel
theorem dX6_release_32 : decode cX6_release 32 = .ok (.ifCond .eq 5, 3) := by decide +kernel
theorem dX6_release_35 : decode cX6_release 35 = .ok (.iconst 0, 1) := by decide +kernel
theorem dX6_release_36 : decode cX6_release 36 = .ok (.ireturn, 1) := by decide +kernel
theorem dX6_release_37 : decode cX6_release 37 = .ok (.aload_n 0, 1) := by decide +kernel
theorem dX6_release_38 : decode cX6_release 38 = .ok (.getfield 16, 3) := by decide +kernel
theorem dX6_release_41 : decode cX6_release 41 = .ok (.iload_n 1, 1) := by decide +kernel
theorem dX6_release_42 : decode cX6_release 42 = .ok (.iaload, 1) := by decide +kernel
theorem dX6_release_43 : decode cX6_release 43 = .ok (.istore_n 2, 1) := by decide +kernel
theorem dX6_release_44 : decode cX6_release 44 = .ok (.aload_n 0, 1) := by decide +kernel
theorem dX6_release_45 : decode cX6_release 45 = .ok (.getfield 16, 3) := by decide +kernel
theorem dX6_release_48 : decode cX6_release 48 = .ok (.iload_n 1, 1) := by decide +kernel
theorem dX6_release_49 : decode cX6_release 49 = .ok (.iconst (-1), 1) := by decide +kernel
theorem dX6_release_50 : decode cX6_release 50 = .ok (.iastore, 1) := by decide +kernel
theorem dX6_release_51 : decode cX6_release 51 = .ok (.iload_n 2, 1) := by decide +kernel
theorem dX6_release_52 : decode cX6_release 52 = .ok (.ireturn, 1) := by decide +kernel
set_option maxRecDepth 20000 in
theorem ggX6_postOf_X6_isWho : GoodIn wsX6_postOf wsX6_isWho := goodIn_r _ [6, 7, 8, 9, 5, 10, 16, 17, 18, 19, 20, 21, 22, 23, 24] (by decide +kernel) (by decide +kernel)
set_option maxRecDepth 20000 in
theorem gX6_postOf_X6_isWho : GoodIn wsX6_postOf (wsV RX6 62 RX6 yX6_isWho wsX6_isWho) := goodIn_app (goodIn_of _ (by decide +kernel)) ggX6_postOf_X6_isWho
set_option maxRecDepth 20000 in
theorem ggX6_postOf_X6_no : GoodIn wsX6_postOf wsX6_no := goodIn_r _ [14, 15, 16, 17, 18, 19, 20, 21, 22, 23, 24] (by decide +kernel) (by decide +kernel)
set_option maxRecDepth 20000 in
theorem gX6_postOf_X6_no : GoodIn wsX6_postOf (wsV RX6 58 RX6 yX6_no wsX6_no) := goodIn_app (goodIn_of _ (by decide +kernel)) ggX6_postOf_X6_no
theorem dX6_postOf_0 : decode cX6_postOf 0 = .ok (.aload_n 0, 1) := by decide +kernel
theorem dX6_postOf_1 : decode cX6_postOf 1 = .ok (.aload_n 0, 1) := by decide +kernel
theorem dX6_postOf_2 : decode cX6_postOf 2 = .ok (.iload_n 1, 1) := by decide +kernel
theorem dX6_postOf_3 : decode cX6_postOf 3 = .ok (.invokevirtual 62, 3) := by decide +kernel
theorem dX6_postOf_6 : decode cX6_postOf 6 = .ok (.iconst 1, 1) := by decide +kernel
theorem dX6_postOf_7 : decode cX6_postOf 7 = .ok (.invokevirtual 58, 3) := by decide +kernel
theorem dX6_postOf_10 : decode cX6_postOf 10 = .ok (.ifCond .eq 7, 3) := by decide +kernel
theorem dX6_postOf_13 : decode cX6_postOf 13 = .ok (.iconst 0, 1) := by decide +kernel
theorem dX6_postOf_14 : decode cX6_postOf 14 = .ok (.goto 9, 3) := by decide +kernel
theorem dX6_postOf_17 : decode cX6_postOf 17 = .ok (.aload_n 0, 1) := by decide +kernel
theorem dX6_postOf_18 : decode cX6_postOf 18 = .ok (.getfield 16, 3) := by decide +kernel
theorem dX6_postOf_21 : decode cX6_postOf 21 = .ok (.iload_n 1, 1) := by decide +kernel
theorem dX6_postOf_22 : decode cX6_postOf 22 = .ok (.iaload, 1) := by decide +kernel
theorem dX6_postOf_23 : decode cX6_postOf 23 = .ok (.ireturn, 1) := by decide +kernel
set_option maxRecDepth 20000 in
theorem ggX6_freeOf_X6_isPost : GoodIn wsX6_freeOf wsX6_isPost := goodIn_r _ [7, 8, 9, 10, 6, 11, 22, 23, 24, 25, 26, 27, 28, 29, 30] (by decide +kernel) (by decide +kernel)
set_option maxRecDepth 20000 in
theorem gX6_freeOf_X6_isPost : GoodIn wsX6_freeOf (wsV RX6 66 RX6 yX6_isPost wsX6_isPost) := goodIn_app (goodIn_of _ (by decide +kernel)) ggX6_freeOf_X6_isPost
set_option maxRecDepth 20000 in
theorem ggX6_freeOf_X6_no : GoodIn wsX6_freeOf wsX6_no := goodIn_r _ [15, 16, 22, 23, 24, 25, 26, 27, 28, 29, 30] (by decide +kernel) (by decide +kernel)
set_option maxRecDepth 20000 in
theorem gX6_freeOf_X6_no : GoodIn wsX6_freeOf (wsV RX6 58 RX6 yX6_no wsX6_no) := goodIn_app (goodIn_of _ (by decide +kernel)) ggX6_freeOf_X6_no
set_option maxRecDepth 20000 in
theorem ggX6_freeOf_X6_having : GoodIn wsX6_freeOf wsX6_having := goodIn_ca (goodIn_r _ [20, 21, 22, 23, 24, 25, 26, 27, 28, 29, 30] (by decide +kernel) (by decide +kernel)) (goodIn_sub (fun _ h => List.mem_cons_of_mem _ (List.mem_append_right _ h)) (by decide +kernel))
set_option maxRecDepth 20000 in
theorem gX6_freeOf_X6_having : GoodIn wsX6_freeOf (wsV RX6 69 RX6 yX6_having wsX6_having) := goodIn_app (goodIn_of _ (by decide +kernel)) ggX6_freeOf_X6_having
theorem dX6_freeOf_0 : decode cX6_freeOf 0 = .ok (.aload_n 0, 1) := by decide +kernel
theorem dX6_freeOf_1 : decode cX6_freeOf 1 = .ok (.aload_n 0, 1) := by decide +kernel
theorem dX6_freeOf_2 : decode cX6_freeOf 2 = .ok (.iload_n 1, 1) := by decide +kernel
theorem dX6_freeOf_3 : decode cX6_freeOf 3 = .ok (.invokevirtual 66, 3) := by decide +kernel
theorem dX6_freeOf_6 : decode cX6_freeOf 6 = .ok (.iconst 1, 1) := by decide +kernel
theorem dX6_freeOf_7 : decode cX6_freeOf 7 = .ok (.invokevirtual 58, 3) := by decide +kernel
theorem dX6_freeOf_10 : decode cX6_freeOf 10 = .ok (.ifCond .eq 7, 3) := by decide +kernel
theorem dX6_freeOf_13 : decode cX6_freeOf 13 = .ok (.iconst 0, 1) := by decide +kernel
theorem dX6_freeOf_14 : decode cX6_freeOf 14 = .ok (.goto 19, 3) := by decide +kernel
theorem dX6_freeOf_17 : decode cX6_freeOf 17 = .ok (.aload_n 0, 1) := by decide +kernel
theorem dX6_freeOf_18 : decode cX6_freeOf 18 = .ok (.getfield 13, 3) := by decide +kernel
theorem dX6_freeOf_21 : decode cX6_freeOf 21 = .ok (.iload_n 1, 1) := by decide +kernel
theorem dX6_freeOf_22 : decode cX6_freeOf 22 = .ok (.iaload, 1) := by decide +kernel
theorem dX6_freeOf_23 : decode cX6_freeOf 23 = .ok (.aload_n 0, 1) := by decide +kernel
theorem dX6_freeOf_24 : decode cX6_freeOf 24 = .ok (.iload_n 1, 1) := by decide +kernel
theorem dX6_freeOf_25 : decode cX6_freeOf 25 = .ok (.aload_n 0, 1) := by decide +kernel
theorem dX6_freeOf_26 : decode cX6_freeOf 26 = .ok (.getfield 16, 3) := by decide +kernel
theorem dX6_freeOf_29 : decode cX6_freeOf 29 = .ok (.invokevirtual 69, 3) := by decide +kernel
theorem dX6_freeOf_32 : decode cX6_freeOf 32 = .ok (.isub, 1) := by decide +kernel
theorem dX6_freeOf_33 : decode cX6_freeOf 33 = .ok (.ireturn, 1) := by decide +kernel
set_option maxRecDepth 20000 in
theorem ggX6_keep_Jx4a65c_size_8abf5 : GoodIn wsX6_keep wsJx4a65c_size_8abf5 := goodIn_r _ [13, 14, 84, 85, 86] (by decide +kernel) (by decide +kernel)
set_option maxRecDepth 20000 in
theorem gX6_keep_Jx4a65c_size_8abf5_f114Jx4a65c : GoodIn wsX6_keep (va_wsF RX6 114 RJx4a65c ⟨"java/util/List", "size", "()I"⟩ yJx4a65c_size_8abf5 wsJx4a65c_size_8abf5) := goodIn_app (goodIn_of _ (by decide +kernel)) ggX6_keep_Jx4a65c_size_8abf5
set_option maxRecDepth 20000 in
theorem ggX6_keep_X6_no : GoodIn wsX6_keep wsX6_no := goodIn_r _ [19, 20, 75, 76, 77, 78, 79, 80, 81, 82, 83] (by decide +kernel) (by decide +kernel)
set_option maxRecDepth 20000 in
theorem gX6_keep_X6_no : GoodIn wsX6_keep (wsV RX6 58 RX6 yX6_no wsX6_no) := goodIn_app (goodIn_of _ (by decide +kernel)) ggX6_keep_X6_no
set_option maxRecDepth 20000 in
theorem ggX6_keep_Jx4a65c_add_9ea2d : GoodIn wsX6_keep wsJx4a65c_add_9ea2d := goodIn_r _ [24, 25, 26, 27, 14, 28, 29, 30, 12, 31, 32, 33, 34, 35, 36, 37, 38, 39, 40, 41, 42, 43, 44, 45, 46, 47, 48, 49, 50, 51, 52, 53, 54, 55, 56, 57, 58, 59, 60, 61, 62, 63, 64, 65, 66, 67, 68, 69, 70, 71, 72, 73, 74, 84, 85, 86] (by decide +kernel) (by decide +kernel)
set_option maxRecDepth 20000 in
theorem gX6_keep_Jx4a65c_add_9ea2d_f124Jx4a65c : GoodIn wsX6_keep (va_wsF RX6 124 RJx4a65c ⟨"java/util/List", "add", "(Ljava/lang/Object;)Z"⟩ yJx4a65c_add_9ea2d wsJx4a65c_add_9ea2d) := goodIn_app (goodIn_of _ (by decide +kernel)) ggX6_keep_Jx4a65c_add_9ea2d
theorem dX6_keep_0 : decode cX6_keep 0 = .ok (.aload_n 0, 1) := by decide +kernel
theorem dX6_keep_1 : decode cX6_keep 1 = .ok (.aload_n 0, 1) := by decide +kernel
theorem dX6_keep_2 : decode cX6_keep 2 = .ok (.getfield 27, 3) := by decide +kernel
theorem dX6_keep_5 : decode cX6_keep 5 = .ok (.invokeinterface 114 1, 5) := by decide +kernel
theorem dX6_keep_10 : decode cX6_keep 10 = .ok (.bipush 10, 2) := by decide +kernel
theorem dX6_keep_12 : decode cX6_keep 12 = .ok (.if_icmp .ge 7, 3) := by decide +kernel
theorem dX6_keep_15 : decode cX6_keep 15 = .ok (.iconst 1, 1) := by decide +kernel
theorem dX6_keep_16 : decode cX6_keep 16 = .ok (.goto 4, 3) := by decide +kernel
theorem dX6_keep_19 : decode cX6_keep 19 = .ok (.iconst 0, 1) := by decide +kernel
theorem dX6_keep_20 : decode cX6_keep 20 = .ok (.iconst 1, 1) := by decide +kernel
theorem dX6_keep_21 : decode cX6_keep 21 = .ok (.invokevirtual 58, 3) := by decide +kernel
theorem dX6_keep_24 : decode cX6_keep 24 = .ok (.ifCond .eq 5, 3) := by decide +kernel
theorem dX6_keep_27 : decode cX6_keep 27 = .ok (.iconst 0, 1) := by decide +kernel
theorem dX6_keep_28 : decode cX6_keep 28 = .ok (.ireturn, 1) := by decide +kernel
theorem dX6_keep_29 : decode cX6_keep 29 = .ok (.aload_n 0, 1) := by decide +kernel
theorem dX6_keep_30 : decode cX6_keep 30 = .ok (.getfield 27, 3) := by decide +kernel
theorem dX6_keep_33 : decode cX6_keep 33 = .ok (.aload_n 0, 1) := by decide +kernel
theorem dX6_keep_34 : decode cX6_keep 34 = .ok (.getfield 16, 3) := by decide +kernel
theorem dX6_keep_37 : decode cX6_keep 37 = .ok (.invokevirtual 119, 3) := by decide +kernel
theorem dX6_keep_40 : decode cX6_keep 40 = .ok (.checkcast 120, 3) := by decide +kernel
theorem dX6_keep_43 : decode cX6_keep 43 = .ok (.invokeinterface 124 2, 5) := by decide +kernel
theorem dX6_keep_48 : decode cX6_keep 48 = .ok (.pop, 1) := by decide +kernel
theorem dX6_keep_49 : decode cX6_keep 49 = .ok (.aload_n 0, 1) := by decide +kernel
theorem dX6_keep_50 : decode cX6_keep 50 = .ok (.getfield 27, 3) := by decide +kernel
theorem dX6_keep_53 : decode cX6_keep 53 = .ok (.invokeinterface 114 1, 5) := by decide +kernel
theorem dX6_keep_58 : decode cX6_keep 58 = .ok (.iconst 1, 1) := by decide +kernel
theorem dX6_keep_59 : decode cX6_keep 59 = .ok (.isub, 1) := by decide +kernel
theorem dX6_keep_60 : decode cX6_keep 60 = .ok (.ireturn, 1) := by decide +kernel
set_option maxRecDepth 20000 in
theorem ggX6_isKept_Jx4a65c_size_8abf5 : GoodIn wsX6_isKept wsJx4a65c_size_8abf5 := goodIn_r _ [6, 7, 21, 22, 23] (by decide +kernel) (by decide +kernel)
set_option maxRecDepth 20000 in
theorem gX6_isKept_Jx4a65c_size_8abf5_f114Jx4a65c : GoodIn wsX6_isKept (va_wsF RX6 114 RJx4a65c ⟨"java/util/List", "size", "()I"⟩ yJx4a65c_size_8abf5 wsJx4a65c_size_8abf5) := goodIn_app (goodIn_of _ (by decide +kernel)) ggX6_isKept_Jx4a65c_size_8abf5
set_option maxRecDepth 20000 in
theorem ggX6_isKept_X6_isIn : GoodIn wsX6_isKept wsX6_isIn := goodIn_r _ [11] (by decide +kernel) (by decide +kernel)
set_option maxRecDepth 20000 in
theorem gX6_isKept_X6_isIn : GoodIn wsX6_isKept (va_wsS RX6 51 yX6_isIn wsX6_isIn) := goodIn_app (goodIn_of _ (by decide +kernel)) ggX6_isKept_X6_isIn
theorem dX6_isKept_0 : decode cX6_isKept 0 = .ok (.iload_n 1, 1) := by decide +kernel
theorem dX6_isKept_1 : decode cX6_isKept 1 = .ok (.iconst 0, 1) := by decide +kernel
theorem dX6_isKept_2 : decode cX6_isKept 2 = .ok (.aload_n 0, 1) := by decide +kernel
theorem dX6_isKept_3 : decode cX6_isKept 3 = .ok (.getfield 27, 3) := by decide +kernel
theorem dX6_isKept_6 : decode cX6_isKept 6 = .ok (.invokeinterface 114 1, 5) := by decide +kernel
theorem dX6_isKept_11 : decode cX6_isKept 11 = .ok (.iconst 1, 1) := by decide +kernel
theorem dX6_isKept_12 : decode cX6_isKept 12 = .ok (.isub, 1) := by decide +kernel
theorem dX6_isKept_13 : decode cX6_isKept 13 = .ok (.invokestatic 51, 3) := by decide +kernel
theorem dX6_isKept_16 : decode cX6_isKept 16 = .ok (.ireturn, 1) := by decide +kernel
set_option maxRecDepth 20000 in
theorem ggX6_isMatching_X6_having : GoodIn wsX6_isMatching wsX6_having := goodIn_ca (goodIn_r _ [9, 1, 10, 11, 12, 13, 14, 15, 16, 17, 18] (by decide +kernel) (by decide +kernel)) (goodIn_sub (fun _ h => List.mem_cons_of_mem _ (List.mem_append_right _ h)) (by decide +kernel))
set_option maxRecDepth 20000 in
theorem gX6_isMatching_X6_having : GoodIn wsX6_isMatching (wsV RX6 69 RX6 yX6_having wsX6_having) := goodIn_app (goodIn_of _ (by decide +kernel)) ggX6_isMatching_X6_having
theorem dX6_isMatching_0 : decode cX6_isMatching 0 = .ok (.iconst 1, 1) := by decide +kernel
theorem dX6_isMatching_1 : decode cX6_isMatching 1 = .ok (.istore_n 2, 1) := by decide +kernel
theorem dX6_isMatching_2 : decode cX6_isMatching 2 = .ok (.iconst 0, 1) := by decide +kernel
theorem dX6_isMatching_3 : decode cX6_isMatching 3 = .ok (.istore_n 3, 1) := by decide +kernel
theorem dX6_isMatching_4 : decode cX6_isMatching 4 = .ok (.iload_n 3, 1) := by decide +kernel
theorem dX6_isMatching_5 : decode cX6_isMatching 5 = .ok (.aload_n 0, 1) := by decide +kernel
theorem dX6_isMatching_6 : decode cX6_isMatching 6 = .ok (.getfield 48, 3) := by decide +kernel
theorem dX6_isMatching_9 : decode cX6_isMatching 9 = .ok (.if_icmp .ge 36, 3) := by decide +kernel
theorem dX6_isMatching_12 : decode cX6_isMatching 12 = .ok (.iload_n 2, 1) := by decide +kernel
theorem dX6_isMatching_13 : decode cX6_isMatching 13 = .ok (.aload_n 1, 1) := by decide +kernel
theorem dX6_isMatching_14 : decode cX6_isMatching 14 = .ok (.iload_n 3, 1) := by decide +kernel
theorem dX6_isMatching_15 : decode cX6_isMatching 15 = .ok (.iaload, 1) := by decide +kernel
theorem dX6_isMatching_16 : decode cX6_isMatching 16 = .ok (.ifCond .lt 16, 3) := by decide +kernel
theorem dX6_isMatching_19 : decode cX6_isMatching 19 = .ok (.aload_n 0, 1) := by decide +kernel
theorem dX6_isMatching_20 : decode cX6_isMatching 20 = .ok (.getfield 21, 3) := by decide +kernel
theorem dX6_isMatching_23 : decode cX6_isMatching 23 = .ok (.iload_n 3, 1) := by decide +kernel
theorem dX6_isMatching_24 : decode cX6_isMatching 24 = .ok (.aaload, 1) := by decide +kernel
theorem dX6_isMatching_25 : decode cX6_isMatching 25 = .ok (.aload_n 1, 1) := by decide +kernel
theorem dX6_isMatching_26 : decode cX6_isMatching 26 = .ok (.iload_n 3, 1) := by decide +kernel
theorem dX6_isMatching_27 : decode cX6_isMatching 27 = .ok (.iaload, 1) := by decide +kernel
theorem dX6_isMatching_28 : decode cX6_isMatching 28 = .ok (.iaload, 1) := by decide +kernel
theorem dX6_isMatching_29 : decode cX6_isMatching 29 = .ok (.ifCond .le 7, 3) := by decide +kernel
theorem dX6_isMatching_32 : decode cX6_isMatching 32 = .ok (.iconst 1, 1) := by decide +kernel
theorem dX6_isMatching_33 : decode cX6_isMatching 33 = .ok (.goto 4, 3) := by decide +kernel
theorem dX6_isMatching_36 : decode cX6_isMatching 36 = .ok (.iconst 0, 1) := by decide +kernel
theorem dX6_isMatching_37 : decode cX6_isMatching 37 = .ok (.iand, 1) := by decide +kernel
theorem dX6_isMatching_38 : decode cX6_isMatching 38 = .ok (.istore_n 2, 1) := by decide +kernel
theorem dX6_isMatching_39 : decode cX6_isMatching 39 = .ok (.iinc 3 1, 3) := by decide +kernel
theorem dX6_isMatching_42 : decode cX6_isMatching 42 = .ok (.goto (-38), 3) := by decide +kernel
theorem dX6_isMatching_45 : decode cX6_isMatching 45 = .ok (.iconst 0, 1) := by decide +kernel
theorem dX6_isMatching_46 : decode cX6_isMatching 46 = .ok (.istore_n 3, 1) := by decide +kernel
theorem dX6_isMatching_47 : decode cX6_isMatching 47 = .ok (.iload_n 3, 1) := by decide +kernel
theorem dX6_isMatching_48 : decode cX6_isMatching 48 = .ok (.aload_n 0, 1) := by decide +kernel
theorem dX6_isMatching_49 : decode cX6_isMatching 49 = .ok (.getfield 55, 3) := by decide +kernel
theorem dX6_isMatching_52 : decode cX6_isMatching 52 = .ok (.if_icmp .ge 32, 3) := by decide +kernel
theorem dX6_isMatching_55 : decode cX6_isMatching 55 = .ok (.iload_n 2, 1) := by decide +kernel
theorem dX6_isMatching_56 : decode cX6_isMatching 56 = .ok (.aload_n 0, 1) := by decide +kernel
theorem dX6_isMatching_57 : decode cX6_isMatching 57 = .ok (.iload_n 3, 1) := by decide +kernel
theorem dX6_isMatching_58 : decode cX6_isMatching 58 = .ok (.aload_n 1, 1) := by decide +kernel
theorem dX6_isMatching_59 : decode cX6_isMatching 59 = .ok (.invokevirtual 69, 3) := by decide +kernel
theorem dX6_isMatching_62 : decode cX6_isMatching 62 = .ok (.aload_n 0, 1) := by decide +kernel
theorem dX6_isMatching_63 : decode cX6_isMatching 63 = .ok (.getfield 13, 3) := by decide +kernel
theorem dX6_isMatching_66 : decode cX6_isMatching 66 = .ok (.iload_n 3, 1) := by decide +kernel
theorem dX6_isMatching_67 : decode cX6_isMatching 67 = .ok (.iaload, 1) := by decide +kernel
theorem dX6_isMatching_68 : decode cX6_isMatching 68 = .ok (.if_icmp .gt 7, 3) := by decide +kernel
theorem dX6_isMatching_71 : decode cX6_isMatching 71 = .ok (.iconst 1, 1) := by decide +kernel
theorem dX6_isMatching_72 : decode cX6_isMatching 72 = .ok (.goto 4, 3) := by decide +kernel
theorem dX6_isMatching_75 : decode cX6_isMatching 75 = .ok (.iconst 0, 1) := by decide +kernel
theorem dX6_isMatching_76 : decode cX6_isMatching 76 = .ok (.iand, 1) := by decide +kernel
theorem dX6_isMatching_77 : decode cX6_isMatching 77 = .ok (.istore_n 2, 1) := by decide +kernel
theorem dX6_isMatching_78 : decode cX6_isMatching 78 = .ok (.iinc 3 1, 3) := by decide +kernel
theorem dX6_isMatching_81 : decode cX6_isMatching 81 = .ok (.goto (-34), 3) := by decide +kernel
theorem dX6_isMatching_84 : decode cX6_isMatching 84 = .ok (.iload_n 2, 1) := by decide +kernel
theorem dX6_isMatching_85 : decode cX6_isMatching 85 = .ok (.ireturn, 1) := by decide +kernel
set_option maxRecDepth 20000 in
theorem ggX6_take_X6_isKept : GoodIn wsX6_take wsX6_isKept := goodIn_r _ [13, 1, 14, 15, 16, 17, 18, 19, 20, 21, 12, 22, 56, 57, 58, 59, 60, 61, 62, 63, 64, 65, 66, 67] (by decide +kernel) (by decide +kernel)
set_option maxRecDepth 20000 in
theorem gX6_take_X6_isKept : GoodIn wsX6_take (wsV RX6 128 RX6 yX6_isKept wsX6_isKept) := goodIn_app (goodIn_of _ (by decide +kernel)) ggX6_take_X6_isKept
set_option maxRecDepth 20000 in
theorem ggX6_take_X6_no : GoodIn wsX6_take wsX6_no := goodIn_r _ [26, 27, 56, 57, 58, 59, 60, 61, 62, 63, 64] (by decide +kernel) (by decide +kernel)
set_option maxRecDepth 20000 in
theorem gX6_take_X6_no : GoodIn wsX6_take (wsV RX6 58 RX6 yX6_no wsX6_no) := goodIn_app (goodIn_of _ (by decide +kernel)) ggX6_take_X6_no
set_option maxRecDepth 20000 in
theorem ggX6_take_Jx4a65c_get_915e3 : GoodIn wsX6_take wsJx4a65c_get_915e3 := goodIn_r _ [31, 19, 32, 33, 34, 35, 36, 37, 38, 39, 40, 41, 42, 17, 43, 44, 65, 66, 67] (by decide +kernel) (by decide +kernel)
set_option maxRecDepth 20000 in
theorem gX6_take_Jx4a65c_get_915e3_f131Jx4a65c : GoodIn wsX6_take (va_wsF RX6 131 RJx4a65c ⟨"java/util/List", "get", "(I)Ljava/lang/Object;"⟩ yJx4a65c_get_915e3 wsJx4a65c_get_915e3) := goodIn_app (goodIn_of _ (by decide +kernel)) ggX6_take_Jx4a65c_get_915e3
set_option maxRecDepth 20000 in
theorem ggX6_take_X6_isMatching : GoodIn wsX6_take wsX6_isMatching := goodIn_ca (goodIn_r _ [48, 8, 49, 50, 51, 52, 53, 54, 12, 55, 56, 57, 58, 59, 60, 61, 62, 63, 64] (by decide +kernel) (by decide +kernel)) (goodIn_sub (fun _ h => List.mem_cons_of_mem _ (List.mem_append_right _ h)) (by decide +kernel))
set_option maxRecDepth 20000 in
theorem gX6_take_X6_isMatching : GoodIn wsX6_take (wsV RX6 135 RX6 yX6_isMatching wsX6_isMatching) := goodIn_app (goodIn_of _ (by decide +kernel)) ggX6_take_X6_isMatching
set_option maxRecDepth 20000 in
theorem ggX6_take_X6_having : GoodIn wsX6_take wsX6_having := goodIn_ca (goodIn_r _ [55, 8, 56, 57, 58, 59, 60, 61, 62, 63, 64] (by decide +kernel) (by decide +kernel)) (goodIn_sub (fun _ h => List.mem_cons_of_mem _ (List.mem_append_right _ h)) (by decide +kernel))
set_option maxRecDepth 20000 in
theorem gX6_take_X6_having : GoodIn wsX6_take (wsV RX6 69 RX6 yX6_having wsX6_having) := goodIn_app (goodIn_of _ (by decide +kernel)) ggX6_take_X6_having
theorem dX6_take_0 : decode cX6_take 0 = .ok (.aload_n 0, 1) := by decide +kernel
theorem dX6_take_1 : decode cX6_take 1 = .ok (.aload_n 0, 1) := by decide +kernel
theorem dX6_take_2 : decode cX6_take 2 = .ok (.iload_n 1, 1) := by decide +kernel
theorem dX6_take_3 : decode cX6_take 3 = .ok (.invokevirtual 128, 3) := by decide +kernel
theorem dX6_take_6 : decode cX6_take 6 = .ok (.iconst 1, 1) := by decide +kernel
theorem dX6_take_7 : decode cX6_take 7 = .ok (.invokevirtual 58, 3) := by decide +kernel
theorem dX6_take_10 : decode cX6_take 10 = .ok (.ifCond .ne 28, 3) := by decide +kernel
theorem dX6_take_13 : decode cX6_take 13 = .ok (.aload_n 0, 1) := by decide +kernel
theorem dX6_take_14 : decode cX6_take 14 = .ok (.aload_n 0, 1) := by decide +kernel
theorem dX6_take_15 : decode cX6_take 15 = .ok (.aload_n 0, 1) := by decide +kernel
theorem dX6_take_16 : decode cX6_take 16 = .ok (.getfield 27, 3) := by decide +kernel
theorem dX6_take_19 : decode cX6_take 19 = .ok (.iload_n 1, 1) := by decide +kernel
theorem dX6_take_20 : decode cX6_take 20 = .ok (.invokeinterface 131 2, 5) := by decide +kernel
theorem dX6_take_25 : decode cX6_take 25 = .ok (.checkcast 120, 3) := by decide +kernel
theorem dX6_take_28 : decode cX6_take 28 = .ok (.invokevirtual 135, 3) := by decide +kernel
theorem dX6_take_31 : decode cX6_take 31 = .ok (.iconst 2, 1) := by decide +kernel
theorem dX6_take_32 : decode cX6_take 32 = .ok (.invokevirtual 58, 3) := by decide +kernel
theorem dX6_take_35 : decode cX6_take 35 = .ok (.ifCond .eq 5, 3) := by decide +kernel
theorem dX6_take_38 : decode cX6_take 38 = .ok (.iconst 0, 1) := by decide +kernel
theorem dX6_take_39 : decode cX6_take 39 = .ok (.ireturn, 1) := by decide +kernel
theorem dX6_take_40 : decode cX6_take 40 = .ok (.aload_n 0, 1) := by decide +kernel
theorem dX6_take_41 : decode cX6_take 41 = .ok (.getfield 27, 3) := by decide +kernel
theorem dX6_take_44 : decode cX6_take 44 = .ok (.iload_n 1, 1) := by decide +kernel
theorem dX6_take_45 : decode cX6_take 45 = .ok (.invokeinterface 131 2, 5) := by decide +kernel
theorem dX6_take_50 : decode cX6_take 50 = .ok (.iconst 0, 1) := by decide +kernel
theorem dX6_take_51 : decode cX6_take 51 = .ok (.aload_n 0, 1) := by decide +kernel
theorem dX6_take_52 : decode cX6_take 52 = .ok (.getfield 16, 3) := by decide +kernel
theorem dX6_take_55 : decode cX6_take 55 = .ok (.iconst 0, 1) := by decide +kernel
theorem dX6_take_56 : decode cX6_take 56 = .ok (.bipush 10, 2) := by decide +kernel
theorem dX6_take_58 : decode cX6_take 58 = .ok (.invokestatic 96, 3) := by decide +kernel
theorem dX6_take_61 : decode cX6_take 61 = .ok (.aload_n 0, 1) := by decide +kernel
theorem dX6_take_62 : decode cX6_take 62 = .ok (.getfield 48, 3) := by decide +kernel
theorem dX6_take_65 : decode cX6_take 65 = .ok (.aload_n 0, 1) := by decide +kernel
theorem dX6_take_66 : decode cX6_take 66 = .ok (.iconst (-1), 1) := by decide +kernel
theorem dX6_take_67 : decode cX6_take 67 = .ok (.aload_n 0, 1) := by decide +kernel
theorem dX6_take_68 : decode cX6_take 68 = .ok (.getfield 16, 3) := by decide +kernel
theorem dX6_take_71 : decode cX6_take 71 = .ok (.invokevirtual 69, 3) := by decide +kernel
theorem dX6_take_74 : decode cX6_take 74 = .ok (.isub, 1) := by decide +kernel
theorem dX6_take_75 : decode cX6_take 75 = .ok (.ireturn, 1) := by decide +kernel
set_option maxRecDepth 20000 in
theorem ggX6_keptPost_X6_isKept : GoodIn wsX6_keptPost wsX6_isKept := goodIn_r _ [7, 1, 8, 9, 10, 11, 12, 13, 14, 15, 6, 16, 44, 45, 46, 47, 48, 49, 50, 51, 52, 53, 54, 55] (by decide +kernel) (by decide +kernel)
set_option maxRecDepth 20000 in
theorem gX6_keptPost_X6_isKept : GoodIn wsX6_keptPost (wsV RX6 128 RX6 yX6_isKept wsX6_isKept) := goodIn_app (goodIn_of _ (by decide +kernel)) ggX6_keptPost_X6_isKept
set_option maxRecDepth 20000 in
theorem ggX6_keptPost_X6_isWho : GoodIn wsX6_keptPost wsX6_isWho := goodIn_r _ [20, 21, 14, 15, 6, 16, 44, 45, 46, 47, 48, 49, 50, 51, 52] (by decide +kernel) (by decide +kernel)
set_option maxRecDepth 20000 in
theorem gX6_keptPost_X6_isWho : GoodIn wsX6_keptPost (wsV RX6 62 RX6 yX6_isWho wsX6_isWho) := goodIn_app (goodIn_of _ (by decide +kernel)) ggX6_keptPost_X6_isWho
set_option maxRecDepth 20000 in
theorem ggX6_keptPost_X6_no : GoodIn wsX6_keptPost wsX6_no := goodIn_r _ [25, 26, 44, 45, 46, 47, 48, 49, 50, 51, 52] (by decide +kernel) (by decide +kernel)
set_option maxRecDepth 20000 in
theorem gX6_keptPost_X6_no : GoodIn wsX6_keptPost (wsV RX6 58 RX6 yX6_no wsX6_no) := goodIn_app (goodIn_of _ (by decide +kernel)) ggX6_keptPost_X6_no
set_option maxRecDepth 20000 in
theorem ggX6_keptPost_Jx4a65c_get_915e3 : GoodIn wsX6_keptPost wsJx4a65c_get_915e3 := goodIn_r _ [30, 13, 31, 32, 33, 34, 35, 36, 37, 38, 39, 40, 41, 11, 42, 43, 53, 54, 55] (by decide +kernel) (by decide +kernel)
set_option maxRecDepth 20000 in
theorem gX6_keptPost_Jx4a65c_get_915e3_f131Jx4a65c : GoodIn wsX6_keptPost (va_wsF RX6 131 RJx4a65c ⟨"java/util/List", "get", "(I)Ljava/lang/Object;"⟩ yJx4a65c_get_915e3 wsJx4a65c_get_915e3) := goodIn_app (goodIn_of _ (by decide +kernel)) ggX6_keptPost_Jx4a65c_get_915e3
theorem dX6_keptPost_0 : decode cX6_keptPost 0 = .ok (.aload_n 0, 1) := by decide +kernel
theorem dX6_keptPost_1 : decode cX6_keptPost 1 = .ok (.aload_n 0, 1) := by decide +kernel
theorem dX6_keptPost_2 : decode cX6_keptPost 2 = .ok (.iload_n 1, 1) := by decide +kernel
theorem dX6_keptPost_3 : decode cX6_keptPost 3 = .ok (.invokevirtual 128, 3) := by decide +kernel
theorem dX6_keptPost_6 : decode cX6_keptPost 6 = .ok (.ifCond .eq 15, 3) := by decide +kernel
theorem dX6_keptPost_9 : decode cX6_keptPost 9 = .ok (.aload_n 0, 1) := by decide +kernel
theorem dX6_keptPost_10 : decode cX6_keptPost 10 = .ok (.iload_n 2, 1) := by decide +kernel
theorem dX6_keptPost_11 : decode cX6_keptPost 11 = .ok (.invokevirtual 62, 3) := by decide +kernel
theorem dX6_keptPost_14 : decode cX6_keptPost 14 = .ok (.ifCond .eq 7, 3) := by decide +kernel
theorem dX6_keptPost_17 : decode cX6_keptPost 17 = .ok (.iconst 1, 1) := by decide +kernel
theorem dX6_keptPost_18 : decode cX6_keptPost 18 = .ok (.goto 4, 3) := by decide +kernel
theorem dX6_keptPost_21 : decode cX6_keptPost 21 = .ok (.iconst 0, 1) := by decide +kernel
theorem dX6_keptPost_22 : decode cX6_keptPost 22 = .ok (.iconst 1, 1) := by decide +kernel
theorem dX6_keptPost_23 : decode cX6_keptPost 23 = .ok (.invokevirtual 58, 3) := by decide +kernel
theorem dX6_keptPost_26 : decode cX6_keptPost 26 = .ok (.ifCond .eq 7, 3) := by decide +kernel
theorem dX6_keptPost_29 : decode cX6_keptPost 29 = .ok (.iconst 0, 1) := by decide +kernel
theorem dX6_keptPost_30 : decode cX6_keptPost 30 = .ok (.goto 18, 3) := by decide +kernel
theorem dX6_keptPost_33 : decode cX6_keptPost 33 = .ok (.aload_n 0, 1) := by decide +kernel
theorem dX6_keptPost_34 : decode cX6_keptPost 34 = .ok (.getfield 27, 3) := by decide +kernel
theorem dX6_keptPost_37 : decode cX6_keptPost 37 = .ok (.iload_n 1, 1) := by decide +kernel
theorem dX6_keptPost_38 : decode cX6_keptPost 38 = .ok (.invokeinterface 131 2, 5) := by decide +kernel
theorem dX6_keptPost_43 : decode cX6_keptPost 43 = .ok (.checkcast 120, 3) := by decide +kernel
theorem dX6_keptPost_46 : decode cX6_keptPost 46 = .ok (.iload_n 2, 1) := by decide +kernel
theorem dX6_keptPost_47 : decode cX6_keptPost 47 = .ok (.iaload, 1) := by decide +kernel
theorem dX6_keptPost_48 : decode cX6_keptPost 48 = .ok (.ireturn, 1) := by decide +kernel
theorem dX6_rank_0 : decode cX6_rank 0 = .ok (.iload_n 2, 1) := by decide +kernel
theorem dX6_rank_1 : decode cX6_rank 1 = .ok (.ifCond .lt 14, 3) := by decide +kernel
theorem dX6_rank_4 : decode cX6_rank 4 = .ok (.aload_n 0, 1) := by decide +kernel
theorem dX6_rank_5 : decode cX6_rank 5 = .ok (.getfield 21, 3) := by decide +kernel
theorem dX6_rank_8 : decode cX6_rank 8 = .ok (.iload_n 1, 1) := by decide +kernel
theorem dX6_rank_9 : decode cX6_rank 9 = .ok (.aaload, 1) := by decide +kernel
theorem dX6_rank_10 : decode cX6_rank 10 = .ok (.iload_n 2, 1) := by decide +kernel
theorem dX6_rank_11 : decode cX6_rank 11 = .ok (.iaload, 1) := by decide +kernel
theorem dX6_rank_12 : decode cX6_rank 12 = .ok (.ifCond .ne 8, 3) := by decide +kernel
theorem dX6_rank_15 : decode cX6_rank 15 = .ok (.bipush 99, 2) := by decide +kernel
theorem dX6_rank_17 : decode cX6_rank 17 = .ok (.goto 11, 3) := by decide +kernel
theorem dX6_rank_20 : decode cX6_rank 20 = .ok (.aload_n 0, 1) := by decide +kernel
theorem dX6_rank_21 : decode cX6_rank 21 = .ok (.getfield 21, 3) := by decide +kernel
theorem dX6_rank_24 : decode cX6_rank 24 = .ok (.iload_n 1, 1) := by decide +kernel
theorem dX6_rank_25 : decode cX6_rank 25 = .ok (.aaload, 1) := by decide +kernel
theorem dX6_rank_26 : decode cX6_rank 26 = .ok (.iload_n 2, 1) := by decide +kernel
theorem dX6_rank_27 : decode cX6_rank 27 = .ok (.iaload, 1) := by decide +kernel
theorem dX6_rank_28 : decode cX6_rank 28 = .ok (.ireturn, 1) := by decide +kernel
set_option maxRecDepth 20000 in
theorem ggX6_isAny_X6_isKept : GoodIn wsX6_isAny wsX6_isKept := goodIn_r _ [5, 6, 7, 8, 9, 10, 11, 12, 13, 14, 4, 15, 16, 17, 18, 19, 20, 21, 22, 23, 24, 25, 26, 27] (by decide +kernel) (by decide +kernel)
set_option maxRecDepth 20000 in
theorem gX6_isAny_X6_isKept : GoodIn wsX6_isAny (wsV RX6 128 RX6 yX6_isKept wsX6_isKept) := goodIn_app (goodIn_of _ (by decide +kernel)) ggX6_isAny_X6_isKept
theorem dX6_isAny_0 : decode cX6_isAny 0 = .ok (.iload_n 1, 1) := by decide +kernel
theorem dX6_isAny_1 : decode cX6_isAny 1 = .ok (.iconst (-1), 1) := by decide +kernel
theorem dX6_isAny_2 : decode cX6_isAny 2 = .ok (.if_icmp .eq 11, 3) := by decide +kernel
theorem dX6_isAny_5 : decode cX6_isAny 5 = .ok (.aload_n 0, 1) := by decide +kernel
theorem dX6_isAny_6 : decode cX6_isAny 6 = .ok (.iload_n 1, 1) := by decide +kernel
theorem dX6_isAny_7 : decode cX6_isAny 7 = .ok (.invokevirtual 128, 3) := by decide +kernel
theorem dX6_isAny_10 : decode cX6_isAny 10 = .ok (.ifCond .eq 7, 3) := by decide +kernel
theorem dX6_isAny_13 : decode cX6_isAny 13 = .ok (.iconst 1, 1) := by decide +kernel
theorem dX6_isAny_14 : decode cX6_isAny 14 = .ok (.goto 4, 3) := by decide +kernel
theorem dX6_isAny_17 : decode cX6_isAny 17 = .ok (.iconst 0, 1) := by decide +kernel
theorem dX6_isAny_18 : decode cX6_isAny 18 = .ok (.ireturn, 1) := by decide +kernel
set_option maxRecDepth 20000 in
theorem ggX6_row_Jx4a65c_get_915e3 : GoodIn wsX6_row wsJx4a65c_get_915e3 := goodIn_r _ [8, 9, 10, 11, 12, 13, 14, 15, 16, 17, 18, 19, 20, 7, 21, 22, 32, 33, 34] (by decide +kernel) (by decide +kernel)
set_option maxRecDepth 20000 in
theorem gX6_row_Jx4a65c_get_915e3_f131Jx4a65c : GoodIn wsX6_row (va_wsF RX6 131 RJx4a65c ⟨"java/util/List", "get", "(I)Ljava/lang/Object;"⟩ yJx4a65c_get_915e3 wsJx4a65c_get_915e3) := goodIn_app (goodIn_of _ (by decide +kernel)) ggX6_row_Jx4a65c_get_915e3
theorem dX6_row_0 : decode cX6_row 0 = .ok (.iload_n 1, 1) := by decide +kernel
theorem dX6_row_1 : decode cX6_row 1 = .ok (.ifCond .ge 10, 3) := by decide +kernel
theorem dX6_row_4 : decode cX6_row 4 = .ok (.aload_n 0, 1) := by decide +kernel
theorem dX6_row_5 : decode cX6_row 5 = .ok (.getfield 16, 3) := by decide +kernel
theorem dX6_row_8 : decode cX6_row 8 = .ok (.goto 16, 3) := by decide +kernel
theorem dX6_row_11 : decode cX6_row 11 = .ok (.aload_n 0, 1) := by decide +kernel
theorem dX6_row_12 : decode cX6_row 12 = .ok (.getfield 27, 3) := by decide +kernel
theorem dX6_row_15 : decode cX6_row 15 = .ok (.iload_n 1, 1) := by decide +kernel
theorem dX6_row_16 : decode cX6_row 16 = .ok (.invokeinterface 131 2, 5) := by decide +kernel
theorem dX6_row_21 : decode cX6_row 21 = .ok (.checkcast 120, 3) := by decide +kernel
theorem dX6_row_24 : decode cX6_row 24 = .ok (.areturn, 1) := by decide +kernel
set_option maxRecDepth 20000 in
theorem ggX6_votesOf_X6_rank : GoodIn wsX6_votesOf wsX6_rank := goodIn_ca (goodIn_r _ [7, 8, 9, 10, 11, 12, 13, 14, 15, 16, 17] (by decide +kernel) (by decide +kernel)) (goodIn_sub (fun _ h => List.mem_cons_of_mem _ (List.mem_append_right _ h)) (by decide +kernel))
set_option maxRecDepth 20000 in
theorem gX6_votesOf_X6_rank : GoodIn wsX6_votesOf (wsV RX6 139 RX6 yX6_rank wsX6_rank) := goodIn_app (goodIn_of _ (by decide +kernel)) ggX6_votesOf_X6_rank
theorem dX6_votesOf_0 : decode cX6_votesOf 0 = .ok (.iconst 0, 1) := by decide +kernel
theorem dX6_votesOf_1 : decode cX6_votesOf 1 = .ok (.istore_n 3, 1) := by decide +kernel
theorem dX6_votesOf_2 : decode cX6_votesOf 2 = .ok (.iconst 0, 1) := by decide +kernel
theorem dX6_votesOf_3 : decode cX6_votesOf 3 = .ok (.istore 4, 2) := by decide +kernel
theorem dX6_votesOf_5 : decode cX6_votesOf 5 = .ok (.iload 4, 2) := by decide +kernel
theorem dX6_votesOf_7 : decode cX6_votesOf 7 = .ok (.aload_n 0, 1) := by decide +kernel
theorem dX6_votesOf_8 : decode cX6_votesOf 8 = .ok (.getfield 48, 3) := by decide +kernel
theorem dX6_votesOf_11 : decode cX6_votesOf 11 = .ok (.if_icmp .ge 46, 3) := by decide +kernel
theorem dX6_votesOf_14 : decode cX6_votesOf 14 = .ok (.iload_n 3, 1) := by decide +kernel
theorem dX6_votesOf_15 : decode cX6_votesOf 15 = .ok (.aload_n 0, 1) := by decide +kernel
theorem dX6_votesOf_16 : decode cX6_votesOf 16 = .ok (.iload 4, 2) := by decide +kernel
theorem dX6_votesOf_18 : decode cX6_votesOf 18 = .ok (.aload_n 1, 1) := by decide +kernel
theorem dX6_votesOf_19 : decode cX6_votesOf 19 = .ok (.iload 4, 2) := by decide +kernel
theorem dX6_votesOf_21 : decode cX6_votesOf 21 = .ok (.iaload, 1) := by decide +kernel
theorem dX6_votesOf_22 : decode cX6_votesOf 22 = .ok (.invokevirtual 139, 3) := by decide +kernel
theorem dX6_votesOf_25 : decode cX6_votesOf 25 = .ok (.aload_n 0, 1) := by decide +kernel
theorem dX6_votesOf_26 : decode cX6_votesOf 26 = .ok (.iload 4, 2) := by decide +kernel
theorem dX6_votesOf_28 : decode cX6_votesOf 28 = .ok (.aload_n 2, 1) := by decide +kernel
theorem dX6_votesOf_29 : decode cX6_votesOf 29 = .ok (.iload 4, 2) := by decide +kernel
theorem dX6_votesOf_31 : decode cX6_votesOf 31 = .ok (.iaload, 1) := by decide +kernel
theorem dX6_votesOf_32 : decode cX6_votesOf 32 = .ok (.invokevirtual 139, 3) := by decide +kernel
theorem dX6_votesOf_35 : decode cX6_votesOf 35 = .ok (.if_icmp .ge 13, 3) := by decide +kernel
theorem dX6_votesOf_38 : decode cX6_votesOf 38 = .ok (.aload_n 0, 1) := by decide +kernel
theorem dX6_votesOf_39 : decode cX6_votesOf 39 = .ok (.getfield 9, 3) := by decide +kernel
theorem dX6_votesOf_42 : decode cX6_votesOf 42 = .ok (.iload 4, 2) := by decide +kernel
theorem dX6_votesOf_44 : decode cX6_votesOf 44 = .ok (.iaload, 1) := by decide +kernel
theorem dX6_votesOf_45 : decode cX6_votesOf 45 = .ok (.goto 4, 3) := by decide +kernel
theorem dX6_votesOf_48 : decode cX6_votesOf 48 = .ok (.iconst 0, 1) := by decide +kernel
theorem dX6_votesOf_49 : decode cX6_votesOf 49 = .ok (.iadd, 1) := by decide +kernel
theorem dX6_votesOf_50 : decode cX6_votesOf 50 = .ok (.istore_n 3, 1) := by decide +kernel
theorem dX6_votesOf_51 : decode cX6_votesOf 51 = .ok (.iinc 4 1, 3) := by decide +kernel
theorem dX6_votesOf_54 : decode cX6_votesOf 54 = .ok (.goto (-49), 3) := by decide +kernel
theorem dX6_votesOf_57 : decode cX6_votesOf 57 = .ok (.iload_n 3, 1) := by decide +kernel
theorem dX6_votesOf_58 : decode cX6_votesOf 58 = .ok (.ireturn, 1) := by decide +kernel
set_option maxRecDepth 20000 in
theorem ggX6_marginOf_X6_votesOf : GoodIn wsX6_marginOf wsX6_votesOf := goodIn_ca (goodIn_r _ [5, 6, 7, 8, 9, 10, 4, 11, 12, 13, 14, 15, 16, 17, 18, 19, 20, 21] (by decide +kernel) (by decide +kernel)) (goodIn_sub (fun _ h => List.mem_cons_of_mem _ (List.mem_append_right _ h)) (by decide +kernel))
set_option maxRecDepth 20000 in
theorem gX6_marginOf_X6_votesOf : GoodIn wsX6_marginOf (wsV RX6 143 RX6 yX6_votesOf wsX6_votesOf) := goodIn_app (goodIn_of _ (by decide +kernel)) ggX6_marginOf_X6_votesOf
theorem dX6_marginOf_0 : decode cX6_marginOf 0 = .ok (.aload_n 0, 1) := by decide +kernel
theorem dX6_marginOf_1 : decode cX6_marginOf 1 = .ok (.aload_n 1, 1) := by decide +kernel
theorem dX6_marginOf_2 : decode cX6_marginOf 2 = .ok (.aload_n 2, 1) := by decide +kernel
theorem dX6_marginOf_3 : decode cX6_marginOf 3 = .ok (.invokevirtual 143, 3) := by decide +kernel
theorem dX6_marginOf_6 : decode cX6_marginOf 6 = .ok (.aload_n 0, 1) := by decide +kernel
theorem dX6_marginOf_7 : decode cX6_marginOf 7 = .ok (.aload_n 2, 1) := by decide +kernel
theorem dX6_marginOf_8 : decode cX6_marginOf 8 = .ok (.aload_n 1, 1) := by decide +kernel
theorem dX6_marginOf_9 : decode cX6_marginOf 9 = .ok (.invokevirtual 143, 3) := by decide +kernel
theorem dX6_marginOf_12 : decode cX6_marginOf 12 = .ok (.isub, 1) := by decide +kernel
theorem dX6_marginOf_13 : decode cX6_marginOf 13 = .ok (.ireturn, 1) := by decide +kernel
set_option maxRecDepth 20000 in
theorem ggX6_votes_X6_isAny : GoodIn wsX6_votes wsX6_isAny := goodIn_r _ [5, 6, 7, 8, 4, 9, 10, 11, 12, 13, 14, 15, 16, 17, 18, 19, 59, 60, 61, 62, 63, 64, 65, 66, 67, 68, 69, 70] (by decide +kernel) (by decide +kernel)
set_option maxRecDepth 20000 in
theorem gX6_votes_X6_isAny : GoodIn wsX6_votes (wsV RX6 147 RX6 yX6_isAny wsX6_isAny) := goodIn_app (goodIn_of _ (by decide +kernel)) ggX6_votes_X6_isAny
set_option maxRecDepth 20000 in
theorem ggX6_votes_X6_no : GoodIn wsX6_votes wsX6_no := goodIn_r _ [23, 24, 59, 60, 61, 62, 63, 64, 65, 66, 67] (by decide +kernel) (by decide +kernel)
set_option maxRecDepth 20000 in
theorem gX6_votes_X6_no : GoodIn wsX6_votes (wsV RX6 58 RX6 yX6_no wsX6_no) := goodIn_app (goodIn_of _ (by decide +kernel)) ggX6_votes_X6_no
set_option maxRecDepth 20000 in
theorem ggX6_votes_X6_row : GoodIn wsX6_votes wsX6_row := goodIn_r _ [28, 29, 10, 30, 31, 32, 33, 14, 34, 16, 35, 36, 37, 38, 39, 40, 41, 42, 43, 44, 45, 46, 47, 59, 60, 61, 62, 63, 64, 65, 66, 67, 68, 69, 70] (by decide +kernel) (by decide +kernel)
set_option maxRecDepth 20000 in
theorem gX6_votes_X6_row : GoodIn wsX6_votes (wsV RX6 150 RX6 yX6_row wsX6_row) := goodIn_app (goodIn_of _ (by decide +kernel)) ggX6_votes_X6_row
set_option maxRecDepth 20000 in
theorem ggX6_votes_X6_votesOf : GoodIn wsX6_votes wsX6_votesOf := goodIn_ca (goodIn_r _ [51, 52, 53, 54, 55, 56, 4, 57, 58, 59, 60, 61, 62, 63, 64, 65, 66, 67] (by decide +kernel) (by decide +kernel)) (goodIn_sub (fun _ h => List.mem_cons_of_mem _ (List.mem_append_right _ h)) (by decide +kernel))
set_option maxRecDepth 20000 in
theorem gX6_votes_X6_votesOf : GoodIn wsX6_votes (wsV RX6 143 RX6 yX6_votesOf wsX6_votesOf) := goodIn_app (goodIn_of _ (by decide +kernel)) ggX6_votes_X6_votesOf
theorem dX6_votes_0 : decode cX6_votes 0 = .ok (.aload_n 0, 1) := by decide +kernel
theorem dX6_votes_1 : decode cX6_votes 1 = .ok (.aload_n 0, 1) := by decide +kernel
theorem dX6_votes_2 : decode cX6_votes 2 = .ok (.iload_n 1, 1) := by decide +kernel
theorem dX6_votes_3 : decode cX6_votes 3 = .ok (.invokevirtual 147, 3) := by decide +kernel
theorem dX6_votes_6 : decode cX6_votes 6 = .ok (.ifCond .eq 15, 3) := by decide +kernel
theorem dX6_votes_9 : decode cX6_votes 9 = .ok (.aload_n 0, 1) := by decide +kernel
theorem dX6_votes_10 : decode cX6_votes 10 = .ok (.iload_n 2, 1) := by decide +kernel
theorem dX6_votes_11 : decode cX6_votes 11 = .ok (.invokevirtual 147, 3) := by decide +kernel
theorem dX6_votes_14 : decode cX6_votes 14 = .ok (.ifCond .eq 7, 3) := by decide +kernel
theorem dX6_votes_17 : decode cX6_votes 17 = .ok (.iconst 1, 1) := by decide +kernel
theorem dX6_votes_18 : decode cX6_votes 18 = .ok (.goto 4, 3) := by decide +kernel
theorem dX6_votes_21 : decode cX6_votes 21 = .ok (.iconst 0, 1) := by decide +kernel
theorem dX6_votes_22 : decode cX6_votes 22 = .ok (.iconst 1, 1) := by decide +kernel
theorem dX6_votes_23 : decode cX6_votes 23 = .ok (.invokevirtual 58, 3) := by decide +kernel
theorem dX6_votes_26 : decode cX6_votes 26 = .ok (.ifCond .eq 7, 3) := by decide +kernel
theorem dX6_votes_29 : decode cX6_votes 29 = .ok (.iconst 0, 1) := by decide +kernel
theorem dX6_votes_30 : decode cX6_votes 30 = .ok (.goto 17, 3) := by decide +kernel
theorem dX6_votes_33 : decode cX6_votes 33 = .ok (.aload_n 0, 1) := by decide +kernel
theorem dX6_votes_34 : decode cX6_votes 34 = .ok (.aload_n 0, 1) := by decide +kernel
theorem dX6_votes_35 : decode cX6_votes 35 = .ok (.iload_n 1, 1) := by decide +kernel
theorem dX6_votes_36 : decode cX6_votes 36 = .ok (.invokevirtual 150, 3) := by decide +kernel
theorem dX6_votes_39 : decode cX6_votes 39 = .ok (.aload_n 0, 1) := by decide +kernel
theorem dX6_votes_40 : decode cX6_votes 40 = .ok (.iload_n 2, 1) := by decide +kernel
theorem dX6_votes_41 : decode cX6_votes 41 = .ok (.invokevirtual 150, 3) := by decide +kernel
theorem dX6_votes_44 : decode cX6_votes 44 = .ok (.invokevirtual 143, 3) := by decide +kernel
theorem dX6_votes_47 : decode cX6_votes 47 = .ok (.ireturn, 1) := by decide +kernel
set_option maxRecDepth 20000 in
theorem ggX6_margin_X6_isAny : GoodIn wsX6_margin wsX6_isAny := goodIn_r _ [5, 6, 7, 8, 4, 9, 10, 11, 12, 13, 14, 15, 16, 17, 18, 19, 63, 64, 65, 66, 67, 68, 69, 70, 71, 72, 73, 74] (by decide +kernel) (by decide +kernel)
set_option maxRecDepth 20000 in
theorem gX6_margin_X6_isAny : GoodIn wsX6_margin (wsV RX6 147 RX6 yX6_isAny wsX6_isAny) := goodIn_app (goodIn_of _ (by decide +kernel)) ggX6_margin_X6_isAny
set_option maxRecDepth 20000 in
theorem ggX6_margin_X6_no : GoodIn wsX6_margin wsX6_no := goodIn_r _ [23, 24, 63, 64, 65, 66, 67, 68, 69, 70, 71] (by decide +kernel) (by decide +kernel)
set_option maxRecDepth 20000 in
theorem gX6_margin_X6_no : GoodIn wsX6_margin (wsV RX6 58 RX6 yX6_no wsX6_no) := goodIn_app (goodIn_of _ (by decide +kernel)) ggX6_margin_X6_no
set_option maxRecDepth 20000 in
theorem ggX6_margin_X6_row : GoodIn wsX6_margin wsX6_row := goodIn_r _ [28, 29, 10, 30, 31, 32, 33, 14, 34, 16, 35, 36, 37, 38, 39, 40, 41, 42, 43, 44, 45, 46, 47, 63, 64, 65, 66, 67, 68, 69, 70, 71, 72, 73, 74] (by decide +kernel) (by decide +kernel)
set_option maxRecDepth 20000 in
theorem gX6_margin_X6_row : GoodIn wsX6_margin (wsV RX6 150 RX6 yX6_row wsX6_row) := goodIn_app (goodIn_of _ (by decide +kernel)) ggX6_margin_X6_row
set_option maxRecDepth 20000 in
theorem ggX6_margin_X6_marginOf : GoodIn wsX6_margin wsX6_marginOf := goodIn_ca (goodIn_r _ [51, 52, 53, 54, 4, 55, 56, 57, 58, 59, 60, 61, 62, 63, 64, 65, 66, 67, 68, 69, 70, 71] (by decide +kernel) (by decide +kernel)) (goodIn_sub (fun _ h => List.mem_cons_of_mem _ (List.mem_append_right _ h)) (by decide +kernel))
set_option maxRecDepth 20000 in
theorem gX6_margin_X6_marginOf : GoodIn wsX6_margin (wsV RX6 154 RX6 yX6_marginOf wsX6_marginOf) := goodIn_app (goodIn_of _ (by decide +kernel)) ggX6_margin_X6_marginOf
theorem dX6_margin_0 : decode cX6_margin 0 = .ok (.aload_n 0, 1) := by decide +kernel
theorem dX6_margin_1 : decode cX6_margin 1 = .ok (.aload_n 0, 1) := by decide +kernel
theorem dX6_margin_2 : decode cX6_margin 2 = .ok (.iload_n 1, 1) := by decide +kernel
theorem dX6_margin_3 : decode cX6_margin 3 = .ok (.invokevirtual 147, 3) := by decide +kernel
theorem dX6_margin_6 : decode cX6_margin 6 = .ok (.ifCond .eq 15, 3) := by decide +kernel
theorem dX6_margin_9 : decode cX6_margin 9 = .ok (.aload_n 0, 1) := by decide +kernel
theorem dX6_margin_10 : decode cX6_margin 10 = .ok (.iload_n 2, 1) := by decide +kernel
theorem dX6_margin_11 : decode cX6_margin 11 = .ok (.invokevirtual 147, 3) := by decide +kernel
theorem dX6_margin_14 : decode cX6_margin 14 = .ok (.ifCond .eq 7, 3) := by decide +kernel
theorem dX6_margin_17 : decode cX6_margin 17 = .ok (.iconst 1, 1) := by decide +kernel
theorem dX6_margin_18 : decode cX6_margin 18 = .ok (.goto 4, 3) := by decide +kernel
theorem dX6_margin_21 : decode cX6_margin 21 = .ok (.iconst 0, 1) := by decide +kernel
theorem dX6_margin_22 : decode cX6_margin 22 = .ok (.iconst 1, 1) := by decide +kernel
theorem dX6_margin_23 : decode cX6_margin 23 = .ok (.invokevirtual 58, 3) := by decide +kernel
theorem dX6_margin_26 : decode cX6_margin 26 = .ok (.ifCond .eq 7, 3) := by decide +kernel
theorem dX6_margin_29 : decode cX6_margin 29 = .ok (.iconst 0, 1) := by decide +kernel
theorem dX6_margin_30 : decode cX6_margin 30 = .ok (.goto 17, 3) := by decide +kernel
theorem dX6_margin_33 : decode cX6_margin 33 = .ok (.aload_n 0, 1) := by decide +kernel
theorem dX6_margin_34 : decode cX6_margin 34 = .ok (.aload_n 0, 1) := by decide +kernel
theorem dX6_margin_35 : decode cX6_margin 35 = .ok (.iload_n 1, 1) := by decide +kernel
theorem dX6_margin_36 : decode cX6_margin 36 = .ok (.invokevirtual 150, 3) := by decide +kernel
theorem dX6_margin_39 : decode cX6_margin 39 = .ok (.aload_n 0, 1) := by decide +kernel
theorem dX6_margin_40 : decode cX6_margin 40 = .ok (.iload_n 2, 1) := by decide +kernel
theorem dX6_margin_41 : decode cX6_margin 41 = .ok (.invokevirtual 150, 3) := by decide +kernel
theorem dX6_margin_44 : decode cX6_margin 44 = .ok (.invokevirtual 154, 3) := by decide +kernel
theorem dX6_margin_47 : decode cX6_margin 47 = .ok (.ireturn, 1) := by decide +kernel
set_option maxRecDepth 20000 in
theorem ggX6_differ_X6_isAny : GoodIn wsX6_differ wsX6_isAny := goodIn_r _ [6, 7, 8, 9, 5, 10, 11, 12, 13, 14, 15, 16, 17, 18, 19, 20, 49, 50, 51, 52, 53, 54, 55, 56, 57, 58, 59, 60] (by decide +kernel) (by decide +kernel)
set_option maxRecDepth 20000 in
theorem gX6_differ_X6_isAny : GoodIn wsX6_differ (wsV RX6 147 RX6 yX6_isAny wsX6_isAny) := goodIn_app (goodIn_of _ (by decide +kernel)) ggX6_differ_X6_isAny
set_option maxRecDepth 20000 in
theorem ggX6_differ_X6_no : GoodIn wsX6_differ wsX6_no := goodIn_r _ [24, 25, 49, 50, 51, 52, 53, 54, 55, 56, 57] (by decide +kernel) (by decide +kernel)
set_option maxRecDepth 20000 in
theorem gX6_differ_X6_no : GoodIn wsX6_differ (wsV RX6 58 RX6 yX6_no wsX6_no) := goodIn_app (goodIn_of _ (by decide +kernel)) ggX6_differ_X6_no
set_option maxRecDepth 20000 in
theorem ggX6_differ_X6_row : GoodIn wsX6_differ wsX6_row := goodIn_r _ [29, 30, 11, 31, 32, 33, 34, 15, 35, 17, 36, 37, 38, 39, 40, 41, 42, 43, 44, 45, 46, 47, 48, 49, 50, 51, 52, 53, 54, 55, 56, 57, 58, 59, 60] (by decide +kernel) (by decide +kernel)
set_option maxRecDepth 20000 in
theorem gX6_differ_X6_row : GoodIn wsX6_differ (wsV RX6 150 RX6 yX6_row wsX6_row) := goodIn_app (goodIn_of _ (by decide +kernel)) ggX6_differ_X6_row
theorem dX6_differ_0 : decode cX6_differ 0 = .ok (.aload_n 0, 1) := by decide +kernel
theorem dX6_differ_1 : decode cX6_differ 1 = .ok (.aload_n 0, 1) := by decide +kernel
theorem dX6_differ_2 : decode cX6_differ 2 = .ok (.iload_n 1, 1) := by decide +kernel
theorem dX6_differ_3 : decode cX6_differ 3 = .ok (.invokevirtual 147, 3) := by decide +kernel
theorem dX6_differ_6 : decode cX6_differ 6 = .ok (.ifCond .eq 15, 3) := by decide +kernel
theorem dX6_differ_9 : decode cX6_differ 9 = .ok (.aload_n 0, 1) := by decide +kernel
theorem dX6_differ_10 : decode cX6_differ 10 = .ok (.iload_n 2, 1) := by decide +kernel
theorem dX6_differ_11 : decode cX6_differ 11 = .ok (.invokevirtual 147, 3) := by decide +kernel
theorem dX6_differ_14 : decode cX6_differ 14 = .ok (.ifCond .eq 7, 3) := by decide +kernel
theorem dX6_differ_17 : decode cX6_differ 17 = .ok (.iconst 1, 1) := by decide +kernel
theorem dX6_differ_18 : decode cX6_differ 18 = .ok (.goto 4, 3) := by decide +kernel
theorem dX6_differ_21 : decode cX6_differ 21 = .ok (.iconst 0, 1) := by decide +kernel
theorem dX6_differ_22 : decode cX6_differ 22 = .ok (.iconst 1, 1) := by decide +kernel
theorem dX6_differ_23 : decode cX6_differ 23 = .ok (.invokevirtual 58, 3) := by decide +kernel
theorem dX6_differ_26 : decode cX6_differ 26 = .ok (.ifCond .eq 5, 3) := by decide +kernel
theorem dX6_differ_29 : decode cX6_differ 29 = .ok (.iconst 0, 1) := by decide +kernel
theorem dX6_differ_30 : decode cX6_differ 30 = .ok (.ireturn, 1) := by decide +kernel
theorem dX6_differ_31 : decode cX6_differ 31 = .ok (.iconst 0, 1) := by decide +kernel
theorem dX6_differ_32 : decode cX6_differ 32 = .ok (.istore_n 3, 1) := by decide +kernel
theorem dX6_differ_33 : decode cX6_differ 33 = .ok (.iconst 0, 1) := by decide +kernel
theorem dX6_differ_34 : decode cX6_differ 34 = .ok (.istore 4, 2) := by decide +kernel
theorem dX6_differ_36 : decode cX6_differ 36 = .ok (.iload 4, 2) := by decide +kernel
theorem dX6_differ_38 : decode cX6_differ 38 = .ok (.aload_n 0, 1) := by decide +kernel
theorem dX6_differ_39 : decode cX6_differ 39 = .ok (.getfield 48, 3) := by decide +kernel
theorem dX6_differ_42 : decode cX6_differ 42 = .ok (.if_icmp .ge 36, 3) := by decide +kernel
theorem dX6_differ_45 : decode cX6_differ 45 = .ok (.iload_n 3, 1) := by decide +kernel
theorem dX6_differ_46 : decode cX6_differ 46 = .ok (.aload_n 0, 1) := by decide +kernel
theorem dX6_differ_47 : decode cX6_differ 47 = .ok (.iload_n 1, 1) := by decide +kernel
theorem dX6_differ_48 : decode cX6_differ 48 = .ok (.invokevirtual 150, 3) := by decide +kernel
theorem dX6_differ_51 : decode cX6_differ 51 = .ok (.iload 4, 2) := by decide +kernel
theorem dX6_differ_53 : decode cX6_differ 53 = .ok (.iaload, 1) := by decide +kernel
theorem dX6_differ_54 : decode cX6_differ 54 = .ok (.aload_n 0, 1) := by decide +kernel
theorem dX6_differ_55 : decode cX6_differ 55 = .ok (.iload_n 2, 1) := by decide +kernel
theorem dX6_differ_56 : decode cX6_differ 56 = .ok (.invokevirtual 150, 3) := by decide +kernel
theorem dX6_differ_59 : decode cX6_differ 59 = .ok (.iload 4, 2) := by decide +kernel
theorem dX6_differ_61 : decode cX6_differ 61 = .ok (.iaload, 1) := by decide +kernel
theorem dX6_differ_62 : decode cX6_differ 62 = .ok (.if_icmp .ne 7, 3) := by decide +kernel
theorem dX6_differ_65 : decode cX6_differ 65 = .ok (.iconst 0, 1) := by decide +kernel
theorem dX6_differ_66 : decode cX6_differ 66 = .ok (.goto 4, 3) := by decide +kernel
theorem dX6_differ_69 : decode cX6_differ 69 = .ok (.iconst 1, 1) := by decide +kernel
theorem dX6_differ_70 : decode cX6_differ 70 = .ok (.iadd, 1) := by decide +kernel
theorem dX6_differ_71 : decode cX6_differ 71 = .ok (.istore_n 3, 1) := by decide +kernel
theorem dX6_differ_72 : decode cX6_differ 72 = .ok (.iinc 4 1, 3) := by decide +kernel
theorem dX6_differ_75 : decode cX6_differ 75 = .ok (.goto (-39), 3) := by decide +kernel
theorem dX6_differ_78 : decode cX6_differ 78 = .ok (.iload_n 3, 1) := by decide +kernel
theorem dX6_differ_79 : decode cX6_differ 79 = .ok (.ireturn, 1) := by decide +kernel
set_option maxRecDepth 20000 in
theorem ggX6_beats_Jx4a65c_get_915e3 : GoodIn wsX6_beats wsJx4a65c_get_915e3 := goodIn_r _ [7, 8, 9, 10, 11, 12, 13, 14, 15, 16, 17, 18, 19, 6, 20, 21, 47, 48, 49] (by decide +kernel) (by decide +kernel)
set_option maxRecDepth 20000 in
theorem gX6_beats_Jx4a65c_get_915e3_f131Jx4a65c : GoodIn wsX6_beats (va_wsF RX6 131 RJx4a65c ⟨"java/util/List", "get", "(I)Ljava/lang/Object;"⟩ yJx4a65c_get_915e3 wsJx4a65c_get_915e3) := goodIn_app (goodIn_of _ (by decide +kernel)) ggX6_beats_Jx4a65c_get_915e3
set_option maxRecDepth 20000 in
theorem ggX6_beats_X6_marginOf : GoodIn wsX6_beats wsX6_marginOf := goodIn_ca (goodIn_r _ [26, 27, 28, 29, 25, 30, 31, 32, 33, 34, 35, 36, 37, 38, 39, 40, 41, 42, 43, 44, 45, 46] (by decide +kernel) (by decide +kernel)) (goodIn_sub (fun _ h => List.mem_cons_of_mem _ (List.mem_append_right _ h)) (by decide +kernel))
set_option maxRecDepth 20000 in
theorem gX6_beats_X6_marginOf : GoodIn wsX6_beats (wsV RX6 154 RX6 yX6_marginOf wsX6_marginOf) := goodIn_app (goodIn_of _ (by decide +kernel)) ggX6_beats_X6_marginOf
theorem dX6_beats_0 : decode cX6_beats 0 = .ok (.aload_n 0, 1) := by decide +kernel
theorem dX6_beats_1 : decode cX6_beats 1 = .ok (.aload_n 0, 1) := by decide +kernel
theorem dX6_beats_2 : decode cX6_beats 2 = .ok (.getfield 27, 3) := by decide +kernel
theorem dX6_beats_5 : decode cX6_beats 5 = .ok (.iload_n 1, 1) := by decide +kernel
theorem dX6_beats_6 : decode cX6_beats 6 = .ok (.invokeinterface 131 2, 5) := by decide +kernel
theorem dX6_beats_11 : decode cX6_beats 11 = .ok (.checkcast 120, 3) := by decide +kernel
theorem dX6_beats_14 : decode cX6_beats 14 = .ok (.aload_n 0, 1) := by decide +kernel
theorem dX6_beats_15 : decode cX6_beats 15 = .ok (.getfield 27, 3) := by decide +kernel
theorem dX6_beats_18 : decode cX6_beats 18 = .ok (.iload_n 2, 1) := by decide +kernel
theorem dX6_beats_19 : decode cX6_beats 19 = .ok (.invokeinterface 131 2, 5) := by decide +kernel
theorem dX6_beats_24 : decode cX6_beats 24 = .ok (.checkcast 120, 3) := by decide +kernel
theorem dX6_beats_27 : decode cX6_beats 27 = .ok (.invokevirtual 154, 3) := by decide +kernel
theorem dX6_beats_30 : decode cX6_beats 30 = .ok (.ifCond .le 7, 3) := by decide +kernel
theorem dX6_beats_33 : decode cX6_beats 33 = .ok (.iconst 1, 1) := by decide +kernel
theorem dX6_beats_34 : decode cX6_beats 34 = .ok (.goto 4, 3) := by decide +kernel
theorem dX6_beats_37 : decode cX6_beats 37 = .ok (.iconst 0, 1) := by decide +kernel
theorem dX6_beats_38 : decode cX6_beats 38 = .ok (.ireturn, 1) := by decide +kernel
set_option maxRecDepth 20000 in
theorem ggX6_winner_Jx4a65c_size_8abf5 : GoodIn wsX6_winner wsJx4a65c_size_8abf5 := goodIn_r _ [7, 8, 60, 61, 62] (by decide +kernel) (by decide +kernel)
set_option maxRecDepth 20000 in
theorem gX6_winner_Jx4a65c_size_8abf5_f114Jx4a65c : GoodIn wsX6_winner (va_wsF RX6 114 RJx4a65c ⟨"java/util/List", "size", "()I"⟩ yJx4a65c_size_8abf5 wsJx4a65c_size_8abf5) := goodIn_app (goodIn_of _ (by decide +kernel)) ggX6_winner_Jx4a65c_size_8abf5
set_option maxRecDepth 20000 in
theorem ggX6_winner_X6_beats : GoodIn wsX6_winner wsX6_beats := goodIn_ca (goodIn_r _ [13, 1, 14, 15, 16, 17, 6, 18, 8, 19, 20, 21, 22, 23, 24, 25, 26, 27, 28, 29, 30, 31, 32, 33, 34, 12, 35, 36, 37, 38, 39, 40, 41, 42, 43, 44, 45, 46, 51, 52, 53, 54, 55, 56, 57, 58, 59, 60, 61, 62] (by decide +kernel) (by decide +kernel)) (goodIn_sub (fun _ h => List.mem_cons_of_mem _ (List.mem_append_right _ h)) (by decide +kernel))
set_option maxRecDepth 20000 in
theorem gX6_winner_X6_beats : GoodIn wsX6_winner (wsV RX6 157 RX6 yX6_beats wsX6_beats) := goodIn_app (goodIn_of _ (by decide +kernel)) ggX6_winner_X6_beats
set_option maxRecDepth 20000 in
theorem ggX6_winner_X6_no : GoodIn wsX6_winner wsX6_no := goodIn_r _ [50, 2, 51, 52, 53, 54, 55, 56, 57, 58, 59] (by decide +kernel) (by decide +kernel)
set_option maxRecDepth 20000 in
theorem gX6_winner_X6_no : GoodIn wsX6_winner (wsV RX6 58 RX6 yX6_no wsX6_no) := goodIn_app (goodIn_of _ (by decide +kernel)) ggX6_winner_X6_no
theorem dX6_winner_0 : decode cX6_winner 0 = .ok (.iconst 0, 1) := by decide +kernel
theorem dX6_winner_1 : decode cX6_winner 1 = .ok (.istore_n 1, 1) := by decide +kernel
theorem dX6_winner_2 : decode cX6_winner 2 = .ok (.iload_n 1, 1) := by decide +kernel
theorem dX6_winner_3 : decode cX6_winner 3 = .ok (.aload_n 0, 1) := by decide +kernel
theorem dX6_winner_4 : decode cX6_winner 4 = .ok (.getfield 27, 3) := by decide +kernel
theorem dX6_winner_7 : decode cX6_winner 7 = .ok (.invokeinterface 114 1, 5) := by decide +kernel
theorem dX6_winner_12 : decode cX6_winner 12 = .ok (.if_icmp .ge 64, 3) := by decide +kernel
theorem dX6_winner_15 : decode cX6_winner 15 = .ok (.iconst 1, 1) := by decide +kernel
theorem dX6_winner_16 : decode cX6_winner 16 = .ok (.istore_n 2, 1) := by decide +kernel
theorem dX6_winner_17 : decode cX6_winner 17 = .ok (.iconst 0, 1) := by decide +kernel
theorem dX6_winner_18 : decode cX6_winner 18 = .ok (.istore_n 3, 1) := by decide +kernel
theorem dX6_winner_19 : decode cX6_winner 19 = .ok (.iload_n 3, 1) := by decide +kernel
theorem dX6_winner_20 : decode cX6_winner 20 = .ok (.aload_n 0, 1) := by decide +kernel
theorem dX6_winner_21 : decode cX6_winner 21 = .ok (.getfield 27, 3) := by decide +kernel
theorem dX6_winner_24 : decode cX6_winner 24 = .ok (.invokeinterface 114 1, 5) := by decide +kernel
theorem dX6_winner_29 : decode cX6_winner 29 = .ok (.if_icmp .ge 26, 3) := by decide +kernel
theorem dX6_winner_32 : decode cX6_winner 32 = .ok (.iload_n 2, 1) := by decide +kernel
theorem dX6_winner_33 : decode cX6_winner 33 = .ok (.aload_n 0, 1) := by decide +kernel
theorem dX6_winner_34 : decode cX6_winner 34 = .ok (.iload_n 3, 1) := by decide +kernel
theorem dX6_winner_35 : decode cX6_winner 35 = .ok (.iload_n 1, 1) := by decide +kernel
theorem dX6_winner_36 : decode cX6_winner 36 = .ok (.invokevirtual 157, 3) := by decide +kernel
theorem dX6_winner_39 : decode cX6_winner 39 = .ok (.ifCond .ne 7, 3) := by decide +kernel
theorem dX6_winner_42 : decode cX6_winner 42 = .ok (.iconst 1, 1) := by decide +kernel
theorem dX6_winner_43 : decode cX6_winner 43 = .ok (.goto 4, 3) := by decide +kernel
theorem dX6_winner_46 : decode cX6_winner 46 = .ok (.iconst 0, 1) := by decide +kernel
theorem dX6_winner_47 : decode cX6_winner 47 = .ok (.iand, 1) := by decide +kernel
theorem dX6_winner_48 : decode cX6_winner 48 = .ok (.istore_n 2, 1) := by decide +kernel
theorem dX6_winner_49 : decode cX6_winner 49 = .ok (.iinc 3 1, 3) := by decide +kernel
theorem dX6_winner_52 : decode cX6_winner 52 = .ok (.goto (-33), 3) := by decide +kernel
theorem dX6_winner_55 : decode cX6_winner 55 = .ok (.iload_n 2, 1) := by decide +kernel
theorem dX6_winner_56 : decode cX6_winner 56 = .ok (.ifCond .eq 14, 3) := by decide +kernel
theorem dX6_winner_59 : decode cX6_winner 59 = .ok (.aload_n 0, 1) := by decide +kernel
theorem dX6_winner_60 : decode cX6_winner 60 = .ok (.iconst 1, 1) := by decide +kernel
theorem dX6_winner_61 : decode cX6_winner 61 = .ok (.iconst 1, 1) := by decide +kernel
theorem dX6_winner_62 : decode cX6_winner 62 = .ok (.invokevirtual 58, 3) := by decide +kernel
theorem dX6_winner_65 : decode cX6_winner 65 = .ok (.ifCond .ne 5, 3) := by decide +kernel
theorem dX6_winner_68 : decode cX6_winner 68 = .ok (.iload_n 1, 1) := by decide +kernel
theorem dX6_winner_69 : decode cX6_winner 69 = .ok (.ireturn, 1) := by decide +kernel
theorem dX6_winner_70 : decode cX6_winner 70 = .ok (.iinc 1 1, 3) := by decide +kernel
theorem dX6_winner_73 : decode cX6_winner 73 = .ok (.goto (-71), 3) := by decide +kernel
theorem dX6_winner_76 : decode cX6_winner 76 = .ok (.aload_n 0, 1) := by decide +kernel
theorem dX6_winner_77 : decode cX6_winner 77 = .ok (.iconst 1, 1) := by decide +kernel
theorem dX6_winner_78 : decode cX6_winner 78 = .ok (.putfield 44, 3) := by decide +kernel
theorem dX6_winner_81 : decode cX6_winner 81 = .ok (.iconst 0, 1) := by decide +kernel
theorem dX6_winner_82 : decode cX6_winner 82 = .ok (.ireturn, 1) := by decide +kernel
set_option maxRecDepth 20000 in
theorem ggX6_lead_Jx4a65c_size_8abf5 : GoodIn wsX6_lead wsJx4a65c_size_8abf5 := goodIn_r _ [7, 8, 56, 57, 58] (by decide +kernel) (by decide +kernel)
set_option maxRecDepth 20000 in
theorem gX6_lead_Jx4a65c_size_8abf5_f114Jx4a65c : GoodIn wsX6_lead (va_wsF RX6 114 RJx4a65c ⟨"java/util/List", "size", "()I"⟩ yJx4a65c_size_8abf5 wsJx4a65c_size_8abf5) := goodIn_app (goodIn_of _ (by decide +kernel)) ggX6_lead_Jx4a65c_size_8abf5
set_option maxRecDepth 20000 in
theorem ggX6_lead_X6_beats : GoodIn wsX6_lead wsX6_beats := goodIn_ca (goodIn_r _ [13, 1, 14, 15, 16, 17, 6, 18, 8, 19, 20, 21, 22, 23, 24, 25, 26, 27, 28, 29, 30, 31, 32, 33, 34, 12, 35, 36, 37, 38, 39, 40, 41, 42, 43, 44, 45, 46, 47, 48, 49, 50, 51, 52, 53, 54, 55, 56, 57, 58] (by decide +kernel) (by decide +kernel)) (goodIn_sub (fun _ h => List.mem_cons_of_mem _ (List.mem_append_right _ h)) (by decide +kernel))
set_option maxRecDepth 20000 in
theorem gX6_lead_X6_beats : GoodIn wsX6_lead (wsV RX6 157 RX6 yX6_beats wsX6_beats) := goodIn_app (goodIn_of _ (by decide +kernel)) ggX6_lead_X6_beats
theorem dX6_lead_0 : decode cX6_lead 0 = .ok (.aload_n 0, 1) := by decide +kernel
theorem dX6_lead_1 : decode cX6_lead 1 = .ok (.getfield 27, 3) := by decide +kernel
theorem dX6_lead_4 : decode cX6_lead 4 = .ok (.invokeinterface 114 1, 5) := by decide +kernel
theorem dX6_lead_9 : decode cX6_lead 9 = .ok (.newarray .int, 2) := by decide +kernel
theorem dX6_lead_11 : decode cX6_lead 11 = .ok (.astore_n 3, 1) := by decide +kernel
theorem dX6_lead_12 : decode cX6_lead 12 = .ok (.aload_n 0, 1) := by decide +kernel
theorem dX6_lead_13 : decode cX6_lead 13 = .ok (.getfield 27, 3) := by decide +kernel
theorem dX6_lead_16 : decode cX6_lead 16 = .ok (.invokeinterface 114 1, 5) := by decide +kernel
theorem dX6_lead_21 : decode cX6_lead 21 = .ok (.istore 4, 2) := by decide +kernel
theorem dX6_lead_23 : decode cX6_lead 23 = .ok (.iconst 1, 1) := by decide +kernel
theorem dX6_lead_24 : decode cX6_lead 24 = .ok (.istore 5, 2) := by decide +kernel
theorem dX6_lead_26 : decode cX6_lead 26 = .ok (.iload 5, 2) := by decide +kernel
theorem dX6_lead_28 : decode cX6_lead 28 = .ok (.iload 4, 2) := by decide +kernel
theorem dX6_lead_30 : decode cX6_lead 30 = .ok (.if_icmp .gt 120, 3) := by decide +kernel
theorem dX6_lead_33 : decode cX6_lead 33 = .ok (.iconst 0, 1) := by decide +kernel
theorem dX6_lead_34 : decode cX6_lead 34 = .ok (.istore 6, 2) := by decide +kernel
theorem dX6_lead_36 : decode cX6_lead 36 = .ok (.iload 6, 2) := by decide +kernel
theorem dX6_lead_38 : decode cX6_lead 38 = .ok (.iload 4, 2) := by decide +kernel
theorem dX6_lead_40 : decode cX6_lead 40 = .ok (.if_icmp .ge 104, 3) := by decide +kernel
theorem dX6_lead_43 : decode cX6_lead 43 = .ok (.iload 5, 2) := by decide +kernel
theorem dX6_lead_45 : decode cX6_lead 45 = .ok (.iconst 1, 1) := by decide +kernel
theorem dX6_lead_46 : decode cX6_lead 46 = .ok (.if_icmp .ne 17, 3) := by decide +kernel
theorem dX6_lead_49 : decode cX6_lead 49 = .ok (.aload_n 0, 1) := by decide +kernel
theorem dX6_lead_50 : decode cX6_lead 50 = .ok (.iload 6, 2) := by decide +kernel
theorem dX6_lead_52 : decode cX6_lead 52 = .ok (.iload_n 1, 1) := by decide +kernel
theorem dX6_lead_53 : decode cX6_lead 53 = .ok (.invokevirtual 157, 3) := by decide +kernel
theorem dX6_lead_56 : decode cX6_lead 56 = .ok (.ifCond .eq 7, 3) := by decide +kernel
theorem dX6_lead_59 : decode cX6_lead 59 = .ok (.iconst 1, 1) := by decide +kernel
theorem dX6_lead_60 : decode cX6_lead 60 = .ok (.goto 4, 3) := by decide +kernel
theorem dX6_lead_63 : decode cX6_lead 63 = .ok (.iconst 0, 1) := by decide +kernel
theorem dX6_lead_64 : decode cX6_lead 64 = .ok (.istore 7, 2) := by decide +kernel
theorem dX6_lead_66 : decode cX6_lead 66 = .ok (.iconst 0, 1) := by decide +kernel
theorem dX6_lead_67 : decode cX6_lead 67 = .ok (.istore 8, 2) := by decide +kernel
theorem dX6_lead_69 : decode cX6_lead 69 = .ok (.iload 8, 2) := by decide +kernel
theorem dX6_lead_71 : decode cX6_lead 71 = .ok (.iload 4, 2) := by decide +kernel
theorem dX6_lead_73 : decode cX6_lead 73 = .ok (.if_icmp .ge 47, 3) := by decide +kernel
theorem dX6_lead_76 : decode cX6_lead 76 = .ok (.iload 5, 2) := by decide +kernel
theorem dX6_lead_78 : decode cX6_lead 78 = .ok (.iconst 1, 1) := by decide +kernel
theorem dX6_lead_79 : decode cX6_lead 79 = .ok (.if_icmp .le 41, 3) := by decide +kernel
theorem dX6_lead_82 : decode cX6_lead 82 = .ok (.iload 7, 2) := by decide +kernel
theorem dX6_lead_84 : decode cX6_lead 84 = .ok (.aload_n 3, 1) := by decide +kernel
theorem dX6_lead_85 : decode cX6_lead 85 = .ok (.iload 8, 2) := by decide +kernel
theorem dX6_lead_87 : decode cX6_lead 87 = .ok (.iaload, 1) := by decide +kernel
theorem dX6_lead_88 : decode cX6_lead 88 = .ok (.iload 5, 2) := by decide +kernel
theorem dX6_lead_90 : decode cX6_lead 90 = .ok (.iconst 1, 1) := by decide +kernel
theorem dX6_lead_91 : decode cX6_lead 91 = .ok (.isub, 1) := by decide +kernel
theorem dX6_lead_92 : decode cX6_lead 92 = .ok (.if_icmp .ne 18, 3) := by decide +kernel
theorem dX6_lead_95 : decode cX6_lead 95 = .ok (.aload_n 0, 1) := by decide +kernel
theorem dX6_lead_96 : decode cX6_lead 96 = .ok (.iload 6, 2) := by decide +kernel
theorem dX6_lead_98 : decode cX6_lead 98 = .ok (.iload 8, 2) := by decide +kernel
theorem dX6_lead_100 : decode cX6_lead 100 = .ok (.invokevirtual 157, 3) := by decide +kernel
theorem dX6_lead_103 : decode cX6_lead 103 = .ok (.ifCond .eq 7, 3) := by decide +kernel
theorem dX6_lead_106 : decode cX6_lead 106 = .ok (.iconst 1, 1) := by decide +kernel
theorem dX6_lead_107 : decode cX6_lead 107 = .ok (.goto 4, 3) := by decide +kernel
theorem dX6_lead_110 : decode cX6_lead 110 = .ok (.iconst 0, 1) := by decide +kernel
theorem dX6_lead_111 : decode cX6_lead 111 = .ok (.ior, 1) := by decide +kernel
theorem dX6_lead_112 : decode cX6_lead 112 = .ok (.istore 7, 2) := by decide +kernel
theorem dX6_lead_114 : decode cX6_lead 114 = .ok (.iinc 8 1, 3) := by decide +kernel
theorem dX6_lead_117 : decode cX6_lead 117 = .ok (.goto (-48), 3) := by decide +kernel
theorem dX6_lead_120 : decode cX6_lead 120 = .ok (.aload_n 3, 1) := by decide +kernel
theorem dX6_lead_121 : decode cX6_lead 121 = .ok (.iload 6, 2) := by decide +kernel
theorem dX6_lead_123 : decode cX6_lead 123 = .ok (.iaload, 1) := by decide +kernel
theorem dX6_lead_124 : decode cX6_lead 124 = .ok (.ifCond .ne 14, 3) := by decide +kernel
theorem dX6_lead_127 : decode cX6_lead 127 = .ok (.iload 7, 2) := by decide +kernel
theorem dX6_lead_129 : decode cX6_lead 129 = .ok (.ifCond .eq 9, 3) := by decide +kernel
theorem dX6_lead_132 : decode cX6_lead 132 = .ok (.aload_n 3, 1) := by decide +kernel
theorem dX6_lead_133 : decode cX6_lead 133 = .ok (.iload 6, 2) := by decide +kernel
theorem dX6_lead_135 : decode cX6_lead 135 = .ok (.iload 5, 2) := by decide +kernel
theorem dX6_lead_137 : decode cX6_lead 137 = .ok (.iastore, 1) := by decide +kernel
theorem dX6_lead_138 : decode cX6_lead 138 = .ok (.iinc 6 1, 3) := by decide +kernel
theorem dX6_lead_141 : decode cX6_lead 141 = .ok (.goto (-105), 3) := by decide +kernel
theorem dX6_lead_144 : decode cX6_lead 144 = .ok (.iinc 5 1, 3) := by decide +kernel
theorem dX6_lead_147 : decode cX6_lead 147 = .ok (.goto (-121), 3) := by decide +kernel
theorem dX6_lead_150 : decode cX6_lead 150 = .ok (.aload_n 3, 1) := by decide +kernel
theorem dX6_lead_151 : decode cX6_lead 151 = .ok (.iload_n 2, 1) := by decide +kernel
theorem dX6_lead_152 : decode cX6_lead 152 = .ok (.iaload, 1) := by decide +kernel
theorem dX6_lead_153 : decode cX6_lead 153 = .ok (.ifCond .ne 7, 3) := by decide +kernel
theorem dX6_lead_156 : decode cX6_lead 156 = .ok (.iconst (-1), 1) := by decide +kernel
theorem dX6_lead_157 : decode cX6_lead 157 = .ok (.goto 6, 3) := by decide +kernel
theorem dX6_lead_160 : decode cX6_lead 160 = .ok (.aload_n 3, 1) := by decide +kernel
theorem dX6_lead_161 : decode cX6_lead 161 = .ok (.iload_n 2, 1) := by decide +kernel
theorem dX6_lead_162 : decode cX6_lead 162 = .ok (.iaload, 1) := by decide +kernel
theorem dX6_lead_163 : decode cX6_lead 163 = .ok (.ireturn, 1) := by decide +kernel
set_option maxRecDepth 20000 in
theorem ggX6_leadLength_X6_isKept : GoodIn wsX6_leadLength wsX6_isKept := goodIn_r _ [5, 6, 7, 8, 9, 10, 11, 12, 13, 14, 4, 15, 63, 64, 65, 66, 67, 68, 69, 70, 71, 72, 73, 74] (by decide +kernel) (by decide +kernel)
set_option maxRecDepth 20000 in
theorem gX6_leadLength_X6_isKept : GoodIn wsX6_leadLength (wsV RX6 128 RX6 yX6_isKept wsX6_isKept) := goodIn_app (goodIn_of _ (by decide +kernel)) ggX6_leadLength_X6_isKept
set_option maxRecDepth 20000 in
theorem ggX6_leadLength_X6_no : GoodIn wsX6_leadLength wsX6_no := goodIn_r _ [19, 20, 63, 64, 65, 66, 67, 68, 69, 70, 71] (by decide +kernel) (by decide +kernel)
set_option maxRecDepth 20000 in
theorem gX6_leadLength_X6_no : GoodIn wsX6_leadLength (wsV RX6 58 RX6 yX6_no wsX6_no) := goodIn_app (goodIn_of _ (by decide +kernel)) ggX6_leadLength_X6_no
set_option maxRecDepth 20000 in
theorem ggX6_leadLength_X6_lead : GoodIn wsX6_leadLength wsX6_lead := goodIn_ca (goodIn_r _ [24, 6, 25, 7, 8, 9, 10, 11, 12, 26, 27, 28, 4, 29, 30, 31, 32, 33, 34, 35, 36, 37, 38, 39, 40, 41, 42, 43, 44, 45, 46, 47, 48, 49, 50, 51, 52, 53, 54, 55, 56, 57, 58, 59, 60, 61, 62, 63, 64, 65, 66, 67, 68, 69, 70, 71, 72, 73, 74] (by decide +kernel) (by decide +kernel)) (goodIn_sub (fun _ h => List.mem_cons_of_mem _ (List.mem_append_right _ h)) (by decide +kernel))
set_option maxRecDepth 20000 in
theorem gX6_leadLength_X6_lead : GoodIn wsX6_leadLength (wsV RX6 161 RX6 yX6_lead wsX6_lead) := goodIn_app (goodIn_of _ (by decide +kernel)) ggX6_leadLength_X6_lead
theorem dX6_leadLength_0 : decode cX6_leadLength 0 = .ok (.aload_n 0, 1) := by decide +kernel
theorem dX6_leadLength_1 : decode cX6_leadLength 1 = .ok (.aload_n 0, 1) := by decide +kernel
theorem dX6_leadLength_2 : decode cX6_leadLength 2 = .ok (.iload_n 1, 1) := by decide +kernel
theorem dX6_leadLength_3 : decode cX6_leadLength 3 = .ok (.invokevirtual 128, 3) := by decide +kernel
theorem dX6_leadLength_6 : decode cX6_leadLength 6 = .ok (.ifCond .eq 15, 3) := by decide +kernel
theorem dX6_leadLength_9 : decode cX6_leadLength 9 = .ok (.aload_n 0, 1) := by decide +kernel
theorem dX6_leadLength_10 : decode cX6_leadLength 10 = .ok (.iload_n 2, 1) := by decide +kernel
theorem dX6_leadLength_11 : decode cX6_leadLength 11 = .ok (.invokevirtual 128, 3) := by decide +kernel
theorem dX6_leadLength_14 : decode cX6_leadLength 14 = .ok (.ifCond .eq 7, 3) := by decide +kernel
theorem dX6_leadLength_17 : decode cX6_leadLength 17 = .ok (.iconst 1, 1) := by decide +kernel
theorem dX6_leadLength_18 : decode cX6_leadLength 18 = .ok (.goto 4, 3) := by decide +kernel
theorem dX6_leadLength_21 : decode cX6_leadLength 21 = .ok (.iconst 0, 1) := by decide +kernel
theorem dX6_leadLength_22 : decode cX6_leadLength 22 = .ok (.iconst 1, 1) := by decide +kernel
theorem dX6_leadLength_23 : decode cX6_leadLength 23 = .ok (.invokevirtual 58, 3) := by decide +kernel
theorem dX6_leadLength_26 : decode cX6_leadLength 26 = .ok (.ifCond .ne 25, 3) := by decide +kernel
theorem dX6_leadLength_29 : decode cX6_leadLength 29 = .ok (.aload_n 0, 1) := by decide +kernel
theorem dX6_leadLength_30 : decode cX6_leadLength 30 = .ok (.aload_n 0, 1) := by decide +kernel
theorem dX6_leadLength_31 : decode cX6_leadLength 31 = .ok (.iload_n 1, 1) := by decide +kernel
theorem dX6_leadLength_32 : decode cX6_leadLength 32 = .ok (.iload_n 2, 1) := by decide +kernel
theorem dX6_leadLength_33 : decode cX6_leadLength 33 = .ok (.invokevirtual 161, 3) := by decide +kernel
theorem dX6_leadLength_36 : decode cX6_leadLength 36 = .ok (.ifCond .le 7, 3) := by decide +kernel
theorem dX6_leadLength_39 : decode cX6_leadLength 39 = .ok (.iconst 1, 1) := by decide +kernel
theorem dX6_leadLength_40 : decode cX6_leadLength 40 = .ok (.goto 4, 3) := by decide +kernel
theorem dX6_leadLength_43 : decode cX6_leadLength 43 = .ok (.iconst 0, 1) := by decide +kernel
theorem dX6_leadLength_44 : decode cX6_leadLength 44 = .ok (.iconst 2, 1) := by decide +kernel
theorem dX6_leadLength_45 : decode cX6_leadLength 45 = .ok (.invokevirtual 58, 3) := by decide +kernel
theorem dX6_leadLength_48 : decode cX6_leadLength 48 = .ok (.ifCond .eq 5, 3) := by decide +kernel
theorem dX6_leadLength_51 : decode cX6_leadLength 51 = .ok (.iconst 0, 1) := by decide +kernel
theorem dX6_leadLength_52 : decode cX6_leadLength 52 = .ok (.ireturn, 1) := by decide +kernel
theorem dX6_leadLength_53 : decode cX6_leadLength 53 = .ok (.aload_n 0, 1) := by decide +kernel
theorem dX6_leadLength_54 : decode cX6_leadLength 54 = .ok (.iload_n 1, 1) := by decide +kernel
theorem dX6_leadLength_55 : decode cX6_leadLength 55 = .ok (.iload_n 2, 1) := by decide +kernel
theorem dX6_leadLength_56 : decode cX6_leadLength 56 = .ok (.invokevirtual 161, 3) := by decide +kernel
theorem dX6_leadLength_59 : decode cX6_leadLength 59 = .ok (.ireturn, 1) := by decide +kernel
set_option maxRecDepth 20000 in
theorem ggX6_hasCycle_Jx4a65c_size_8abf5 : GoodIn wsX6_hasCycle wsJx4a65c_size_8abf5 := goodIn_r _ [6, 7, 60, 61, 62] (by decide +kernel) (by decide +kernel)
set_option maxRecDepth 20000 in
theorem gX6_hasCycle_Jx4a65c_size_8abf5_f114Jx4a65c : GoodIn wsX6_hasCycle (va_wsF RX6 114 RJx4a65c ⟨"java/util/List", "size", "()I"⟩ yJx4a65c_size_8abf5 wsJx4a65c_size_8abf5) := goodIn_app (goodIn_of _ (by decide +kernel)) ggX6_hasCycle_Jx4a65c_size_8abf5
set_option maxRecDepth 20000 in
theorem ggX6_hasCycle_X6_lead : GoodIn wsX6_hasCycle wsX6_lead := goodIn_ca (goodIn_r _ [12, 1, 13, 2, 3, 4, 5, 6, 7, 14, 15, 16, 11, 17, 18, 19, 20, 21, 22, 23, 24, 25, 26, 27, 28, 29, 30, 31, 32, 33, 34, 35, 36, 37, 38, 39, 40, 41, 42, 43, 44, 45, 46, 47, 48, 49, 50, 51, 52, 53, 54, 55, 56, 57, 58, 59, 60, 61, 62] (by decide +kernel) (by decide +kernel)) (goodIn_sub (fun _ h => List.mem_cons_of_mem _ (List.mem_append_right _ h)) (by decide +kernel))
set_option maxRecDepth 20000 in
theorem gX6_hasCycle_X6_lead : GoodIn wsX6_hasCycle (wsV RX6 161 RX6 yX6_lead wsX6_lead) := goodIn_app (goodIn_of _ (by decide +kernel)) ggX6_hasCycle_X6_lead
theorem dX6_hasCycle_0 : decode cX6_hasCycle 0 = .ok (.iconst 0, 1) := by decide +kernel
theorem dX6_hasCycle_1 : decode cX6_hasCycle 1 = .ok (.istore_n 1, 1) := by decide +kernel
theorem dX6_hasCycle_2 : decode cX6_hasCycle 2 = .ok (.iconst 0, 1) := by decide +kernel
theorem dX6_hasCycle_3 : decode cX6_hasCycle 3 = .ok (.istore_n 2, 1) := by decide +kernel
theorem dX6_hasCycle_4 : decode cX6_hasCycle 4 = .ok (.iload_n 2, 1) := by decide +kernel
theorem dX6_hasCycle_5 : decode cX6_hasCycle 5 = .ok (.aload_n 0, 1) := by decide +kernel
theorem dX6_hasCycle_6 : decode cX6_hasCycle 6 = .ok (.getfield 27, 3) := by decide +kernel
theorem dX6_hasCycle_9 : decode cX6_hasCycle 9 = .ok (.invokeinterface 114 1, 5) := by decide +kernel
theorem dX6_hasCycle_14 : decode cX6_hasCycle 14 = .ok (.if_icmp .ge 26, 3) := by decide +kernel
theorem dX6_hasCycle_17 : decode cX6_hasCycle 17 = .ok (.iload_n 1, 1) := by decide +kernel
theorem dX6_hasCycle_18 : decode cX6_hasCycle 18 = .ok (.aload_n 0, 1) := by decide +kernel
theorem dX6_hasCycle_19 : decode cX6_hasCycle 19 = .ok (.iload_n 2, 1) := by decide +kernel
theorem dX6_hasCycle_20 : decode cX6_hasCycle 20 = .ok (.iload_n 2, 1) := by decide +kernel
theorem dX6_hasCycle_21 : decode cX6_hasCycle 21 = .ok (.invokevirtual 161, 3) := by decide +kernel
theorem dX6_hasCycle_24 : decode cX6_hasCycle 24 = .ok (.ifCond .le 7, 3) := by decide +kernel
theorem dX6_hasCycle_27 : decode cX6_hasCycle 27 = .ok (.iconst 1, 1) := by decide +kernel
theorem dX6_hasCycle_28 : decode cX6_hasCycle 28 = .ok (.goto 4, 3) := by decide +kernel
theorem dX6_hasCycle_31 : decode cX6_hasCycle 31 = .ok (.iconst 0, 1) := by decide +kernel
theorem dX6_hasCycle_32 : decode cX6_hasCycle 32 = .ok (.ior, 1) := by decide +kernel
theorem dX6_hasCycle_33 : decode cX6_hasCycle 33 = .ok (.istore_n 1, 1) := by decide +kernel
theorem dX6_hasCycle_34 : decode cX6_hasCycle 34 = .ok (.iinc 2 1, 3) := by decide +kernel
theorem dX6_hasCycle_37 : decode cX6_hasCycle 37 = .ok (.goto (-33), 3) := by decide +kernel
theorem dX6_hasCycle_40 : decode cX6_hasCycle 40 = .ok (.iload_n 1, 1) := by decide +kernel
theorem dX6_hasCycle_41 : decode cX6_hasCycle 41 = .ok (.ireturn, 1) := by decide +kernel
theorem dX6_best_0 : decode cX6_best 0 = .ok (.aload_n 0, 1) := by decide +kernel
theorem dX6_best_1 : decode cX6_best 1 = .ok (.getfield 48, 3) := by decide +kernel
theorem dX6_best_4 : decode cX6_best 4 = .ok (.newarray .int, 2) := by decide +kernel
theorem dX6_best_6 : decode cX6_best 6 = .ok (.astore_n 2, 1) := by decide +kernel
theorem dX6_best_7 : decode cX6_best 7 = .ok (.aload_n 0, 1) := by decide +kernel
theorem dX6_best_8 : decode cX6_best 8 = .ok (.getfield 55, 3) := by decide +kernel
theorem dX6_best_11 : decode cX6_best 11 = .ok (.iconst 1, 1) := by decide +kernel
theorem dX6_best_12 : decode cX6_best 12 = .ok (.iadd, 1) := by decide +kernel
theorem dX6_best_13 : decode cX6_best 13 = .ok (.newarray .int, 2) := by decide +kernel
theorem dX6_best_15 : decode cX6_best 15 = .ok (.astore_n 3, 1) := by decide +kernel
theorem dX6_best_16 : decode cX6_best 16 = .ok (.lconst 0, 1) := by decide +kernel
theorem dX6_best_17 : decode cX6_best 17 = .ok (.lstore 4, 2) := by decide +kernel
theorem dX6_best_19 : decode cX6_best 19 = .ok (.iconst 0, 1) := by decide +kernel
theorem dX6_best_20 : decode cX6_best 20 = .ok (.istore 6, 2) := by decide +kernel
theorem dX6_best_22 : decode cX6_best 22 = .ok (.iload 6, 2) := by decide +kernel
theorem dX6_best_24 : decode cX6_best 24 = .ok (.aload_n 0, 1) := by decide +kernel
theorem dX6_best_25 : decode cX6_best 25 = .ok (.getfield 48, 3) := by decide +kernel
theorem dX6_best_28 : decode cX6_best 28 = .ok (.if_icmp .ge 450, 3) := by decide +kernel
theorem dX6_best_31 : decode cX6_best 31 = .ok (.aload_n 0, 1) := by decide +kernel
theorem dX6_best_32 : decode cX6_best 32 = .ok (.getfield 55, 3) := by decide +kernel
theorem dX6_best_35 : decode cX6_best 35 = .ok (.iconst 1, 1) := by decide +kernel
theorem dX6_best_36 : decode cX6_best 36 = .ok (.iadd, 1) := by decide +kernel
theorem dX6_best_37 : decode cX6_best 37 = .ok (.newarray .long, 2) := by decide +kernel
theorem dX6_best_39 : decode cX6_best 39 = .ok (.astore 7, 2) := by decide +kernel
theorem dX6_best_41 : decode cX6_best 41 = .ok (.aload_n 0, 1) := by decide +kernel
theorem dX6_best_42 : decode cX6_best 42 = .ok (.getfield 55, 3) := by decide +kernel
theorem dX6_best_45 : decode cX6_best 45 = .ok (.iconst 1, 1) := by decide +kernel
theorem dX6_best_46 : decode cX6_best 46 = .ok (.iadd, 1) := by decide +kernel
theorem dX6_best_47 : decode cX6_best 47 = .ok (.newarray .int, 2) := by decide +kernel
theorem dX6_best_49 : decode cX6_best 49 = .ok (.astore 8, 2) := by decide +kernel
theorem dX6_best_51 : decode cX6_best 51 = .ok (.aload_n 0, 1) := by decide +kernel
theorem dX6_best_52 : decode cX6_best 52 = .ok (.getfield 55, 3) := by decide +kernel
theorem dX6_best_55 : decode cX6_best 55 = .ok (.iconst 1, 1) := by decide +kernel
theorem dX6_best_56 : decode cX6_best 56 = .ok (.iadd, 1) := by decide +kernel
theorem dX6_best_57 : decode cX6_best 57 = .ok (.newarray .int, 2) := by decide +kernel
theorem dX6_best_59 : decode cX6_best 59 = .ok (.astore 9, 2) := by decide +kernel
theorem dX6_best_61 : decode cX6_best 61 = .ok (.iconst 0, 1) := by decide +kernel
theorem dX6_best_62 : decode cX6_best 62 = .ok (.istore 10, 2) := by decide +kernel
theorem dX6_best_64 : decode cX6_best 64 = .ok (.iload 10, 2) := by decide +kernel
theorem dX6_best_66 : decode cX6_best 66 = .ok (.aload_n 0, 1) := by decide +kernel
theorem dX6_best_67 : decode cX6_best 67 = .ok (.getfield 55, 3) := by decide +kernel
theorem dX6_best_70 : decode cX6_best 70 = .ok (.if_icmp .ge 35, 3) := by decide +kernel
theorem dX6_best_73 : decode cX6_best 73 = .ok (.aload 7, 2) := by decide +kernel
theorem dX6_best_75 : decode cX6_best 75 = .ok (.iload 10, 2) := by decide +kernel
theorem dX6_best_77 : decode cX6_best 77 = .ok (.aload_n 3, 1) := by decide +kernel
theorem dX6_best_78 : decode cX6_best 78 = .ok (.iload 10, 2) := by decide +kernel
theorem dX6_best_80 : decode cX6_best 80 = .ok (.iaload, 1) := by decide +kernel
theorem dX6_best_81 : decode cX6_best 81 = .ok (.aload_n 0, 1) := by decide +kernel
theorem dX6_best_82 : decode cX6_best 82 = .ok (.getfield 13, 3) := by decide +kernel
theorem dX6_best_85 : decode cX6_best 85 = .ok (.iload 10, 2) := by decide +kernel
theorem dX6_best_87 : decode cX6_best 87 = .ok (.iaload, 1) := by decide +kernel
theorem dX6_best_88 : decode cX6_best 88 = .ok (.if_icmp .ge 7, 3) := by decide +kernel
theorem dX6_best_91 : decode cX6_best 91 = .ok (.lconst 0, 1) := by decide +kernel
theorem dX6_best_92 : decode cX6_best 92 = .ok (.goto 6, 3) := by decide +kernel
theorem dX6_best_95 : decode cX6_best 95 = .ok (.ldc2_w 164, 3) := by decide +kernel
theorem dX6_best_98 : decode cX6_best 98 = .ok (.lastore, 1) := by decide +kernel
theorem dX6_best_99 : decode cX6_best 99 = .ok (.iinc 10 1, 3) := by decide +kernel
theorem dX6_best_102 : decode cX6_best 102 = .ok (.goto (-38), 3) := by decide +kernel
theorem dX6_best_105 : decode cX6_best 105 = .ok (.iconst 0, 1) := by decide +kernel
theorem dX6_best_106 : decode cX6_best 106 = .ok (.istore 10, 2) := by decide +kernel
theorem dX6_best_108 : decode cX6_best 108 = .ok (.iload 10, 2) := by decide +kernel
theorem dX6_best_110 : decode cX6_best 110 = .ok (.aload_n 0, 1) := by decide +kernel
theorem dX6_best_111 : decode cX6_best 111 = .ok (.getfield 55, 3) := by decide +kernel
theorem dX6_best_114 : decode cX6_best 114 = .ok (.if_icmp .gt 166, 3) := by decide +kernel
theorem dX6_best_117 : decode cX6_best 117 = .ok (.iconst 0, 1) := by decide +kernel
theorem dX6_best_118 : decode cX6_best 118 = .ok (.istore 11, 2) := by decide +kernel
theorem dX6_best_120 : decode cX6_best 120 = .ok (.iload 11, 2) := by decide +kernel
theorem dX6_best_122 : decode cX6_best 122 = .ok (.iload 6, 2) := by decide +kernel
theorem dX6_best_124 : decode cX6_best 124 = .ok (.if_icmp .ge 150, 3) := by decide +kernel
theorem dX6_best_127 : decode cX6_best 127 = .ok (.aload_n 2, 1) := by decide +kernel
theorem dX6_best_128 : decode cX6_best 128 = .ok (.iload 11, 2) := by decide +kernel
theorem dX6_best_130 : decode cX6_best 130 = .ok (.iaload, 1) := by decide +kernel
theorem dX6_best_131 : decode cX6_best 131 = .ok (.istore 12, 2) := by decide +kernel
theorem dX6_best_133 : decode cX6_best 133 = .ok (.iconst 0, 1) := by decide +kernel
theorem dX6_best_134 : decode cX6_best 134 = .ok (.istore 13, 2) := by decide +kernel
theorem dX6_best_136 : decode cX6_best 136 = .ok (.iload 13, 2) := by decide +kernel
theorem dX6_best_138 : decode cX6_best 138 = .ok (.aload_n 0, 1) := by decide +kernel
theorem dX6_best_139 : decode cX6_best 139 = .ok (.getfield 55, 3) := by decide +kernel
theorem dX6_best_142 : decode cX6_best 142 = .ok (.if_icmp .gt 126, 3) := by decide +kernel
theorem dX6_best_145 : decode cX6_best 145 = .ok (.iload 12, 2) := by decide +kernel
theorem dX6_best_147 : decode cX6_best 147 = .ok (.aload_n 0, 1) := by decide +kernel
theorem dX6_best_148 : decode cX6_best 148 = .ok (.getfield 55, 3) := by decide +kernel
theorem dX6_best_151 : decode cX6_best 151 = .ok (.if_icmp .ge 117, 3) := by decide +kernel
theorem dX6_best_154 : decode cX6_best 154 = .ok (.aload_n 3, 1) := by decide +kernel
theorem dX6_best_155 : decode cX6_best 155 = .ok (.iload 12, 2) := by decide +kernel
theorem dX6_best_157 : decode cX6_best 157 = .ok (.iaload, 1) := by decide +kernel
theorem dX6_best_158 : decode cX6_best 158 = .ok (.aload_n 0, 1) := by decide +kernel
theorem dX6_best_159 : decode cX6_best 159 = .ok (.getfield 13, 3) := by decide +kernel
theorem dX6_best_162 : decode cX6_best 162 = .ok (.iload 12, 2) := by decide +kernel
theorem dX6_best_164 : decode cX6_best 164 = .ok (.iaload, 1) := by decide +kernel
theorem dX6_best_165 : decode cX6_best 165 = .ok (.if_icmp .ne 103, 3) := by decide +kernel
theorem dX6_best_168 : decode cX6_best 168 = .ok (.iload 13, 2) := by decide +kernel
theorem dX6_best_170 : decode cX6_best 170 = .ok (.iload 12, 2) := by decide +kernel
theorem dX6_best_172 : decode cX6_best 172 = .ok (.if_icmp .eq 90, 3) := by decide +kernel
theorem dX6_best_175 : decode cX6_best 175 = .ok (.aload_n 1, 1) := by decide +kernel
theorem dX6_best_176 : decode cX6_best 176 = .ok (.iload 11, 2) := by decide +kernel
theorem dX6_best_178 : decode cX6_best 178 = .ok (.aaload, 1) := by decide +kernel
theorem dX6_best_179 : decode cX6_best 179 = .ok (.iload 13, 2) := by decide +kernel
theorem dX6_best_181 : decode cX6_best 181 = .ok (.laload, 1) := by decide +kernel
theorem dX6_best_182 : decode cX6_best 182 = .ok (.ldc2_w 164, 3) := by decide +kernel
theorem dX6_best_185 : decode cX6_best 185 = .ok (.lcmp, 1) := by decide +kernel
theorem dX6_best_186 : decode cX6_best 186 = .ok (.ifCond .eq 76, 3) := by decide +kernel
theorem dX6_best_189 : decode cX6_best 189 = .ok (.aload 7, 2) := by decide +kernel
theorem dX6_best_191 : decode cX6_best 191 = .ok (.iload 13, 2) := by decide +kernel
theorem dX6_best_193 : decode cX6_best 193 = .ok (.laload, 1) := by decide +kernel
theorem dX6_best_194 : decode cX6_best 194 = .ok (.ldc2_w 164, 3) := by decide +kernel
theorem dX6_best_197 : decode cX6_best 197 = .ok (.lcmp, 1) := by decide +kernel
theorem dX6_best_198 : decode cX6_best 198 = .ok (.ifCond .ne 6, 3) := by decide +kernel
theorem dX6_best_201 : decode cX6_best 201 = .ok (.goto 61, 3) := by decide +kernel
theorem dX6_best_204 : decode cX6_best 204 = .ok (.aload_n 1, 1) := by decide +kernel
theorem dX6_best_205 : decode cX6_best 205 = .ok (.iload 11, 2) := by decide +kernel
theorem dX6_best_207 : decode cX6_best 207 = .ok (.aaload, 1) := by decide +kernel
theorem dX6_best_208 : decode cX6_best 208 = .ok (.iload 13, 2) := by decide +kernel
theorem dX6_best_210 : decode cX6_best 210 = .ok (.laload, 1) := by decide +kernel
theorem dX6_best_211 : decode cX6_best 211 = .ok (.aload_n 1, 1) := by decide +kernel
theorem dX6_best_212 : decode cX6_best 212 = .ok (.iload 11, 2) := by decide +kernel
theorem dX6_best_214 : decode cX6_best 214 = .ok (.aaload, 1) := by decide +kernel
theorem dX6_best_215 : decode cX6_best 215 = .ok (.iload 12, 2) := by decide +kernel
theorem dX6_best_217 : decode cX6_best 217 = .ok (.laload, 1) := by decide +kernel
theorem dX6_best_218 : decode cX6_best 218 = .ok (.lsub, 1) := by decide +kernel
theorem dX6_best_219 : decode cX6_best 219 = .ok (.aload 7, 2) := by decide +kernel
theorem dX6_best_221 : decode cX6_best 221 = .ok (.iload 13, 2) := by decide +kernel
theorem dX6_best_223 : decode cX6_best 223 = .ok (.laload, 1) := by decide +kernel
theorem dX6_best_224 : decode cX6_best 224 = .ok (.ladd, 1) := by decide +kernel
theorem dX6_best_225 : decode cX6_best 225 = .ok (.lstore 14, 2) := by decide +kernel
theorem dX6_best_227 : decode cX6_best 227 = .ok (.lload 14, 2) := by decide +kernel
theorem dX6_best_229 : decode cX6_best 229 = .ok (.aload 7, 2) := by decide +kernel
theorem dX6_best_231 : decode cX6_best 231 = .ok (.iload 12, 2) := by decide +kernel
theorem dX6_best_233 : decode cX6_best 233 = .ok (.laload, 1) := by decide +kernel
theorem dX6_best_234 : decode cX6_best 234 = .ok (.lcmp, 1) := by decide +kernel
theorem dX6_best_235 : decode cX6_best 235 = .ok (.ifCond .gt 6, 3) := by decide +kernel
theorem dX6_best_238 : decode cX6_best 238 = .ok (.goto 24, 3) := by decide +kernel
theorem dX6_best_241 : decode cX6_best 241 = .ok (.aload 7, 2) := by decide +kernel
theorem dX6_best_243 : decode cX6_best 243 = .ok (.iload 12, 2) := by decide +kernel
theorem dX6_best_245 : decode cX6_best 245 = .ok (.lload 14, 2) := by decide +kernel
theorem dX6_best_247 : decode cX6_best 247 = .ok (.lastore, 1) := by decide +kernel
theorem dX6_best_248 : decode cX6_best 248 = .ok (.aload 8, 2) := by decide +kernel
theorem dX6_best_250 : decode cX6_best 250 = .ok (.iload 12, 2) := by decide +kernel
theorem dX6_best_252 : decode cX6_best 252 = .ok (.iload 11, 2) := by decide +kernel
theorem dX6_best_254 : decode cX6_best 254 = .ok (.iastore, 1) := by decide +kernel
theorem dX6_best_255 : decode cX6_best 255 = .ok (.aload 9, 2) := by decide +kernel
theorem dX6_best_257 : decode cX6_best 257 = .ok (.iload 12, 2) := by decide +kernel
theorem dX6_best_259 : decode cX6_best 259 = .ok (.iload 13, 2) := by decide +kernel
theorem dX6_best_261 : decode cX6_best 261 = .ok (.iastore, 1) := by decide +kernel
theorem dX6_best_262 : decode cX6_best 262 = .ok (.iinc 13 1, 3) := by decide +kernel
theorem dX6_best_265 : decode cX6_best 265 = .ok (.goto (-129), 3) := by decide +kernel
theorem dX6_best_268 : decode cX6_best 268 = .ok (.iinc 11 1, 3) := by decide +kernel
theorem dX6_best_271 : decode cX6_best 271 = .ok (.goto (-151), 3) := by decide +kernel
theorem dX6_best_274 : decode cX6_best 274 = .ok (.iinc 10 1, 3) := by decide +kernel
theorem dX6_best_277 : decode cX6_best 277 = .ok (.goto (-169), 3) := by decide +kernel
theorem dX6_best_280 : decode cX6_best 280 = .ok (.iconst (-1), 1) := by decide +kernel
theorem dX6_best_281 : decode cX6_best 281 = .ok (.istore 10, 2) := by decide +kernel
theorem dX6_best_283 : decode cX6_best 283 = .ok (.iconst 0, 1) := by decide +kernel
theorem dX6_best_284 : decode cX6_best 284 = .ok (.istore 11, 2) := by decide +kernel
theorem dX6_best_286 : decode cX6_best 286 = .ok (.iload 11, 2) := by decide +kernel
theorem dX6_best_288 : decode cX6_best 288 = .ok (.aload_n 0, 1) := by decide +kernel
theorem dX6_best_289 : decode cX6_best 289 = .ok (.getfield 55, 3) := by decide +kernel
theorem dX6_best_292 : decode cX6_best 292 = .ok (.if_icmp .gt 77, 3) := by decide +kernel
theorem dX6_best_295 : decode cX6_best 295 = .ok (.aload_n 1, 1) := by decide +kernel
theorem dX6_best_296 : decode cX6_best 296 = .ok (.iload 6, 2) := by decide +kernel
theorem dX6_best_298 : decode cX6_best 298 = .ok (.aaload, 1) := by decide +kernel
theorem dX6_best_299 : decode cX6_best 299 = .ok (.iload 11, 2) := by decide +kernel
theorem dX6_best_301 : decode cX6_best 301 = .ok (.laload, 1) := by decide +kernel
theorem dX6_best_302 : decode cX6_best 302 = .ok (.ldc2_w 164, 3) := by decide +kernel
theorem dX6_best_305 : decode cX6_best 305 = .ok (.lcmp, 1) := by decide +kernel
theorem dX6_best_306 : decode cX6_best 306 = .ok (.ifCond .eq 57, 3) := by decide +kernel
theorem dX6_best_309 : decode cX6_best 309 = .ok (.aload 7, 2) := by decide +kernel
theorem dX6_best_311 : decode cX6_best 311 = .ok (.iload 11, 2) := by decide +kernel
theorem dX6_best_313 : decode cX6_best 313 = .ok (.laload, 1) := by decide +kernel
theorem dX6_best_314 : decode cX6_best 314 = .ok (.ldc2_w 164, 3) := by decide +kernel
theorem dX6_best_317 : decode cX6_best 317 = .ok (.lcmp, 1) := by decide +kernel
theorem dX6_best_318 : decode cX6_best 318 = .ok (.ifCond .ne 6, 3) := by decide +kernel
theorem dX6_best_321 : decode cX6_best 321 = .ok (.goto 42, 3) := by decide +kernel
theorem dX6_best_324 : decode cX6_best 324 = .ok (.iload 10, 2) := by decide +kernel
theorem dX6_best_326 : decode cX6_best 326 = .ok (.ifCond .lt 33, 3) := by decide +kernel
theorem dX6_best_329 : decode cX6_best 329 = .ok (.aload_n 1, 1) := by decide +kernel
theorem dX6_best_330 : decode cX6_best 330 = .ok (.iload 6, 2) := by decide +kernel
theorem dX6_best_332 : decode cX6_best 332 = .ok (.aaload, 1) := by decide +kernel
theorem dX6_best_333 : decode cX6_best 333 = .ok (.iload 11, 2) := by decide +kernel
theorem dX6_best_335 : decode cX6_best 335 = .ok (.laload, 1) := by decide +kernel
theorem dX6_best_336 : decode cX6_best 336 = .ok (.aload 7, 2) := by decide +kernel
theorem dX6_best_338 : decode cX6_best 338 = .ok (.iload 11, 2) := by decide +kernel
theorem dX6_best_340 : decode cX6_best 340 = .ok (.laload, 1) := by decide +kernel
theorem dX6_best_341 : decode cX6_best 341 = .ok (.ladd, 1) := by decide +kernel
theorem dX6_best_342 : decode cX6_best 342 = .ok (.aload_n 1, 1) := by decide +kernel
theorem dX6_best_343 : decode cX6_best 343 = .ok (.iload 6, 2) := by decide +kernel
theorem dX6_best_345 : decode cX6_best 345 = .ok (.aaload, 1) := by decide +kernel
theorem dX6_best_346 : decode cX6_best 346 = .ok (.iload 10, 2) := by decide +kernel
theorem dX6_best_348 : decode cX6_best 348 = .ok (.laload, 1) := by decide +kernel
theorem dX6_best_349 : decode cX6_best 349 = .ok (.aload 7, 2) := by decide +kernel
theorem dX6_best_351 : decode cX6_best 351 = .ok (.iload 10, 2) := by decide +kernel
theorem dX6_best_353 : decode cX6_best 353 = .ok (.laload, 1) := by decide +kernel
theorem dX6_best_354 : decode cX6_best 354 = .ok (.ladd, 1) := by decide +kernel
theorem dX6_best_355 : decode cX6_best 355 = .ok (.lcmp, 1) := by decide +kernel
theorem dX6_best_356 : decode cX6_best 356 = .ok (.ifCond .le 7, 3) := by decide +kernel
theorem dX6_best_359 : decode cX6_best 359 = .ok (.iload 11, 2) := by decide +kernel
theorem dX6_best_361 : decode cX6_best 361 = .ok (.istore 10, 2) := by decide +kernel
theorem dX6_best_363 : decode cX6_best 363 = .ok (.iinc 11 1, 3) := by decide +kernel
theorem dX6_best_366 : decode cX6_best 366 = .ok (.goto (-80), 3) := by decide +kernel
theorem dX6_best_369 : decode cX6_best 369 = .ok (.iload 10, 2) := by decide +kernel
theorem dX6_best_371 : decode cX6_best 371 = .ok (.ifCond .ge 7, 3) := by decide +kernel
theorem dX6_best_374 : decode cX6_best 374 = .ok (.ldc2_w 164, 3) := by decide +kernel
theorem dX6_best_377 : decode cX6_best 377 = .ok (.lreturn, 1) := by decide +kernel
theorem dX6_best_378 : decode cX6_best 378 = .ok (.lload 4, 2) := by decide +kernel
theorem dX6_best_380 : decode cX6_best 380 = .ok (.aload_n 1, 1) := by decide +kernel
theorem dX6_best_381 : decode cX6_best 381 = .ok (.iload 6, 2) := by decide +kernel
theorem dX6_best_383 : decode cX6_best 383 = .ok (.aaload, 1) := by decide +kernel
theorem dX6_best_384 : decode cX6_best 384 = .ok (.iload 10, 2) := by decide +kernel
theorem dX6_best_386 : decode cX6_best 386 = .ok (.laload, 1) := by decide +kernel
theorem dX6_best_387 : decode cX6_best 387 = .ok (.aload 7, 2) := by decide +kernel
theorem dX6_best_389 : decode cX6_best 389 = .ok (.iload 10, 2) := by decide +kernel
theorem dX6_best_391 : decode cX6_best 391 = .ok (.laload, 1) := by decide +kernel
theorem dX6_best_392 : decode cX6_best 392 = .ok (.ladd, 1) := by decide +kernel
theorem dX6_best_393 : decode cX6_best 393 = .ok (.ladd, 1) := by decide +kernel
theorem dX6_best_394 : decode cX6_best 394 = .ok (.lstore 4, 2) := by decide +kernel
theorem dX6_best_396 : decode cX6_best 396 = .ok (.iload 10, 2) := by decide +kernel
theorem dX6_best_398 : decode cX6_best 398 = .ok (.istore 11, 2) := by decide +kernel
theorem dX6_best_400 : decode cX6_best 400 = .ok (.iload 6, 2) := by decide +kernel
theorem dX6_best_402 : decode cX6_best 402 = .ok (.istore 12, 2) := by decide +kernel
theorem dX6_best_404 : decode cX6_best 404 = .ok (.iload 11, 2) := by decide +kernel
theorem dX6_best_406 : decode cX6_best 406 = .ok (.aload_n 0, 1) := by decide +kernel
theorem dX6_best_407 : decode cX6_best 407 = .ok (.getfield 55, 3) := by decide +kernel
theorem dX6_best_410 : decode cX6_best 410 = .ok (.if_icmp .ge 48, 3) := by decide +kernel
theorem dX6_best_413 : decode cX6_best 413 = .ok (.aload_n 3, 1) := by decide +kernel
theorem dX6_best_414 : decode cX6_best 414 = .ok (.iload 11, 2) := by decide +kernel
theorem dX6_best_416 : decode cX6_best 416 = .ok (.iaload, 1) := by decide +kernel
theorem dX6_best_417 : decode cX6_best 417 = .ok (.aload_n 0, 1) := by decide +kernel
theorem dX6_best_418 : decode cX6_best 418 = .ok (.getfield 13, 3) := by decide +kernel
theorem dX6_best_421 : decode cX6_best 421 = .ok (.iload 11, 2) := by decide +kernel
theorem dX6_best_423 : decode cX6_best 423 = .ok (.iaload, 1) := by decide +kernel
theorem dX6_best_424 : decode cX6_best 424 = .ok (.if_icmp .ne 34, 3) := by decide +kernel
theorem dX6_best_427 : decode cX6_best 427 = .ok (.aload 8, 2) := by decide +kernel
theorem dX6_best_429 : decode cX6_best 429 = .ok (.iload 11, 2) := by decide +kernel
theorem dX6_best_431 : decode cX6_best 431 = .ok (.iaload, 1) := by decide +kernel
theorem dX6_best_432 : decode cX6_best 432 = .ok (.istore 13, 2) := by decide +kernel
theorem dX6_best_434 : decode cX6_best 434 = .ok (.aload 9, 2) := by decide +kernel
theorem dX6_best_436 : decode cX6_best 436 = .ok (.iload 11, 2) := by decide +kernel
theorem dX6_best_438 : decode cX6_best 438 = .ok (.iaload, 1) := by decide +kernel
theorem dX6_best_439 : decode cX6_best 439 = .ok (.istore 14, 2) := by decide +kernel
theorem dX6_best_441 : decode cX6_best 441 = .ok (.aload_n 2, 1) := by decide +kernel
theorem dX6_best_442 : decode cX6_best 442 = .ok (.iload 12, 2) := by decide +kernel
theorem dX6_best_444 : decode cX6_best 444 = .ok (.iload 11, 2) := by decide +kernel
theorem dX6_best_446 : decode cX6_best 446 = .ok (.iastore, 1) := by decide +kernel
theorem dX6_best_447 : decode cX6_best 447 = .ok (.iload 13, 2) := by decide +kernel
theorem dX6_best_449 : decode cX6_best 449 = .ok (.istore 12, 2) := by decide +kernel
theorem dX6_best_451 : decode cX6_best 451 = .ok (.iload 14, 2) := by decide +kernel
theorem dX6_best_453 : decode cX6_best 453 = .ok (.istore 11, 2) := by decide +kernel
theorem dX6_best_455 : decode cX6_best 455 = .ok (.goto (-51), 3) := by decide +kernel
theorem dX6_best_458 : decode cX6_best 458 = .ok (.aload_n 2, 1) := by decide +kernel
theorem dX6_best_459 : decode cX6_best 459 = .ok (.iload 12, 2) := by decide +kernel
theorem dX6_best_461 : decode cX6_best 461 = .ok (.iload 11, 2) := by decide +kernel
theorem dX6_best_463 : decode cX6_best 463 = .ok (.iastore, 1) := by decide +kernel
theorem dX6_best_464 : decode cX6_best 464 = .ok (.aload_n 3, 1) := by decide +kernel
theorem dX6_best_465 : decode cX6_best 465 = .ok (.iload 11, 2) := by decide +kernel
theorem dX6_best_467 : decode cX6_best 467 = .ok (.dup2, 1) := by decide +kernel
theorem dX6_best_468 : decode cX6_best 468 = .ok (.iaload, 1) := by decide +kernel
theorem dX6_best_469 : decode cX6_best 469 = .ok (.iconst 1, 1) := by decide +kernel
theorem dX6_best_470 : decode cX6_best 470 = .ok (.iadd, 1) := by decide +kernel
theorem dX6_best_471 : decode cX6_best 471 = .ok (.iastore, 1) := by decide +kernel
theorem dX6_best_472 : decode cX6_best 472 = .ok (.iinc 6 1, 3) := by decide +kernel
theorem dX6_best_475 : decode cX6_best 475 = .ok (.goto (-453), 3) := by decide +kernel
theorem dX6_best_478 : decode cX6_best 478 = .ok (.lload 4, 2) := by decide +kernel
theorem dX6_best_480 : decode cX6_best 480 = .ok (.lreturn, 1) := by decide +kernel
set_option maxRecDepth 20000 in
theorem ggX6_first_X6_best : GoodIn wsX6_first wsX6_best := goodIn_ca (goodIn_r _ [9, 3, 2, 4, 10, 11, 1, 23, 24, 25, 26, 27, 28, 29, 30, 31] (by decide +kernel) (by decide +kernel)) (goodIn_sub (fun _ h => List.mem_cons_of_mem _ (List.mem_append_right _ h)) (by decide +kernel))
set_option maxRecDepth 20000 in
theorem gX6_first_X6_best : GoodIn wsX6_first (wsV RX6 166 RX6 yX6_best wsX6_best) := goodIn_app (goodIn_of _ (by decide +kernel)) ggX6_first_X6_best
set_option maxRecDepth 20000 in
theorem ggX6_first_J7_fill_53178 : GoodIn wsX6_first wsJ7_fill_53178 := goodIn_r _ [15] (by decide +kernel) (by decide +kernel)
set_option maxRecDepth 20000 in
theorem gX6_first_J7_fill_53178 : GoodIn wsX6_first (va_wsS RX6 38 yJ7_fill_53178 wsJ7_fill_53178) := goodIn_app (goodIn_of _ (by decide +kernel)) ggX6_first_J7_fill_53178
set_option maxRecDepth 20000 in
theorem ggX6_first_X6_only : GoodIn wsX6_first wsX6_only := goodIn_ca (goodIn_r _ [19, 4, 10, 1, 20, 21, 14, 22, 23, 24, 25, 26, 27, 28, 29, 30, 31] (by decide +kernel) (by decide +kernel)) (goodIn_sub (fun _ h => List.mem_cons_of_mem _ (List.mem_append_right _ h)) (by decide +kernel))
set_option maxRecDepth 20000 in
theorem gX6_first_X6_only : GoodIn wsX6_first (wsV RX6 170 RX6 yX6_only wsX6_only) := goodIn_app (goodIn_of _ (by decide +kernel)) ggX6_first_X6_only
theorem dX6_first_0 : decode cX6_first 0 = .ok (.aload_n 0, 1) := by decide +kernel
theorem dX6_first_1 : decode cX6_first 1 = .ok (.aload_n 1, 1) := by decide +kernel
theorem dX6_first_2 : decode cX6_first 2 = .ok (.invokevirtual 166, 3) := by decide +kernel
theorem dX6_first_5 : decode cX6_first 5 = .ok (.lstore_n 2, 1) := by decide +kernel
theorem dX6_first_6 : decode cX6_first 6 = .ok (.lload_n 2, 1) := by decide +kernel
theorem dX6_first_7 : decode cX6_first 7 = .ok (.ldc2_w 164, 3) := by decide +kernel
theorem dX6_first_10 : decode cX6_first 10 = .ok (.lcmp, 1) := by decide +kernel
theorem dX6_first_11 : decode cX6_first 11 = .ok (.ifCond .ne 5, 3) := by decide +kernel
theorem dX6_first_14 : decode cX6_first 14 = .ok (.aconst_null, 1) := by decide +kernel
theorem dX6_first_15 : decode cX6_first 15 = .ok (.areturn, 1) := by decide +kernel
theorem dX6_first_16 : decode cX6_first 16 = .ok (.bipush 10, 2) := by decide +kernel
theorem dX6_first_18 : decode cX6_first 18 = .ok (.newarray .int, 2) := by decide +kernel
theorem dX6_first_20 : decode cX6_first 20 = .ok (.astore 4, 2) := by decide +kernel
theorem dX6_first_22 : decode cX6_first 22 = .ok (.aload 4, 2) := by decide +kernel
theorem dX6_first_24 : decode cX6_first 24 = .ok (.iconst (-1), 1) := by decide +kernel
theorem dX6_first_25 : decode cX6_first 25 = .ok (.invokestatic 38, 3) := by decide +kernel
theorem dX6_first_28 : decode cX6_first 28 = .ok (.iconst 0, 1) := by decide +kernel
theorem dX6_first_29 : decode cX6_first 29 = .ok (.istore 5, 2) := by decide +kernel
theorem dX6_first_31 : decode cX6_first 31 = .ok (.iload 5, 2) := by decide +kernel
theorem dX6_first_33 : decode cX6_first 33 = .ok (.aload_n 0, 1) := by decide +kernel
theorem dX6_first_34 : decode cX6_first 34 = .ok (.getfield 48, 3) := by decide +kernel
theorem dX6_first_37 : decode cX6_first 37 = .ok (.if_icmp .ge 96, 3) := by decide +kernel
theorem dX6_first_40 : decode cX6_first 40 = .ok (.aload_n 1, 1) := by decide +kernel
theorem dX6_first_41 : decode cX6_first 41 = .ok (.iload 5, 2) := by decide +kernel
theorem dX6_first_43 : decode cX6_first 43 = .ok (.aaload, 1) := by decide +kernel
theorem dX6_first_44 : decode cX6_first 44 = .ok (.astore 6, 2) := by decide +kernel
theorem dX6_first_46 : decode cX6_first 46 = .ok (.iconst 0, 1) := by decide +kernel
theorem dX6_first_47 : decode cX6_first 47 = .ok (.istore 7, 2) := by decide +kernel
theorem dX6_first_49 : decode cX6_first 49 = .ok (.iload 7, 2) := by decide +kernel
theorem dX6_first_51 : decode cX6_first 51 = .ok (.aload_n 0, 1) := by decide +kernel
theorem dX6_first_52 : decode cX6_first 52 = .ok (.getfield 55, 3) := by decide +kernel
theorem dX6_first_55 : decode cX6_first 55 = .ok (.if_icmp .gt 72, 3) := by decide +kernel
theorem dX6_first_58 : decode cX6_first 58 = .ok (.aload 6, 2) := by decide +kernel
theorem dX6_first_60 : decode cX6_first 60 = .ok (.iload 7, 2) := by decide +kernel
theorem dX6_first_62 : decode cX6_first 62 = .ok (.laload, 1) := by decide +kernel
theorem dX6_first_63 : decode cX6_first 63 = .ok (.ldc2_w 164, 3) := by decide +kernel
theorem dX6_first_66 : decode cX6_first 66 = .ok (.lcmp, 1) := by decide +kernel
theorem dX6_first_67 : decode cX6_first 67 = .ok (.ifCond .ne 6, 3) := by decide +kernel
theorem dX6_first_70 : decode cX6_first 70 = .ok (.goto 51, 3) := by decide +kernel
theorem dX6_first_73 : decode cX6_first 73 = .ok (.aload_n 1, 1) := by decide +kernel
theorem dX6_first_74 : decode cX6_first 74 = .ok (.iload 5, 2) := by decide +kernel
theorem dX6_first_76 : decode cX6_first 76 = .ok (.aload_n 0, 1) := by decide +kernel
theorem dX6_first_77 : decode cX6_first 77 = .ok (.iload 7, 2) := by decide +kernel
theorem dX6_first_79 : decode cX6_first 79 = .ok (.aload 6, 2) := by decide +kernel
theorem dX6_first_81 : decode cX6_first 81 = .ok (.iload 7, 2) := by decide +kernel
theorem dX6_first_83 : decode cX6_first 83 = .ok (.laload, 1) := by decide +kernel
theorem dX6_first_84 : decode cX6_first 84 = .ok (.invokevirtual 170, 3) := by decide +kernel
theorem dX6_first_87 : decode cX6_first 87 = .ok (.aastore, 1) := by decide +kernel
theorem dX6_first_88 : decode cX6_first 88 = .ok (.aload 4, 2) := by decide +kernel
theorem dX6_first_90 : decode cX6_first 90 = .ok (.iload 5, 2) := by decide +kernel
theorem dX6_first_92 : decode cX6_first 92 = .ok (.iload 7, 2) := by decide +kernel
theorem dX6_first_94 : decode cX6_first 94 = .ok (.aload_n 0, 1) := by decide +kernel
theorem dX6_first_95 : decode cX6_first 95 = .ok (.getfield 55, 3) := by decide +kernel
theorem dX6_first_98 : decode cX6_first 98 = .ok (.if_icmp .ne 7, 3) := by decide +kernel
theorem dX6_first_101 : decode cX6_first 101 = .ok (.iconst (-1), 1) := by decide +kernel
theorem dX6_first_102 : decode cX6_first 102 = .ok (.goto 5, 3) := by decide +kernel
theorem dX6_first_105 : decode cX6_first 105 = .ok (.iload 7, 2) := by decide +kernel
theorem dX6_first_107 : decode cX6_first 107 = .ok (.iastore, 1) := by decide +kernel
theorem dX6_first_108 : decode cX6_first 108 = .ok (.aload_n 0, 1) := by decide +kernel
theorem dX6_first_109 : decode cX6_first 109 = .ok (.aload_n 1, 1) := by decide +kernel
theorem dX6_first_110 : decode cX6_first 110 = .ok (.invokevirtual 166, 3) := by decide +kernel
theorem dX6_first_113 : decode cX6_first 113 = .ok (.lload_n 2, 1) := by decide +kernel
theorem dX6_first_114 : decode cX6_first 114 = .ok (.lcmp, 1) := by decide +kernel
theorem dX6_first_115 : decode cX6_first 115 = .ok (.ifCond .ne 6, 3) := by decide +kernel
theorem dX6_first_118 : decode cX6_first 118 = .ok (.goto 9, 3) := by decide +kernel
theorem dX6_first_121 : decode cX6_first 121 = .ok (.iinc 7 1, 3) := by decide +kernel
theorem dX6_first_124 : decode cX6_first 124 = .ok (.goto (-75), 3) := by decide +kernel
theorem dX6_first_127 : decode cX6_first 127 = .ok (.iinc 5 1, 3) := by decide +kernel
theorem dX6_first_130 : decode cX6_first 130 = .ok (.goto (-99), 3) := by decide +kernel
theorem dX6_first_133 : decode cX6_first 133 = .ok (.aload 4, 2) := by decide +kernel
theorem dX6_first_135 : decode cX6_first 135 = .ok (.areturn, 1) := by decide +kernel
set_option maxRecDepth 20000 in
theorem ggX6_only_J7_fill_d0a16 : GoodIn wsX6_only wsJ7_fill_d0a16 := goodIn_r _ [7] (by decide +kernel) (by decide +kernel)
set_option maxRecDepth 20000 in
theorem gX6_only_J7_fill_d0a16 : GoodIn wsX6_only (va_wsS RX6 174 yJ7_fill_d0a16 wsJ7_fill_d0a16) := goodIn_app (goodIn_of _ (by decide +kernel)) ggX6_only_J7_fill_d0a16
theorem dX6_only_0 : decode cX6_only 0 = .ok (.aload_n 0, 1) := by decide +kernel
theorem dX6_only_1 : decode cX6_only 1 = .ok (.getfield 55, 3) := by decide +kernel
theorem dX6_only_4 : decode cX6_only 4 = .ok (.iconst 1, 1) := by decide +kernel
theorem dX6_only_5 : decode cX6_only 5 = .ok (.iadd, 1) := by decide +kernel
theorem dX6_only_6 : decode cX6_only 6 = .ok (.newarray .long, 2) := by decide +kernel
theorem dX6_only_8 : decode cX6_only 8 = .ok (.astore 4, 2) := by decide +kernel
theorem dX6_only_10 : decode cX6_only 10 = .ok (.aload 4, 2) := by decide +kernel
theorem dX6_only_12 : decode cX6_only 12 = .ok (.ldc2_w 164, 3) := by decide +kernel
theorem dX6_only_15 : decode cX6_only 15 = .ok (.invokestatic 174, 3) := by decide +kernel
theorem dX6_only_18 : decode cX6_only 18 = .ok (.aload 4, 2) := by decide +kernel
theorem dX6_only_20 : decode cX6_only 20 = .ok (.iload_n 1, 1) := by decide +kernel
theorem dX6_only_21 : decode cX6_only 21 = .ok (.lload_n 2, 1) := by decide +kernel
theorem dX6_only_22 : decode cX6_only 22 = .ok (.lastore, 1) := by decide +kernel
theorem dX6_only_23 : decode cX6_only 23 = .ok (.aload 4, 2) := by decide +kernel
theorem dX6_only_25 : decode cX6_only 25 = .ok (.areturn, 1) := by decide +kernel
set_option maxRecDepth 20000 in
theorem ggX6_against_X6_rank : GoodIn wsX6_against wsX6_rank := goodIn_ca (goodIn_r _ [11, 12, 13, 14, 15, 16, 17, 18, 19, 20, 21] (by decide +kernel) (by decide +kernel)) (goodIn_sub (fun _ h => List.mem_cons_of_mem _ (List.mem_append_right _ h)) (by decide +kernel))
set_option maxRecDepth 20000 in
theorem gX6_against_X6_rank : GoodIn wsX6_against (wsV RX6 139 RX6 yX6_rank wsX6_rank) := goodIn_app (goodIn_of _ (by decide +kernel)) ggX6_against_X6_rank
theorem dX6_against_0 : decode cX6_against 0 = .ok (.aload_n 0, 1) := by decide +kernel
theorem dX6_against_1 : decode cX6_against 1 = .ok (.getfield 48, 3) := by decide +kernel
theorem dX6_against_4 : decode cX6_against 4 = .ok (.aload_n 0, 1) := by decide +kernel
theorem dX6_against_5 : decode cX6_against 5 = .ok (.getfield 55, 3) := by decide +kernel
theorem dX6_against_8 : decode cX6_against 8 = .ok (.iconst 1, 1) := by decide +kernel
theorem dX6_against_9 : decode cX6_against 9 = .ok (.iadd, 1) := by decide +kernel
theorem dX6_against_10 : decode cX6_against 10 = .ok (.multianewarray 177 2, 4) := by decide +kernel
theorem dX6_against_14 : decode cX6_against 14 = .ok (.astore_n 2, 1) := by decide +kernel
theorem dX6_against_15 : decode cX6_against 15 = .ok (.iconst 0, 1) := by decide +kernel
theorem dX6_against_16 : decode cX6_against 16 = .ok (.istore_n 3, 1) := by decide +kernel
theorem dX6_against_17 : decode cX6_against 17 = .ok (.iload_n 3, 1) := by decide +kernel
theorem dX6_against_18 : decode cX6_against 18 = .ok (.aload_n 0, 1) := by decide +kernel
theorem dX6_against_19 : decode cX6_against 19 = .ok (.getfield 48, 3) := by decide +kernel
theorem dX6_against_22 : decode cX6_against 22 = .ok (.if_icmp .ge 123, 3) := by decide +kernel
theorem dX6_against_25 : decode cX6_against 25 = .ok (.iconst 0, 1) := by decide +kernel
theorem dX6_against_26 : decode cX6_against 26 = .ok (.istore 4, 2) := by decide +kernel
theorem dX6_against_28 : decode cX6_against 28 = .ok (.iload 4, 2) := by decide +kernel
theorem dX6_against_30 : decode cX6_against 30 = .ok (.aload_n 0, 1) := by decide +kernel
theorem dX6_against_31 : decode cX6_against 31 = .ok (.getfield 55, 3) := by decide +kernel
theorem dX6_against_34 : decode cX6_against 34 = .ok (.if_icmp .gt 105, 3) := by decide +kernel
theorem dX6_against_37 : decode cX6_against 37 = .ok (.aload_n 0, 1) := by decide +kernel
theorem dX6_against_38 : decode cX6_against 38 = .ok (.iload_n 3, 1) := by decide +kernel
theorem dX6_against_39 : decode cX6_against 39 = .ok (.iload 4, 2) := by decide +kernel
theorem dX6_against_41 : decode cX6_against 41 = .ok (.aload_n 0, 1) := by decide +kernel
theorem dX6_against_42 : decode cX6_against 42 = .ok (.getfield 55, 3) := by decide +kernel
theorem dX6_against_45 : decode cX6_against 45 = .ok (.if_icmp .ne 7, 3) := by decide +kernel
theorem dX6_against_48 : decode cX6_against 48 = .ok (.iconst (-1), 1) := by decide +kernel
theorem dX6_against_49 : decode cX6_against 49 = .ok (.goto 5, 3) := by decide +kernel
theorem dX6_against_52 : decode cX6_against 52 = .ok (.iload 4, 2) := by decide +kernel
theorem dX6_against_54 : decode cX6_against 54 = .ok (.invokevirtual 139, 3) := by decide +kernel
theorem dX6_against_57 : decode cX6_against 57 = .ok (.istore 5, 2) := by decide +kernel
theorem dX6_against_59 : decode cX6_against 59 = .ok (.aload_n 0, 1) := by decide +kernel
theorem dX6_against_60 : decode cX6_against 60 = .ok (.iload_n 3, 1) := by decide +kernel
theorem dX6_against_61 : decode cX6_against 61 = .ok (.aload_n 1, 1) := by decide +kernel
theorem dX6_against_62 : decode cX6_against 62 = .ok (.iload_n 3, 1) := by decide +kernel
theorem dX6_against_63 : decode cX6_against 63 = .ok (.iaload, 1) := by decide +kernel
theorem dX6_against_64 : decode cX6_against 64 = .ok (.invokevirtual 139, 3) := by decide +kernel
theorem dX6_against_67 : decode cX6_against 67 = .ok (.istore 6, 2) := by decide +kernel
theorem dX6_against_69 : decode cX6_against 69 = .ok (.aload_n 2, 1) := by decide +kernel
theorem dX6_against_70 : decode cX6_against 70 = .ok (.iload_n 3, 1) := by decide +kernel
theorem dX6_against_71 : decode cX6_against 71 = .ok (.aaload, 1) := by decide +kernel
theorem dX6_against_72 : decode cX6_against 72 = .ok (.iload 4, 2) := by decide +kernel
theorem dX6_against_74 : decode cX6_against 74 = .ok (.iload 4, 2) := by decide +kernel
theorem dX6_against_76 : decode cX6_against 76 = .ok (.aload_n 0, 1) := by decide +kernel
theorem dX6_against_77 : decode cX6_against 77 = .ok (.getfield 55, 3) := by decide +kernel
theorem dX6_against_80 : decode cX6_against 80 = .ok (.if_icmp .ge 16, 3) := by decide +kernel
theorem dX6_against_83 : decode cX6_against 83 = .ok (.iload 5, 2) := by decide +kernel
theorem dX6_against_85 : decode cX6_against 85 = .ok (.bipush 99, 2) := by decide +kernel
theorem dX6_against_87 : decode cX6_against 87 = .ok (.if_icmp .ne 9, 3) := by decide +kernel
theorem dX6_against_90 : decode cX6_against 90 = .ok (.ldc2_w 164, 3) := by decide +kernel
theorem dX6_against_93 : decode cX6_against 93 = .ok (.goto 39, 3) := by decide +kernel
theorem dX6_against_96 : decode cX6_against 96 = .ok (.iload 5, 2) := by decide +kernel
theorem dX6_against_98 : decode cX6_against 98 = .ok (.iload 6, 2) := by decide +kernel
theorem dX6_against_100 : decode cX6_against 100 = .ok (.if_icmp .ge 13, 3) := by decide +kernel
theorem dX6_against_103 : decode cX6_against 103 = .ok (.aload_n 0, 1) := by decide +kernel
theorem dX6_against_104 : decode cX6_against 104 = .ok (.getfield 9, 3) := by decide +kernel
theorem dX6_against_107 : decode cX6_against 107 = .ok (.iload_n 3, 1) := by decide +kernel
theorem dX6_against_108 : decode cX6_against 108 = .ok (.iaload, 1) := by decide +kernel
theorem dX6_against_109 : decode cX6_against 109 = .ok (.i2l, 1) := by decide +kernel
theorem dX6_against_110 : decode cX6_against 110 = .ok (.goto 22, 3) := by decide +kernel
theorem dX6_against_113 : decode cX6_against 113 = .ok (.iload 5, 2) := by decide +kernel
theorem dX6_against_115 : decode cX6_against 115 = .ok (.iload 6, 2) := by decide +kernel
theorem dX6_against_117 : decode cX6_against 117 = .ok (.if_icmp .le 14, 3) := by decide +kernel
theorem dX6_against_120 : decode cX6_against 120 = .ok (.aload_n 0, 1) := by decide +kernel
theorem dX6_against_121 : decode cX6_against 121 = .ok (.getfield 9, 3) := by decide +kernel
theorem dX6_against_124 : decode cX6_against 124 = .ok (.iload_n 3, 1) := by decide +kernel
theorem dX6_against_125 : decode cX6_against 125 = .ok (.iaload, 1) := by decide +kernel
theorem dX6_against_126 : decode cX6_against 126 = .ok (.ineg, 1) := by decide +kernel
theorem dX6_against_127 : decode cX6_against 127 = .ok (.i2l, 1) := by decide +kernel
theorem dX6_against_128 : decode cX6_against 128 = .ok (.goto 4, 3) := by decide +kernel
theorem dX6_against_131 : decode cX6_against 131 = .ok (.lconst 0, 1) := by decide +kernel
theorem dX6_against_132 : decode cX6_against 132 = .ok (.lastore, 1) := by decide +kernel
theorem dX6_against_133 : decode cX6_against 133 = .ok (.iinc 4 1, 3) := by decide +kernel
theorem dX6_against_136 : decode cX6_against 136 = .ok (.goto (-108), 3) := by decide +kernel
theorem dX6_against_139 : decode cX6_against 139 = .ok (.iinc 3 1, 3) := by decide +kernel
theorem dX6_against_142 : decode cX6_against 142 = .ok (.goto (-125), 3) := by decide +kernel
theorem dX6_against_145 : decode cX6_against 145 = .ok (.aload_n 2, 1) := by decide +kernel
theorem dX6_against_146 : decode cX6_against 146 = .ok (.areturn, 1) := by decide +kernel
set_option maxRecDepth 20000 in
theorem ggX6_worstMargin_X6_against : GoodIn wsX6_worstMargin wsX6_against := goodIn_ca (goodIn_r _ [6, 7, 8, 9, 10, 11, 12, 13, 14, 15, 5, 16, 17, 24, 25, 26, 27, 28, 29, 30, 31, 32] (by decide +kernel) (by decide +kernel)) (goodIn_sub (fun _ h => List.mem_cons_of_mem _ (List.mem_append_right _ h)) (by decide +kernel))
set_option maxRecDepth 20000 in
theorem gX6_worstMargin_X6_against : GoodIn wsX6_worstMargin (wsV RX6 179 RX6 yX6_against wsX6_against) := goodIn_app (goodIn_of _ (by decide +kernel)) ggX6_worstMargin_X6_against
set_option maxRecDepth 20000 in
theorem ggX6_worstMargin_X6_best : GoodIn wsX6_worstMargin wsX6_best := goodIn_ca (goodIn_r _ [21, 7, 22, 8, 10, 23, 11, 24, 25, 26, 27, 28, 29, 30, 31, 32] (by decide +kernel) (by decide +kernel)) (goodIn_sub (fun _ h => List.mem_cons_of_mem _ (List.mem_append_right _ h)) (by decide +kernel))
set_option maxRecDepth 20000 in
theorem gX6_worstMargin_X6_best : GoodIn wsX6_worstMargin (wsV RX6 166 RX6 yX6_best wsX6_best) := goodIn_app (goodIn_of _ (by decide +kernel)) ggX6_worstMargin_X6_best
theorem dX6_worstMargin_0 : decode cX6_worstMargin 0 = .ok (.aload_n 0, 1) := by decide +kernel
theorem dX6_worstMargin_1 : decode cX6_worstMargin 1 = .ok (.aload_n 0, 1) := by decide +kernel
theorem dX6_worstMargin_2 : decode cX6_worstMargin 2 = .ok (.aload_n 0, 1) := by decide +kernel
theorem dX6_worstMargin_3 : decode cX6_worstMargin 3 = .ok (.getfield 16, 3) := by decide +kernel
theorem dX6_worstMargin_6 : decode cX6_worstMargin 6 = .ok (.invokevirtual 179, 3) := by decide +kernel
theorem dX6_worstMargin_9 : decode cX6_worstMargin 9 = .ok (.invokevirtual 166, 3) := by decide +kernel
theorem dX6_worstMargin_12 : decode cX6_worstMargin 12 = .ok (.l2i, 1) := by decide +kernel
theorem dX6_worstMargin_13 : decode cX6_worstMargin 13 = .ok (.ireturn, 1) := by decide +kernel
set_option maxRecDepth 20000 in
theorem ggX6_challenger_X6_isWho : GoodIn wsX6_challenger wsX6_isWho := goodIn_r _ [6, 7, 8, 9, 5, 10, 51, 52, 53, 54, 55, 56, 57, 58, 59] (by decide +kernel) (by decide +kernel)
set_option maxRecDepth 20000 in
theorem gX6_challenger_X6_isWho : GoodIn wsX6_challenger (wsV RX6 62 RX6 yX6_isWho wsX6_isWho) := goodIn_app (goodIn_of _ (by decide +kernel)) ggX6_challenger_X6_isWho
set_option maxRecDepth 20000 in
theorem ggX6_challenger_X6_no : GoodIn wsX6_challenger wsX6_no := goodIn_r _ [14, 15, 51, 52, 53, 54, 55, 56, 57, 58, 59] (by decide +kernel) (by decide +kernel)
set_option maxRecDepth 20000 in
theorem gX6_challenger_X6_no : GoodIn wsX6_challenger (wsV RX6 58 RX6 yX6_no wsX6_no) := goodIn_app (goodIn_of _ (by decide +kernel)) ggX6_challenger_X6_no
set_option maxRecDepth 20000 in
theorem ggX6_challenger_X6_against : GoodIn wsX6_challenger wsX6_against := goodIn_ca (goodIn_r _ [19, 7, 20, 21, 22, 23, 24, 25, 26, 27, 5, 28, 29, 51, 52, 53, 54, 55, 56, 57, 58, 59] (by decide +kernel) (by decide +kernel)) (goodIn_sub (fun _ h => List.mem_cons_of_mem _ (List.mem_append_right _ h)) (by decide +kernel))
set_option maxRecDepth 20000 in
theorem gX6_challenger_X6_against : GoodIn wsX6_challenger (wsV RX6 179 RX6 yX6_against wsX6_against) := goodIn_app (goodIn_of _ (by decide +kernel)) ggX6_challenger_X6_against
set_option maxRecDepth 20000 in
theorem ggX6_challenger_X6_first : GoodIn wsX6_challenger wsX6_first := goodIn_ca (goodIn_r _ [33, 23, 34, 7, 20, 35, 36, 37, 5, 38, 22, 39, 40, 41, 42, 43, 44, 45, 46, 47, 48, 49, 50, 51, 52, 53, 54, 55, 56, 57, 58, 59] (by decide +kernel) (by decide +kernel)) (goodIn_sub (fun _ h => List.mem_cons_of_mem _ (List.mem_append_right _ h)) (by decide +kernel))
set_option maxRecDepth 20000 in
theorem gX6_challenger_X6_first : GoodIn wsX6_challenger (wsV RX6 183 RX6 yX6_first wsX6_first) := goodIn_app (goodIn_of _ (by decide +kernel)) ggX6_challenger_X6_first
theorem dX6_challenger_0 : decode cX6_challenger 0 = .ok (.aload_n 0, 1) := by decide +kernel
theorem dX6_challenger_1 : decode cX6_challenger 1 = .ok (.aload_n 0, 1) := by decide +kernel
theorem dX6_challenger_2 : decode cX6_challenger 2 = .ok (.iload_n 1, 1) := by decide +kernel
theorem dX6_challenger_3 : decode cX6_challenger 3 = .ok (.invokevirtual 62, 3) := by decide +kernel
theorem dX6_challenger_6 : decode cX6_challenger 6 = .ok (.iconst 1, 1) := by decide +kernel
theorem dX6_challenger_7 : decode cX6_challenger 7 = .ok (.invokevirtual 58, 3) := by decide +kernel
theorem dX6_challenger_10 : decode cX6_challenger 10 = .ok (.ifCond .eq 7, 3) := by decide +kernel
theorem dX6_challenger_13 : decode cX6_challenger 13 = .ok (.iconst 0, 1) := by decide +kernel
theorem dX6_challenger_14 : decode cX6_challenger 14 = .ok (.goto 17, 3) := by decide +kernel
theorem dX6_challenger_17 : decode cX6_challenger 17 = .ok (.aload_n 0, 1) := by decide +kernel
theorem dX6_challenger_18 : decode cX6_challenger 18 = .ok (.aload_n 0, 1) := by decide +kernel
theorem dX6_challenger_19 : decode cX6_challenger 19 = .ok (.aload_n 0, 1) := by decide +kernel
theorem dX6_challenger_20 : decode cX6_challenger 20 = .ok (.getfield 16, 3) := by decide +kernel
theorem dX6_challenger_23 : decode cX6_challenger 23 = .ok (.invokevirtual 179, 3) := by decide +kernel
theorem dX6_challenger_26 : decode cX6_challenger 26 = .ok (.invokevirtual 183, 3) := by decide +kernel
theorem dX6_challenger_29 : decode cX6_challenger 29 = .ok (.iload_n 1, 1) := by decide +kernel
theorem dX6_challenger_30 : decode cX6_challenger 30 = .ok (.iaload, 1) := by decide +kernel
theorem dX6_challenger_31 : decode cX6_challenger 31 = .ok (.ireturn, 1) := by decide +kernel
set_option maxRecDepth 20000 in
theorem ggX6_isPopular_X6_against : GoodIn wsX6_isPopular wsX6_against := goodIn_ca (goodIn_r _ [6, 7, 8, 9, 10, 11, 12, 13, 14, 15, 5, 16, 17, 24, 25, 26, 27, 28, 29, 30, 31, 32] (by decide +kernel) (by decide +kernel)) (goodIn_sub (fun _ h => List.mem_cons_of_mem _ (List.mem_append_right _ h)) (by decide +kernel))
set_option maxRecDepth 20000 in
theorem gX6_isPopular_X6_against : GoodIn wsX6_isPopular (wsV RX6 179 RX6 yX6_against wsX6_against) := goodIn_app (goodIn_of _ (by decide +kernel)) ggX6_isPopular_X6_against
set_option maxRecDepth 20000 in
theorem ggX6_isPopular_X6_best : GoodIn wsX6_isPopular wsX6_best := goodIn_ca (goodIn_r _ [21, 7, 22, 8, 10, 23, 11, 24, 25, 26, 27, 28, 29, 30, 31, 32] (by decide +kernel) (by decide +kernel)) (goodIn_sub (fun _ h => List.mem_cons_of_mem _ (List.mem_append_right _ h)) (by decide +kernel))
set_option maxRecDepth 20000 in
theorem gX6_isPopular_X6_best : GoodIn wsX6_isPopular (wsV RX6 166 RX6 yX6_best wsX6_best) := goodIn_app (goodIn_of _ (by decide +kernel)) ggX6_isPopular_X6_best
theorem dX6_isPopular_0 : decode cX6_isPopular 0 = .ok (.aload_n 0, 1) := by decide +kernel
theorem dX6_isPopular_1 : decode cX6_isPopular 1 = .ok (.aload_n 0, 1) := by decide +kernel
theorem dX6_isPopular_2 : decode cX6_isPopular 2 = .ok (.aload_n 0, 1) := by decide +kernel
theorem dX6_isPopular_3 : decode cX6_isPopular 3 = .ok (.getfield 16, 3) := by decide +kernel
theorem dX6_isPopular_6 : decode cX6_isPopular 6 = .ok (.invokevirtual 179, 3) := by decide +kernel
theorem dX6_isPopular_9 : decode cX6_isPopular 9 = .ok (.invokevirtual 166, 3) := by decide +kernel
theorem dX6_isPopular_12 : decode cX6_isPopular 12 = .ok (.lconst 0, 1) := by decide +kernel
theorem dX6_isPopular_13 : decode cX6_isPopular 13 = .ok (.lcmp, 1) := by decide +kernel
theorem dX6_isPopular_14 : decode cX6_isPopular 14 = .ok (.ifCond .ne 7, 3) := by decide +kernel
theorem dX6_isPopular_17 : decode cX6_isPopular 17 = .ok (.iconst 1, 1) := by decide +kernel
theorem dX6_isPopular_18 : decode cX6_isPopular 18 = .ok (.goto 4, 3) := by decide +kernel
theorem dX6_isPopular_21 : decode cX6_isPopular 21 = .ok (.iconst 0, 1) := by decide +kernel
theorem dX6_isPopular_22 : decode cX6_isPopular 22 = .ok (.ireturn, 1) := by decide +kernel
theorem dX6_areAlike_0 : decode cX6_areAlike 0 = .ok (.iconst 1, 1) := by decide +kernel
theorem dX6_areAlike_1 : decode cX6_areAlike 1 = .ok (.istore_n 1, 1) := by decide +kernel
theorem dX6_areAlike_2 : decode cX6_areAlike 2 = .ok (.iconst 1, 1) := by decide +kernel
theorem dX6_areAlike_3 : decode cX6_areAlike 3 = .ok (.istore_n 2, 1) := by decide +kernel
theorem dX6_areAlike_4 : decode cX6_areAlike 4 = .ok (.iload_n 2, 1) := by decide +kernel
theorem dX6_areAlike_5 : decode cX6_areAlike 5 = .ok (.aload_n 0, 1) := by decide +kernel
theorem dX6_areAlike_6 : decode cX6_areAlike 6 = .ok (.getfield 48, 3) := by decide +kernel
theorem dX6_areAlike_9 : decode cX6_areAlike 9 = .ok (.if_icmp .ge 32, 3) := by decide +kernel
theorem dX6_areAlike_12 : decode cX6_areAlike 12 = .ok (.iload_n 1, 1) := by decide +kernel
theorem dX6_areAlike_13 : decode cX6_areAlike 13 = .ok (.aload_n 0, 1) := by decide +kernel
theorem dX6_areAlike_14 : decode cX6_areAlike 14 = .ok (.getfield 9, 3) := by decide +kernel
theorem dX6_areAlike_17 : decode cX6_areAlike 17 = .ok (.iload_n 2, 1) := by decide +kernel
theorem dX6_areAlike_18 : decode cX6_areAlike 18 = .ok (.iaload, 1) := by decide +kernel
theorem dX6_areAlike_19 : decode cX6_areAlike 19 = .ok (.aload_n 0, 1) := by decide +kernel
theorem dX6_areAlike_20 : decode cX6_areAlike 20 = .ok (.getfield 9, 3) := by decide +kernel
theorem dX6_areAlike_23 : decode cX6_areAlike 23 = .ok (.iconst 0, 1) := by decide +kernel
theorem dX6_areAlike_24 : decode cX6_areAlike 24 = .ok (.iaload, 1) := by decide +kernel
theorem dX6_areAlike_25 : decode cX6_areAlike 25 = .ok (.if_icmp .ne 7, 3) := by decide +kernel
theorem dX6_areAlike_28 : decode cX6_areAlike 28 = .ok (.iconst 1, 1) := by decide +kernel
theorem dX6_areAlike_29 : decode cX6_areAlike 29 = .ok (.goto 4, 3) := by decide +kernel
theorem dX6_areAlike_32 : decode cX6_areAlike 32 = .ok (.iconst 0, 1) := by decide +kernel
theorem dX6_areAlike_33 : decode cX6_areAlike 33 = .ok (.iand, 1) := by decide +kernel
theorem dX6_areAlike_34 : decode cX6_areAlike 34 = .ok (.istore_n 1, 1) := by decide +kernel
theorem dX6_areAlike_35 : decode cX6_areAlike 35 = .ok (.iinc 2 1, 3) := by decide +kernel
theorem dX6_areAlike_38 : decode cX6_areAlike 38 = .ok (.goto (-34), 3) := by decide +kernel
theorem dX6_areAlike_41 : decode cX6_areAlike 41 = .ok (.iload_n 1, 1) := by decide +kernel
theorem dX6_areAlike_42 : decode cX6_areAlike 42 = .ok (.ireturn, 1) := by decide +kernel
set_option maxRecDepth 20000 in
theorem ggX6_top_X6_rank : GoodIn wsX6_top wsX6_rank := goodIn_ca (goodIn_r _ [10, 11, 12, 13, 14, 15, 16, 17, 18, 19, 20] (by decide +kernel) (by decide +kernel)) (goodIn_sub (fun _ h => List.mem_cons_of_mem _ (List.mem_append_right _ h)) (by decide +kernel))
set_option maxRecDepth 20000 in
theorem gX6_top_X6_rank : GoodIn wsX6_top (wsV RX6 139 RX6 yX6_rank wsX6_rank) := goodIn_app (goodIn_of _ (by decide +kernel)) ggX6_top_X6_rank
theorem dX6_top_0 : decode cX6_top 0 = .ok (.bipush 99, 2) := by decide +kernel
theorem dX6_top_2 : decode cX6_top 2 = .ok (.istore_n 2, 1) := by decide +kernel
theorem dX6_top_3 : decode cX6_top 3 = .ok (.iconst 0, 1) := by decide +kernel
theorem dX6_top_4 : decode cX6_top 4 = .ok (.istore_n 3, 1) := by decide +kernel
theorem dX6_top_5 : decode cX6_top 5 = .ok (.iload_n 3, 1) := by decide +kernel
theorem dX6_top_6 : decode cX6_top 6 = .ok (.aload_n 0, 1) := by decide +kernel
theorem dX6_top_7 : decode cX6_top 7 = .ok (.getfield 55, 3) := by decide +kernel
theorem dX6_top_10 : decode cX6_top 10 = .ok (.if_icmp .ge 20, 3) := by decide +kernel
theorem dX6_top_13 : decode cX6_top 13 = .ok (.iload_n 2, 1) := by decide +kernel
theorem dX6_top_14 : decode cX6_top 14 = .ok (.aload_n 0, 1) := by decide +kernel
theorem dX6_top_15 : decode cX6_top 15 = .ok (.iload_n 1, 1) := by decide +kernel
theorem dX6_top_16 : decode cX6_top 16 = .ok (.iload_n 3, 1) := by decide +kernel
theorem dX6_top_17 : decode cX6_top 17 = .ok (.invokevirtual 139, 3) := by decide +kernel
theorem dX6_top_20 : decode cX6_top 20 = .ok (.invokestatic 187, 3) := by decide +kernel
theorem dX6_top_23 : decode cX6_top 23 = .ok (.istore_n 2, 1) := by decide +kernel
theorem dX6_top_24 : decode cX6_top 24 = .ok (.iinc 3 1, 3) := by decide +kernel
theorem dX6_top_27 : decode cX6_top 27 = .ok (.goto (-22), 3) := by decide +kernel
theorem dX6_top_30 : decode cX6_top 30 = .ok (.iload_n 2, 1) := by decide +kernel
theorem dX6_top_31 : decode cX6_top 31 = .ok (.ireturn, 1) := by decide +kernel
set_option maxRecDepth 20000 in
theorem ggX6_firsts_X6_top : GoodIn wsX6_firsts wsX6_top := goodIn_ca (goodIn_r _ [10, 2, 11, 12, 13, 14, 15, 16, 17, 9, 18, 19, 20, 21, 22, 23, 24, 25, 26, 27, 28] (by decide +kernel) (by decide +kernel)) (goodIn_sub (fun _ h => List.mem_cons_of_mem _ (List.mem_append_right _ h)) (by decide +kernel))
set_option maxRecDepth 20000 in
theorem gX6_firsts_X6_top : GoodIn wsX6_firsts (wsV RX6 192 RX6 yX6_top wsX6_top) := goodIn_app (goodIn_of _ (by decide +kernel)) ggX6_firsts_X6_top
set_option maxRecDepth 20000 in
theorem ggX6_firsts_X6_rank : GoodIn wsX6_firsts wsX6_rank := goodIn_ca (goodIn_r _ [18, 19, 20, 21, 22, 23, 24, 25, 26, 27, 28] (by decide +kernel) (by decide +kernel)) (goodIn_sub (fun _ h => List.mem_cons_of_mem _ (List.mem_append_right _ h)) (by decide +kernel))
set_option maxRecDepth 20000 in
theorem gX6_firsts_X6_rank : GoodIn wsX6_firsts (wsV RX6 139 RX6 yX6_rank wsX6_rank) := goodIn_app (goodIn_of _ (by decide +kernel)) ggX6_firsts_X6_rank
theorem dX6_firsts_0 : decode cX6_firsts 0 = .ok (.aload_n 0, 1) := by decide +kernel
theorem dX6_firsts_1 : decode cX6_firsts 1 = .ok (.getfield 48, 3) := by decide +kernel
theorem dX6_firsts_4 : decode cX6_firsts 4 = .ok (.aload_n 0, 1) := by decide +kernel
theorem dX6_firsts_5 : decode cX6_firsts 5 = .ok (.getfield 55, 3) := by decide +kernel
theorem dX6_firsts_8 : decode cX6_firsts 8 = .ok (.iconst 1, 1) := by decide +kernel
theorem dX6_firsts_9 : decode cX6_firsts 9 = .ok (.iadd, 1) := by decide +kernel
theorem dX6_firsts_10 : decode cX6_firsts 10 = .ok (.multianewarray 177 2, 4) := by decide +kernel
theorem dX6_firsts_14 : decode cX6_firsts 14 = .ok (.astore_n 1, 1) := by decide +kernel
theorem dX6_firsts_15 : decode cX6_firsts 15 = .ok (.iconst 0, 1) := by decide +kernel
theorem dX6_firsts_16 : decode cX6_firsts 16 = .ok (.istore_n 2, 1) := by decide +kernel
theorem dX6_firsts_17 : decode cX6_firsts 17 = .ok (.iload_n 2, 1) := by decide +kernel
theorem dX6_firsts_18 : decode cX6_firsts 18 = .ok (.aload_n 0, 1) := by decide +kernel
theorem dX6_firsts_19 : decode cX6_firsts 19 = .ok (.getfield 48, 3) := by decide +kernel
theorem dX6_firsts_22 : decode cX6_firsts 22 = .ok (.if_icmp .ge 61, 3) := by decide +kernel
theorem dX6_firsts_25 : decode cX6_firsts 25 = .ok (.iconst 0, 1) := by decide +kernel
theorem dX6_firsts_26 : decode cX6_firsts 26 = .ok (.istore_n 3, 1) := by decide +kernel
theorem dX6_firsts_27 : decode cX6_firsts 27 = .ok (.iload_n 3, 1) := by decide +kernel
theorem dX6_firsts_28 : decode cX6_firsts 28 = .ok (.aload_n 0, 1) := by decide +kernel
theorem dX6_firsts_29 : decode cX6_firsts 29 = .ok (.getfield 55, 3) := by decide +kernel
theorem dX6_firsts_32 : decode cX6_firsts 32 = .ok (.if_icmp .ge 45, 3) := by decide +kernel
theorem dX6_firsts_35 : decode cX6_firsts 35 = .ok (.aload_n 1, 1) := by decide +kernel
theorem dX6_firsts_36 : decode cX6_firsts 36 = .ok (.iload_n 2, 1) := by decide +kernel
theorem dX6_firsts_37 : decode cX6_firsts 37 = .ok (.aaload, 1) := by decide +kernel
theorem dX6_firsts_38 : decode cX6_firsts 38 = .ok (.iload_n 3, 1) := by decide +kernel
theorem dX6_firsts_39 : decode cX6_firsts 39 = .ok (.aload_n 0, 1) := by decide +kernel
theorem dX6_firsts_40 : decode cX6_firsts 40 = .ok (.iload_n 2, 1) := by decide +kernel
theorem dX6_firsts_41 : decode cX6_firsts 41 = .ok (.invokevirtual 192, 3) := by decide +kernel
theorem dX6_firsts_44 : decode cX6_firsts 44 = .ok (.bipush 99, 2) := by decide +kernel
theorem dX6_firsts_46 : decode cX6_firsts 46 = .ok (.if_icmp .ge 21, 3) := by decide +kernel
theorem dX6_firsts_49 : decode cX6_firsts 49 = .ok (.aload_n 0, 1) := by decide +kernel
theorem dX6_firsts_50 : decode cX6_firsts 50 = .ok (.iload_n 2, 1) := by decide +kernel
theorem dX6_firsts_51 : decode cX6_firsts 51 = .ok (.iload_n 3, 1) := by decide +kernel
theorem dX6_firsts_52 : decode cX6_firsts 52 = .ok (.invokevirtual 139, 3) := by decide +kernel
theorem dX6_firsts_55 : decode cX6_firsts 55 = .ok (.aload_n 0, 1) := by decide +kernel
theorem dX6_firsts_56 : decode cX6_firsts 56 = .ok (.iload_n 2, 1) := by decide +kernel
theorem dX6_firsts_57 : decode cX6_firsts 57 = .ok (.invokevirtual 192, 3) := by decide +kernel
theorem dX6_firsts_60 : decode cX6_firsts 60 = .ok (.if_icmp .ne 7, 3) := by decide +kernel
theorem dX6_firsts_63 : decode cX6_firsts 63 = .ok (.lconst 1, 1) := by decide +kernel
theorem dX6_firsts_64 : decode cX6_firsts 64 = .ok (.goto 6, 3) := by decide +kernel
theorem dX6_firsts_67 : decode cX6_firsts 67 = .ok (.ldc2_w 164, 3) := by decide +kernel
theorem dX6_firsts_70 : decode cX6_firsts 70 = .ok (.lastore, 1) := by decide +kernel
theorem dX6_firsts_71 : decode cX6_firsts 71 = .ok (.iinc 3 1, 3) := by decide +kernel
theorem dX6_firsts_74 : decode cX6_firsts 74 = .ok (.goto (-47), 3) := by decide +kernel
theorem dX6_firsts_77 : decode cX6_firsts 77 = .ok (.iinc 2 1, 3) := by decide +kernel
theorem dX6_firsts_80 : decode cX6_firsts 80 = .ok (.goto (-63), 3) := by decide +kernel
theorem dX6_firsts_83 : decode cX6_firsts 83 = .ok (.aload_n 1, 1) := by decide +kernel
theorem dX6_firsts_84 : decode cX6_firsts 84 = .ok (.areturn, 1) := by decide +kernel
set_option maxRecDepth 20000 in
theorem ggX6_even_X6_firsts : GoodIn wsX6_even wsX6_firsts := goodIn_ca (goodIn_r _ [8, 9, 1, 10, 11, 12, 13, 14, 15, 7, 16, 17, 18, 19, 20, 21, 22, 23, 24, 25, 31, 32, 33, 34, 35, 36, 37, 38, 39] (by decide +kernel) (by decide +kernel)) (goodIn_sub (fun _ h => List.mem_cons_of_mem _ (List.mem_append_right _ h)) (by decide +kernel))
set_option maxRecDepth 20000 in
theorem gX6_even_X6_firsts : GoodIn wsX6_even (wsV RX6 196 RX6 yX6_firsts wsX6_firsts) := goodIn_app (goodIn_of _ (by decide +kernel)) ggX6_even_X6_firsts
set_option maxRecDepth 20000 in
theorem ggX6_even_X6_best : GoodIn wsX6_even wsX6_best := goodIn_ca (goodIn_r _ [29, 9, 30, 1, 11, 3, 12, 31, 32, 33, 34, 35, 36, 37, 38, 39] (by decide +kernel) (by decide +kernel)) (goodIn_sub (fun _ h => List.mem_cons_of_mem _ (List.mem_append_right _ h)) (by decide +kernel))
set_option maxRecDepth 20000 in
theorem gX6_even_X6_best : GoodIn wsX6_even (wsV RX6 166 RX6 yX6_best wsX6_best) := goodIn_app (goodIn_of _ (by decide +kernel)) ggX6_even_X6_best
theorem dX6_even_0 : decode cX6_even 0 = .ok (.aload_n 0, 1) := by decide +kernel
theorem dX6_even_1 : decode cX6_even 1 = .ok (.aload_n 0, 1) := by decide +kernel
theorem dX6_even_2 : decode cX6_even 2 = .ok (.invokevirtual 196, 3) := by decide +kernel
theorem dX6_even_5 : decode cX6_even 5 = .ok (.invokevirtual 166, 3) := by decide +kernel
theorem dX6_even_8 : decode cX6_even 8 = .ok (.lstore_n 1, 1) := by decide +kernel
theorem dX6_even_9 : decode cX6_even 9 = .ok (.aload_n 0, 1) := by decide +kernel
theorem dX6_even_10 : decode cX6_even 10 = .ok (.getfield 55, 3) := by decide +kernel
theorem dX6_even_13 : decode cX6_even 13 = .ok (.newarray .boolean, 2) := by decide +kernel
theorem dX6_even_15 : decode cX6_even 15 = .ok (.astore_n 3, 1) := by decide +kernel
theorem dX6_even_16 : decode cX6_even 16 = .ok (.iconst 0, 1) := by decide +kernel
theorem dX6_even_17 : decode cX6_even 17 = .ok (.istore 4, 2) := by decide +kernel
theorem dX6_even_19 : decode cX6_even 19 = .ok (.iload 4, 2) := by decide +kernel
theorem dX6_even_21 : decode cX6_even 21 = .ok (.aload_n 0, 1) := by decide +kernel
theorem dX6_even_22 : decode cX6_even 22 = .ok (.getfield 55, 3) := by decide +kernel
theorem dX6_even_25 : decode cX6_even 25 = .ok (.if_icmp .ge 53, 3) := by decide +kernel
theorem dX6_even_28 : decode cX6_even 28 = .ok (.aload_n 0, 1) := by decide +kernel
theorem dX6_even_29 : decode cX6_even 29 = .ok (.getfield 13, 3) := by decide +kernel
theorem dX6_even_32 : decode cX6_even 32 = .ok (.iload 4, 2) := by decide +kernel
theorem dX6_even_34 : decode cX6_even 34 = .ok (.dup2, 1) := by decide +kernel
theorem dX6_even_35 : decode cX6_even 35 = .ok (.iaload, 1) := by decide +kernel
theorem dX6_even_36 : decode cX6_even 36 = .ok (.iconst 1, 1) := by decide +kernel
theorem dX6_even_37 : decode cX6_even 37 = .ok (.isub, 1) := by decide +kernel
theorem dX6_even_38 : decode cX6_even 38 = .ok (.iastore, 1) := by decide +kernel
theorem dX6_even_39 : decode cX6_even 39 = .ok (.aload_n 3, 1) := by decide +kernel
theorem dX6_even_40 : decode cX6_even 40 = .ok (.iload 4, 2) := by decide +kernel
theorem dX6_even_42 : decode cX6_even 42 = .ok (.aload_n 0, 1) := by decide +kernel
theorem dX6_even_43 : decode cX6_even 43 = .ok (.aload_n 0, 1) := by decide +kernel
theorem dX6_even_44 : decode cX6_even 44 = .ok (.invokevirtual 196, 3) := by decide +kernel
theorem dX6_even_47 : decode cX6_even 47 = .ok (.invokevirtual 166, 3) := by decide +kernel
theorem dX6_even_50 : decode cX6_even 50 = .ok (.lload_n 1, 1) := by decide +kernel
theorem dX6_even_51 : decode cX6_even 51 = .ok (.lcmp, 1) := by decide +kernel
theorem dX6_even_52 : decode cX6_even 52 = .ok (.ifCond .ne 7, 3) := by decide +kernel
theorem dX6_even_55 : decode cX6_even 55 = .ok (.iconst 1, 1) := by decide +kernel
theorem dX6_even_56 : decode cX6_even 56 = .ok (.goto 4, 3) := by decide +kernel
theorem dX6_even_59 : decode cX6_even 59 = .ok (.iconst 0, 1) := by decide +kernel
theorem dX6_even_60 : decode cX6_even 60 = .ok (.bastore, 1) := by decide +kernel
theorem dX6_even_61 : decode cX6_even 61 = .ok (.aload_n 0, 1) := by decide +kernel
theorem dX6_even_62 : decode cX6_even 62 = .ok (.getfield 13, 3) := by decide +kernel
theorem dX6_even_65 : decode cX6_even 65 = .ok (.iload 4, 2) := by decide +kernel
theorem dX6_even_67 : decode cX6_even 67 = .ok (.dup2, 1) := by decide +kernel
theorem dX6_even_68 : decode cX6_even 68 = .ok (.iaload, 1) := by decide +kernel
theorem dX6_even_69 : decode cX6_even 69 = .ok (.iconst 1, 1) := by decide +kernel
theorem dX6_even_70 : decode cX6_even 70 = .ok (.iadd, 1) := by decide +kernel
theorem dX6_even_71 : decode cX6_even 71 = .ok (.iastore, 1) := by decide +kernel
theorem dX6_even_72 : decode cX6_even 72 = .ok (.iinc 4 1, 3) := by decide +kernel
theorem dX6_even_75 : decode cX6_even 75 = .ok (.goto (-56), 3) := by decide +kernel
theorem dX6_even_78 : decode cX6_even 78 = .ok (.aload_n 3, 1) := by decide +kernel
theorem dX6_even_79 : decode cX6_even 79 = .ok (.areturn, 1) := by decide +kernel
set_option maxRecDepth 20000 in
theorem ggX6_popular_X6_firsts : GoodIn wsX6_popular wsX6_firsts := goodIn_ca (goodIn_r _ [14, 1, 2, 3, 4, 9, 15, 16, 17, 13, 18, 5, 6, 7, 8, 19, 20, 21, 22, 23, 50, 51, 52, 53, 54, 55, 56, 57, 58] (by decide +kernel) (by decide +kernel)) (goodIn_sub (fun _ h => List.mem_cons_of_mem _ (List.mem_append_right _ h)) (by decide +kernel))
set_option maxRecDepth 20000 in
theorem gX6_popular_X6_firsts : GoodIn wsX6_popular (wsV RX6 196 RX6 yX6_firsts wsX6_firsts) := goodIn_app (goodIn_of _ (by decide +kernel)) ggX6_popular_X6_firsts
set_option maxRecDepth 20000 in
theorem ggX6_popular_X6_best : GoodIn wsX6_popular wsX6_best := goodIn_ca (goodIn_r _ [27, 1, 28, 2, 4, 29, 9, 50, 51, 52, 53, 54, 55, 56, 57, 58] (by decide +kernel) (by decide +kernel)) (goodIn_sub (fun _ h => List.mem_cons_of_mem _ (List.mem_append_right _ h)) (by decide +kernel))
set_option maxRecDepth 20000 in
theorem gX6_popular_X6_best : GoodIn wsX6_popular (wsV RX6 166 RX6 yX6_best wsX6_best) := goodIn_app (goodIn_of _ (by decide +kernel)) ggX6_popular_X6_best
set_option maxRecDepth 20000 in
theorem ggX6_popular_X6_even : GoodIn wsX6_popular wsX6_even := goodIn_ca (goodIn_r _ [33, 2, 34, 29, 10, 11, 12, 13, 14, 1, 3, 4, 9, 15, 16, 17, 18, 5, 6, 7, 8, 19, 20, 21, 22, 23, 24, 25, 26, 27, 28, 50, 51, 52, 53, 54, 55, 56, 57, 58] (by decide +kernel) (by decide +kernel)) (goodIn_sub (fun _ h => List.mem_cons_of_mem _ (List.mem_append_right _ h)) (by decide +kernel))
set_option maxRecDepth 20000 in
theorem gX6_popular_X6_even : GoodIn wsX6_popular (wsV RX6 200 RX6 yX6_even wsX6_even) := goodIn_app (goodIn_of _ (by decide +kernel)) ggX6_popular_X6_even
set_option maxRecDepth 20000 in
theorem ggX6_popular_X6_rank : GoodIn wsX6_popular wsX6_rank := goodIn_ca (goodIn_r _ [22, 23, 50, 51, 52, 53, 54, 55, 56, 57, 58] (by decide +kernel) (by decide +kernel)) (goodIn_sub (fun _ h => List.mem_cons_of_mem _ (List.mem_append_right _ h)) (by decide +kernel))
set_option maxRecDepth 20000 in
theorem gX6_popular_X6_rank : GoodIn wsX6_popular (wsV RX6 139 RX6 yX6_rank wsX6_rank) := goodIn_app (goodIn_of _ (by decide +kernel)) ggX6_popular_X6_rank
set_option maxRecDepth 20000 in
theorem ggX6_popular_X6_top : GoodIn wsX6_popular wsX6_top := goodIn_ca (goodIn_r _ [18, 2, 5, 6, 7, 8, 19, 20, 21, 13, 22, 23, 50, 51, 52, 53, 54, 55, 56, 57, 58] (by decide +kernel) (by decide +kernel)) (goodIn_sub (fun _ h => List.mem_cons_of_mem _ (List.mem_append_right _ h)) (by decide +kernel))
set_option maxRecDepth 20000 in
theorem gX6_popular_X6_top : GoodIn wsX6_popular (wsV RX6 192 RX6 yX6_top wsX6_top) := goodIn_app (goodIn_of _ (by decide +kernel)) ggX6_popular_X6_top
set_option maxRecDepth 20000 in
theorem ggX6_popular_X6_first : GoodIn wsX6_popular wsX6_first := goodIn_ca (goodIn_r _ [38, 9, 28, 1, 2, 24, 25, 26, 13, 27, 4, 29, 39, 40, 41, 42, 43, 44, 45, 46, 47, 48, 49, 50, 51, 52, 53, 54, 55, 56, 57, 58] (by decide +kernel) (by decide +kernel)) (goodIn_sub (fun _ h => List.mem_cons_of_mem _ (List.mem_append_right _ h)) (by decide +kernel))
set_option maxRecDepth 20000 in
theorem gX6_popular_X6_first : GoodIn wsX6_popular (wsV RX6 183 RX6 yX6_first wsX6_first) := goodIn_app (goodIn_of _ (by decide +kernel)) ggX6_popular_X6_first
theorem dX6_popular_0 : decode cX6_popular 0 = .ok (.aload_n 0, 1) := by decide +kernel
theorem dX6_popular_1 : decode cX6_popular 1 = .ok (.aload_n 0, 1) := by decide +kernel
theorem dX6_popular_2 : decode cX6_popular 2 = .ok (.invokevirtual 196, 3) := by decide +kernel
theorem dX6_popular_5 : decode cX6_popular 5 = .ok (.invokevirtual 166, 3) := by decide +kernel
theorem dX6_popular_8 : decode cX6_popular 8 = .ok (.lstore_n 1, 1) := by decide +kernel
theorem dX6_popular_9 : decode cX6_popular 9 = .ok (.aload_n 0, 1) := by decide +kernel
theorem dX6_popular_10 : decode cX6_popular 10 = .ok (.invokevirtual 200, 3) := by decide +kernel
theorem dX6_popular_13 : decode cX6_popular 13 = .ok (.astore_n 3, 1) := by decide +kernel
theorem dX6_popular_14 : decode cX6_popular 14 = .ok (.aload_n 0, 1) := by decide +kernel
theorem dX6_popular_15 : decode cX6_popular 15 = .ok (.getfield 48, 3) := by decide +kernel
theorem dX6_popular_18 : decode cX6_popular 18 = .ok (.aload_n 0, 1) := by decide +kernel
theorem dX6_popular_19 : decode cX6_popular 19 = .ok (.getfield 55, 3) := by decide +kernel
theorem dX6_popular_22 : decode cX6_popular 22 = .ok (.iconst 1, 1) := by decide +kernel
theorem dX6_popular_23 : decode cX6_popular 23 = .ok (.iadd, 1) := by decide +kernel
theorem dX6_popular_24 : decode cX6_popular 24 = .ok (.multianewarray 177 2, 4) := by decide +kernel
theorem dX6_popular_28 : decode cX6_popular 28 = .ok (.astore 4, 2) := by decide +kernel
theorem dX6_popular_30 : decode cX6_popular 30 = .ok (.iconst 0, 1) := by decide +kernel
theorem dX6_popular_31 : decode cX6_popular 31 = .ok (.istore 5, 2) := by decide +kernel
theorem dX6_popular_33 : decode cX6_popular 33 = .ok (.iload 5, 2) := by decide +kernel
theorem dX6_popular_35 : decode cX6_popular 35 = .ok (.aload_n 0, 1) := by decide +kernel
theorem dX6_popular_36 : decode cX6_popular 36 = .ok (.getfield 48, 3) := by decide +kernel
theorem dX6_popular_39 : decode cX6_popular 39 = .ok (.if_icmp .ge 206, 3) := by decide +kernel
theorem dX6_popular_42 : decode cX6_popular 42 = .ok (.bipush 99, 2) := by decide +kernel
theorem dX6_popular_44 : decode cX6_popular 44 = .ok (.istore 6, 2) := by decide +kernel
theorem dX6_popular_46 : decode cX6_popular 46 = .ok (.iconst 0, 1) := by decide +kernel
theorem dX6_popular_47 : decode cX6_popular 47 = .ok (.istore 7, 2) := by decide +kernel
theorem dX6_popular_49 : decode cX6_popular 49 = .ok (.iload 7, 2) := by decide +kernel
theorem dX6_popular_51 : decode cX6_popular 51 = .ok (.aload_n 0, 1) := by decide +kernel
theorem dX6_popular_52 : decode cX6_popular 52 = .ok (.getfield 55, 3) := by decide +kernel
theorem dX6_popular_55 : decode cX6_popular 55 = .ok (.if_icmp .ge 36, 3) := by decide +kernel
theorem dX6_popular_58 : decode cX6_popular 58 = .ok (.aload_n 3, 1) := by decide +kernel
theorem dX6_popular_59 : decode cX6_popular 59 = .ok (.iload 7, 2) := by decide +kernel
theorem dX6_popular_61 : decode cX6_popular 61 = .ok (.baload, 1) := by decide +kernel
theorem dX6_popular_62 : decode cX6_popular 62 = .ok (.ifCond .eq 19, 3) := by decide +kernel
theorem dX6_popular_65 : decode cX6_popular 65 = .ok (.iload 6, 2) := by decide +kernel
theorem dX6_popular_67 : decode cX6_popular 67 = .ok (.aload_n 0, 1) := by decide +kernel
theorem dX6_popular_68 : decode cX6_popular 68 = .ok (.iload 5, 2) := by decide +kernel
theorem dX6_popular_70 : decode cX6_popular 70 = .ok (.iload 7, 2) := by decide +kernel
theorem dX6_popular_72 : decode cX6_popular 72 = .ok (.invokevirtual 139, 3) := by decide +kernel
theorem dX6_popular_75 : decode cX6_popular 75 = .ok (.invokestatic 187, 3) := by decide +kernel
theorem dX6_popular_78 : decode cX6_popular 78 = .ok (.goto 5, 3) := by decide +kernel
theorem dX6_popular_81 : decode cX6_popular 81 = .ok (.iload 6, 2) := by decide +kernel
theorem dX6_popular_83 : decode cX6_popular 83 = .ok (.istore 6, 2) := by decide +kernel
theorem dX6_popular_85 : decode cX6_popular 85 = .ok (.iinc 7 1, 3) := by decide +kernel
theorem dX6_popular_88 : decode cX6_popular 88 = .ok (.goto (-39), 3) := by decide +kernel
theorem dX6_popular_91 : decode cX6_popular 91 = .ok (.iconst 0, 1) := by decide +kernel
theorem dX6_popular_92 : decode cX6_popular 92 = .ok (.istore 7, 2) := by decide +kernel
theorem dX6_popular_94 : decode cX6_popular 94 = .ok (.iload 7, 2) := by decide +kernel
theorem dX6_popular_96 : decode cX6_popular 96 = .ok (.aload_n 0, 1) := by decide +kernel
theorem dX6_popular_97 : decode cX6_popular 97 = .ok (.getfield 55, 3) := by decide +kernel
theorem dX6_popular_100 : decode cX6_popular 100 = .ok (.if_icmp .ge 115, 3) := by decide +kernel
theorem dX6_popular_103 : decode cX6_popular 103 = .ok (.aload_n 0, 1) := by decide +kernel
theorem dX6_popular_104 : decode cX6_popular 104 = .ok (.iload 5, 2) := by decide +kernel
theorem dX6_popular_106 : decode cX6_popular 106 = .ok (.iload 7, 2) := by decide +kernel
theorem dX6_popular_108 : decode cX6_popular 108 = .ok (.invokevirtual 139, 3) := by decide +kernel
theorem dX6_popular_111 : decode cX6_popular 111 = .ok (.bipush 99, 2) := by decide +kernel
theorem dX6_popular_113 : decode cX6_popular 113 = .ok (.if_icmp .ge 24, 3) := by decide +kernel
theorem dX6_popular_116 : decode cX6_popular 116 = .ok (.aload_n 0, 1) := by decide +kernel
theorem dX6_popular_117 : decode cX6_popular 117 = .ok (.iload 5, 2) := by decide +kernel
theorem dX6_popular_119 : decode cX6_popular 119 = .ok (.iload 7, 2) := by decide +kernel
theorem dX6_popular_121 : decode cX6_popular 121 = .ok (.invokevirtual 139, 3) := by decide +kernel
theorem dX6_popular_124 : decode cX6_popular 124 = .ok (.aload_n 0, 1) := by decide +kernel
theorem dX6_popular_125 : decode cX6_popular 125 = .ok (.iload 5, 2) := by decide +kernel
theorem dX6_popular_127 : decode cX6_popular 127 = .ok (.invokevirtual 192, 3) := by decide +kernel
theorem dX6_popular_130 : decode cX6_popular 130 = .ok (.if_icmp .ne 7, 3) := by decide +kernel
theorem dX6_popular_133 : decode cX6_popular 133 = .ok (.iconst 1, 1) := by decide +kernel
theorem dX6_popular_134 : decode cX6_popular 134 = .ok (.goto 4, 3) := by decide +kernel
theorem dX6_popular_137 : decode cX6_popular 137 = .ok (.iconst 0, 1) := by decide +kernel
theorem dX6_popular_138 : decode cX6_popular 138 = .ok (.istore 8, 2) := by decide +kernel
theorem dX6_popular_140 : decode cX6_popular 140 = .ok (.aload_n 3, 1) := by decide +kernel
theorem dX6_popular_141 : decode cX6_popular 141 = .ok (.iload 7, 2) := by decide +kernel
theorem dX6_popular_143 : decode cX6_popular 143 = .ok (.baload, 1) := by decide +kernel
theorem dX6_popular_144 : decode cX6_popular 144 = .ok (.ifCond .eq 33, 3) := by decide +kernel
theorem dX6_popular_147 : decode cX6_popular 147 = .ok (.aload_n 0, 1) := by decide +kernel
theorem dX6_popular_148 : decode cX6_popular 148 = .ok (.iload 5, 2) := by decide +kernel
theorem dX6_popular_150 : decode cX6_popular 150 = .ok (.iload 7, 2) := by decide +kernel
theorem dX6_popular_152 : decode cX6_popular 152 = .ok (.invokevirtual 139, 3) := by decide +kernel
theorem dX6_popular_155 : decode cX6_popular 155 = .ok (.bipush 99, 2) := by decide +kernel
theorem dX6_popular_157 : decode cX6_popular 157 = .ok (.if_icmp .ge 20, 3) := by decide +kernel
theorem dX6_popular_160 : decode cX6_popular 160 = .ok (.aload_n 0, 1) := by decide +kernel
theorem dX6_popular_161 : decode cX6_popular 161 = .ok (.iload 5, 2) := by decide +kernel
theorem dX6_popular_163 : decode cX6_popular 163 = .ok (.iload 7, 2) := by decide +kernel
theorem dX6_popular_165 : decode cX6_popular 165 = .ok (.invokevirtual 139, 3) := by decide +kernel
theorem dX6_popular_168 : decode cX6_popular 168 = .ok (.iload 6, 2) := by decide +kernel
theorem dX6_popular_170 : decode cX6_popular 170 = .ok (.if_icmp .ne 7, 3) := by decide +kernel
theorem dX6_popular_173 : decode cX6_popular 173 = .ok (.iconst 1, 1) := by decide +kernel
theorem dX6_popular_174 : decode cX6_popular 174 = .ok (.goto 4, 3) := by decide +kernel
theorem dX6_popular_177 : decode cX6_popular 177 = .ok (.iconst 0, 1) := by decide +kernel
theorem dX6_popular_178 : decode cX6_popular 178 = .ok (.istore 9, 2) := by decide +kernel
theorem dX6_popular_180 : decode cX6_popular 180 = .ok (.aload 4, 2) := by decide +kernel
theorem dX6_popular_182 : decode cX6_popular 182 = .ok (.iload 5, 2) := by decide +kernel
theorem dX6_popular_184 : decode cX6_popular 184 = .ok (.aaload, 1) := by decide +kernel
theorem dX6_popular_185 : decode cX6_popular 185 = .ok (.iload 7, 2) := by decide +kernel
theorem dX6_popular_187 : decode cX6_popular 187 = .ok (.iload 8, 2) := by decide +kernel
theorem dX6_popular_189 : decode cX6_popular 189 = .ok (.ifCond .eq 7, 3) := by decide +kernel
theorem dX6_popular_192 : decode cX6_popular 192 = .ok (.lconst 1, 1) := by decide +kernel
theorem dX6_popular_193 : decode cX6_popular 193 = .ok (.goto 15, 3) := by decide +kernel
theorem dX6_popular_196 : decode cX6_popular 196 = .ok (.iload 9, 2) := by decide +kernel
theorem dX6_popular_198 : decode cX6_popular 198 = .ok (.ifCond .eq 7, 3) := by decide +kernel
theorem dX6_popular_201 : decode cX6_popular 201 = .ok (.lconst 0, 1) := by decide +kernel
theorem dX6_popular_202 : decode cX6_popular 202 = .ok (.goto 6, 3) := by decide +kernel
theorem dX6_popular_205 : decode cX6_popular 205 = .ok (.ldc2_w 164, 3) := by decide +kernel
theorem dX6_popular_208 : decode cX6_popular 208 = .ok (.lastore, 1) := by decide +kernel
theorem dX6_popular_209 : decode cX6_popular 209 = .ok (.iinc 7 1, 3) := by decide +kernel
theorem dX6_popular_212 : decode cX6_popular 212 = .ok (.goto (-118), 3) := by decide +kernel
theorem dX6_popular_215 : decode cX6_popular 215 = .ok (.aload 4, 2) := by decide +kernel
theorem dX6_popular_217 : decode cX6_popular 217 = .ok (.iload 5, 2) := by decide +kernel
theorem dX6_popular_219 : decode cX6_popular 219 = .ok (.aaload, 1) := by decide +kernel
theorem dX6_popular_220 : decode cX6_popular 220 = .ok (.aload_n 0, 1) := by decide +kernel
theorem dX6_popular_221 : decode cX6_popular 221 = .ok (.getfield 55, 3) := by decide +kernel
theorem dX6_popular_224 : decode cX6_popular 224 = .ok (.iload 6, 2) := by decide +kernel
theorem dX6_popular_226 : decode cX6_popular 226 = .ok (.bipush 99, 2) := by decide +kernel
theorem dX6_popular_228 : decode cX6_popular 228 = .ok (.if_icmp .ne 7, 3) := by decide +kernel
theorem dX6_popular_231 : decode cX6_popular 231 = .ok (.lconst 0, 1) := by decide +kernel
theorem dX6_popular_232 : decode cX6_popular 232 = .ok (.goto 6, 3) := by decide +kernel
theorem dX6_popular_235 : decode cX6_popular 235 = .ok (.ldc2_w 164, 3) := by decide +kernel
theorem dX6_popular_238 : decode cX6_popular 238 = .ok (.lastore, 1) := by decide +kernel
theorem dX6_popular_239 : decode cX6_popular 239 = .ok (.iinc 5 1, 3) := by decide +kernel
theorem dX6_popular_242 : decode cX6_popular 242 = .ok (.goto (-209), 3) := by decide +kernel
theorem dX6_popular_245 : decode cX6_popular 245 = .ok (.aload_n 0, 1) := by decide +kernel
theorem dX6_popular_246 : decode cX6_popular 246 = .ok (.aload 4, 2) := by decide +kernel
theorem dX6_popular_248 : decode cX6_popular 248 = .ok (.invokevirtual 166, 3) := by decide +kernel
theorem dX6_popular_251 : decode cX6_popular 251 = .ok (.lload_n 1, 1) := by decide +kernel
theorem dX6_popular_252 : decode cX6_popular 252 = .ok (.lcmp, 1) := by decide +kernel
theorem dX6_popular_253 : decode cX6_popular 253 = .ok (.ifCond .ne 12, 3) := by decide +kernel
theorem dX6_popular_256 : decode cX6_popular 256 = .ok (.aload_n 0, 1) := by decide +kernel
theorem dX6_popular_257 : decode cX6_popular 257 = .ok (.aload 4, 2) := by decide +kernel
theorem dX6_popular_259 : decode cX6_popular 259 = .ok (.invokevirtual 183, 3) := by decide +kernel
theorem dX6_popular_262 : decode cX6_popular 262 = .ok (.goto 4, 3) := by decide +kernel
theorem dX6_popular_265 : decode cX6_popular 265 = .ok (.aconst_null, 1) := by decide +kernel
theorem dX6_popular_266 : decode cX6_popular 266 = .ok (.areturn, 1) := by decide +kernel
set_option maxRecDepth 20000 in
theorem ggX6_hasPopular_X6_areAlike : GoodIn wsX6_hasPopular wsX6_areAlike := goodIn_ca (goodIn_r _ [5, 6, 7, 64, 65, 66, 67, 68, 69, 70, 71, 72] (by decide +kernel) (by decide +kernel)) (goodIn_sub (fun _ h => List.mem_cons_of_mem _ (List.mem_append_right _ h)) (by decide +kernel))
set_option maxRecDepth 20000 in
theorem gX6_hasPopular_X6_areAlike : GoodIn wsX6_hasPopular (wsV RX6 204 RX6 yX6_areAlike wsX6_areAlike) := goodIn_app (goodIn_of _ (by decide +kernel)) ggX6_hasPopular_X6_areAlike
set_option maxRecDepth 20000 in
theorem ggX6_hasPopular_X6_no : GoodIn wsX6_hasPopular wsX6_no := goodIn_r _ [11, 12, 64, 65, 66, 67, 68, 69, 70, 71, 72] (by decide +kernel) (by decide +kernel)
set_option maxRecDepth 20000 in
theorem gX6_hasPopular_X6_no : GoodIn wsX6_hasPopular (wsV RX6 58 RX6 yX6_no wsX6_no) := goodIn_app (goodIn_of _ (by decide +kernel)) ggX6_hasPopular_X6_no
set_option maxRecDepth 20000 in
theorem ggX6_hasPopular_X6_popular : GoodIn wsX6_hasPopular wsX6_popular := goodIn_ca (goodIn_r _ [16, 6, 17, 18, 19, 20, 21, 22, 23, 24, 25, 26, 27, 4, 28, 29, 30, 31, 32, 33, 34, 35, 36, 37, 38, 39, 40, 41, 42, 43, 44, 45, 46, 47, 48, 49, 50, 51, 52, 53, 54, 55, 56, 57, 58, 59, 60, 61, 62, 63, 64, 65, 66, 67, 68, 69, 70, 71, 72] (by decide +kernel) (by decide +kernel)) (goodIn_sub (fun _ h => List.mem_cons_of_mem _ (List.mem_append_right _ h)) (by decide +kernel))
set_option maxRecDepth 20000 in
theorem gX6_hasPopular_X6_popular : GoodIn wsX6_hasPopular (wsV RX6 208 RX6 yX6_popular wsX6_popular) := goodIn_app (goodIn_of _ (by decide +kernel)) ggX6_hasPopular_X6_popular
theorem dX6_hasPopular_0 : decode cX6_hasPopular 0 = .ok (.aload_n 0, 1) := by decide +kernel
theorem dX6_hasPopular_1 : decode cX6_hasPopular 1 = .ok (.aload_n 0, 1) := by decide +kernel
theorem dX6_hasPopular_2 : decode cX6_hasPopular 2 = .ok (.invokevirtual 204, 3) := by decide +kernel
theorem dX6_hasPopular_5 : decode cX6_hasPopular 5 = .ok (.iconst 1, 1) := by decide +kernel
theorem dX6_hasPopular_6 : decode cX6_hasPopular 6 = .ok (.invokevirtual 58, 3) := by decide +kernel
theorem dX6_hasPopular_9 : decode cX6_hasPopular 9 = .ok (.ifCond .ne 14, 3) := by decide +kernel
theorem dX6_hasPopular_12 : decode cX6_hasPopular 12 = .ok (.aload_n 0, 1) := by decide +kernel
theorem dX6_hasPopular_13 : decode cX6_hasPopular 13 = .ok (.invokevirtual 208, 3) := by decide +kernel
theorem dX6_hasPopular_16 : decode cX6_hasPopular 16 = .ok (.ifnull 7, 3) := by decide +kernel
theorem dX6_hasPopular_19 : decode cX6_hasPopular 19 = .ok (.iconst 1, 1) := by decide +kernel
theorem dX6_hasPopular_20 : decode cX6_hasPopular 20 = .ok (.goto 4, 3) := by decide +kernel
theorem dX6_hasPopular_23 : decode cX6_hasPopular 23 = .ok (.iconst 0, 1) := by decide +kernel
theorem dX6_hasPopular_24 : decode cX6_hasPopular 24 = .ok (.ireturn, 1) := by decide +kernel
set_option maxRecDepth 20000 in
theorem ggX6_popularPost_X6_isWho : GoodIn wsX6_popularPost wsX6_isWho := goodIn_r _ [5, 6, 7, 8, 4, 9, 71, 72, 73, 74, 75, 76, 77, 78, 79] (by decide +kernel) (by decide +kernel)
set_option maxRecDepth 20000 in
theorem gX6_popularPost_X6_isWho : GoodIn wsX6_popularPost (wsV RX6 62 RX6 yX6_isWho wsX6_isWho) := goodIn_app (goodIn_of _ (by decide +kernel)) ggX6_popularPost_X6_isWho
set_option maxRecDepth 20000 in
theorem ggX6_popularPost_X6_no : GoodIn wsX6_popularPost wsX6_no := goodIn_r _ [13, 14, 71, 72, 73, 74, 75, 76, 77, 78, 79] (by decide +kernel) (by decide +kernel)
set_option maxRecDepth 20000 in
theorem gX6_popularPost_X6_no : GoodIn wsX6_popularPost (wsV RX6 58 RX6 yX6_no wsX6_no) := goodIn_app (goodIn_of _ (by decide +kernel)) ggX6_popularPost_X6_no
set_option maxRecDepth 20000 in
theorem ggX6_popularPost_X6_areAlike : GoodIn wsX6_popularPost wsX6_areAlike := goodIn_ca (goodIn_r _ [18, 6, 19, 71, 72, 73, 74, 75, 76, 77, 78, 79] (by decide +kernel) (by decide +kernel)) (goodIn_sub (fun _ h => List.mem_cons_of_mem _ (List.mem_append_right _ h)) (by decide +kernel))
set_option maxRecDepth 20000 in
theorem gX6_popularPost_X6_areAlike : GoodIn wsX6_popularPost (wsV RX6 204 RX6 yX6_areAlike wsX6_areAlike) := goodIn_app (goodIn_of _ (by decide +kernel)) ggX6_popularPost_X6_areAlike
set_option maxRecDepth 20000 in
theorem ggX6_popularPost_X6_popular : GoodIn wsX6_popularPost wsX6_popular := goodIn_ca (goodIn_r _ [23, 6, 24, 25, 26, 27, 28, 29, 30, 31, 32, 33, 34, 4, 35, 36, 37, 38, 39, 40, 41, 42, 43, 44, 45, 46, 47, 48, 49, 50, 51, 52, 53, 54, 55, 56, 57, 58, 59, 60, 61, 62, 63, 64, 65, 66, 67, 68, 69, 70, 71, 72, 73, 74, 75, 76, 77, 78, 79] (by decide +kernel) (by decide +kernel)) (goodIn_sub (fun _ h => List.mem_cons_of_mem _ (List.mem_append_right _ h)) (by decide +kernel))
set_option maxRecDepth 20000 in
theorem gX6_popularPost_X6_popular : GoodIn wsX6_popularPost (wsV RX6 208 RX6 yX6_popular wsX6_popular) := goodIn_app (goodIn_of _ (by decide +kernel)) ggX6_popularPost_X6_popular
theorem dX6_popularPost_0 : decode cX6_popularPost 0 = .ok (.aload_n 0, 1) := by decide +kernel
theorem dX6_popularPost_1 : decode cX6_popularPost 1 = .ok (.aload_n 0, 1) := by decide +kernel
theorem dX6_popularPost_2 : decode cX6_popularPost 2 = .ok (.iload_n 1, 1) := by decide +kernel
theorem dX6_popularPost_3 : decode cX6_popularPost 3 = .ok (.invokevirtual 62, 3) := by decide +kernel
theorem dX6_popularPost_6 : decode cX6_popularPost 6 = .ok (.iconst 1, 1) := by decide +kernel
theorem dX6_popularPost_7 : decode cX6_popularPost 7 = .ok (.invokevirtual 58, 3) := by decide +kernel
theorem dX6_popularPost_10 : decode cX6_popularPost 10 = .ok (.ifCond .ne 15, 3) := by decide +kernel
theorem dX6_popularPost_13 : decode cX6_popularPost 13 = .ok (.aload_n 0, 1) := by decide +kernel
theorem dX6_popularPost_14 : decode cX6_popularPost 14 = .ok (.aload_n 0, 1) := by decide +kernel
theorem dX6_popularPost_15 : decode cX6_popularPost 15 = .ok (.invokevirtual 204, 3) := by decide +kernel
theorem dX6_popularPost_18 : decode cX6_popularPost 18 = .ok (.iconst 2, 1) := by decide +kernel
theorem dX6_popularPost_19 : decode cX6_popularPost 19 = .ok (.invokevirtual 58, 3) := by decide +kernel
theorem dX6_popularPost_22 : decode cX6_popularPost 22 = .ok (.ifCond .eq 5, 3) := by decide +kernel
theorem dX6_popularPost_25 : decode cX6_popularPost 25 = .ok (.iconst 0, 1) := by decide +kernel
theorem dX6_popularPost_26 : decode cX6_popularPost 26 = .ok (.ireturn, 1) := by decide +kernel
theorem dX6_popularPost_27 : decode cX6_popularPost 27 = .ok (.aload_n 0, 1) := by decide +kernel
theorem dX6_popularPost_28 : decode cX6_popularPost 28 = .ok (.invokevirtual 208, 3) := by decide +kernel
theorem dX6_popularPost_31 : decode cX6_popularPost 31 = .ok (.astore_n 2, 1) := by decide +kernel
theorem dX6_popularPost_32 : decode cX6_popularPost 32 = .ok (.aload_n 0, 1) := by decide +kernel
theorem dX6_popularPost_33 : decode cX6_popularPost 33 = .ok (.aload_n 2, 1) := by decide +kernel
theorem dX6_popularPost_34 : decode cX6_popularPost 34 = .ok (.ifnull 7, 3) := by decide +kernel
theorem dX6_popularPost_37 : decode cX6_popularPost 37 = .ok (.iconst 1, 1) := by decide +kernel
theorem dX6_popularPost_38 : decode cX6_popularPost 38 = .ok (.goto 4, 3) := by decide +kernel
theorem dX6_popularPost_41 : decode cX6_popularPost 41 = .ok (.iconst 0, 1) := by decide +kernel
theorem dX6_popularPost_42 : decode cX6_popularPost 42 = .ok (.iconst 3, 1) := by decide +kernel
theorem dX6_popularPost_43 : decode cX6_popularPost 43 = .ok (.invokevirtual 58, 3) := by decide +kernel
theorem dX6_popularPost_46 : decode cX6_popularPost 46 = .ok (.ifCond .eq 7, 3) := by decide +kernel
theorem dX6_popularPost_49 : decode cX6_popularPost 49 = .ok (.iconst 0, 1) := by decide +kernel
theorem dX6_popularPost_50 : decode cX6_popularPost 50 = .ok (.goto 6, 3) := by decide +kernel
theorem dX6_popularPost_53 : decode cX6_popularPost 53 = .ok (.aload_n 2, 1) := by decide +kernel
theorem dX6_popularPost_54 : decode cX6_popularPost 54 = .ok (.iload_n 1, 1) := by decide +kernel
theorem dX6_popularPost_55 : decode cX6_popularPost 55 = .ok (.iaload, 1) := by decide +kernel
theorem dX6_popularPost_56 : decode cX6_popularPost 56 = .ok (.ireturn, 1) := by decide +kernel
set_option maxRecDepth 20000 in
theorem ggX6_count_X6_rank : GoodIn wsX6_count wsX6_rank := goodIn_ca (goodIn_r _ [6, 7, 8, 9, 10, 11, 12, 13, 14, 15, 16] (by decide +kernel) (by decide +kernel)) (goodIn_sub (fun _ h => List.mem_cons_of_mem _ (List.mem_append_right _ h)) (by decide +kernel))
set_option maxRecDepth 20000 in
theorem gX6_count_X6_rank : GoodIn wsX6_count (wsV RX6 139 RX6 yX6_rank wsX6_rank) := goodIn_app (goodIn_of _ (by decide +kernel)) ggX6_count_X6_rank
theorem dX6_count_0 : decode cX6_count 0 = .ok (.iconst 0, 1) := by decide +kernel
theorem dX6_count_1 : decode cX6_count 1 = .ok (.istore_n 3, 1) := by decide +kernel
theorem dX6_count_2 : decode cX6_count 2 = .ok (.iconst 0, 1) := by decide +kernel
theorem dX6_count_3 : decode cX6_count 3 = .ok (.istore 4, 2) := by decide +kernel
theorem dX6_count_5 : decode cX6_count 5 = .ok (.iload 4, 2) := by decide +kernel
theorem dX6_count_7 : decode cX6_count 7 = .ok (.aload_n 0, 1) := by decide +kernel
theorem dX6_count_8 : decode cX6_count 8 = .ok (.getfield 48, 3) := by decide +kernel
theorem dX6_count_11 : decode cX6_count 11 = .ok (.if_icmp .ge 31, 3) := by decide +kernel
theorem dX6_count_14 : decode cX6_count 14 = .ok (.iload_n 3, 1) := by decide +kernel
theorem dX6_count_15 : decode cX6_count 15 = .ok (.aload_n 0, 1) := by decide +kernel
theorem dX6_count_16 : decode cX6_count 16 = .ok (.iload 4, 2) := by decide +kernel
theorem dX6_count_18 : decode cX6_count 18 = .ok (.aload_n 2, 1) := by decide +kernel
theorem dX6_count_19 : decode cX6_count 19 = .ok (.iload 4, 2) := by decide +kernel
theorem dX6_count_21 : decode cX6_count 21 = .ok (.iaload, 1) := by decide +kernel
theorem dX6_count_22 : decode cX6_count 22 = .ok (.invokevirtual 139, 3) := by decide +kernel
theorem dX6_count_25 : decode cX6_count 25 = .ok (.iload_n 1, 1) := by decide +kernel
theorem dX6_count_26 : decode cX6_count 26 = .ok (.if_icmp .ne 7, 3) := by decide +kernel
theorem dX6_count_29 : decode cX6_count 29 = .ok (.iconst 1, 1) := by decide +kernel
theorem dX6_count_30 : decode cX6_count 30 = .ok (.goto 4, 3) := by decide +kernel
theorem dX6_count_33 : decode cX6_count 33 = .ok (.iconst 0, 1) := by decide +kernel
theorem dX6_count_34 : decode cX6_count 34 = .ok (.iadd, 1) := by decide +kernel
theorem dX6_count_35 : decode cX6_count 35 = .ok (.istore_n 3, 1) := by decide +kernel
theorem dX6_count_36 : decode cX6_count 36 = .ok (.iinc 4 1, 3) := by decide +kernel
theorem dX6_count_39 : decode cX6_count 39 = .ok (.goto (-34), 3) := by decide +kernel
theorem dX6_count_42 : decode cX6_count 42 = .ok (.iload_n 3, 1) := by decide +kernel
theorem dX6_count_43 : decode cX6_count 43 = .ok (.ireturn, 1) := by decide +kernel
set_option maxRecDepth 20000 in
theorem ggX6_profile_X6_isIn : GoodIn wsX6_profile wsX6_isIn := goodIn_r _ [5] (by decide +kernel) (by decide +kernel)
set_option maxRecDepth 20000 in
theorem gX6_profile_X6_isIn : GoodIn wsX6_profile (va_wsS RX6 51 yX6_isIn wsX6_isIn) := goodIn_app (goodIn_of _ (by decide +kernel)) ggX6_profile_X6_isIn
set_option maxRecDepth 20000 in
theorem ggX6_profile_X6_no : GoodIn wsX6_profile wsX6_no := goodIn_r _ [9, 10, 21, 22, 23, 24, 25, 26, 27, 28, 29] (by decide +kernel) (by decide +kernel)
set_option maxRecDepth 20000 in
theorem gX6_profile_X6_no : GoodIn wsX6_profile (wsV RX6 58 RX6 yX6_no wsX6_no) := goodIn_app (goodIn_of _ (by decide +kernel)) ggX6_profile_X6_no
set_option maxRecDepth 20000 in
theorem ggX6_profile_X6_count : GoodIn wsX6_profile wsX6_count := goodIn_ca (goodIn_r _ [14, 15, 16, 17, 18, 4, 19, 20, 21, 22, 23, 24, 25, 26, 27, 28, 29] (by decide +kernel) (by decide +kernel)) (goodIn_sub (fun _ h => List.mem_cons_of_mem _ (List.mem_append_right _ h)) (by decide +kernel))
set_option maxRecDepth 20000 in
theorem gX6_profile_X6_count : GoodIn wsX6_profile (wsV RX6 211 RX6 yX6_count wsX6_count) := goodIn_app (goodIn_of _ (by decide +kernel)) ggX6_profile_X6_count
theorem dX6_profile_0 : decode cX6_profile 0 = .ok (.aload_n 0, 1) := by decide +kernel
theorem dX6_profile_1 : decode cX6_profile 1 = .ok (.iload_n 1, 1) := by decide +kernel
theorem dX6_profile_2 : decode cX6_profile 2 = .ok (.iconst 1, 1) := by decide +kernel
theorem dX6_profile_3 : decode cX6_profile 3 = .ok (.bipush 9, 2) := by decide +kernel
theorem dX6_profile_5 : decode cX6_profile 5 = .ok (.invokestatic 51, 3) := by decide +kernel
theorem dX6_profile_8 : decode cX6_profile 8 = .ok (.iconst 1, 1) := by decide +kernel
theorem dX6_profile_9 : decode cX6_profile 9 = .ok (.invokevirtual 58, 3) := by decide +kernel
theorem dX6_profile_12 : decode cX6_profile 12 = .ok (.ifCond .eq 7, 3) := by decide +kernel
theorem dX6_profile_15 : decode cX6_profile 15 = .ok (.iconst 0, 1) := by decide +kernel
theorem dX6_profile_16 : decode cX6_profile 16 = .ok (.goto 12, 3) := by decide +kernel
theorem dX6_profile_19 : decode cX6_profile 19 = .ok (.aload_n 0, 1) := by decide +kernel
theorem dX6_profile_20 : decode cX6_profile 20 = .ok (.iload_n 1, 1) := by decide +kernel
theorem dX6_profile_21 : decode cX6_profile 21 = .ok (.aload_n 0, 1) := by decide +kernel
theorem dX6_profile_22 : decode cX6_profile 22 = .ok (.getfield 16, 3) := by decide +kernel
theorem dX6_profile_25 : decode cX6_profile 25 = .ok (.invokevirtual 211, 3) := by decide +kernel
theorem dX6_profile_28 : decode cX6_profile 28 = .ok (.ireturn, 1) := by decide +kernel
theorem dX6_profiles_0 : decode cX6_profiles 0 = .ok (.aload_n 0, 1) := by decide +kernel
theorem dX6_profiles_1 : decode cX6_profiles 1 = .ok (.getfield 48, 3) := by decide +kernel
theorem dX6_profiles_4 : decode cX6_profiles 4 = .ok (.aload_n 0, 1) := by decide +kernel
theorem dX6_profiles_5 : decode cX6_profiles 5 = .ok (.getfield 55, 3) := by decide +kernel
theorem dX6_profiles_8 : decode cX6_profiles 8 = .ok (.iconst 1, 1) := by decide +kernel
theorem dX6_profiles_9 : decode cX6_profiles 9 = .ok (.iadd, 1) := by decide +kernel
theorem dX6_profiles_10 : decode cX6_profiles 10 = .ok (.multianewarray 177 2, 4) := by decide +kernel
theorem dX6_profiles_14 : decode cX6_profiles 14 = .ok (.astore_n 1, 1) := by decide +kernel
theorem dX6_profiles_15 : decode cX6_profiles 15 = .ok (.iconst 0, 1) := by decide +kernel
theorem dX6_profiles_16 : decode cX6_profiles 16 = .ok (.istore_n 2, 1) := by decide +kernel
theorem dX6_profiles_17 : decode cX6_profiles 17 = .ok (.iload_n 2, 1) := by decide +kernel
theorem dX6_profiles_18 : decode cX6_profiles 18 = .ok (.aload_n 0, 1) := by decide +kernel
theorem dX6_profiles_19 : decode cX6_profiles 19 = .ok (.getfield 48, 3) := by decide +kernel
theorem dX6_profiles_22 : decode cX6_profiles 22 = .ok (.if_icmp .ge 83, 3) := by decide +kernel
theorem dX6_profiles_25 : decode cX6_profiles 25 = .ok (.iconst 0, 1) := by decide +kernel
theorem dX6_profiles_26 : decode cX6_profiles 26 = .ok (.istore_n 3, 1) := by decide +kernel
theorem dX6_profiles_27 : decode cX6_profiles 27 = .ok (.iload_n 3, 1) := by decide +kernel
theorem dX6_profiles_28 : decode cX6_profiles 28 = .ok (.aload_n 0, 1) := by decide +kernel
theorem dX6_profiles_29 : decode cX6_profiles 29 = .ok (.getfield 55, 3) := by decide +kernel
theorem dX6_profiles_32 : decode cX6_profiles 32 = .ok (.if_icmp .ge 67, 3) := by decide +kernel
theorem dX6_profiles_35 : decode cX6_profiles 35 = .ok (.lconst 1, 1) := by decide +kernel
theorem dX6_profiles_36 : decode cX6_profiles 36 = .ok (.lstore 4, 2) := by decide +kernel
theorem dX6_profiles_38 : decode cX6_profiles 38 = .ok (.aload_n 0, 1) := by decide +kernel
theorem dX6_profiles_39 : decode cX6_profiles 39 = .ok (.getfield 21, 3) := by decide +kernel
theorem dX6_profiles_42 : decode cX6_profiles 42 = .ok (.iload_n 2, 1) := by decide +kernel
theorem dX6_profiles_43 : decode cX6_profiles 43 = .ok (.aaload, 1) := by decide +kernel
theorem dX6_profiles_44 : decode cX6_profiles 44 = .ok (.iload_n 3, 1) := by decide +kernel
theorem dX6_profiles_45 : decode cX6_profiles 45 = .ok (.iaload, 1) := by decide +kernel
theorem dX6_profiles_46 : decode cX6_profiles 46 = .ok (.istore 6, 2) := by decide +kernel
theorem dX6_profiles_48 : decode cX6_profiles 48 = .ok (.iload 6, 2) := by decide +kernel
theorem dX6_profiles_50 : decode cX6_profiles 50 = .ok (.bipush 9, 2) := by decide +kernel
theorem dX6_profiles_52 : decode cX6_profiles 52 = .ok (.if_icmp .ge 17, 3) := by decide +kernel
theorem dX6_profiles_55 : decode cX6_profiles 55 = .ok (.lload 4, 2) := by decide +kernel
theorem dX6_profiles_57 : decode cX6_profiles 57 = .ok (.ldc2_w 214, 3) := by decide +kernel
theorem dX6_profiles_60 : decode cX6_profiles 60 = .ok (.lmul, 1) := by decide +kernel
theorem dX6_profiles_61 : decode cX6_profiles 61 = .ok (.lstore 4, 2) := by decide +kernel
theorem dX6_profiles_63 : decode cX6_profiles 63 = .ok (.iinc 6 1, 3) := by decide +kernel
theorem dX6_profiles_66 : decode cX6_profiles 66 = .ok (.goto (-18), 3) := by decide +kernel
theorem dX6_profiles_69 : decode cX6_profiles 69 = .ok (.aload_n 1, 1) := by decide +kernel
theorem dX6_profiles_70 : decode cX6_profiles 70 = .ok (.iload_n 2, 1) := by decide +kernel
theorem dX6_profiles_71 : decode cX6_profiles 71 = .ok (.aaload, 1) := by decide +kernel
theorem dX6_profiles_72 : decode cX6_profiles 72 = .ok (.iload_n 3, 1) := by decide +kernel
theorem dX6_profiles_73 : decode cX6_profiles 73 = .ok (.aload_n 0, 1) := by decide +kernel
theorem dX6_profiles_74 : decode cX6_profiles 74 = .ok (.getfield 21, 3) := by decide +kernel
theorem dX6_profiles_77 : decode cX6_profiles 77 = .ok (.iload_n 2, 1) := by decide +kernel
theorem dX6_profiles_78 : decode cX6_profiles 78 = .ok (.aaload, 1) := by decide +kernel
theorem dX6_profiles_79 : decode cX6_profiles 79 = .ok (.iload_n 3, 1) := by decide +kernel
theorem dX6_profiles_80 : decode cX6_profiles 80 = .ok (.iaload, 1) := by decide +kernel
theorem dX6_profiles_81 : decode cX6_profiles 81 = .ok (.ifCond .ne 9, 3) := by decide +kernel
theorem dX6_profiles_84 : decode cX6_profiles 84 = .ok (.ldc2_w 164, 3) := by decide +kernel
theorem dX6_profiles_87 : decode cX6_profiles 87 = .ok (.goto 5, 3) := by decide +kernel
theorem dX6_profiles_90 : decode cX6_profiles 90 = .ok (.lload 4, 2) := by decide +kernel
theorem dX6_profiles_92 : decode cX6_profiles 92 = .ok (.lastore, 1) := by decide +kernel
theorem dX6_profiles_93 : decode cX6_profiles 93 = .ok (.iinc 3 1, 3) := by decide +kernel
theorem dX6_profiles_96 : decode cX6_profiles 96 = .ok (.goto (-69), 3) := by decide +kernel
theorem dX6_profiles_99 : decode cX6_profiles 99 = .ok (.iinc 2 1, 3) := by decide +kernel
theorem dX6_profiles_102 : decode cX6_profiles 102 = .ok (.goto (-85), 3) := by decide +kernel
theorem dX6_profiles_105 : decode cX6_profiles 105 = .ok (.aload_n 1, 1) := by decide +kernel
theorem dX6_profiles_106 : decode cX6_profiles 106 = .ok (.areturn, 1) := by decide +kernel
set_option maxRecDepth 20000 in
theorem ggX6_bestProfile_X6_isIn : GoodIn wsX6_bestProfile wsX6_isIn := goodIn_r _ [4] (by decide +kernel) (by decide +kernel)
set_option maxRecDepth 20000 in
theorem gX6_bestProfile_X6_isIn : GoodIn wsX6_bestProfile (va_wsS RX6 51 yX6_isIn wsX6_isIn) := goodIn_app (goodIn_of _ (by decide +kernel)) ggX6_bestProfile_X6_isIn
set_option maxRecDepth 20000 in
theorem ggX6_bestProfile_X6_no : GoodIn wsX6_bestProfile wsX6_no := goodIn_r _ [8, 9, 50, 51, 52, 53, 54, 55, 56, 57, 58] (by decide +kernel) (by decide +kernel)
set_option maxRecDepth 20000 in
theorem gX6_bestProfile_X6_no : GoodIn wsX6_bestProfile (wsV RX6 58 RX6 yX6_no wsX6_no) := goodIn_app (goodIn_of _ (by decide +kernel)) ggX6_bestProfile_X6_no
set_option maxRecDepth 20000 in
theorem ggX6_bestProfile_X6_profiles : GoodIn wsX6_bestProfile wsX6_profiles := goodIn_ca (goodIn_r _ [13, 14, 15, 16, 17, 18, 19, 20, 50, 51, 52, 53, 54, 55, 56, 57, 58] (by decide +kernel) (by decide +kernel)) (goodIn_sub (fun _ h => List.mem_cons_of_mem _ (List.mem_append_right _ h)) (by decide +kernel))
set_option maxRecDepth 20000 in
theorem gX6_bestProfile_X6_profiles : GoodIn wsX6_bestProfile (wsV RX6 216 RX6 yX6_profiles wsX6_profiles) := goodIn_app (goodIn_of _ (by decide +kernel)) ggX6_bestProfile_X6_profiles
set_option maxRecDepth 20000 in
theorem ggX6_bestProfile_X6_first : GoodIn wsX6_bestProfile wsX6_first := goodIn_ca (goodIn_r _ [24, 20, 25, 14, 15, 26, 27, 28, 3, 29, 17, 30, 31, 32, 33, 34, 35, 36, 37, 38, 39, 40, 41, 50, 51, 52, 53, 54, 55, 56, 57, 58] (by decide +kernel) (by decide +kernel)) (goodIn_sub (fun _ h => List.mem_cons_of_mem _ (List.mem_append_right _ h)) (by decide +kernel))
set_option maxRecDepth 20000 in
theorem gX6_bestProfile_X6_first : GoodIn wsX6_bestProfile (wsV RX6 183 RX6 yX6_first wsX6_first) := goodIn_app (goodIn_of _ (by decide +kernel)) ggX6_bestProfile_X6_first
set_option maxRecDepth 20000 in
theorem ggX6_bestProfile_X6_count : GoodIn wsX6_bestProfile wsX6_count := goodIn_ca (goodIn_r _ [45, 14, 46, 47, 48, 3, 49, 18, 50, 51, 52, 53, 54, 55, 56, 57, 58] (by decide +kernel) (by decide +kernel)) (goodIn_sub (fun _ h => List.mem_cons_of_mem _ (List.mem_append_right _ h)) (by decide +kernel))
set_option maxRecDepth 20000 in
theorem gX6_bestProfile_X6_count : GoodIn wsX6_bestProfile (wsV RX6 211 RX6 yX6_count wsX6_count) := goodIn_app (goodIn_of _ (by decide +kernel)) ggX6_bestProfile_X6_count
theorem dX6_bestProfile_0 : decode cX6_bestProfile 0 = .ok (.aload_n 0, 1) := by decide +kernel
theorem dX6_bestProfile_1 : decode cX6_bestProfile 1 = .ok (.iload_n 1, 1) := by decide +kernel
theorem dX6_bestProfile_2 : decode cX6_bestProfile 2 = .ok (.iconst 1, 1) := by decide +kernel
theorem dX6_bestProfile_3 : decode cX6_bestProfile 3 = .ok (.bipush 9, 2) := by decide +kernel
theorem dX6_bestProfile_5 : decode cX6_bestProfile 5 = .ok (.invokestatic 51, 3) := by decide +kernel
theorem dX6_bestProfile_8 : decode cX6_bestProfile 8 = .ok (.iconst 1, 1) := by decide +kernel
theorem dX6_bestProfile_9 : decode cX6_bestProfile 9 = .ok (.invokevirtual 58, 3) := by decide +kernel
theorem dX6_bestProfile_12 : decode cX6_bestProfile 12 = .ok (.ifCond .eq 7, 3) := by decide +kernel
theorem dX6_bestProfile_15 : decode cX6_bestProfile 15 = .ok (.iconst 0, 1) := by decide +kernel
theorem dX6_bestProfile_16 : decode cX6_bestProfile 16 = .ok (.goto 16, 3) := by decide +kernel
theorem dX6_bestProfile_19 : decode cX6_bestProfile 19 = .ok (.aload_n 0, 1) := by decide +kernel
theorem dX6_bestProfile_20 : decode cX6_bestProfile 20 = .ok (.iload_n 1, 1) := by decide +kernel
theorem dX6_bestProfile_21 : decode cX6_bestProfile 21 = .ok (.aload_n 0, 1) := by decide +kernel
theorem dX6_bestProfile_22 : decode cX6_bestProfile 22 = .ok (.aload_n 0, 1) := by decide +kernel
theorem dX6_bestProfile_23 : decode cX6_bestProfile 23 = .ok (.invokevirtual 216, 3) := by decide +kernel
theorem dX6_bestProfile_26 : decode cX6_bestProfile 26 = .ok (.invokevirtual 183, 3) := by decide +kernel
theorem dX6_bestProfile_29 : decode cX6_bestProfile 29 = .ok (.invokevirtual 211, 3) := by decide +kernel
theorem dX6_bestProfile_32 : decode cX6_bestProfile 32 = .ok (.ireturn, 1) := by decide +kernel
set_option maxRecDepth 20000 in
theorem ggX6_bestPost_X6_isWho : GoodIn wsX6_bestPost wsX6_isWho := goodIn_r _ [5, 6, 7, 8, 4, 9, 46, 47, 48, 49, 50, 51, 52, 53, 54] (by decide +kernel) (by decide +kernel)
set_option maxRecDepth 20000 in
theorem gX6_bestPost_X6_isWho : GoodIn wsX6_bestPost (wsV RX6 62 RX6 yX6_isWho wsX6_isWho) := goodIn_app (goodIn_of _ (by decide +kernel)) ggX6_bestPost_X6_isWho
set_option maxRecDepth 20000 in
theorem ggX6_bestPost_X6_no : GoodIn wsX6_bestPost wsX6_no := goodIn_r _ [13, 14, 46, 47, 48, 49, 50, 51, 52, 53, 54] (by decide +kernel) (by decide +kernel)
set_option maxRecDepth 20000 in
theorem gX6_bestPost_X6_no : GoodIn wsX6_bestPost (wsV RX6 58 RX6 yX6_no wsX6_no) := goodIn_app (goodIn_of _ (by decide +kernel)) ggX6_bestPost_X6_no
set_option maxRecDepth 20000 in
theorem ggX6_bestPost_X6_profiles : GoodIn wsX6_bestPost wsX6_profiles := goodIn_ca (goodIn_r _ [18, 6, 19, 20, 21, 22, 23, 24, 46, 47, 48, 49, 50, 51, 52, 53, 54] (by decide +kernel) (by decide +kernel)) (goodIn_sub (fun _ h => List.mem_cons_of_mem _ (List.mem_append_right _ h)) (by decide +kernel))
set_option maxRecDepth 20000 in
theorem gX6_bestPost_X6_profiles : GoodIn wsX6_bestPost (wsV RX6 216 RX6 yX6_profiles wsX6_profiles) := goodIn_app (goodIn_of _ (by decide +kernel)) ggX6_bestPost_X6_profiles
set_option maxRecDepth 20000 in
theorem ggX6_bestPost_X6_first : GoodIn wsX6_bestPost wsX6_first := goodIn_ca (goodIn_r _ [28, 24, 29, 6, 19, 30, 31, 32, 4, 33, 21, 34, 35, 36, 37, 38, 39, 40, 41, 42, 43, 44, 45, 46, 47, 48, 49, 50, 51, 52, 53, 54] (by decide +kernel) (by decide +kernel)) (goodIn_sub (fun _ h => List.mem_cons_of_mem _ (List.mem_append_right _ h)) (by decide +kernel))
set_option maxRecDepth 20000 in
theorem gX6_bestPost_X6_first : GoodIn wsX6_bestPost (wsV RX6 183 RX6 yX6_first wsX6_first) := goodIn_app (goodIn_of _ (by decide +kernel)) ggX6_bestPost_X6_first
theorem dX6_bestPost_0 : decode cX6_bestPost 0 = .ok (.aload_n 0, 1) := by decide +kernel
theorem dX6_bestPost_1 : decode cX6_bestPost 1 = .ok (.aload_n 0, 1) := by decide +kernel
theorem dX6_bestPost_2 : decode cX6_bestPost 2 = .ok (.iload_n 1, 1) := by decide +kernel
theorem dX6_bestPost_3 : decode cX6_bestPost 3 = .ok (.invokevirtual 62, 3) := by decide +kernel
theorem dX6_bestPost_6 : decode cX6_bestPost 6 = .ok (.iconst 1, 1) := by decide +kernel
theorem dX6_bestPost_7 : decode cX6_bestPost 7 = .ok (.invokevirtual 58, 3) := by decide +kernel
theorem dX6_bestPost_10 : decode cX6_bestPost 10 = .ok (.ifCond .eq 7, 3) := by decide +kernel
theorem dX6_bestPost_13 : decode cX6_bestPost 13 = .ok (.iconst 0, 1) := by decide +kernel
theorem dX6_bestPost_14 : decode cX6_bestPost 14 = .ok (.goto 13, 3) := by decide +kernel
theorem dX6_bestPost_17 : decode cX6_bestPost 17 = .ok (.aload_n 0, 1) := by decide +kernel
theorem dX6_bestPost_18 : decode cX6_bestPost 18 = .ok (.aload_n 0, 1) := by decide +kernel
theorem dX6_bestPost_19 : decode cX6_bestPost 19 = .ok (.invokevirtual 216, 3) := by decide +kernel
theorem dX6_bestPost_22 : decode cX6_bestPost 22 = .ok (.invokevirtual 183, 3) := by decide +kernel
theorem dX6_bestPost_25 : decode cX6_bestPost 25 = .ok (.iload_n 1, 1) := by decide +kernel
theorem dX6_bestPost_26 : decode cX6_bestPost 26 = .ok (.iaload, 1) := by decide +kernel
theorem dX6_bestPost_27 : decode cX6_bestPost 27 = .ok (.ireturn, 1) := by decide +kernel
set_option maxRecDepth 20000 in
theorem ggX6_isSure_X6_isWho : GoodIn wsX6_isSure wsX6_isWho := goodIn_r _ [6, 7, 8, 9, 5, 10, 39, 40, 41, 42, 43, 44, 45, 46, 47] (by decide +kernel) (by decide +kernel)
set_option maxRecDepth 20000 in
theorem gX6_isSure_X6_isWho : GoodIn wsX6_isSure (wsV RX6 62 RX6 yX6_isWho wsX6_isWho) := goodIn_app (goodIn_of _ (by decide +kernel)) ggX6_isSure_X6_isWho
set_option maxRecDepth 20000 in
theorem ggX6_isSure_X6_no : GoodIn wsX6_isSure wsX6_no := goodIn_r _ [14, 15, 39, 40, 41, 42, 43, 44, 45, 46, 47] (by decide +kernel) (by decide +kernel)
set_option maxRecDepth 20000 in
theorem gX6_isSure_X6_no : GoodIn wsX6_isSure (wsV RX6 58 RX6 yX6_no wsX6_no) := goodIn_app (goodIn_of _ (by decide +kernel)) ggX6_isSure_X6_no
set_option maxRecDepth 20000 in
theorem ggX6_isSure_X6_profiles : GoodIn wsX6_isSure wsX6_profiles := goodIn_ca (goodIn_r _ [19, 7, 1, 20, 21, 22, 23, 24, 39, 40, 41, 42, 43, 44, 45, 46, 47] (by decide +kernel) (by decide +kernel)) (goodIn_sub (fun _ h => List.mem_cons_of_mem _ (List.mem_append_right _ h)) (by decide +kernel))
set_option maxRecDepth 20000 in
theorem gX6_isSure_X6_profiles : GoodIn wsX6_isSure (wsV RX6 216 RX6 yX6_profiles wsX6_profiles) := goodIn_app (goodIn_of _ (by decide +kernel)) ggX6_isSure_X6_profiles
set_option maxRecDepth 20000 in
theorem ggX6_isSure_X6_best : GoodIn wsX6_isSure wsX6_best := goodIn_ca (goodIn_r _ [28, 7, 29, 1, 21, 30, 24, 39, 40, 41, 42, 43, 44, 45, 46, 47] (by decide +kernel) (by decide +kernel)) (goodIn_sub (fun _ h => List.mem_cons_of_mem _ (List.mem_append_right _ h)) (by decide +kernel))
set_option maxRecDepth 20000 in
theorem gX6_isSure_X6_best : GoodIn wsX6_isSure (wsV RX6 166 RX6 yX6_best wsX6_best) := goodIn_app (goodIn_of _ (by decide +kernel)) ggX6_isSure_X6_best
set_option maxRecDepth 20000 in
theorem ggX6_isSure_X6_only : GoodIn wsX6_isSure wsX6_only := goodIn_ca (goodIn_r _ [34, 1, 21, 24, 35, 36, 37, 38, 39, 40, 41, 42, 43, 44, 45, 46, 47] (by decide +kernel) (by decide +kernel)) (goodIn_sub (fun _ h => List.mem_cons_of_mem _ (List.mem_append_right _ h)) (by decide +kernel))
set_option maxRecDepth 20000 in
theorem gX6_isSure_X6_only : GoodIn wsX6_isSure (wsV RX6 170 RX6 yX6_only wsX6_only) := goodIn_app (goodIn_of _ (by decide +kernel)) ggX6_isSure_X6_only
theorem dX6_isSure_0 : decode cX6_isSure 0 = .ok (.aload_n 0, 1) := by decide +kernel
theorem dX6_isSure_1 : decode cX6_isSure 1 = .ok (.aload_n 0, 1) := by decide +kernel
theorem dX6_isSure_2 : decode cX6_isSure 2 = .ok (.iload_n 1, 1) := by decide +kernel
theorem dX6_isSure_3 : decode cX6_isSure 3 = .ok (.invokevirtual 62, 3) := by decide +kernel
theorem dX6_isSure_6 : decode cX6_isSure 6 = .ok (.iconst 1, 1) := by decide +kernel
theorem dX6_isSure_7 : decode cX6_isSure 7 = .ok (.invokevirtual 58, 3) := by decide +kernel
theorem dX6_isSure_10 : decode cX6_isSure 10 = .ok (.ifCond .eq 5, 3) := by decide +kernel
theorem dX6_isSure_13 : decode cX6_isSure 13 = .ok (.iconst 0, 1) := by decide +kernel
theorem dX6_isSure_14 : decode cX6_isSure 14 = .ok (.ireturn, 1) := by decide +kernel
theorem dX6_isSure_15 : decode cX6_isSure 15 = .ok (.aload_n 0, 1) := by decide +kernel
theorem dX6_isSure_16 : decode cX6_isSure 16 = .ok (.invokevirtual 216, 3) := by decide +kernel
theorem dX6_isSure_19 : decode cX6_isSure 19 = .ok (.astore_n 2, 1) := by decide +kernel
theorem dX6_isSure_20 : decode cX6_isSure 20 = .ok (.aload_n 0, 1) := by decide +kernel
theorem dX6_isSure_21 : decode cX6_isSure 21 = .ok (.aload_n 2, 1) := by decide +kernel
theorem dX6_isSure_22 : decode cX6_isSure 22 = .ok (.invokevirtual 166, 3) := by decide +kernel
theorem dX6_isSure_25 : decode cX6_isSure 25 = .ok (.lstore_n 3, 1) := by decide +kernel
theorem dX6_isSure_26 : decode cX6_isSure 26 = .ok (.aload_n 2, 1) := by decide +kernel
theorem dX6_isSure_27 : decode cX6_isSure 27 = .ok (.iload_n 1, 1) := by decide +kernel
theorem dX6_isSure_28 : decode cX6_isSure 28 = .ok (.aload_n 0, 1) := by decide +kernel
theorem dX6_isSure_29 : decode cX6_isSure 29 = .ok (.aload_n 0, 1) := by decide +kernel
theorem dX6_isSure_30 : decode cX6_isSure 30 = .ok (.getfield 55, 3) := by decide +kernel
theorem dX6_isSure_33 : decode cX6_isSure 33 = .ok (.lconst 0, 1) := by decide +kernel
theorem dX6_isSure_34 : decode cX6_isSure 34 = .ok (.invokevirtual 170, 3) := by decide +kernel
theorem dX6_isSure_37 : decode cX6_isSure 37 = .ok (.aastore, 1) := by decide +kernel
theorem dX6_isSure_38 : decode cX6_isSure 38 = .ok (.aload_n 0, 1) := by decide +kernel
theorem dX6_isSure_39 : decode cX6_isSure 39 = .ok (.aload_n 2, 1) := by decide +kernel
theorem dX6_isSure_40 : decode cX6_isSure 40 = .ok (.invokevirtual 166, 3) := by decide +kernel
theorem dX6_isSure_43 : decode cX6_isSure 43 = .ok (.lload_n 3, 1) := by decide +kernel
theorem dX6_isSure_44 : decode cX6_isSure 44 = .ok (.lcmp, 1) := by decide +kernel
theorem dX6_isSure_45 : decode cX6_isSure 45 = .ok (.ifCond .ge 7, 3) := by decide +kernel
theorem dX6_isSure_48 : decode cX6_isSure 48 = .ok (.iconst 1, 1) := by decide +kernel
theorem dX6_isSure_49 : decode cX6_isSure 49 = .ok (.goto 4, 3) := by decide +kernel
theorem dX6_isSure_52 : decode cX6_isSure 52 = .ok (.iconst 0, 1) := by decide +kernel
theorem dX6_isSure_53 : decode cX6_isSure 53 = .ok (.ireturn, 1) := by decide +kernel
set_option maxRecDepth 20000 in
theorem ggX6_gains_X6_isWho : GoodIn wsX6_gains wsX6_isWho := goodIn_r _ [7, 8, 9, 10, 6, 11, 54, 55, 56, 57, 58, 59, 60, 61, 62] (by decide +kernel) (by decide +kernel)
set_option maxRecDepth 20000 in
theorem gX6_gains_X6_isWho : GoodIn wsX6_gains (wsV RX6 62 RX6 yX6_isWho wsX6_isWho) := goodIn_app (goodIn_of _ (by decide +kernel)) ggX6_gains_X6_isWho
set_option maxRecDepth 20000 in
theorem ggX6_gains_X6_isPost : GoodIn wsX6_gains wsX6_isPost := goodIn_r _ [15, 16, 9, 10, 6, 11, 54, 55, 56, 57, 58, 59, 60, 61, 62] (by decide +kernel) (by decide +kernel)
set_option maxRecDepth 20000 in
theorem gX6_gains_X6_isPost : GoodIn wsX6_gains (wsV RX6 66 RX6 yX6_isPost wsX6_isPost) := goodIn_app (goodIn_of _ (by decide +kernel)) ggX6_gains_X6_isPost
set_option maxRecDepth 20000 in
theorem ggX6_gains_X6_no : GoodIn wsX6_gains wsX6_no := goodIn_r _ [20, 21, 54, 55, 56, 57, 58, 59, 60, 61, 62] (by decide +kernel) (by decide +kernel)
set_option maxRecDepth 20000 in
theorem gX6_gains_X6_no : GoodIn wsX6_gains (wsV RX6 58 RX6 yX6_no wsX6_no) := goodIn_app (goodIn_of _ (by decide +kernel)) ggX6_gains_X6_no
set_option maxRecDepth 20000 in
theorem ggX6_gains_X6_profiles : GoodIn wsX6_gains wsX6_profiles := goodIn_ca (goodIn_r _ [25, 8, 16, 26, 27, 1, 28, 29, 54, 55, 56, 57, 58, 59, 60, 61, 62] (by decide +kernel) (by decide +kernel)) (goodIn_sub (fun _ h => List.mem_cons_of_mem _ (List.mem_append_right _ h)) (by decide +kernel))
set_option maxRecDepth 20000 in
theorem gX6_gains_X6_profiles : GoodIn wsX6_gains (wsV RX6 216 RX6 yX6_profiles wsX6_profiles) := goodIn_app (goodIn_of _ (by decide +kernel)) ggX6_gains_X6_profiles
set_option maxRecDepth 20000 in
theorem ggX6_gains_X6_first : GoodIn wsX6_gains wsX6_first := goodIn_ca (goodIn_r _ [33, 29, 2, 8, 16, 34, 35, 36, 6, 37, 27, 38, 39, 40, 41, 42, 43, 44, 45, 46, 47, 48, 49, 54, 55, 56, 57, 58, 59, 60, 61, 62] (by decide +kernel) (by decide +kernel)) (goodIn_sub (fun _ h => List.mem_cons_of_mem _ (List.mem_append_right _ h)) (by decide +kernel))
set_option maxRecDepth 20000 in
theorem gX6_gains_X6_first : GoodIn wsX6_gains (wsV RX6 183 RX6 yX6_first wsX6_first) := goodIn_app (goodIn_of _ (by decide +kernel)) ggX6_gains_X6_first
set_option maxRecDepth 20000 in
theorem ggX6_gains_X6_rank : GoodIn wsX6_gains wsX6_rank := goodIn_ca (goodIn_r _ [53, 1, 54, 55, 56, 57, 58, 59, 60, 61, 62] (by decide +kernel) (by decide +kernel)) (goodIn_sub (fun _ h => List.mem_cons_of_mem _ (List.mem_append_right _ h)) (by decide +kernel))
set_option maxRecDepth 20000 in
theorem gX6_gains_X6_rank : GoodIn wsX6_gains (wsV RX6 139 RX6 yX6_rank wsX6_rank) := goodIn_app (goodIn_of _ (by decide +kernel)) ggX6_gains_X6_rank
theorem dX6_gains_0 : decode cX6_gains 0 = .ok (.aload_n 0, 1) := by decide +kernel
theorem dX6_gains_1 : decode cX6_gains 1 = .ok (.aload_n 0, 1) := by decide +kernel
theorem dX6_gains_2 : decode cX6_gains 2 = .ok (.iload_n 1, 1) := by decide +kernel
theorem dX6_gains_3 : decode cX6_gains 3 = .ok (.invokevirtual 62, 3) := by decide +kernel
theorem dX6_gains_6 : decode cX6_gains 6 = .ok (.ifCond .eq 15, 3) := by decide +kernel
theorem dX6_gains_9 : decode cX6_gains 9 = .ok (.aload_n 0, 1) := by decide +kernel
theorem dX6_gains_10 : decode cX6_gains 10 = .ok (.iload_n 2, 1) := by decide +kernel
theorem dX6_gains_11 : decode cX6_gains 11 = .ok (.invokevirtual 66, 3) := by decide +kernel
theorem dX6_gains_14 : decode cX6_gains 14 = .ok (.ifCond .eq 7, 3) := by decide +kernel
theorem dX6_gains_17 : decode cX6_gains 17 = .ok (.iconst 1, 1) := by decide +kernel
theorem dX6_gains_18 : decode cX6_gains 18 = .ok (.goto 4, 3) := by decide +kernel
theorem dX6_gains_21 : decode cX6_gains 21 = .ok (.iconst 0, 1) := by decide +kernel
theorem dX6_gains_22 : decode cX6_gains 22 = .ok (.iconst 1, 1) := by decide +kernel
theorem dX6_gains_23 : decode cX6_gains 23 = .ok (.invokevirtual 58, 3) := by decide +kernel
theorem dX6_gains_26 : decode cX6_gains 26 = .ok (.ifCond .eq 5, 3) := by decide +kernel
theorem dX6_gains_29 : decode cX6_gains 29 = .ok (.iconst 0, 1) := by decide +kernel
theorem dX6_gains_30 : decode cX6_gains 30 = .ok (.ireturn, 1) := by decide +kernel
theorem dX6_gains_31 : decode cX6_gains 31 = .ok (.aload_n 0, 1) := by decide +kernel
theorem dX6_gains_32 : decode cX6_gains 32 = .ok (.iload_n 1, 1) := by decide +kernel
theorem dX6_gains_33 : decode cX6_gains 33 = .ok (.aload_n 0, 1) := by decide +kernel
theorem dX6_gains_34 : decode cX6_gains 34 = .ok (.aload_n 0, 1) := by decide +kernel
theorem dX6_gains_35 : decode cX6_gains 35 = .ok (.invokevirtual 216, 3) := by decide +kernel
theorem dX6_gains_38 : decode cX6_gains 38 = .ok (.invokevirtual 183, 3) := by decide +kernel
theorem dX6_gains_41 : decode cX6_gains 41 = .ok (.iload_n 1, 1) := by decide +kernel
theorem dX6_gains_42 : decode cX6_gains 42 = .ok (.iaload, 1) := by decide +kernel
theorem dX6_gains_43 : decode cX6_gains 43 = .ok (.invokevirtual 139, 3) := by decide +kernel
theorem dX6_gains_46 : decode cX6_gains 46 = .ok (.istore_n 3, 1) := by decide +kernel
theorem dX6_gains_47 : decode cX6_gains 47 = .ok (.aload_n 0, 1) := by decide +kernel
theorem dX6_gains_48 : decode cX6_gains 48 = .ok (.getfield 21, 3) := by decide +kernel
theorem dX6_gains_51 : decode cX6_gains 51 = .ok (.iload_n 1, 1) := by decide +kernel
theorem dX6_gains_52 : decode cX6_gains 52 = .ok (.aaload, 1) := by decide +kernel
theorem dX6_gains_53 : decode cX6_gains 53 = .ok (.astore 4, 2) := by decide +kernel
theorem dX6_gains_55 : decode cX6_gains 55 = .ok (.aload_n 0, 1) := by decide +kernel
theorem dX6_gains_56 : decode cX6_gains 56 = .ok (.iload_n 1, 1) := by decide +kernel
theorem dX6_gains_57 : decode cX6_gains 57 = .ok (.iload_n 2, 1) := by decide +kernel
theorem dX6_gains_58 : decode cX6_gains 58 = .ok (.invokevirtual 139, 3) := by decide +kernel
theorem dX6_gains_61 : decode cX6_gains 61 = .ok (.istore 5, 2) := by decide +kernel
theorem dX6_gains_63 : decode cX6_gains 63 = .ok (.aload_n 0, 1) := by decide +kernel
theorem dX6_gains_64 : decode cX6_gains 64 = .ok (.getfield 21, 3) := by decide +kernel
theorem dX6_gains_67 : decode cX6_gains 67 = .ok (.iload_n 1, 1) := by decide +kernel
theorem dX6_gains_68 : decode cX6_gains 68 = .ok (.bipush 10, 2) := by decide +kernel
theorem dX6_gains_70 : decode cX6_gains 70 = .ok (.newarray .int, 2) := by decide +kernel
theorem dX6_gains_72 : decode cX6_gains 72 = .ok (.aastore, 1) := by decide +kernel
theorem dX6_gains_73 : decode cX6_gains 73 = .ok (.aload_n 0, 1) := by decide +kernel
theorem dX6_gains_74 : decode cX6_gains 74 = .ok (.getfield 21, 3) := by decide +kernel
theorem dX6_gains_77 : decode cX6_gains 77 = .ok (.iload_n 1, 1) := by decide +kernel
theorem dX6_gains_78 : decode cX6_gains 78 = .ok (.aaload, 1) := by decide +kernel
theorem dX6_gains_79 : decode cX6_gains 79 = .ok (.iload_n 2, 1) := by decide +kernel
theorem dX6_gains_80 : decode cX6_gains 80 = .ok (.iconst 1, 1) := by decide +kernel
theorem dX6_gains_81 : decode cX6_gains 81 = .ok (.iastore, 1) := by decide +kernel
theorem dX6_gains_82 : decode cX6_gains 82 = .ok (.aload_n 0, 1) := by decide +kernel
theorem dX6_gains_83 : decode cX6_gains 83 = .ok (.aload_n 0, 1) := by decide +kernel
theorem dX6_gains_84 : decode cX6_gains 84 = .ok (.invokevirtual 216, 3) := by decide +kernel
theorem dX6_gains_87 : decode cX6_gains 87 = .ok (.invokevirtual 183, 3) := by decide +kernel
theorem dX6_gains_90 : decode cX6_gains 90 = .ok (.iload_n 1, 1) := by decide +kernel
theorem dX6_gains_91 : decode cX6_gains 91 = .ok (.iaload, 1) := by decide +kernel
theorem dX6_gains_92 : decode cX6_gains 92 = .ok (.istore 6, 2) := by decide +kernel
theorem dX6_gains_94 : decode cX6_gains 94 = .ok (.aload_n 0, 1) := by decide +kernel
theorem dX6_gains_95 : decode cX6_gains 95 = .ok (.getfield 21, 3) := by decide +kernel
theorem dX6_gains_98 : decode cX6_gains 98 = .ok (.iload_n 1, 1) := by decide +kernel
theorem dX6_gains_99 : decode cX6_gains 99 = .ok (.aload 4, 2) := by decide +kernel
theorem dX6_gains_101 : decode cX6_gains 101 = .ok (.aastore, 1) := by decide +kernel
theorem dX6_gains_102 : decode cX6_gains 102 = .ok (.iload 6, 2) := by decide +kernel
theorem dX6_gains_104 : decode cX6_gains 104 = .ok (.iload_n 2, 1) := by decide +kernel
theorem dX6_gains_105 : decode cX6_gains 105 = .ok (.if_icmp .ne 13, 3) := by decide +kernel
theorem dX6_gains_108 : decode cX6_gains 108 = .ok (.iload 5, 2) := by decide +kernel
theorem dX6_gains_110 : decode cX6_gains 110 = .ok (.iload_n 3, 1) := by decide +kernel
theorem dX6_gains_111 : decode cX6_gains 111 = .ok (.if_icmp .ge 7, 3) := by decide +kernel
theorem dX6_gains_114 : decode cX6_gains 114 = .ok (.iconst 1, 1) := by decide +kernel
theorem dX6_gains_115 : decode cX6_gains 115 = .ok (.goto 4, 3) := by decide +kernel
theorem dX6_gains_118 : decode cX6_gains 118 = .ok (.iconst 0, 1) := by decide +kernel
theorem dX6_gains_119 : decode cX6_gains 119 = .ok (.ireturn, 1) := by decide +kernel
set_option maxRecDepth 20000 in
theorem ggX6_isEnvious_X6_rank : GoodIn wsX6_isEnvious wsX6_rank := goodIn_ca (goodIn_r _ [6, 7, 8, 9, 10, 11, 12, 13, 14, 15, 16] (by decide +kernel) (by decide +kernel)) (goodIn_sub (fun _ h => List.mem_cons_of_mem _ (List.mem_append_right _ h)) (by decide +kernel))
set_option maxRecDepth 20000 in
theorem gX6_isEnvious_X6_rank : GoodIn wsX6_isEnvious (wsV RX6 139 RX6 yX6_rank wsX6_rank) := goodIn_app (goodIn_of _ (by decide +kernel)) ggX6_isEnvious_X6_rank
theorem dX6_isEnvious_0 : decode cX6_isEnvious 0 = .ok (.aload_n 0, 1) := by decide +kernel
theorem dX6_isEnvious_1 : decode cX6_isEnvious 1 = .ok (.getfield 16, 3) := by decide +kernel
theorem dX6_isEnvious_4 : decode cX6_isEnvious 4 = .ok (.iload_n 2, 1) := by decide +kernel
theorem dX6_isEnvious_5 : decode cX6_isEnvious 5 = .ok (.iaload, 1) := by decide +kernel
theorem dX6_isEnvious_6 : decode cX6_isEnvious 6 = .ok (.ifCond .lt 32, 3) := by decide +kernel
theorem dX6_isEnvious_9 : decode cX6_isEnvious 9 = .ok (.aload_n 0, 1) := by decide +kernel
theorem dX6_isEnvious_10 : decode cX6_isEnvious 10 = .ok (.iload_n 1, 1) := by decide +kernel
theorem dX6_isEnvious_11 : decode cX6_isEnvious 11 = .ok (.aload_n 0, 1) := by decide +kernel
theorem dX6_isEnvious_12 : decode cX6_isEnvious 12 = .ok (.getfield 16, 3) := by decide +kernel
theorem dX6_isEnvious_15 : decode cX6_isEnvious 15 = .ok (.iload_n 2, 1) := by decide +kernel
theorem dX6_isEnvious_16 : decode cX6_isEnvious 16 = .ok (.iaload, 1) := by decide +kernel
theorem dX6_isEnvious_17 : decode cX6_isEnvious 17 = .ok (.invokevirtual 139, 3) := by decide +kernel
theorem dX6_isEnvious_20 : decode cX6_isEnvious 20 = .ok (.aload_n 0, 1) := by decide +kernel
theorem dX6_isEnvious_21 : decode cX6_isEnvious 21 = .ok (.iload_n 1, 1) := by decide +kernel
theorem dX6_isEnvious_22 : decode cX6_isEnvious 22 = .ok (.aload_n 0, 1) := by decide +kernel
theorem dX6_isEnvious_23 : decode cX6_isEnvious 23 = .ok (.getfield 16, 3) := by decide +kernel
theorem dX6_isEnvious_26 : decode cX6_isEnvious 26 = .ok (.iload_n 1, 1) := by decide +kernel
theorem dX6_isEnvious_27 : decode cX6_isEnvious 27 = .ok (.iaload, 1) := by decide +kernel
theorem dX6_isEnvious_28 : decode cX6_isEnvious 28 = .ok (.invokevirtual 139, 3) := by decide +kernel
theorem dX6_isEnvious_31 : decode cX6_isEnvious 31 = .ok (.if_icmp .ge 7, 3) := by decide +kernel
theorem dX6_isEnvious_34 : decode cX6_isEnvious 34 = .ok (.iconst 1, 1) := by decide +kernel
theorem dX6_isEnvious_35 : decode cX6_isEnvious 35 = .ok (.goto 4, 3) := by decide +kernel
theorem dX6_isEnvious_38 : decode cX6_isEnvious 38 = .ok (.iconst 0, 1) := by decide +kernel
theorem dX6_isEnvious_39 : decode cX6_isEnvious 39 = .ok (.ireturn, 1) := by decide +kernel
set_option maxRecDepth 20000 in
theorem ggX6_envies_X6_isWho : GoodIn wsX6_envies wsX6_isWho := goodIn_r _ [5, 6, 7, 8, 4, 9, 25, 26, 27, 28, 29, 30, 31, 32, 33] (by decide +kernel) (by decide +kernel)
set_option maxRecDepth 20000 in
theorem gX6_envies_X6_isWho : GoodIn wsX6_envies (wsV RX6 62 RX6 yX6_isWho wsX6_isWho) := goodIn_app (goodIn_of _ (by decide +kernel)) ggX6_envies_X6_isWho
set_option maxRecDepth 20000 in
theorem ggX6_envies_X6_no : GoodIn wsX6_envies wsX6_no := goodIn_r _ [13, 14, 25, 26, 27, 28, 29, 30, 31, 32, 33] (by decide +kernel) (by decide +kernel)
set_option maxRecDepth 20000 in
theorem gX6_envies_X6_no : GoodIn wsX6_envies (wsV RX6 58 RX6 yX6_no wsX6_no) := goodIn_app (goodIn_of _ (by decide +kernel)) ggX6_envies_X6_no
set_option maxRecDepth 20000 in
theorem ggX6_envies_X6_isEnvious : GoodIn wsX6_envies wsX6_isEnvious := goodIn_ca (goodIn_r _ [18, 19, 20, 21, 22, 4, 23, 24, 25, 26, 27, 28, 29, 30, 31, 32, 33] (by decide +kernel) (by decide +kernel)) (goodIn_sub (fun _ h => List.mem_cons_of_mem _ (List.mem_append_right _ h)) (by decide +kernel))
set_option maxRecDepth 20000 in
theorem gX6_envies_X6_isEnvious : GoodIn wsX6_envies (wsV RX6 219 RX6 yX6_isEnvious wsX6_isEnvious) := goodIn_app (goodIn_of _ (by decide +kernel)) ggX6_envies_X6_isEnvious
theorem dX6_envies_0 : decode cX6_envies 0 = .ok (.aload_n 0, 1) := by decide +kernel
theorem dX6_envies_1 : decode cX6_envies 1 = .ok (.aload_n 0, 1) := by decide +kernel
theorem dX6_envies_2 : decode cX6_envies 2 = .ok (.iload_n 1, 1) := by decide +kernel
theorem dX6_envies_3 : decode cX6_envies 3 = .ok (.invokevirtual 62, 3) := by decide +kernel
theorem dX6_envies_6 : decode cX6_envies 6 = .ok (.ifCond .eq 15, 3) := by decide +kernel
theorem dX6_envies_9 : decode cX6_envies 9 = .ok (.aload_n 0, 1) := by decide +kernel
theorem dX6_envies_10 : decode cX6_envies 10 = .ok (.iload_n 2, 1) := by decide +kernel
theorem dX6_envies_11 : decode cX6_envies 11 = .ok (.invokevirtual 62, 3) := by decide +kernel
theorem dX6_envies_14 : decode cX6_envies 14 = .ok (.ifCond .eq 7, 3) := by decide +kernel
theorem dX6_envies_17 : decode cX6_envies 17 = .ok (.iconst 1, 1) := by decide +kernel
theorem dX6_envies_18 : decode cX6_envies 18 = .ok (.goto 4, 3) := by decide +kernel
theorem dX6_envies_21 : decode cX6_envies 21 = .ok (.iconst 0, 1) := by decide +kernel
theorem dX6_envies_22 : decode cX6_envies 22 = .ok (.iconst 1, 1) := by decide +kernel
theorem dX6_envies_23 : decode cX6_envies 23 = .ok (.invokevirtual 58, 3) := by decide +kernel
theorem dX6_envies_26 : decode cX6_envies 26 = .ok (.ifCond .ne 16, 3) := by decide +kernel
theorem dX6_envies_29 : decode cX6_envies 29 = .ok (.aload_n 0, 1) := by decide +kernel
theorem dX6_envies_30 : decode cX6_envies 30 = .ok (.iload_n 1, 1) := by decide +kernel
theorem dX6_envies_31 : decode cX6_envies 31 = .ok (.iload_n 2, 1) := by decide +kernel
theorem dX6_envies_32 : decode cX6_envies 32 = .ok (.invokevirtual 219, 3) := by decide +kernel
theorem dX6_envies_35 : decode cX6_envies 35 = .ok (.ifCond .eq 7, 3) := by decide +kernel
theorem dX6_envies_38 : decode cX6_envies 38 = .ok (.iconst 1, 1) := by decide +kernel
theorem dX6_envies_39 : decode cX6_envies 39 = .ok (.goto 4, 3) := by decide +kernel
theorem dX6_envies_42 : decode cX6_envies 42 = .ok (.iconst 0, 1) := by decide +kernel
theorem dX6_envies_43 : decode cX6_envies 43 = .ok (.ireturn, 1) := by decide +kernel
set_option maxRecDepth 20000 in
theorem ggX6_countEnvy_X6_isEnvious : GoodIn wsX6_countEnvy wsX6_isEnvious := goodIn_ca (goodIn_r _ [6, 7, 8, 9, 10, 5, 11, 12, 13, 14, 15, 16, 17, 18, 19, 20, 21] (by decide +kernel) (by decide +kernel)) (goodIn_sub (fun _ h => List.mem_cons_of_mem _ (List.mem_append_right _ h)) (by decide +kernel))
set_option maxRecDepth 20000 in
theorem gX6_countEnvy_X6_isEnvious : GoodIn wsX6_countEnvy (wsV RX6 219 RX6 yX6_isEnvious wsX6_isEnvious) := goodIn_app (goodIn_of _ (by decide +kernel)) ggX6_countEnvy_X6_isEnvious
theorem dX6_countEnvy_0 : decode cX6_countEnvy 0 = .ok (.iconst 0, 1) := by decide +kernel
theorem dX6_countEnvy_1 : decode cX6_countEnvy 1 = .ok (.istore_n 1, 1) := by decide +kernel
theorem dX6_countEnvy_2 : decode cX6_countEnvy 2 = .ok (.iconst 0, 1) := by decide +kernel
theorem dX6_countEnvy_3 : decode cX6_countEnvy 3 = .ok (.istore_n 2, 1) := by decide +kernel
theorem dX6_countEnvy_4 : decode cX6_countEnvy 4 = .ok (.iload_n 2, 1) := by decide +kernel
theorem dX6_countEnvy_5 : decode cX6_countEnvy 5 = .ok (.aload_n 0, 1) := by decide +kernel
theorem dX6_countEnvy_6 : decode cX6_countEnvy 6 = .ok (.getfield 48, 3) := by decide +kernel
theorem dX6_countEnvy_9 : decode cX6_countEnvy 9 = .ok (.if_icmp .ge 42, 3) := by decide +kernel
theorem dX6_countEnvy_12 : decode cX6_countEnvy 12 = .ok (.iconst 0, 1) := by decide +kernel
theorem dX6_countEnvy_13 : decode cX6_countEnvy 13 = .ok (.istore_n 3, 1) := by decide +kernel
theorem dX6_countEnvy_14 : decode cX6_countEnvy 14 = .ok (.iload_n 3, 1) := by decide +kernel
theorem dX6_countEnvy_15 : decode cX6_countEnvy 15 = .ok (.aload_n 0, 1) := by decide +kernel
theorem dX6_countEnvy_16 : decode cX6_countEnvy 16 = .ok (.getfield 48, 3) := by decide +kernel
theorem dX6_countEnvy_19 : decode cX6_countEnvy 19 = .ok (.if_icmp .ge 26, 3) := by decide +kernel
theorem dX6_countEnvy_22 : decode cX6_countEnvy 22 = .ok (.iload_n 1, 1) := by decide +kernel
theorem dX6_countEnvy_23 : decode cX6_countEnvy 23 = .ok (.aload_n 0, 1) := by decide +kernel
theorem dX6_countEnvy_24 : decode cX6_countEnvy 24 = .ok (.iload_n 2, 1) := by decide +kernel
theorem dX6_countEnvy_25 : decode cX6_countEnvy 25 = .ok (.iload_n 3, 1) := by decide +kernel
theorem dX6_countEnvy_26 : decode cX6_countEnvy 26 = .ok (.invokevirtual 219, 3) := by decide +kernel
theorem dX6_countEnvy_29 : decode cX6_countEnvy 29 = .ok (.ifCond .eq 7, 3) := by decide +kernel
theorem dX6_countEnvy_32 : decode cX6_countEnvy 32 = .ok (.iconst 1, 1) := by decide +kernel
theorem dX6_countEnvy_33 : decode cX6_countEnvy 33 = .ok (.goto 4, 3) := by decide +kernel
theorem dX6_countEnvy_36 : decode cX6_countEnvy 36 = .ok (.iconst 0, 1) := by decide +kernel
theorem dX6_countEnvy_37 : decode cX6_countEnvy 37 = .ok (.iadd, 1) := by decide +kernel
theorem dX6_countEnvy_38 : decode cX6_countEnvy 38 = .ok (.istore_n 1, 1) := by decide +kernel
theorem dX6_countEnvy_39 : decode cX6_countEnvy 39 = .ok (.iinc 3 1, 3) := by decide +kernel
theorem dX6_countEnvy_42 : decode cX6_countEnvy 42 = .ok (.goto (-28), 3) := by decide +kernel
theorem dX6_countEnvy_45 : decode cX6_countEnvy 45 = .ok (.iinc 2 1, 3) := by decide +kernel
theorem dX6_countEnvy_48 : decode cX6_countEnvy 48 = .ok (.goto (-44), 3) := by decide +kernel
theorem dX6_countEnvy_51 : decode cX6_countEnvy 51 = .ok (.iload_n 1, 1) := by decide +kernel
theorem dX6_countEnvy_52 : decode cX6_countEnvy 52 = .ok (.ireturn, 1) := by decide +kernel
set_option maxRecDepth 20000 in
theorem ggX6_matchedShare_X6_no : GoodIn wsX6_matchedShare wsX6_no := goodIn_r _ [7, 8, 13, 14, 15, 16, 17, 18, 19, 20, 21] (by decide +kernel) (by decide +kernel)
set_option maxRecDepth 20000 in
theorem gX6_matchedShare_X6_no : GoodIn wsX6_matchedShare (wsV RX6 58 RX6 yX6_no wsX6_no) := goodIn_app (goodIn_of _ (by decide +kernel)) ggX6_matchedShare_X6_no
set_option maxRecDepth 20000 in
theorem ggX6_matchedShare_X6_having : GoodIn wsX6_matchedShare wsX6_having := goodIn_ca (goodIn_r _ [12, 1, 13, 14, 15, 16, 17, 18, 19, 20, 21] (by decide +kernel) (by decide +kernel)) (goodIn_sub (fun _ h => List.mem_cons_of_mem _ (List.mem_append_right _ h)) (by decide +kernel))
set_option maxRecDepth 20000 in
theorem gX6_matchedShare_X6_having : GoodIn wsX6_matchedShare (wsV RX6 69 RX6 yX6_having wsX6_having) := goodIn_app (goodIn_of _ (by decide +kernel)) ggX6_matchedShare_X6_having
theorem dX6_matchedShare_0 : decode cX6_matchedShare 0 = .ok (.aload_n 0, 1) := by decide +kernel
theorem dX6_matchedShare_1 : decode cX6_matchedShare 1 = .ok (.aload_n 0, 1) := by decide +kernel
theorem dX6_matchedShare_2 : decode cX6_matchedShare 2 = .ok (.getfield 48, 3) := by decide +kernel
theorem dX6_matchedShare_5 : decode cX6_matchedShare 5 = .ok (.ifCond .le 7, 3) := by decide +kernel
theorem dX6_matchedShare_8 : decode cX6_matchedShare 8 = .ok (.iconst 1, 1) := by decide +kernel
theorem dX6_matchedShare_9 : decode cX6_matchedShare 9 = .ok (.goto 4, 3) := by decide +kernel
theorem dX6_matchedShare_12 : decode cX6_matchedShare 12 = .ok (.iconst 0, 1) := by decide +kernel
theorem dX6_matchedShare_13 : decode cX6_matchedShare 13 = .ok (.iconst 1, 1) := by decide +kernel
theorem dX6_matchedShare_14 : decode cX6_matchedShare 14 = .ok (.invokevirtual 58, 3) := by decide +kernel
theorem dX6_matchedShare_17 : decode cX6_matchedShare 17 = .ok (.ifCond .eq 7, 3) := by decide +kernel
theorem dX6_matchedShare_20 : decode cX6_matchedShare 20 = .ok (.fconst 0, 1) := by decide +kernel
theorem dX6_matchedShare_21 : decode cX6_matchedShare 21 = .ok (.goto 24, 3) := by decide +kernel
theorem dX6_matchedShare_24 : decode cX6_matchedShare 24 = .ok (.aload_n 0, 1) := by decide +kernel
theorem dX6_matchedShare_25 : decode cX6_matchedShare 25 = .ok (.getfield 48, 3) := by decide +kernel
theorem dX6_matchedShare_28 : decode cX6_matchedShare 28 = .ok (.aload_n 0, 1) := by decide +kernel
theorem dX6_matchedShare_29 : decode cX6_matchedShare 29 = .ok (.iconst (-1), 1) := by decide +kernel
theorem dX6_matchedShare_30 : decode cX6_matchedShare 30 = .ok (.aload_n 0, 1) := by decide +kernel
theorem dX6_matchedShare_31 : decode cX6_matchedShare 31 = .ok (.getfield 16, 3) := by decide +kernel
theorem dX6_matchedShare_34 : decode cX6_matchedShare 34 = .ok (.invokevirtual 69, 3) := by decide +kernel
theorem dX6_matchedShare_37 : decode cX6_matchedShare 37 = .ok (.isub, 1) := by decide +kernel
theorem dX6_matchedShare_38 : decode cX6_matchedShare 38 = .ok (.i2f, 1) := by decide +kernel
theorem dX6_matchedShare_39 : decode cX6_matchedShare 39 = .ok (.aload_n 0, 1) := by decide +kernel
theorem dX6_matchedShare_40 : decode cX6_matchedShare 40 = .ok (.getfield 48, 3) := by decide +kernel
theorem dX6_matchedShare_43 : decode cX6_matchedShare 43 = .ok (.i2f, 1) := by decide +kernel
theorem dX6_matchedShare_44 : decode cX6_matchedShare 44 = .ok (.fdiv, 1) := by decide +kernel
theorem dX6_matchedShare_45 : decode cX6_matchedShare 45 = .ok (.freturn, 1) := by decide +kernel
set_option maxRecDepth 20000 in
theorem ggX6_meanRank_X6_having : GoodIn wsX6_meanRank wsX6_having := goodIn_ca (goodIn_r _ [8, 1, 14, 15, 16, 17, 18, 19, 20, 21, 22] (by decide +kernel) (by decide +kernel)) (goodIn_sub (fun _ h => List.mem_cons_of_mem _ (List.mem_append_right _ h)) (by decide +kernel))
set_option maxRecDepth 20000 in
theorem gX6_meanRank_X6_having : GoodIn wsX6_meanRank (wsV RX6 69 RX6 yX6_having wsX6_having) := goodIn_app (goodIn_of _ (by decide +kernel)) ggX6_meanRank_X6_having
set_option maxRecDepth 20000 in
theorem ggX6_meanRank_X6_no : GoodIn wsX6_meanRank wsX6_no := goodIn_r _ [12, 13, 14, 15, 16, 17, 18, 19, 20, 21, 22] (by decide +kernel) (by decide +kernel)
set_option maxRecDepth 20000 in
theorem gX6_meanRank_X6_no : GoodIn wsX6_meanRank (wsV RX6 58 RX6 yX6_no wsX6_no) := goodIn_app (goodIn_of _ (by decide +kernel)) ggX6_meanRank_X6_no
theorem dX6_meanRank_0 : decode cX6_meanRank 0 = .ok (.aload_n 0, 1) := by decide +kernel
theorem dX6_meanRank_1 : decode cX6_meanRank 1 = .ok (.getfield 48, 3) := by decide +kernel
theorem dX6_meanRank_4 : decode cX6_meanRank 4 = .ok (.aload_n 0, 1) := by decide +kernel
theorem dX6_meanRank_5 : decode cX6_meanRank 5 = .ok (.iconst (-1), 1) := by decide +kernel
theorem dX6_meanRank_6 : decode cX6_meanRank 6 = .ok (.aload_n 0, 1) := by decide +kernel
theorem dX6_meanRank_7 : decode cX6_meanRank 7 = .ok (.getfield 16, 3) := by decide +kernel
theorem dX6_meanRank_10 : decode cX6_meanRank 10 = .ok (.invokevirtual 69, 3) := by decide +kernel
theorem dX6_meanRank_13 : decode cX6_meanRank 13 = .ok (.isub, 1) := by decide +kernel
theorem dX6_meanRank_14 : decode cX6_meanRank 14 = .ok (.istore_n 1, 1) := by decide +kernel
theorem dX6_meanRank_15 : decode cX6_meanRank 15 = .ok (.iconst 0, 1) := by decide +kernel
theorem dX6_meanRank_16 : decode cX6_meanRank 16 = .ok (.istore_n 2, 1) := by decide +kernel
theorem dX6_meanRank_17 : decode cX6_meanRank 17 = .ok (.iconst 0, 1) := by decide +kernel
theorem dX6_meanRank_18 : decode cX6_meanRank 18 = .ok (.istore_n 3, 1) := by decide +kernel
theorem dX6_meanRank_19 : decode cX6_meanRank 19 = .ok (.iload_n 3, 1) := by decide +kernel
theorem dX6_meanRank_20 : decode cX6_meanRank 20 = .ok (.aload_n 0, 1) := by decide +kernel
theorem dX6_meanRank_21 : decode cX6_meanRank 21 = .ok (.getfield 48, 3) := by decide +kernel
theorem dX6_meanRank_24 : decode cX6_meanRank 24 = .ok (.if_icmp .ge 38, 3) := by decide +kernel
theorem dX6_meanRank_27 : decode cX6_meanRank 27 = .ok (.iload_n 2, 1) := by decide +kernel
theorem dX6_meanRank_28 : decode cX6_meanRank 28 = .ok (.aload_n 0, 1) := by decide +kernel
theorem dX6_meanRank_29 : decode cX6_meanRank 29 = .ok (.getfield 16, 3) := by decide +kernel
theorem dX6_meanRank_32 : decode cX6_meanRank 32 = .ok (.iload_n 3, 1) := by decide +kernel
theorem dX6_meanRank_33 : decode cX6_meanRank 33 = .ok (.iaload, 1) := by decide +kernel
theorem dX6_meanRank_34 : decode cX6_meanRank 34 = .ok (.ifCond .ge 7, 3) := by decide +kernel
theorem dX6_meanRank_37 : decode cX6_meanRank 37 = .ok (.iconst 0, 1) := by decide +kernel
theorem dX6_meanRank_38 : decode cX6_meanRank 38 = .ok (.goto 16, 3) := by decide +kernel
theorem dX6_meanRank_41 : decode cX6_meanRank 41 = .ok (.aload_n 0, 1) := by decide +kernel
theorem dX6_meanRank_42 : decode cX6_meanRank 42 = .ok (.getfield 21, 3) := by decide +kernel
theorem dX6_meanRank_45 : decode cX6_meanRank 45 = .ok (.iload_n 3, 1) := by decide +kernel
theorem dX6_meanRank_46 : decode cX6_meanRank 46 = .ok (.aaload, 1) := by decide +kernel
theorem dX6_meanRank_47 : decode cX6_meanRank 47 = .ok (.aload_n 0, 1) := by decide +kernel
theorem dX6_meanRank_48 : decode cX6_meanRank 48 = .ok (.getfield 16, 3) := by decide +kernel
theorem dX6_meanRank_51 : decode cX6_meanRank 51 = .ok (.iload_n 3, 1) := by decide +kernel
theorem dX6_meanRank_52 : decode cX6_meanRank 52 = .ok (.iaload, 1) := by decide +kernel
theorem dX6_meanRank_53 : decode cX6_meanRank 53 = .ok (.iaload, 1) := by decide +kernel
theorem dX6_meanRank_54 : decode cX6_meanRank 54 = .ok (.iadd, 1) := by decide +kernel
theorem dX6_meanRank_55 : decode cX6_meanRank 55 = .ok (.istore_n 2, 1) := by decide +kernel
theorem dX6_meanRank_56 : decode cX6_meanRank 56 = .ok (.iinc 3 1, 3) := by decide +kernel
theorem dX6_meanRank_59 : decode cX6_meanRank 59 = .ok (.goto (-40), 3) := by decide +kernel
theorem dX6_meanRank_62 : decode cX6_meanRank 62 = .ok (.aload_n 0, 1) := by decide +kernel
theorem dX6_meanRank_63 : decode cX6_meanRank 63 = .ok (.iload_n 1, 1) := by decide +kernel
theorem dX6_meanRank_64 : decode cX6_meanRank 64 = .ok (.ifCond .le 7, 3) := by decide +kernel
theorem dX6_meanRank_67 : decode cX6_meanRank 67 = .ok (.iconst 1, 1) := by decide +kernel
theorem dX6_meanRank_68 : decode cX6_meanRank 68 = .ok (.goto 4, 3) := by decide +kernel
theorem dX6_meanRank_71 : decode cX6_meanRank 71 = .ok (.iconst 0, 1) := by decide +kernel
theorem dX6_meanRank_72 : decode cX6_meanRank 72 = .ok (.iconst 1, 1) := by decide +kernel
theorem dX6_meanRank_73 : decode cX6_meanRank 73 = .ok (.invokevirtual 58, 3) := by decide +kernel
theorem dX6_meanRank_76 : decode cX6_meanRank 76 = .ok (.ifCond .eq 7, 3) := by decide +kernel
theorem dX6_meanRank_79 : decode cX6_meanRank 79 = .ok (.dconst 0, 1) := by decide +kernel
theorem dX6_meanRank_80 : decode cX6_meanRank 80 = .ok (.goto 8, 3) := by decide +kernel
theorem dX6_meanRank_83 : decode cX6_meanRank 83 = .ok (.iload_n 2, 1) := by decide +kernel
theorem dX6_meanRank_84 : decode cX6_meanRank 84 = .ok (.i2d, 1) := by decide +kernel
theorem dX6_meanRank_85 : decode cX6_meanRank 85 = .ok (.iload_n 1, 1) := by decide +kernel
theorem dX6_meanRank_86 : decode cX6_meanRank 86 = .ok (.i2d, 1) := by decide +kernel
theorem dX6_meanRank_87 : decode cX6_meanRank 87 = .ok (.ddiv, 1) := by decide +kernel
theorem dX6_meanRank_88 : decode cX6_meanRank 88 = .ok (.dreturn, 1) := by decide +kernel
set_option maxRecDepth 20000 in
theorem ggX6_checksum_Jx4a65c_iterator_32c93 : GoodIn wsX6_checksum wsJx4a65c_iterator_32c93 := goodIn_r _ [15, 16, 17, 18, 19, 20, 21, 22, 23, 24, 25, 26, 27, 28, 29, 53, 54, 55, 56, 57, 58, 59] (by decide +kernel) (by decide +kernel)
set_option maxRecDepth 20000 in
theorem gX6_checksum_Jx4a65c_iterator_32c93_f226Jx4a65c : GoodIn wsX6_checksum (va_wsF RX6 226 RJx4a65c ⟨"java/util/List", "iterator", "()Ljava/util/Iterator;"⟩ yJx4a65c_iterator_32c93 wsJx4a65c_iterator_32c93) := goodIn_app (goodIn_of _ (by decide +kernel)) ggX6_checksum_Jx4a65c_iterator_32c93
set_option maxRecDepth 20000 in
theorem ggX6_checksum_Jx35411_hasNext_aae02 : GoodIn wsX6_checksum wsJx35411_hasNext_aae02 := goodIn_r _ [33, 34, 22, 53, 54, 55, 56, 57, 58, 59] (by decide +kernel) (by decide +kernel)
set_option maxRecDepth 20000 in
theorem gX6_checksum_Jx35411_hasNext_aae02_f230Jx35411 : GoodIn wsX6_checksum (va_wsF RX6 230 RJx35411 ⟨"java/util/Iterator", "hasNext", "()Z"⟩ yJx35411_hasNext_aae02 wsJx35411_hasNext_aae02) := goodIn_app (goodIn_of _ (by decide +kernel)) ggX6_checksum_Jx35411_hasNext_aae02
set_option maxRecDepth 20000 in
theorem ggX6_checksum_Jx35411_next_0502b : GoodIn wsX6_checksum wsJx35411_next_0502b := goodIn_r _ [38, 34, 22, 39, 26, 40, 41, 42, 18, 43, 27, 28, 29, 53, 54, 55, 56, 57, 58, 59] (by decide +kernel) (by decide +kernel)
set_option maxRecDepth 20000 in
theorem gX6_checksum_Jx35411_next_0502b_f235Jx35411 : GoodIn wsX6_checksum (va_wsF RX6 235 RJx35411 ⟨"java/util/Iterator", "next", "()Ljava/lang/Object;"⟩ yJx35411_next_0502b wsJx35411_next_0502b) := goodIn_app (goodIn_of _ (by decide +kernel)) ggX6_checksum_Jx35411_next_0502b
theorem dX6_checksum_0 : decode cX6_checksum 0 = .ok (.ldc2_w 222, 3) := by decide +kernel
theorem dX6_checksum_3 : decode cX6_checksum 3 = .ok (.lstore_n 1, 1) := by decide +kernel
theorem dX6_checksum_4 : decode cX6_checksum 4 = .ok (.iconst 0, 1) := by decide +kernel
theorem dX6_checksum_5 : decode cX6_checksum 5 = .ok (.istore_n 3, 1) := by decide +kernel
theorem dX6_checksum_6 : decode cX6_checksum 6 = .ok (.iload_n 3, 1) := by decide +kernel
theorem dX6_checksum_7 : decode cX6_checksum 7 = .ok (.aload_n 0, 1) := by decide +kernel
theorem dX6_checksum_8 : decode cX6_checksum 8 = .ok (.getfield 48, 3) := by decide +kernel
theorem dX6_checksum_11 : decode cX6_checksum 11 = .ok (.if_icmp .ge 72, 3) := by decide +kernel
theorem dX6_checksum_14 : decode cX6_checksum 14 = .ok (.ldc2_w 224, 3) := by decide +kernel
theorem dX6_checksum_17 : decode cX6_checksum 17 = .ok (.lload_n 1, 1) := by decide +kernel
theorem dX6_checksum_18 : decode cX6_checksum 18 = .ok (.lmul, 1) := by decide +kernel
theorem dX6_checksum_19 : decode cX6_checksum 19 = .ok (.aload_n 0, 1) := by decide +kernel
theorem dX6_checksum_20 : decode cX6_checksum 20 = .ok (.getfield 9, 3) := by decide +kernel
theorem dX6_checksum_23 : decode cX6_checksum 23 = .ok (.iload_n 3, 1) := by decide +kernel
theorem dX6_checksum_24 : decode cX6_checksum 24 = .ok (.iaload, 1) := by decide +kernel
theorem dX6_checksum_25 : decode cX6_checksum 25 = .ok (.i2l, 1) := by decide +kernel
theorem dX6_checksum_26 : decode cX6_checksum 26 = .ok (.ladd, 1) := by decide +kernel
theorem dX6_checksum_27 : decode cX6_checksum 27 = .ok (.lstore_n 1, 1) := by decide +kernel
theorem dX6_checksum_28 : decode cX6_checksum 28 = .ok (.iconst 0, 1) := by decide +kernel
theorem dX6_checksum_29 : decode cX6_checksum 29 = .ok (.istore 4, 2) := by decide +kernel
theorem dX6_checksum_31 : decode cX6_checksum 31 = .ok (.iload 4, 2) := by decide +kernel
theorem dX6_checksum_33 : decode cX6_checksum 33 = .ok (.aload_n 0, 1) := by decide +kernel
theorem dX6_checksum_34 : decode cX6_checksum 34 = .ok (.getfield 55, 3) := by decide +kernel
theorem dX6_checksum_37 : decode cX6_checksum 37 = .ok (.if_icmp .ge 26, 3) := by decide +kernel
theorem dX6_checksum_40 : decode cX6_checksum 40 = .ok (.ldc2_w 224, 3) := by decide +kernel
theorem dX6_checksum_43 : decode cX6_checksum 43 = .ok (.lload_n 1, 1) := by decide +kernel
theorem dX6_checksum_44 : decode cX6_checksum 44 = .ok (.lmul, 1) := by decide +kernel
theorem dX6_checksum_45 : decode cX6_checksum 45 = .ok (.aload_n 0, 1) := by decide +kernel
theorem dX6_checksum_46 : decode cX6_checksum 46 = .ok (.getfield 21, 3) := by decide +kernel
theorem dX6_checksum_49 : decode cX6_checksum 49 = .ok (.iload_n 3, 1) := by decide +kernel
theorem dX6_checksum_50 : decode cX6_checksum 50 = .ok (.aaload, 1) := by decide +kernel
theorem dX6_checksum_51 : decode cX6_checksum 51 = .ok (.iload 4, 2) := by decide +kernel
theorem dX6_checksum_53 : decode cX6_checksum 53 = .ok (.iaload, 1) := by decide +kernel
theorem dX6_checksum_54 : decode cX6_checksum 54 = .ok (.i2l, 1) := by decide +kernel
theorem dX6_checksum_55 : decode cX6_checksum 55 = .ok (.ladd, 1) := by decide +kernel
theorem dX6_checksum_56 : decode cX6_checksum 56 = .ok (.lstore_n 1, 1) := by decide +kernel
theorem dX6_checksum_57 : decode cX6_checksum 57 = .ok (.iinc 4 1, 3) := by decide +kernel
theorem dX6_checksum_60 : decode cX6_checksum 60 = .ok (.goto (-29), 3) := by decide +kernel
theorem dX6_checksum_63 : decode cX6_checksum 63 = .ok (.ldc2_w 224, 3) := by decide +kernel
theorem dX6_checksum_66 : decode cX6_checksum 66 = .ok (.lload_n 1, 1) := by decide +kernel
theorem dX6_checksum_67 : decode cX6_checksum 67 = .ok (.lmul, 1) := by decide +kernel
theorem dX6_checksum_68 : decode cX6_checksum 68 = .ok (.aload_n 0, 1) := by decide +kernel
theorem dX6_checksum_69 : decode cX6_checksum 69 = .ok (.getfield 16, 3) := by decide +kernel
theorem dX6_checksum_72 : decode cX6_checksum 72 = .ok (.iload_n 3, 1) := by decide +kernel
theorem dX6_checksum_73 : decode cX6_checksum 73 = .ok (.iaload, 1) := by decide +kernel
theorem dX6_checksum_74 : decode cX6_checksum 74 = .ok (.i2l, 1) := by decide +kernel
theorem dX6_checksum_75 : decode cX6_checksum 75 = .ok (.ladd, 1) := by decide +kernel
theorem dX6_checksum_76 : decode cX6_checksum 76 = .ok (.lstore_n 1, 1) := by decide +kernel
theorem dX6_checksum_77 : decode cX6_checksum 77 = .ok (.iinc 3 1, 3) := by decide +kernel
theorem dX6_checksum_80 : decode cX6_checksum 80 = .ok (.goto (-74), 3) := by decide +kernel
theorem dX6_checksum_83 : decode cX6_checksum 83 = .ok (.iconst 0, 1) := by decide +kernel
theorem dX6_checksum_84 : decode cX6_checksum 84 = .ok (.istore_n 3, 1) := by decide +kernel
theorem dX6_checksum_85 : decode cX6_checksum 85 = .ok (.iload_n 3, 1) := by decide +kernel
theorem dX6_checksum_86 : decode cX6_checksum 86 = .ok (.aload_n 0, 1) := by decide +kernel
theorem dX6_checksum_87 : decode cX6_checksum 87 = .ok (.getfield 55, 3) := by decide +kernel
theorem dX6_checksum_90 : decode cX6_checksum 90 = .ok (.if_icmp .ge 23, 3) := by decide +kernel
theorem dX6_checksum_93 : decode cX6_checksum 93 = .ok (.ldc2_w 224, 3) := by decide +kernel
theorem dX6_checksum_96 : decode cX6_checksum 96 = .ok (.lload_n 1, 1) := by decide +kernel
theorem dX6_checksum_97 : decode cX6_checksum 97 = .ok (.lmul, 1) := by decide +kernel
theorem dX6_checksum_98 : decode cX6_checksum 98 = .ok (.aload_n 0, 1) := by decide +kernel
theorem dX6_checksum_99 : decode cX6_checksum 99 = .ok (.getfield 13, 3) := by decide +kernel
theorem dX6_checksum_102 : decode cX6_checksum 102 = .ok (.iload_n 3, 1) := by decide +kernel
theorem dX6_checksum_103 : decode cX6_checksum 103 = .ok (.iaload, 1) := by decide +kernel
theorem dX6_checksum_104 : decode cX6_checksum 104 = .ok (.i2l, 1) := by decide +kernel
theorem dX6_checksum_105 : decode cX6_checksum 105 = .ok (.ladd, 1) := by decide +kernel
theorem dX6_checksum_106 : decode cX6_checksum 106 = .ok (.lstore_n 1, 1) := by decide +kernel
theorem dX6_checksum_107 : decode cX6_checksum 107 = .ok (.iinc 3 1, 3) := by decide +kernel
theorem dX6_checksum_110 : decode cX6_checksum 110 = .ok (.goto (-25), 3) := by decide +kernel
theorem dX6_checksum_113 : decode cX6_checksum 113 = .ok (.aload_n 0, 1) := by decide +kernel
theorem dX6_checksum_114 : decode cX6_checksum 114 = .ok (.getfield 27, 3) := by decide +kernel
theorem dX6_checksum_117 : decode cX6_checksum 117 = .ok (.invokeinterface 226 1, 5) := by decide +kernel
theorem dX6_checksum_122 : decode cX6_checksum 122 = .ok (.astore_n 3, 1) := by decide +kernel
theorem dX6_checksum_123 : decode cX6_checksum 123 = .ok (.aload_n 3, 1) := by decide +kernel
theorem dX6_checksum_124 : decode cX6_checksum 124 = .ok (.invokeinterface 230 1, 5) := by decide +kernel
theorem dX6_checksum_129 : decode cX6_checksum 129 = .ok (.ifCond .eq 48, 3) := by decide +kernel
theorem dX6_checksum_132 : decode cX6_checksum 132 = .ok (.aload_n 3, 1) := by decide +kernel
theorem dX6_checksum_133 : decode cX6_checksum 133 = .ok (.invokeinterface 235 1, 5) := by decide +kernel
theorem dX6_checksum_138 : decode cX6_checksum 138 = .ok (.checkcast 120, 3) := by decide +kernel
theorem dX6_checksum_141 : decode cX6_checksum 141 = .ok (.astore 4, 2) := by decide +kernel
theorem dX6_checksum_143 : decode cX6_checksum 143 = .ok (.iconst 0, 1) := by decide +kernel
theorem dX6_checksum_144 : decode cX6_checksum 144 = .ok (.istore 5, 2) := by decide +kernel
theorem dX6_checksum_146 : decode cX6_checksum 146 = .ok (.iload 5, 2) := by decide +kernel
theorem dX6_checksum_148 : decode cX6_checksum 148 = .ok (.aload_n 0, 1) := by decide +kernel
theorem dX6_checksum_149 : decode cX6_checksum 149 = .ok (.getfield 48, 3) := by decide +kernel
theorem dX6_checksum_152 : decode cX6_checksum 152 = .ok (.if_icmp .ge 22, 3) := by decide +kernel
theorem dX6_checksum_155 : decode cX6_checksum 155 = .ok (.ldc2_w 224, 3) := by decide +kernel
theorem dX6_checksum_158 : decode cX6_checksum 158 = .ok (.lload_n 1, 1) := by decide +kernel
theorem dX6_checksum_159 : decode cX6_checksum 159 = .ok (.lmul, 1) := by decide +kernel
theorem dX6_checksum_160 : decode cX6_checksum 160 = .ok (.aload 4, 2) := by decide +kernel
theorem dX6_checksum_162 : decode cX6_checksum 162 = .ok (.iload 5, 2) := by decide +kernel
theorem dX6_checksum_164 : decode cX6_checksum 164 = .ok (.iaload, 1) := by decide +kernel
theorem dX6_checksum_165 : decode cX6_checksum 165 = .ok (.i2l, 1) := by decide +kernel
theorem dX6_checksum_166 : decode cX6_checksum 166 = .ok (.ladd, 1) := by decide +kernel
theorem dX6_checksum_167 : decode cX6_checksum 167 = .ok (.lstore_n 1, 1) := by decide +kernel
theorem dX6_checksum_168 : decode cX6_checksum 168 = .ok (.iinc 5 1, 3) := by decide +kernel
theorem dX6_checksum_171 : decode cX6_checksum 171 = .ok (.goto (-25), 3) := by decide +kernel
theorem dX6_checksum_174 : decode cX6_checksum 174 = .ok (.goto (-51), 3) := by decide +kernel
theorem dX6_checksum_177 : decode cX6_checksum 177 = .ok (.lload_n 1, 1) := by decide +kernel
theorem dX6_checksum_178 : decode cX6_checksum 178 = .ok (.lreturn, 1) := by decide +kernel
theorem dX6_isTrue_0 : decode cX6_isTrue 0 = .ok (.iconst 1, 1) := by decide +kernel
theorem dX6_isTrue_1 : decode cX6_isTrue 1 = .ok (.ireturn, 1) := by decide +kernel
