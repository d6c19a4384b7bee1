set_option maxRecDepth 20000 in
theorem ggX0_init_J7_fill_53178 : GoodIn wsX0_init wsJ7_fill_53178 := goodIn_r _ [23] (by decide +kernel) (by decide +kernel)
set_option maxRecDepth 20000 in
theorem gX0_init_J7_fill_53178 : GoodIn wsX0_init (va_wsS RX0 54 yJ7_fill_53178 wsJ7_fill_53178) := goodIn_app (goodIn_of _ (by decide +kernel)) ggX0_init_J7_fill_53178
theorem dX0_init_0 : decode cX0_init 0 = .ok (.aload_n 0, 1) := by decide +kernel
theorem dX0_init_1 : decode cX0_init 1 = .ok (.invokespecial 1, 3) := by decide +kernel
theorem dX0_init_4 : decode cX0_init 4 = .ok (.aload_n 0, 1) := by decide +kernel
theorem dX0_init_5 : decode cX0_init 5 = .ok (.bipush 6, 2) := by decide +kernel
theorem dX0_init_7 : decode cX0_init 7 = .ok (.newarray .int, 2) := by decide +kernel
theorem dX0_init_9 : decode cX0_init 9 = .ok (.putfield 9, 3) := by decide +kernel
theorem dX0_init_12 : decode cX0_init 12 = .ok (.aload_n 0, 1) := by decide +kernel
theorem dX0_init_13 : decode cX0_init 13 = .ok (.bipush 6, 2) := by decide +kernel
theorem dX0_init_15 : decode cX0_init 15 = .ok (.newarray .int, 2) := by decide +kernel
theorem dX0_init_17 : decode cX0_init 17 = .ok (.putfield 13, 3) := by decide +kernel
theorem dX0_init_20 : decode cX0_init 20 = .ok (.aload_n 0, 1) := by decide +kernel
theorem dX0_init_21 : decode cX0_init 21 = .ok (.bipush 6, 2) := by decide +kernel
theorem dX0_init_23 : decode cX0_init 23 = .ok (.newarray .boolean, 2) := by decide +kernel
theorem dX0_init_25 : decode cX0_init 25 = .ok (.putfield 16, 3) := by decide +kernel
theorem dX0_init_28 : decode cX0_init 28 = .ok (.aload_n 0, 1) := by decide +kernel
theorem dX0_init_29 : decode cX0_init 29 = .ok (.bipush 8, 2) := by decide +kernel
theorem dX0_init_31 : decode cX0_init 31 = .ok (.newarray .int, 2) := by decide +kernel
theorem dX0_init_33 : decode cX0_init 33 = .ok (.putfield 20, 3) := by decide +kernel
theorem dX0_init_36 : decode cX0_init 36 = .ok (.aload_n 0, 1) := by decide +kernel
theorem dX0_init_37 : decode cX0_init 37 = .ok (.bipush 24, 2) := by decide +kernel
theorem dX0_init_39 : decode cX0_init 39 = .ok (.newarray .int, 2) := by decide +kernel
theorem dX0_init_41 : decode cX0_init 41 = .ok (.putfield 23, 3) := by decide +kernel
theorem dX0_init_44 : decode cX0_init 44 = .ok (.aload_n 0, 1) := by decide +kernel
theorem dX0_init_45 : decode cX0_init 45 = .ok (.bipush 24, 2) := by decide +kernel
theorem dX0_init_47 : decode cX0_init 47 = .ok (.newarray .int, 2) := by decide +kernel
theorem dX0_init_49 : decode cX0_init 49 = .ok (.putfield 26, 3) := by decide +kernel
theorem dX0_init_52 : decode cX0_init 52 = .ok (.aload_n 0, 1) := by decide +kernel
theorem dX0_init_53 : decode cX0_init 53 = .ok (.bipush 24, 2) := by decide +kernel
theorem dX0_init_55 : decode cX0_init 55 = .ok (.newarray .int, 2) := by decide +kernel
theorem dX0_init_57 : decode cX0_init 57 = .ok (.putfield 29, 3) := by decide +kernel
theorem dX0_init_60 : decode cX0_init 60 = .ok (.aload_n 0, 1) := by decide +kernel
theorem dX0_init_61 : decode cX0_init 61 = .ok (.bipush 24, 2) := by decide +kernel
theorem dX0_init_63 : decode cX0_init 63 = .ok (.newarray .int, 2) := by decide +kernel
theorem dX0_init_65 : decode cX0_init 65 = .ok (.putfield 32, 3) := by decide +kernel
theorem dX0_init_68 : decode cX0_init 68 = .ok (.aload_n 0, 1) := by decide +kernel
theorem dX0_init_69 : decode cX0_init 69 = .ok (.bipush 24, 2) := by decide +kernel
theorem dX0_init_71 : decode cX0_init 71 = .ok (.newarray .int, 2) := by decide +kernel
theorem dX0_init_73 : decode cX0_init 73 = .ok (.putfield 35, 3) := by decide +kernel
theorem dX0_init_76 : decode cX0_init 76 = .ok (.aload_n 0, 1) := by decide +kernel
theorem dX0_init_77 : decode cX0_init 77 = .ok (.bipush 24, 2) := by decide +kernel
theorem dX0_init_79 : decode cX0_init 79 = .ok (.newarray .int, 2) := by decide +kernel
theorem dX0_init_81 : decode cX0_init 81 = .ok (.putfield 38, 3) := by decide +kernel
theorem dX0_init_84 : decode cX0_init 84 = .ok (.aload_n 0, 1) := by decide +kernel
theorem dX0_init_85 : decode cX0_init 85 = .ok (.iconst 3, 1) := by decide +kernel
theorem dX0_init_86 : decode cX0_init 86 = .ok (.newarray .int, 2) := by decide +kernel
theorem dX0_init_88 : decode cX0_init 88 = .ok (.putfield 41, 3) := by decide +kernel
theorem dX0_init_91 : decode cX0_init 91 = .ok (.aload_n 0, 1) := by decide +kernel
theorem dX0_init_92 : decode cX0_init 92 = .ok (.bipush 18, 2) := by decide +kernel
theorem dX0_init_94 : decode cX0_init 94 = .ok (.newarray .boolean, 2) := by decide +kernel
theorem dX0_init_96 : decode cX0_init 96 = .ok (.putfield 44, 3) := by decide +kernel
theorem dX0_init_99 : decode cX0_init 99 = .ok (.aload_n 0, 1) := by decide +kernel
theorem dX0_init_100 : decode cX0_init 100 = .ok (.bipush 10, 2) := by decide +kernel
theorem dX0_init_102 : decode cX0_init 102 = .ok (.putfield 47, 3) := by decide +kernel
theorem dX0_init_105 : decode cX0_init 105 = .ok (.aload_n 0, 1) := by decide +kernel
theorem dX0_init_106 : decode cX0_init 106 = .ok (.bipush 6, 2) := by decide +kernel
theorem dX0_init_108 : decode cX0_init 108 = .ok (.newarray .int, 2) := by decide +kernel
theorem dX0_init_110 : decode cX0_init 110 = .ok (.putfield 51, 3) := by decide +kernel
theorem dX0_init_113 : decode cX0_init 113 = .ok (.aload_n 0, 1) := by decide +kernel
theorem dX0_init_114 : decode cX0_init 114 = .ok (.getfield 9, 3) := by decide +kernel
theorem dX0_init_117 : decode cX0_init 117 = .ok (.iconst (-1), 1) := by decide +kernel
theorem dX0_init_118 : decode cX0_init 118 = .ok (.invokestatic 54, 3) := by decide +kernel
theorem dX0_init_121 : decode cX0_init 121 = .ok (.aload_n 0, 1) := by decide +kernel
theorem dX0_init_122 : decode cX0_init 122 = .ok (.getfield 13, 3) := by decide +kernel
theorem dX0_init_125 : decode cX0_init 125 = .ok (.iconst (-1), 1) := by decide +kernel
theorem dX0_init_126 : decode cX0_init 126 = .ok (.invokestatic 54, 3) := by decide +kernel
theorem dX0_init_129 : decode cX0_init 129 = .ok (.return_, 1) := by decide +kernel
set_option maxRecDepth 20000 in
theorem ggX0_dress_X0_requirePlayer : GoodIn wsX0_dress wsX0_requirePlayer := goodIn_ca (goodIn_r _ [11, 12, 13, 14, 15, 10, 16] (by decide +kernel) (by decide +kernel)) (goodIn_sub (fun _ h => List.mem_cons_of_mem _ (List.mem_append_right _ h)) (by decide +kernel))
set_option maxRecDepth 20000 in
theorem gX0_dress_X0_requirePlayer : GoodIn wsX0_dress (va_wsS RX0 60 yX0_requirePlayer wsX0_requirePlayer) := goodIn_app (goodIn_of _ (by decide +kernel)) ggX0_dress_X0_requirePlayer
set_option maxRecDepth 20000 in
theorem ggX0_dress_X0_requireCostume : GoodIn wsX0_dress wsX0_requireCostume := goodIn_ca (goodIn_r _ [19, 12, 13, 14, 15, 10, 16] (by decide +kernel) (by decide +kernel)) (goodIn_sub (fun _ h => List.mem_cons_of_mem _ (List.mem_append_right _ h)) (by decide +kernel))
set_option maxRecDepth 20000 in
theorem gX0_dress_X0_requireCostume : GoodIn wsX0_dress (va_wsS RX0 64 yX0_requireCostume wsX0_requireCostume) := goodIn_app (goodIn_of _ (by decide +kernel)) ggX0_dress_X0_requireCostume
set_option maxRecDepth 20000 in
theorem ggX0_dress_X0_fits : GoodIn wsX0_dress wsX0_fits := goodIn_r _ [22, 23, 24, 25, 26] (by decide +kernel) (by decide +kernel)
set_option maxRecDepth 20000 in
theorem gX0_dress_X0_fits : GoodIn wsX0_dress (va_wsS RX0 67 yX0_fits wsX0_fits) := goodIn_app (goodIn_of _ (by decide +kernel)) ggX0_dress_X0_fits
set_option maxRecDepth 20000 in
theorem ggX0_dress_X0_playerIn : GoodIn wsX0_dress wsX0_playerIn := goodIn_r _ [30, 7, 31, 32, 10, 33, 34, 35, 36, 37, 38, 39, 40, 41, 42, 43, 44, 45, 46, 47, 48, 49, 50] (by decide +kernel) (by decide +kernel)
set_option maxRecDepth 20000 in
theorem gX0_dress_X0_playerIn : GoodIn wsX0_dress (wsV RX0 83 RX0 yX0_playerIn wsX0_playerIn) := goodIn_app (goodIn_of _ (by decide +kernel)) ggX0_dress_X0_playerIn
theorem dX0_dress_0 : decode cX0_dress 0 = .ok (.iload_n 1, 1) := by decide +kernel
theorem dX0_dress_1 : decode cX0_dress 1 = .ok (.invokestatic 60, 3) := by decide +kernel
theorem dX0_dress_4 : decode cX0_dress 4 = .ok (.iload_n 2, 1) := by decide +kernel
theorem dX0_dress_5 : decode cX0_dress 5 = .ok (.invokestatic 64, 3) := by decide +kernel
theorem dX0_dress_8 : decode cX0_dress 8 = .ok (.iload_n 2, 1) := by decide +kernel
theorem dX0_dress_9 : decode cX0_dress 9 = .ok (.iload_n 1, 1) := by decide +kernel
theorem dX0_dress_10 : decode cX0_dress 10 = .ok (.invokestatic 67, 3) := by decide +kernel
theorem dX0_dress_13 : decode cX0_dress 13 = .ok (.ifCond .ne 13, 3) := by decide +kernel
theorem dX0_dress_16 : decode cX0_dress 16 = .ok (.new 71, 3) := by decide +kernel
theorem dX0_dress_19 : decode cX0_dress 19 = .ok (.dup, 1) := by decide +kernel
theorem dX0_dress_20 : decode cX0_dress 20 = .ok (.ldc 73, 2) := by decide +kernel
theorem dX0_dress_22 : decode cX0_dress 22 = .ok (.invokespecial 75, 3) := by decide +kernel
theorem dX0_dress_25 : decode cX0_dress 25 = .ok (.athrow, 1) := by decide +kernel
theorem dX0_dress_26 : decode cX0_dress 26 = .ok (.aload_n 0, 1) := by decide +kernel
theorem dX0_dress_27 : decode cX0_dress 27 = .ok (.getfield 16, 3) := by decide +kernel
theorem dX0_dress_30 : decode cX0_dress 30 = .ok (.iload_n 1, 1) := by decide +kernel
theorem dX0_dress_31 : decode cX0_dress 31 = .ok (.baload, 1) := by decide +kernel
theorem dX0_dress_32 : decode cX0_dress 32 = .ok (.ifCond .eq 13, 3) := by decide +kernel
theorem dX0_dress_35 : decode cX0_dress 35 = .ok (.new 78, 3) := by decide +kernel
theorem dX0_dress_38 : decode cX0_dress 38 = .ok (.dup, 1) := by decide +kernel
theorem dX0_dress_39 : decode cX0_dress 39 = .ok (.ldc 80, 2) := by decide +kernel
theorem dX0_dress_41 : decode cX0_dress 41 = .ok (.invokespecial 82, 3) := by decide +kernel
theorem dX0_dress_44 : decode cX0_dress 44 = .ok (.athrow, 1) := by decide +kernel
theorem dX0_dress_45 : decode cX0_dress 45 = .ok (.aload_n 0, 1) := by decide +kernel
theorem dX0_dress_46 : decode cX0_dress 46 = .ok (.iload_n 2, 1) := by decide +kernel
theorem dX0_dress_47 : decode cX0_dress 47 = .ok (.invokevirtual 83, 3) := by decide +kernel
theorem dX0_dress_50 : decode cX0_dress 50 = .ok (.istore_n 3, 1) := by decide +kernel
theorem dX0_dress_51 : decode cX0_dress 51 = .ok (.iload_n 3, 1) := by decide +kernel
theorem dX0_dress_52 : decode cX0_dress 52 = .ok (.iconst (-1), 1) := by decide +kernel
theorem dX0_dress_53 : decode cX0_dress 53 = .ok (.if_icmp .eq 18, 3) := by decide +kernel
theorem dX0_dress_56 : decode cX0_dress 56 = .ok (.iload_n 3, 1) := by decide +kernel
theorem dX0_dress_57 : decode cX0_dress 57 = .ok (.iload_n 1, 1) := by decide +kernel
theorem dX0_dress_58 : decode cX0_dress 58 = .ok (.if_icmp .eq 13, 3) := by decide +kernel
theorem dX0_dress_61 : decode cX0_dress 61 = .ok (.new 78, 3) := by decide +kernel
theorem dX0_dress_64 : decode cX0_dress 64 = .ok (.dup, 1) := by decide +kernel
theorem dX0_dress_65 : decode cX0_dress 65 = .ok (.ldc 87, 2) := by decide +kernel
theorem dX0_dress_67 : decode cX0_dress 67 = .ok (.invokespecial 82, 3) := by decide +kernel
theorem dX0_dress_70 : decode cX0_dress 70 = .ok (.athrow, 1) := by decide +kernel
theorem dX0_dress_71 : decode cX0_dress 71 = .ok (.aload_n 0, 1) := by decide +kernel
theorem dX0_dress_72 : decode cX0_dress 72 = .ok (.getfield 20, 3) := by decide +kernel
theorem dX0_dress_75 : decode cX0_dress 75 = .ok (.iload_n 2, 1) := by decide +kernel
theorem dX0_dress_76 : decode cX0_dress 76 = .ok (.iaload, 1) := by decide +kernel
theorem dX0_dress_77 : decode cX0_dress 77 = .ok (.iconst 3, 1) := by decide +kernel
theorem dX0_dress_78 : decode cX0_dress 78 = .ok (.if_icmp .lt 13, 3) := by decide +kernel
theorem dX0_dress_81 : decode cX0_dress 81 = .ok (.new 78, 3) := by decide +kernel
theorem dX0_dress_84 : decode cX0_dress 84 = .ok (.dup, 1) := by decide +kernel
theorem dX0_dress_85 : decode cX0_dress 85 = .ok (.ldc 89, 2) := by decide +kernel
theorem dX0_dress_87 : decode cX0_dress 87 = .ok (.invokespecial 82, 3) := by decide +kernel
theorem dX0_dress_90 : decode cX0_dress 90 = .ok (.athrow, 1) := by decide +kernel
theorem dX0_dress_91 : decode cX0_dress 91 = .ok (.aload_n 0, 1) := by decide +kernel
theorem dX0_dress_92 : decode cX0_dress 92 = .ok (.getfield 9, 3) := by decide +kernel
theorem dX0_dress_95 : decode cX0_dress 95 = .ok (.iload_n 1, 1) := by decide +kernel
theorem dX0_dress_96 : decode cX0_dress 96 = .ok (.iaload, 1) := by decide +kernel
theorem dX0_dress_97 : decode cX0_dress 97 = .ok (.istore 4, 2) := by decide +kernel
theorem dX0_dress_99 : decode cX0_dress 99 = .ok (.aload_n 0, 1) := by decide +kernel
theorem dX0_dress_100 : decode cX0_dress 100 = .ok (.getfield 9, 3) := by decide +kernel
theorem dX0_dress_103 : decode cX0_dress 103 = .ok (.iload_n 1, 1) := by decide +kernel
theorem dX0_dress_104 : decode cX0_dress 104 = .ok (.iload_n 2, 1) := by decide +kernel
theorem dX0_dress_105 : decode cX0_dress 105 = .ok (.iastore, 1) := by decide +kernel
theorem dX0_dress_106 : decode cX0_dress 106 = .ok (.iload 4, 2) := by decide +kernel
theorem dX0_dress_108 : decode cX0_dress 108 = .ok (.ireturn, 1) := by decide +kernel
set_option maxRecDepth 20000 in
theorem ggX0_costumeOf_X0_requirePlayer : GoodIn wsX0_costumeOf wsX0_requirePlayer := goodIn_ca (goodIn_r _ [5, 6, 7, 8, 9, 4, 10] (by decide +kernel) (by decide +kernel)) (goodIn_sub (fun _ h => List.mem_cons_of_mem _ (List.mem_append_right _ h)) (by decide +kernel))
set_option maxRecDepth 20000 in
theorem gX0_costumeOf_X0_requirePlayer : GoodIn wsX0_costumeOf (va_wsS RX0 60 yX0_requirePlayer wsX0_requirePlayer) := goodIn_app (goodIn_of _ (by decide +kernel)) ggX0_costumeOf_X0_requirePlayer
theorem dX0_costumeOf_0 : decode cX0_costumeOf 0 = .ok (.iload_n 1, 1) := by decide +kernel
theorem dX0_costumeOf_1 : decode cX0_costumeOf 1 = .ok (.invokestatic 60, 3) := by decide +kernel
theorem dX0_costumeOf_4 : decode cX0_costumeOf 4 = .ok (.aload_n 0, 1) := by decide +kernel
theorem dX0_costumeOf_5 : decode cX0_costumeOf 5 = .ok (.getfield 9, 3) := by decide +kernel
theorem dX0_costumeOf_8 : decode cX0_costumeOf 8 = .ok (.iload_n 1, 1) := by decide +kernel
theorem dX0_costumeOf_9 : decode cX0_costumeOf 9 = .ok (.iaload, 1) := by decide +kernel
theorem dX0_costumeOf_10 : decode cX0_costumeOf 10 = .ok (.ireturn, 1) := by decide +kernel
set_option maxRecDepth 20000 in
theorem ggX0_wear_X0_requireCostume : GoodIn wsX0_wear wsX0_requireCostume := goodIn_ca (goodIn_r _ [5, 6, 7, 8, 9, 4, 10] (by decide +kernel) (by decide +kernel)) (goodIn_sub (fun _ h => List.mem_cons_of_mem _ (List.mem_append_right _ h)) (by decide +kernel))
set_option maxRecDepth 20000 in
theorem gX0_wear_X0_requireCostume : GoodIn wsX0_wear (va_wsS RX0 64 yX0_requireCostume wsX0_requireCostume) := goodIn_app (goodIn_of _ (by decide +kernel)) ggX0_wear_X0_requireCostume
theorem dX0_wear_0 : decode cX0_wear 0 = .ok (.iload_n 1, 1) := by decide +kernel
theorem dX0_wear_1 : decode cX0_wear 1 = .ok (.invokestatic 64, 3) := by decide +kernel
theorem dX0_wear_4 : decode cX0_wear 4 = .ok (.aload_n 0, 1) := by decide +kernel
theorem dX0_wear_5 : decode cX0_wear 5 = .ok (.getfield 20, 3) := by decide +kernel
theorem dX0_wear_8 : decode cX0_wear 8 = .ok (.iload_n 1, 1) := by decide +kernel
theorem dX0_wear_9 : decode cX0_wear 9 = .ok (.iaload, 1) := by decide +kernel
theorem dX0_wear_10 : decode cX0_wear 10 = .ok (.ireturn, 1) := by decide +kernel
theorem dX0_purse_0 : decode cX0_purse 0 = .ok (.aload_n 0, 1) := by decide +kernel
theorem dX0_purse_1 : decode cX0_purse 1 = .ok (.getfield 47, 3) := by decide +kernel
theorem dX0_purse_4 : decode cX0_purse 4 = .ok (.ireturn, 1) := by decide +kernel
set_option maxRecDepth 20000 in
theorem ggX0_addCue_X0_requirePlayer : GoodIn wsX0_addCue wsX0_requirePlayer := goodIn_ca (goodIn_r _ [14, 15, 16, 17, 18, 13, 19] (by decide +kernel) (by decide +kernel)) (goodIn_sub (fun _ h => List.mem_cons_of_mem _ (List.mem_append_right _ h)) (by decide +kernel))
set_option maxRecDepth 20000 in
theorem gX0_addCue_X0_requirePlayer : GoodIn wsX0_addCue (va_wsS RX0 60 yX0_requirePlayer wsX0_requirePlayer) := goodIn_app (goodIn_of _ (by decide +kernel)) ggX0_addCue_X0_requirePlayer
set_option maxRecDepth 20000 in
theorem ggX0_addCue_X0_requireOther : GoodIn wsX0_addCue wsX0_requireOther := goodIn_ca (goodIn_r _ [22, 23, 24, 13, 25, 15, 16, 17, 18, 19, 11, 12, 14] (by decide +kernel) (by decide +kernel)) (goodIn_sub (fun _ h => List.mem_cons_of_mem _ (List.mem_append_right _ h)) (by decide +kernel))
set_option maxRecDepth 20000 in
theorem gX0_addCue_X0_requireOther : GoodIn wsX0_addCue (va_wsS RX0 97 yX0_requireOther wsX0_requireOther) := goodIn_app (goodIn_of _ (by decide +kernel)) ggX0_addCue_X0_requireOther
set_option maxRecDepth 20000 in
theorem ggX0_addCue_X0_requireCue : GoodIn wsX0_addCue wsX0_requireCue := goodIn_ca (goodIn_r _ [29, 15, 16, 5, 17, 18, 13, 19, 30, 31, 32, 33, 34, 35, 36, 37, 38, 39, 40, 41, 42, 43, 44, 45, 46] (by decide +kernel) (by decide +kernel)) (goodIn_sub (fun _ h => List.mem_cons_of_mem _ (List.mem_append_right _ h)) (by decide +kernel))
set_option maxRecDepth 20000 in
theorem gX0_addCue_X0_requireCue : GoodIn wsX0_addCue (wsV RX0 101 RX0 yX0_requireCue wsX0_requireCue) := goodIn_app (goodIn_of _ (by decide +kernel)) ggX0_addCue_X0_requireCue
theorem dX0_addCue_0 : decode cX0_addCue 0 = .ok (.iload_n 1, 1) := by decide +kernel
theorem dX0_addCue_1 : decode cX0_addCue 1 = .ok (.ifCond .lt 8, 3) := by decide +kernel
theorem dX0_addCue_4 : decode cX0_addCue 4 = .ok (.iload_n 1, 1) := by decide +kernel
theorem dX0_addCue_5 : decode cX0_addCue 5 = .ok (.iconst 4, 1) := by decide +kernel
theorem dX0_addCue_6 : decode cX0_addCue 6 = .ok (.if_icmp .le 13, 3) := by decide +kernel
theorem dX0_addCue_9 : decode cX0_addCue 9 = .ok (.new 71, 3) := by decide +kernel
theorem dX0_addCue_12 : decode cX0_addCue 12 = .ok (.dup, 1) := by decide +kernel
theorem dX0_addCue_13 : decode cX0_addCue 13 = .ok (.ldc 95, 2) := by decide +kernel
theorem dX0_addCue_15 : decode cX0_addCue 15 = .ok (.invokespecial 75, 3) := by decide +kernel
theorem dX0_addCue_18 : decode cX0_addCue 18 = .ok (.athrow, 1) := by decide +kernel
theorem dX0_addCue_19 : decode cX0_addCue 19 = .ok (.iload_n 2, 1) := by decide +kernel
theorem dX0_addCue_20 : decode cX0_addCue 20 = .ok (.invokestatic 60, 3) := by decide +kernel
theorem dX0_addCue_23 : decode cX0_addCue 23 = .ok (.iload_n 1, 1) := by decide +kernel
theorem dX0_addCue_24 : decode cX0_addCue 24 = .ok (.iload_n 3, 1) := by decide +kernel
theorem dX0_addCue_25 : decode cX0_addCue 25 = .ok (.invokestatic 97, 3) := by decide +kernel
theorem dX0_addCue_28 : decode cX0_addCue 28 = .ok (.iload 4, 2) := by decide +kernel
theorem dX0_addCue_30 : decode cX0_addCue 30 = .ok (.iconst (-1), 1) := by decide +kernel
theorem dX0_addCue_31 : decode cX0_addCue 31 = .ok (.if_icmp .eq 9, 3) := by decide +kernel
theorem dX0_addCue_34 : decode cX0_addCue 34 = .ok (.aload_n 0, 1) := by decide +kernel
theorem dX0_addCue_35 : decode cX0_addCue 35 = .ok (.iload 4, 2) := by decide +kernel
theorem dX0_addCue_37 : decode cX0_addCue 37 = .ok (.invokevirtual 101, 3) := by decide +kernel
theorem dX0_addCue_40 : decode cX0_addCue 40 = .ok (.aload_n 0, 1) := by decide +kernel
theorem dX0_addCue_41 : decode cX0_addCue 41 = .ok (.getfield 104, 3) := by decide +kernel
theorem dX0_addCue_44 : decode cX0_addCue 44 = .ok (.bipush 24, 2) := by decide +kernel
theorem dX0_addCue_46 : decode cX0_addCue 46 = .ok (.if_icmp .lt 13, 3) := by decide +kernel
theorem dX0_addCue_49 : decode cX0_addCue 49 = .ok (.new 78, 3) := by decide +kernel
theorem dX0_addCue_52 : decode cX0_addCue 52 = .ok (.dup, 1) := by decide +kernel
theorem dX0_addCue_53 : decode cX0_addCue 53 = .ok (.ldc 107, 2) := by decide +kernel
theorem dX0_addCue_55 : decode cX0_addCue 55 = .ok (.invokespecial 82, 3) := by decide +kernel
theorem dX0_addCue_58 : decode cX0_addCue 58 = .ok (.athrow, 1) := by decide +kernel
theorem dX0_addCue_59 : decode cX0_addCue 59 = .ok (.iload_n 1, 1) := by decide +kernel
theorem dX0_addCue_60 : decode cX0_addCue 60 = .ok (.iconst 4, 1) := by decide +kernel
theorem dX0_addCue_61 : decode cX0_addCue 61 = .ok (.if_icmp .ne 18, 3) := by decide +kernel
theorem dX0_addCue_64 : decode cX0_addCue 64 = .ok (.iload_n 2, 1) := by decide +kernel
theorem dX0_addCue_65 : decode cX0_addCue 65 = .ok (.iload_n 3, 1) := by decide +kernel
theorem dX0_addCue_66 : decode cX0_addCue 66 = .ok (.if_icmp .ne 13, 3) := by decide +kernel
theorem dX0_addCue_69 : decode cX0_addCue 69 = .ok (.new 78, 3) := by decide +kernel
theorem dX0_addCue_72 : decode cX0_addCue 72 = .ok (.dup, 1) := by decide +kernel
theorem dX0_addCue_73 : decode cX0_addCue 73 = .ok (.ldc 109, 2) := by decide +kernel
theorem dX0_addCue_75 : decode cX0_addCue 75 = .ok (.invokespecial 82, 3) := by decide +kernel
theorem dX0_addCue_78 : decode cX0_addCue 78 = .ok (.athrow, 1) := by decide +kernel
theorem dX0_addCue_79 : decode cX0_addCue 79 = .ok (.iload 4, 2) := by decide +kernel
theorem dX0_addCue_81 : decode cX0_addCue 81 = .ok (.iconst (-1), 1) := by decide +kernel
theorem dX0_addCue_82 : decode cX0_addCue 82 = .ok (.if_icmp .eq 24, 3) := by decide +kernel
theorem dX0_addCue_85 : decode cX0_addCue 85 = .ok (.aload_n 0, 1) := by decide +kernel
theorem dX0_addCue_86 : decode cX0_addCue 86 = .ok (.getfield 35, 3) := by decide +kernel
theorem dX0_addCue_89 : decode cX0_addCue 89 = .ok (.iload 4, 2) := by decide +kernel
theorem dX0_addCue_91 : decode cX0_addCue 91 = .ok (.iaload, 1) := by decide +kernel
theorem dX0_addCue_92 : decode cX0_addCue 92 = .ok (.iconst 2, 1) := by decide +kernel
theorem dX0_addCue_93 : decode cX0_addCue 93 = .ok (.if_icmp .ne 13, 3) := by decide +kernel
theorem dX0_addCue_96 : decode cX0_addCue 96 = .ok (.new 78, 3) := by decide +kernel
theorem dX0_addCue_99 : decode cX0_addCue 99 = .ok (.dup, 1) := by decide +kernel
theorem dX0_addCue_100 : decode cX0_addCue 100 = .ok (.ldc 111, 2) := by decide +kernel
theorem dX0_addCue_102 : decode cX0_addCue 102 = .ok (.invokespecial 82, 3) := by decide +kernel
theorem dX0_addCue_105 : decode cX0_addCue 105 = .ok (.athrow, 1) := by decide +kernel
theorem dX0_addCue_106 : decode cX0_addCue 106 = .ok (.aload_n 0, 1) := by decide +kernel
theorem dX0_addCue_107 : decode cX0_addCue 107 = .ok (.getfield 104, 3) := by decide +kernel
theorem dX0_addCue_110 : decode cX0_addCue 110 = .ok (.istore 5, 2) := by decide +kernel
theorem dX0_addCue_112 : decode cX0_addCue 112 = .ok (.aload_n 0, 1) := by decide +kernel
theorem dX0_addCue_113 : decode cX0_addCue 113 = .ok (.getfield 23, 3) := by decide +kernel
theorem dX0_addCue_116 : decode cX0_addCue 116 = .ok (.iload 5, 2) := by decide +kernel
theorem dX0_addCue_118 : decode cX0_addCue 118 = .ok (.iload_n 1, 1) := by decide +kernel
theorem dX0_addCue_119 : decode cX0_addCue 119 = .ok (.iastore, 1) := by decide +kernel
theorem dX0_addCue_120 : decode cX0_addCue 120 = .ok (.aload_n 0, 1) := by decide +kernel
theorem dX0_addCue_121 : decode cX0_addCue 121 = .ok (.getfield 26, 3) := by decide +kernel
theorem dX0_addCue_124 : decode cX0_addCue 124 = .ok (.iload 5, 2) := by decide +kernel
theorem dX0_addCue_126 : decode cX0_addCue 126 = .ok (.iload_n 2, 1) := by decide +kernel
theorem dX0_addCue_127 : decode cX0_addCue 127 = .ok (.iastore, 1) := by decide +kernel
theorem dX0_addCue_128 : decode cX0_addCue 128 = .ok (.aload_n 0, 1) := by decide +kernel
theorem dX0_addCue_129 : decode cX0_addCue 129 = .ok (.getfield 29, 3) := by decide +kernel
theorem dX0_addCue_132 : decode cX0_addCue 132 = .ok (.iload 5, 2) := by decide +kernel
theorem dX0_addCue_134 : decode cX0_addCue 134 = .ok (.iload_n 3, 1) := by decide +kernel
theorem dX0_addCue_135 : decode cX0_addCue 135 = .ok (.iastore, 1) := by decide +kernel
theorem dX0_addCue_136 : decode cX0_addCue 136 = .ok (.aload_n 0, 1) := by decide +kernel
theorem dX0_addCue_137 : decode cX0_addCue 137 = .ok (.getfield 32, 3) := by decide +kernel
theorem dX0_addCue_140 : decode cX0_addCue 140 = .ok (.iload 5, 2) := by decide +kernel
theorem dX0_addCue_142 : decode cX0_addCue 142 = .ok (.iload 4, 2) := by decide +kernel
theorem dX0_addCue_144 : decode cX0_addCue 144 = .ok (.iastore, 1) := by decide +kernel
theorem dX0_addCue_145 : decode cX0_addCue 145 = .ok (.aload_n 0, 1) := by decide +kernel
theorem dX0_addCue_146 : decode cX0_addCue 146 = .ok (.getfield 35, 3) := by decide +kernel
theorem dX0_addCue_149 : decode cX0_addCue 149 = .ok (.iload 5, 2) := by decide +kernel
theorem dX0_addCue_151 : decode cX0_addCue 151 = .ok (.iconst 0, 1) := by decide +kernel
theorem dX0_addCue_152 : decode cX0_addCue 152 = .ok (.iastore, 1) := by decide +kernel
theorem dX0_addCue_153 : decode cX0_addCue 153 = .ok (.aload_n 0, 1) := by decide +kernel
theorem dX0_addCue_154 : decode cX0_addCue 154 = .ok (.dup, 1) := by decide +kernel
theorem dX0_addCue_155 : decode cX0_addCue 155 = .ok (.getfield 104, 3) := by decide +kernel
theorem dX0_addCue_158 : decode cX0_addCue 158 = .ok (.iconst 1, 1) := by decide +kernel
theorem dX0_addCue_159 : decode cX0_addCue 159 = .ok (.iadd, 1) := by decide +kernel
theorem dX0_addCue_160 : decode cX0_addCue 160 = .ok (.putfield 104, 3) := by decide +kernel
theorem dX0_addCue_163 : decode cX0_addCue 163 = .ok (.iload 5, 2) := by decide +kernel
theorem dX0_addCue_165 : decode cX0_addCue 165 = .ok (.ireturn, 1) := by decide +kernel
set_option maxRecDepth 20000 in
theorem ggX0_canCall_X0_requireCue : GoodIn wsX0_canCall wsX0_requireCue := goodIn_ca (goodIn_r _ [5, 6, 7, 8, 9, 10, 4, 11, 43, 44, 45, 46, 47, 48, 49, 50, 51, 52, 53, 54, 55, 56, 57, 58, 59] (by decide +kernel) (by decide +kernel)) (goodIn_sub (fun _ h => List.mem_cons_of_mem _ (List.mem_append_right _ h)) (by decide +kernel))
set_option maxRecDepth 20000 in
theorem gX0_canCall_X0_requireCue : GoodIn wsX0_canCall (wsV RX0 101 RX0 yX0_requireCue wsX0_requireCue) := goodIn_app (goodIn_of _ (by decide +kernel)) ggX0_canCall_X0_requireCue
set_option maxRecDepth 20000 in
theorem ggX0_canCall_X0_isCallable : GoodIn wsX0_canCall wsX0_isCallable := goodIn_r _ [15, 16, 17, 18, 19, 4, 20, 21, 22, 23, 24, 25, 26, 27, 28, 29, 30, 31, 32, 33, 34, 35, 36, 37, 38, 39, 40, 41, 42, 43, 44, 45, 46, 47, 48, 49, 50, 51, 52, 53, 54, 55, 56, 57, 58, 59] (by decide +kernel) (by decide +kernel)
set_option maxRecDepth 20000 in
theorem gX0_canCall_X0_isCallable : GoodIn wsX0_canCall (wsV RX0 113 RX0 yX0_isCallable wsX0_isCallable) := goodIn_app (goodIn_of _ (by decide +kernel)) ggX0_canCall_X0_isCallable
theorem dX0_canCall_0 : decode cX0_canCall 0 = .ok (.aload_n 0, 1) := by decide +kernel
theorem dX0_canCall_1 : decode cX0_canCall 1 = .ok (.iload_n 1, 1) := by decide +kernel
theorem dX0_canCall_2 : decode cX0_canCall 2 = .ok (.invokevirtual 101, 3) := by decide +kernel
theorem dX0_canCall_5 : decode cX0_canCall 5 = .ok (.aload_n 0, 1) := by decide +kernel
theorem dX0_canCall_6 : decode cX0_canCall 6 = .ok (.iload_n 1, 1) := by decide +kernel
theorem dX0_canCall_7 : decode cX0_canCall 7 = .ok (.invokevirtual 113, 3) := by decide +kernel
theorem dX0_canCall_10 : decode cX0_canCall 10 = .ok (.ireturn, 1) := by decide +kernel
set_option maxRecDepth 20000 in
theorem ggX0_call_X0_requireCue : GoodIn wsX0_call wsX0_requireCue := goodIn_ca (goodIn_r _ [8, 9, 10, 11, 12, 13, 7, 14, 64, 65, 66, 67, 68, 69, 70, 71, 72, 73, 74, 75, 76, 77, 78, 79, 80] (by decide +kernel) (by decide +kernel)) (goodIn_sub (fun _ h => List.mem_cons_of_mem _ (List.mem_append_right _ h)) (by decide +kernel))
set_option maxRecDepth 20000 in
theorem gX0_call_X0_requireCue : GoodIn wsX0_call (wsV RX0 101 RX0 yX0_requireCue wsX0_requireCue) := goodIn_app (goodIn_of _ (by decide +kernel)) ggX0_call_X0_requireCue
set_option maxRecDepth 20000 in
theorem ggX0_call_X0_isCallable : GoodIn wsX0_call wsX0_isCallable := goodIn_r _ [18, 19, 20, 21, 22, 7, 23, 24, 25, 26, 27, 28, 29, 30, 31, 32, 33, 34, 35, 36, 37, 38, 39, 40, 41, 42, 43, 44, 45, 64, 65, 66, 67, 68, 69, 70, 71, 72, 73, 74, 75, 76, 77, 78, 79, 80] (by decide +kernel) (by decide +kernel)
set_option maxRecDepth 20000 in
theorem gX0_call_X0_isCallable : GoodIn wsX0_call (wsV RX0 113 RX0 yX0_isCallable wsX0_isCallable) := goodIn_app (goodIn_of _ (by decide +kernel)) ggX0_call_X0_isCallable
set_option maxRecDepth 20000 in
theorem ggX0_call_X0_carryOut : GoodIn wsX0_call wsX0_carryOut := goodIn_r _ [49, 29, 31, 32, 34, 19, 50, 51, 52, 7, 53, 33, 54, 55, 56, 57, 58, 30, 59, 60, 61, 62, 3, 63, 64, 65, 66, 67, 68, 69, 70, 71, 72, 73, 74, 75, 76, 77, 78, 79, 80] (by decide +kernel) (by decide +kernel)
set_option maxRecDepth 20000 in
theorem gX0_call_X0_carryOut : GoodIn wsX0_call (wsV RX0 119 RX0 yX0_carryOut wsX0_carryOut) := goodIn_app (goodIn_of _ (by decide +kernel)) ggX0_call_X0_carryOut
theorem dX0_call_0 : decode cX0_call 0 = .ok (.aload_n 0, 1) := by decide +kernel
theorem dX0_call_1 : decode cX0_call 1 = .ok (.iload_n 1, 1) := by decide +kernel
theorem dX0_call_2 : decode cX0_call 2 = .ok (.invokevirtual 101, 3) := by decide +kernel
theorem dX0_call_5 : decode cX0_call 5 = .ok (.aload_n 0, 1) := by decide +kernel
theorem dX0_call_6 : decode cX0_call 6 = .ok (.iload_n 1, 1) := by decide +kernel
theorem dX0_call_7 : decode cX0_call 7 = .ok (.invokevirtual 113, 3) := by decide +kernel
theorem dX0_call_10 : decode cX0_call 10 = .ok (.ifCond .ne 13, 3) := by decide +kernel
theorem dX0_call_13 : decode cX0_call 13 = .ok (.new 78, 3) := by decide +kernel
theorem dX0_call_16 : decode cX0_call 16 = .ok (.dup, 1) := by decide +kernel
theorem dX0_call_17 : decode cX0_call 17 = .ok (.ldc 117, 2) := by decide +kernel
theorem dX0_call_19 : decode cX0_call 19 = .ok (.invokespecial 82, 3) := by decide +kernel
theorem dX0_call_22 : decode cX0_call 22 = .ok (.athrow, 1) := by decide +kernel
theorem dX0_call_23 : decode cX0_call 23 = .ok (.aload_n 0, 1) := by decide +kernel
theorem dX0_call_24 : decode cX0_call 24 = .ok (.iload_n 1, 1) := by decide +kernel
theorem dX0_call_25 : decode cX0_call 25 = .ok (.invokevirtual 119, 3) := by decide +kernel
theorem dX0_call_28 : decode cX0_call 28 = .ok (.aload_n 0, 1) := by decide +kernel
theorem dX0_call_29 : decode cX0_call 29 = .ok (.getfield 122, 3) := by decide +kernel
theorem dX0_call_32 : decode cX0_call 32 = .ok (.ireturn, 1) := by decide +kernel
set_option maxRecDepth 20000 in
theorem ggX0_run_X0_firstCallable : GoodIn wsX0_run wsX0_firstCallable := goodIn_r _ [6, 7, 8, 9, 10, 5, 11, 12, 13, 14, 15, 16, 17, 18, 19, 20, 21, 22, 23, 24, 25, 26, 27, 28, 29, 30, 31, 32, 33, 34, 35, 36, 37, 38, 57, 58, 59, 60, 61, 62, 63, 64, 65, 66, 67, 68, 69, 70, 71, 72, 73] (by decide +kernel) (by decide +kernel)
set_option maxRecDepth 20000 in
theorem gX0_run_X0_firstCallable : GoodIn wsX0_run (wsV RX0 125 RX0 yX0_firstCallable wsX0_firstCallable) := goodIn_app (goodIn_of _ (by decide +kernel)) ggX0_run_X0_firstCallable
set_option maxRecDepth 20000 in
theorem ggX0_run_X0_carryOut : GoodIn wsX0_run wsX0_carryOut := goodIn_r _ [42, 22, 24, 25, 27, 12, 43, 44, 45, 5, 46, 26, 47, 48, 49, 50, 51, 23, 52, 53, 54, 55, 1, 56, 57, 58, 59, 60, 61, 62, 63, 64, 65, 66, 67, 68, 69, 70, 71, 72, 73] (by decide +kernel) (by decide +kernel)
set_option maxRecDepth 20000 in
theorem gX0_run_X0_carryOut : GoodIn wsX0_run (wsV RX0 119 RX0 yX0_carryOut wsX0_carryOut) := goodIn_app (goodIn_of _ (by decide +kernel)) ggX0_run_X0_carryOut
theorem dX0_run_0 : decode cX0_run 0 = .ok (.aload_n 0, 1) := by decide +kernel
theorem dX0_run_1 : decode cX0_run 1 = .ok (.getfield 122, 3) := by decide +kernel
theorem dX0_run_4 : decode cX0_run 4 = .ok (.istore_n 1, 1) := by decide +kernel
theorem dX0_run_5 : decode cX0_run 5 = .ok (.aload_n 0, 1) := by decide +kernel
theorem dX0_run_6 : decode cX0_run 6 = .ok (.invokevirtual 125, 3) := by decide +kernel
theorem dX0_run_9 : decode cX0_run 9 = .ok (.istore_n 2, 1) := by decide +kernel
theorem dX0_run_10 : decode cX0_run 10 = .ok (.iconst 0, 1) := by decide +kernel
theorem dX0_run_11 : decode cX0_run 11 = .ok (.istore_n 3, 1) := by decide +kernel
theorem dX0_run_12 : decode cX0_run 12 = .ok (.iload_n 3, 1) := by decide +kernel
theorem dX0_run_13 : decode cX0_run 13 = .ok (.bipush 24, 2) := by decide +kernel
theorem dX0_run_15 : decode cX0_run 15 = .ok (.if_icmp .ge 24, 3) := by decide +kernel
theorem dX0_run_18 : decode cX0_run 18 = .ok (.iload_n 2, 1) := by decide +kernel
theorem dX0_run_19 : decode cX0_run 19 = .ok (.iconst (-1), 1) := by decide +kernel
theorem dX0_run_20 : decode cX0_run 20 = .ok (.if_icmp .eq 19, 3) := by decide +kernel
theorem dX0_run_23 : decode cX0_run 23 = .ok (.aload_n 0, 1) := by decide +kernel
theorem dX0_run_24 : decode cX0_run 24 = .ok (.iload_n 2, 1) := by decide +kernel
theorem dX0_run_25 : decode cX0_run 25 = .ok (.invokevirtual 119, 3) := by decide +kernel
theorem dX0_run_28 : decode cX0_run 28 = .ok (.aload_n 0, 1) := by decide +kernel
theorem dX0_run_29 : decode cX0_run 29 = .ok (.invokevirtual 125, 3) := by decide +kernel
theorem dX0_run_32 : decode cX0_run 32 = .ok (.istore_n 2, 1) := by decide +kernel
theorem dX0_run_33 : decode cX0_run 33 = .ok (.iinc 3 1, 3) := by decide +kernel
theorem dX0_run_36 : decode cX0_run 36 = .ok (.goto (-24), 3) := by decide +kernel
theorem dX0_run_39 : decode cX0_run 39 = .ok (.aload_n 0, 1) := by decide +kernel
theorem dX0_run_40 : decode cX0_run 40 = .ok (.getfield 122, 3) := by decide +kernel
theorem dX0_run_43 : decode cX0_run 43 = .ok (.iload_n 1, 1) := by decide +kernel
theorem dX0_run_44 : decode cX0_run 44 = .ok (.isub, 1) := by decide +kernel
theorem dX0_run_45 : decode cX0_run 45 = .ok (.ireturn, 1) := by decide +kernel
set_option maxRecDepth 20000 in
theorem ggX0_miss_X0_requireCue : GoodIn wsX0_miss wsX0_requireCue := goodIn_ca (goodIn_r _ [9, 10, 11, 4, 12, 13, 8, 14, 20, 21, 22, 23, 24, 25, 26, 27, 28, 29, 30, 31, 32, 33, 34, 35, 36] (by decide +kernel) (by decide +kernel)) (goodIn_sub (fun _ h => List.mem_cons_of_mem _ (List.mem_append_right _ h)) (by decide +kernel))
set_option maxRecDepth 20000 in
theorem gX0_miss_X0_requireCue : GoodIn wsX0_miss (wsV RX0 101 RX0 yX0_requireCue wsX0_requireCue) := goodIn_app (goodIn_of _ (by decide +kernel)) ggX0_miss_X0_requireCue
set_option maxRecDepth 20000 in
theorem ggX0_miss_X0_waitsForMissed : GoodIn wsX0_miss wsX0_waitsForMissed := goodIn_r _ [18, 19, 3, 20, 21, 22, 23, 24, 25, 26, 27, 28, 29, 30, 31, 32, 33, 34, 35, 36] (by decide +kernel) (by decide +kernel)
set_option maxRecDepth 20000 in
theorem gX0_miss_X0_waitsForMissed : GoodIn wsX0_miss (wsV RX0 131 RX0 yX0_waitsForMissed wsX0_waitsForMissed) := goodIn_app (goodIn_of _ (by decide +kernel)) ggX0_miss_X0_waitsForMissed
theorem dX0_miss_0 : decode cX0_miss 0 = .ok (.aload_n 0, 1) := by decide +kernel
theorem dX0_miss_1 : decode cX0_miss 1 = .ok (.iload_n 1, 1) := by decide +kernel
theorem dX0_miss_2 : decode cX0_miss 2 = .ok (.invokevirtual 101, 3) := by decide +kernel
theorem dX0_miss_5 : decode cX0_miss 5 = .ok (.aload_n 0, 1) := by decide +kernel
theorem dX0_miss_6 : decode cX0_miss 6 = .ok (.getfield 35, 3) := by decide +kernel
theorem dX0_miss_9 : decode cX0_miss 9 = .ok (.iload_n 1, 1) := by decide +kernel
theorem dX0_miss_10 : decode cX0_miss 10 = .ok (.iaload, 1) := by decide +kernel
theorem dX0_miss_11 : decode cX0_miss 11 = .ok (.ifCond .eq 13, 3) := by decide +kernel
theorem dX0_miss_14 : decode cX0_miss 14 = .ok (.new 78, 3) := by decide +kernel
theorem dX0_miss_17 : decode cX0_miss 17 = .ok (.dup, 1) := by decide +kernel
theorem dX0_miss_18 : decode cX0_miss 18 = .ok (.ldc 129, 2) := by decide +kernel
theorem dX0_miss_20 : decode cX0_miss 20 = .ok (.invokespecial 82, 3) := by decide +kernel
theorem dX0_miss_23 : decode cX0_miss 23 = .ok (.athrow, 1) := by decide +kernel
theorem dX0_miss_24 : decode cX0_miss 24 = .ok (.aload_n 0, 1) := by decide +kernel
theorem dX0_miss_25 : decode cX0_miss 25 = .ok (.getfield 35, 3) := by decide +kernel
theorem dX0_miss_28 : decode cX0_miss 28 = .ok (.iload_n 1, 1) := by decide +kernel
theorem dX0_miss_29 : decode cX0_miss 29 = .ok (.iconst 2, 1) := by decide +kernel
theorem dX0_miss_30 : decode cX0_miss 30 = .ok (.iastore, 1) := by decide +kernel
theorem dX0_miss_31 : decode cX0_miss 31 = .ok (.iconst 1, 1) := by decide +kernel
theorem dX0_miss_32 : decode cX0_miss 32 = .ok (.istore_n 2, 1) := by decide +kernel
theorem dX0_miss_33 : decode cX0_miss 33 = .ok (.iload_n 1, 1) := by decide +kernel
theorem dX0_miss_34 : decode cX0_miss 34 = .ok (.iconst 1, 1) := by decide +kernel
theorem dX0_miss_35 : decode cX0_miss 35 = .ok (.iadd, 1) := by decide +kernel
theorem dX0_miss_36 : decode cX0_miss 36 = .ok (.istore_n 3, 1) := by decide +kernel
theorem dX0_miss_37 : decode cX0_miss 37 = .ok (.iload_n 3, 1) := by decide +kernel
theorem dX0_miss_38 : decode cX0_miss 38 = .ok (.aload_n 0, 1) := by decide +kernel
theorem dX0_miss_39 : decode cX0_miss 39 = .ok (.getfield 104, 3) := by decide +kernel
theorem dX0_miss_42 : decode cX0_miss 42 = .ok (.if_icmp .ge 36, 3) := by decide +kernel
theorem dX0_miss_45 : decode cX0_miss 45 = .ok (.aload_n 0, 1) := by decide +kernel
theorem dX0_miss_46 : decode cX0_miss 46 = .ok (.getfield 35, 3) := by decide +kernel
theorem dX0_miss_49 : decode cX0_miss 49 = .ok (.iload_n 3, 1) := by decide +kernel
theorem dX0_miss_50 : decode cX0_miss 50 = .ok (.iaload, 1) := by decide +kernel
theorem dX0_miss_51 : decode cX0_miss 51 = .ok (.ifCond .ne 21, 3) := by decide +kernel
theorem dX0_miss_54 : decode cX0_miss 54 = .ok (.aload_n 0, 1) := by decide +kernel
theorem dX0_miss_55 : decode cX0_miss 55 = .ok (.iload_n 3, 1) := by decide +kernel
theorem dX0_miss_56 : decode cX0_miss 56 = .ok (.invokevirtual 131, 3) := by decide +kernel
theorem dX0_miss_59 : decode cX0_miss 59 = .ok (.ifCond .eq 13, 3) := by decide +kernel
theorem dX0_miss_62 : decode cX0_miss 62 = .ok (.aload_n 0, 1) := by decide +kernel
theorem dX0_miss_63 : decode cX0_miss 63 = .ok (.getfield 35, 3) := by decide +kernel
theorem dX0_miss_66 : decode cX0_miss 66 = .ok (.iload_n 3, 1) := by decide +kernel
theorem dX0_miss_67 : decode cX0_miss 67 = .ok (.iconst 2, 1) := by decide +kernel
theorem dX0_miss_68 : decode cX0_miss 68 = .ok (.iastore, 1) := by decide +kernel
theorem dX0_miss_69 : decode cX0_miss 69 = .ok (.iinc 2 1, 3) := by decide +kernel
theorem dX0_miss_72 : decode cX0_miss 72 = .ok (.iinc 3 1, 3) := by decide +kernel
theorem dX0_miss_75 : decode cX0_miss 75 = .ok (.goto (-38), 3) := by decide +kernel
theorem dX0_miss_78 : decode cX0_miss 78 = .ok (.iload_n 2, 1) := by decide +kernel
theorem dX0_miss_79 : decode cX0_miss 79 = .ok (.ireturn, 1) := by decide +kernel
set_option maxRecDepth 20000 in
theorem ggX0_stateOf_X0_requireCue : GoodIn wsX0_stateOf wsX0_requireCue := goodIn_ca (goodIn_r _ [6, 7, 8, 9, 10, 11, 5, 12, 13, 14, 15, 16, 17, 18, 19, 20, 21, 22, 23, 24, 25, 26, 27, 28, 29] (by decide +kernel) (by decide +kernel)) (goodIn_sub (fun _ h => List.mem_cons_of_mem _ (List.mem_append_right _ h)) (by decide +kernel))
set_option maxRecDepth 20000 in
theorem gX0_stateOf_X0_requireCue : GoodIn wsX0_stateOf (wsV RX0 101 RX0 yX0_requireCue wsX0_requireCue) := goodIn_app (goodIn_of _ (by decide +kernel)) ggX0_stateOf_X0_requireCue
theorem dX0_stateOf_0 : decode cX0_stateOf 0 = .ok (.aload_n 0, 1) := by decide +kernel
theorem dX0_stateOf_1 : decode cX0_stateOf 1 = .ok (.iload_n 1, 1) := by decide +kernel
theorem dX0_stateOf_2 : decode cX0_stateOf 2 = .ok (.invokevirtual 101, 3) := by decide +kernel
theorem dX0_stateOf_5 : decode cX0_stateOf 5 = .ok (.aload_n 0, 1) := by decide +kernel
theorem dX0_stateOf_6 : decode cX0_stateOf 6 = .ok (.getfield 35, 3) := by decide +kernel
theorem dX0_stateOf_9 : decode cX0_stateOf 9 = .ok (.iload_n 1, 1) := by decide +kernel
theorem dX0_stateOf_10 : decode cX0_stateOf 10 = .ok (.iaload, 1) := by decide +kernel
theorem dX0_stateOf_11 : decode cX0_stateOf 11 = .ok (.ireturn, 1) := by decide +kernel
theorem dX0_cues_0 : decode cX0_cues 0 = .ok (.aload_n 0, 1) := by decide +kernel
theorem dX0_cues_1 : decode cX0_cues 1 = .ok (.getfield 104, 3) := by decide +kernel
theorem dX0_cues_4 : decode cX0_cues 4 = .ok (.ireturn, 1) := by decide +kernel
set_option maxRecDepth 20000 in
theorem ggX0_maskOf_X0_requirePlayer : GoodIn wsX0_maskOf wsX0_requirePlayer := goodIn_ca (goodIn_r _ [5, 6, 7, 8, 9, 4, 10] (by decide +kernel) (by decide +kernel)) (goodIn_sub (fun _ h => List.mem_cons_of_mem _ (List.mem_append_right _ h)) (by decide +kernel))
set_option maxRecDepth 20000 in
theorem gX0_maskOf_X0_requirePlayer : GoodIn wsX0_maskOf (va_wsS RX0 60 yX0_requirePlayer wsX0_requirePlayer) := goodIn_app (goodIn_of _ (by decide +kernel)) ggX0_maskOf_X0_requirePlayer
theorem dX0_maskOf_0 : decode cX0_maskOf 0 = .ok (.iload_n 1, 1) := by decide +kernel
theorem dX0_maskOf_1 : decode cX0_maskOf 1 = .ok (.invokestatic 60, 3) := by decide +kernel
theorem dX0_maskOf_4 : decode cX0_maskOf 4 = .ok (.aload_n 0, 1) := by decide +kernel
theorem dX0_maskOf_5 : decode cX0_maskOf 5 = .ok (.getfield 13, 3) := by decide +kernel
theorem dX0_maskOf_8 : decode cX0_maskOf 8 = .ok (.iload_n 1, 1) := by decide +kernel
theorem dX0_maskOf_9 : decode cX0_maskOf 9 = .ok (.iaload, 1) := by decide +kernel
theorem dX0_maskOf_10 : decode cX0_maskOf 10 = .ok (.ireturn, 1) := by decide +kernel
set_option maxRecDepth 20000 in
theorem ggX0_maskByCues_X0_requirePlayer : GoodIn wsX0_maskByCues wsX0_requirePlayer := goodIn_ca (goodIn_r _ [7, 8, 9, 10, 11, 6, 12] (by decide +kernel) (by decide +kernel)) (goodIn_sub (fun _ h => List.mem_cons_of_mem _ (List.mem_append_right _ h)) (by decide +kernel))
set_option maxRecDepth 20000 in
theorem gX0_maskByCues_X0_requirePlayer : GoodIn wsX0_maskByCues (va_wsS RX0 60 yX0_requirePlayer wsX0_requirePlayer) := goodIn_app (goodIn_of _ (by decide +kernel)) ggX0_maskByCues_X0_requirePlayer
set_option maxRecDepth 20000 in
theorem ggX0_maskByCues_J7_fill_53178 : GoodIn wsX0_maskByCues wsJ7_fill_53178 := goodIn_r _ [16] (by decide +kernel) (by decide +kernel)
set_option maxRecDepth 20000 in
theorem gX0_maskByCues_J7_fill_53178 : GoodIn wsX0_maskByCues (va_wsS RX0 54 yJ7_fill_53178 wsJ7_fill_53178) := goodIn_app (goodIn_of _ (by decide +kernel)) ggX0_maskByCues_J7_fill_53178
set_option maxRecDepth 20000 in
theorem ggX0_maskByCues_X0_moveMasks : GoodIn wsX0_maskByCues wsX0_moveMasks := goodIn_r _ [20, 21, 22, 23, 24, 25, 26, 27, 28, 29, 30, 31, 32, 33, 34, 35, 36, 37, 38, 39, 40] (by decide +kernel) (by decide +kernel)
set_option maxRecDepth 20000 in
theorem gX0_maskByCues_X0_moveMasks : GoodIn wsX0_maskByCues (wsV RX0 134 RX0 yX0_moveMasks wsX0_moveMasks) := goodIn_app (goodIn_of _ (by decide +kernel)) ggX0_maskByCues_X0_moveMasks
theorem dX0_maskByCues_0 : decode cX0_maskByCues 0 = .ok (.iload_n 1, 1) := by decide +kernel
theorem dX0_maskByCues_1 : decode cX0_maskByCues 1 = .ok (.invokestatic 60, 3) := by decide +kernel
theorem dX0_maskByCues_4 : decode cX0_maskByCues 4 = .ok (.aload_n 0, 1) := by decide +kernel
theorem dX0_maskByCues_5 : decode cX0_maskByCues 5 = .ok (.getfield 51, 3) := by decide +kernel
theorem dX0_maskByCues_8 : decode cX0_maskByCues 8 = .ok (.iconst (-1), 1) := by decide +kernel
theorem dX0_maskByCues_9 : decode cX0_maskByCues 9 = .ok (.invokestatic 54, 3) := by decide +kernel
theorem dX0_maskByCues_12 : decode cX0_maskByCues 12 = .ok (.iconst 0, 1) := by decide +kernel
theorem dX0_maskByCues_13 : decode cX0_maskByCues 13 = .ok (.istore_n 2, 1) := by decide +kernel
theorem dX0_maskByCues_14 : decode cX0_maskByCues 14 = .ok (.iload_n 2, 1) := by decide +kernel
theorem dX0_maskByCues_15 : decode cX0_maskByCues 15 = .ok (.aload_n 0, 1) := by decide +kernel
theorem dX0_maskByCues_16 : decode cX0_maskByCues 16 = .ok (.getfield 122, 3) := by decide +kernel
theorem dX0_maskByCues_19 : decode cX0_maskByCues 19 = .ok (.if_icmp .ge 23, 3) := by decide +kernel
theorem dX0_maskByCues_22 : decode cX0_maskByCues 22 = .ok (.aload_n 0, 1) := by decide +kernel
theorem dX0_maskByCues_23 : decode cX0_maskByCues 23 = .ok (.aload_n 0, 1) := by decide +kernel
theorem dX0_maskByCues_24 : decode cX0_maskByCues 24 = .ok (.getfield 38, 3) := by decide +kernel
theorem dX0_maskByCues_27 : decode cX0_maskByCues 27 = .ok (.iload_n 2, 1) := by decide +kernel
theorem dX0_maskByCues_28 : decode cX0_maskByCues 28 = .ok (.iaload, 1) := by decide +kernel
theorem dX0_maskByCues_29 : decode cX0_maskByCues 29 = .ok (.aload_n 0, 1) := by decide +kernel
theorem dX0_maskByCues_30 : decode cX0_maskByCues 30 = .ok (.getfield 51, 3) := by decide +kernel
theorem dX0_maskByCues_33 : decode cX0_maskByCues 33 = .ok (.invokevirtual 134, 3) := by decide +kernel
theorem dX0_maskByCues_36 : decode cX0_maskByCues 36 = .ok (.iinc 2 1, 3) := by decide +kernel
theorem dX0_maskByCues_39 : decode cX0_maskByCues 39 = .ok (.goto (-25), 3) := by decide +kernel
theorem dX0_maskByCues_42 : decode cX0_maskByCues 42 = .ok (.aload_n 0, 1) := by decide +kernel
theorem dX0_maskByCues_43 : decode cX0_maskByCues 43 = .ok (.getfield 51, 3) := by decide +kernel
theorem dX0_maskByCues_46 : decode cX0_maskByCues 46 = .ok (.iload_n 1, 1) := by decide +kernel
theorem dX0_maskByCues_47 : decode cX0_maskByCues 47 = .ok (.iaload, 1) := by decide +kernel
theorem dX0_maskByCues_48 : decode cX0_maskByCues 48 = .ok (.ireturn, 1) := by decide +kernel
set_option maxRecDepth 20000 in
theorem ggX0_wearerOf_X0_requireMask : GoodIn wsX0_wearerOf wsX0_requireMask := goodIn_ca (goodIn_r _ [4, 5, 6, 7, 8, 3, 9] (by decide +kernel) (by decide +kernel)) (goodIn_sub (fun _ h => List.mem_cons_of_mem _ (List.mem_append_right _ h)) (by decide +kernel))
set_option maxRecDepth 20000 in
theorem gX0_wearerOf_X0_requireMask : GoodIn wsX0_wearerOf (va_wsS RX0 138 yX0_requireMask wsX0_requireMask) := goodIn_app (goodIn_of _ (by decide +kernel)) ggX0_wearerOf_X0_requireMask
set_option maxRecDepth 20000 in
theorem ggX0_wearerOf_X0_playerBehind : GoodIn wsX0_wearerOf wsX0_playerBehind := goodIn_r _ [13, 14, 15, 16, 3, 17, 18, 19, 20, 21, 22, 23, 24, 25, 26, 27, 28, 29, 30, 31, 32, 33, 34] (by decide +kernel) (by decide +kernel)
set_option maxRecDepth 20000 in
theorem gX0_wearerOf_X0_playerBehind : GoodIn wsX0_wearerOf (wsV RX0 141 RX0 yX0_playerBehind wsX0_playerBehind) := goodIn_app (goodIn_of _ (by decide +kernel)) ggX0_wearerOf_X0_playerBehind
theorem dX0_wearerOf_0 : decode cX0_wearerOf 0 = .ok (.iload_n 1, 1) := by decide +kernel
theorem dX0_wearerOf_1 : decode cX0_wearerOf 1 = .ok (.invokestatic 138, 3) := by decide +kernel
theorem dX0_wearerOf_4 : decode cX0_wearerOf 4 = .ok (.aload_n 0, 1) := by decide +kernel
theorem dX0_wearerOf_5 : decode cX0_wearerOf 5 = .ok (.iload_n 1, 1) := by decide +kernel
theorem dX0_wearerOf_6 : decode cX0_wearerOf 6 = .ok (.invokevirtual 141, 3) := by decide +kernel
theorem dX0_wearerOf_9 : decode cX0_wearerOf 9 = .ok (.ireturn, 1) := by decide +kernel
set_option maxRecDepth 20000 in
theorem ggX0_isOn_X0_requirePlayer : GoodIn wsX0_isOn wsX0_requirePlayer := goodIn_ca (goodIn_r _ [5, 6, 7, 8, 9, 4, 10] (by decide +kernel) (by decide +kernel)) (goodIn_sub (fun _ h => List.mem_cons_of_mem _ (List.mem_append_right _ h)) (by decide +kernel))
set_option maxRecDepth 20000 in
theorem gX0_isOn_X0_requirePlayer : GoodIn wsX0_isOn (va_wsS RX0 60 yX0_requirePlayer wsX0_requirePlayer) := goodIn_app (goodIn_of _ (by decide +kernel)) ggX0_isOn_X0_requirePlayer
theorem dX0_isOn_0 : decode cX0_isOn 0 = .ok (.iload_n 1, 1) := by decide +kernel
theorem dX0_isOn_1 : decode cX0_isOn 1 = .ok (.invokestatic 60, 3) := by decide +kernel
theorem dX0_isOn_4 : decode cX0_isOn 4 = .ok (.aload_n 0, 1) := by decide +kernel
theorem dX0_isOn_5 : decode cX0_isOn 5 = .ok (.getfield 16, 3) := by decide +kernel
theorem dX0_isOn_8 : decode cX0_isOn 8 = .ok (.iload_n 1, 1) := by decide +kernel
theorem dX0_isOn_9 : decode cX0_isOn 9 = .ok (.baload, 1) := by decide +kernel
theorem dX0_isOn_10 : decode cX0_isOn 10 = .ok (.ireturn, 1) := by decide +kernel
set_option maxRecDepth 20000 in
theorem ggX0_guess_X0_requireGuesser : GoodIn wsX0_guess wsX0_requireGuesser := goodIn_ca (goodIn_r _ [10, 11, 12, 13, 14, 9, 15] (by decide +kernel) (by decide +kernel)) (goodIn_sub (fun _ h => List.mem_cons_of_mem _ (List.mem_append_right _ h)) (by decide +kernel))
set_option maxRecDepth 20000 in
theorem gX0_guess_X0_requireGuesser : GoodIn wsX0_guess (va_wsS RX0 144 yX0_requireGuesser wsX0_requireGuesser) := goodIn_app (goodIn_of _ (by decide +kernel)) ggX0_guess_X0_requireGuesser
set_option maxRecDepth 20000 in
theorem ggX0_guess_X0_requirePlayer : GoodIn wsX0_guess wsX0_requirePlayer := goodIn_ca (goodIn_r _ [18, 11, 12, 13, 14, 9, 15] (by decide +kernel) (by decide +kernel)) (goodIn_sub (fun _ h => List.mem_cons_of_mem _ (List.mem_append_right _ h)) (by decide +kernel))
set_option maxRecDepth 20000 in
theorem gX0_guess_X0_requirePlayer : GoodIn wsX0_guess (va_wsS RX0 60 yX0_requirePlayer wsX0_requirePlayer) := goodIn_app (goodIn_of _ (by decide +kernel)) ggX0_guess_X0_requirePlayer
set_option maxRecDepth 20000 in
theorem ggX0_guess_X0_requireMask : GoodIn wsX0_guess wsX0_requireMask := goodIn_ca (goodIn_r _ [21, 11, 12, 13, 14, 9, 15] (by decide +kernel) (by decide +kernel)) (goodIn_sub (fun _ h => List.mem_cons_of_mem _ (List.mem_append_right _ h)) (by decide +kernel))
set_option maxRecDepth 20000 in
theorem gX0_guess_X0_requireMask : GoodIn wsX0_guess (va_wsS RX0 138 yX0_requireMask wsX0_requireMask) := goodIn_app (goodIn_of _ (by decide +kernel)) ggX0_guess_X0_requireMask
theorem dX0_guess_0 : decode cX0_guess 0 = .ok (.iload_n 1, 1) := by decide +kernel
theorem dX0_guess_1 : decode cX0_guess 1 = .ok (.invokestatic 144, 3) := by decide +kernel
theorem dX0_guess_4 : decode cX0_guess 4 = .ok (.iload_n 2, 1) := by decide +kernel
theorem dX0_guess_5 : decode cX0_guess 5 = .ok (.invokestatic 60, 3) := by decide +kernel
theorem dX0_guess_8 : decode cX0_guess 8 = .ok (.iload_n 3, 1) := by decide +kernel
theorem dX0_guess_9 : decode cX0_guess 9 = .ok (.invokestatic 138, 3) := by decide +kernel
theorem dX0_guess_12 : decode cX0_guess 12 = .ok (.aload_n 0, 1) := by decide +kernel
theorem dX0_guess_13 : decode cX0_guess 13 = .ok (.getfield 16, 3) := by decide +kernel
theorem dX0_guess_16 : decode cX0_guess 16 = .ok (.iload_n 2, 1) := by decide +kernel
theorem dX0_guess_17 : decode cX0_guess 17 = .ok (.baload, 1) := by decide +kernel
theorem dX0_guess_18 : decode cX0_guess 18 = .ok (.ifCond .eq 13, 3) := by decide +kernel
theorem dX0_guess_21 : decode cX0_guess 21 = .ok (.aload_n 0, 1) := by decide +kernel
theorem dX0_guess_22 : decode cX0_guess 22 = .ok (.getfield 13, 3) := by decide +kernel
theorem dX0_guess_25 : decode cX0_guess 25 = .ok (.iload_n 2, 1) := by decide +kernel
theorem dX0_guess_26 : decode cX0_guess 26 = .ok (.iaload, 1) := by decide +kernel
theorem dX0_guess_27 : decode cX0_guess 27 = .ok (.iconst (-1), 1) := by decide +kernel
theorem dX0_guess_28 : decode cX0_guess 28 = .ok (.if_icmp .ne 13, 3) := by decide +kernel
theorem dX0_guess_31 : decode cX0_guess 31 = .ok (.new 78, 3) := by decide +kernel
theorem dX0_guess_34 : decode cX0_guess 34 = .ok (.dup, 1) := by decide +kernel
theorem dX0_guess_35 : decode cX0_guess 35 = .ok (.ldc 147, 2) := by decide +kernel
theorem dX0_guess_37 : decode cX0_guess 37 = .ok (.invokespecial 82, 3) := by decide +kernel
theorem dX0_guess_40 : decode cX0_guess 40 = .ok (.athrow, 1) := by decide +kernel
theorem dX0_guess_41 : decode cX0_guess 41 = .ok (.iload_n 1, 1) := by decide +kernel
theorem dX0_guess_42 : decode cX0_guess 42 = .ok (.bipush 6, 2) := by decide +kernel
theorem dX0_guess_44 : decode cX0_guess 44 = .ok (.imul, 1) := by decide +kernel
theorem dX0_guess_45 : decode cX0_guess 45 = .ok (.iload_n 2, 1) := by decide +kernel
theorem dX0_guess_46 : decode cX0_guess 46 = .ok (.iadd, 1) := by decide +kernel
theorem dX0_guess_47 : decode cX0_guess 47 = .ok (.istore 4, 2) := by decide +kernel
theorem dX0_guess_49 : decode cX0_guess 49 = .ok (.aload_n 0, 1) := by decide +kernel
theorem dX0_guess_50 : decode cX0_guess 50 = .ok (.getfield 44, 3) := by decide +kernel
theorem dX0_guess_53 : decode cX0_guess 53 = .ok (.iload 4, 2) := by decide +kernel
theorem dX0_guess_55 : decode cX0_guess 55 = .ok (.baload, 1) := by decide +kernel
theorem dX0_guess_56 : decode cX0_guess 56 = .ok (.ifCond .eq 13, 3) := by decide +kernel
theorem dX0_guess_59 : decode cX0_guess 59 = .ok (.new 78, 3) := by decide +kernel
theorem dX0_guess_62 : decode cX0_guess 62 = .ok (.dup, 1) := by decide +kernel
theorem dX0_guess_63 : decode cX0_guess 63 = .ok (.ldc 149, 2) := by decide +kernel
theorem dX0_guess_65 : decode cX0_guess 65 = .ok (.invokespecial 82, 3) := by decide +kernel
theorem dX0_guess_68 : decode cX0_guess 68 = .ok (.athrow, 1) := by decide +kernel
theorem dX0_guess_69 : decode cX0_guess 69 = .ok (.aload_n 0, 1) := by decide +kernel
theorem dX0_guess_70 : decode cX0_guess 70 = .ok (.getfield 44, 3) := by decide +kernel
theorem dX0_guess_73 : decode cX0_guess 73 = .ok (.iload 4, 2) := by decide +kernel
theorem dX0_guess_75 : decode cX0_guess 75 = .ok (.iconst 1, 1) := by decide +kernel
theorem dX0_guess_76 : decode cX0_guess 76 = .ok (.bastore, 1) := by decide +kernel
theorem dX0_guess_77 : decode cX0_guess 77 = .ok (.aload_n 0, 1) := by decide +kernel
theorem dX0_guess_78 : decode cX0_guess 78 = .ok (.getfield 13, 3) := by decide +kernel
theorem dX0_guess_81 : decode cX0_guess 81 = .ok (.iload_n 2, 1) := by decide +kernel
theorem dX0_guess_82 : decode cX0_guess 82 = .ok (.iaload, 1) := by decide +kernel
theorem dX0_guess_83 : decode cX0_guess 83 = .ok (.iload_n 3, 1) := by decide +kernel
theorem dX0_guess_84 : decode cX0_guess 84 = .ok (.if_icmp .ne 7, 3) := by decide +kernel
theorem dX0_guess_87 : decode cX0_guess 87 = .ok (.iconst 1, 1) := by decide +kernel
theorem dX0_guess_88 : decode cX0_guess 88 = .ok (.goto 4, 3) := by decide +kernel
theorem dX0_guess_91 : decode cX0_guess 91 = .ok (.iconst 0, 1) := by decide +kernel
theorem dX0_guess_92 : decode cX0_guess 92 = .ok (.istore 5, 2) := by decide +kernel
theorem dX0_guess_94 : decode cX0_guess 94 = .ok (.aload_n 0, 1) := by decide +kernel
theorem dX0_guess_95 : decode cX0_guess 95 = .ok (.getfield 41, 3) := by decide +kernel
theorem dX0_guess_98 : decode cX0_guess 98 = .ok (.iload_n 1, 1) := by decide +kernel
theorem dX0_guess_99 : decode cX0_guess 99 = .ok (.dup2, 1) := by decide +kernel
theorem dX0_guess_100 : decode cX0_guess 100 = .ok (.iaload, 1) := by decide +kernel
theorem dX0_guess_101 : decode cX0_guess 101 = .ok (.iload 5, 2) := by decide +kernel
theorem dX0_guess_103 : decode cX0_guess 103 = .ok (.ifCond .eq 7, 3) := by decide +kernel
theorem dX0_guess_106 : decode cX0_guess 106 = .ok (.iconst 3, 1) := by decide +kernel
theorem dX0_guess_107 : decode cX0_guess 107 = .ok (.goto 4, 3) := by decide +kernel
theorem dX0_guess_110 : decode cX0_guess 110 = .ok (.iconst (-1), 1) := by decide +kernel
theorem dX0_guess_111 : decode cX0_guess 111 = .ok (.iadd, 1) := by decide +kernel
theorem dX0_guess_112 : decode cX0_guess 112 = .ok (.iastore, 1) := by decide +kernel
theorem dX0_guess_113 : decode cX0_guess 113 = .ok (.iload 5, 2) := by decide +kernel
theorem dX0_guess_115 : decode cX0_guess 115 = .ok (.ireturn, 1) := by decide +kernel
set_option maxRecDepth 20000 in
theorem ggX0_points_X0_requireGuesser : GoodIn wsX0_points wsX0_requireGuesser := goodIn_ca (goodIn_r _ [5, 6, 7, 8, 9, 4, 10] (by decide +kernel) (by decide +kernel)) (goodIn_sub (fun _ h => List.mem_cons_of_mem _ (List.mem_append_right _ h)) (by decide +kernel))
set_option maxRecDepth 20000 in
theorem gX0_points_X0_requireGuesser : GoodIn wsX0_points (va_wsS RX0 144 yX0_requireGuesser wsX0_requireGuesser) := goodIn_app (goodIn_of _ (by decide +kernel)) ggX0_points_X0_requireGuesser
theorem dX0_points_0 : decode cX0_points 0 = .ok (.iload_n 1, 1) := by decide +kernel
theorem dX0_points_1 : decode cX0_points 1 = .ok (.invokestatic 144, 3) := by decide +kernel
theorem dX0_points_4 : decode cX0_points 4 = .ok (.aload_n 0, 1) := by decide +kernel
theorem dX0_points_5 : decode cX0_points 5 = .ok (.getfield 41, 3) := by decide +kernel
theorem dX0_points_8 : decode cX0_points 8 = .ok (.iload_n 1, 1) := by decide +kernel
theorem dX0_points_9 : decode cX0_points 9 = .ok (.iaload, 1) := by decide +kernel
theorem dX0_points_10 : decode cX0_points 10 = .ok (.ireturn, 1) := by decide +kernel
set_option maxRecDepth 20000 in
theorem ggX0_endPlay_X0_countCues : GoodIn wsX0_endPlay wsX0_countCues := goodIn_r _ [15, 9, 16, 28, 29, 30, 31, 32, 33, 34, 35, 36, 37, 38, 39, 40, 41, 42, 43, 44] (by decide +kernel) (by decide +kernel)
set_option maxRecDepth 20000 in
theorem gX0_endPlay_X0_countCues : GoodIn wsX0_endPlay (wsV RX0 151 RX0 yX0_countCues wsX0_countCues) := goodIn_app (goodIn_of _ (by decide +kernel)) ggX0_endPlay_X0_countCues
set_option maxRecDepth 20000 in
theorem ggX0_endPlay_X0_clearStage : GoodIn wsX0_endPlay wsX0_clearStage := goodIn_r _ [20, 21, 22, 28, 29, 30, 31, 32, 33, 34, 35, 36, 37, 38, 39, 40, 41, 42, 43, 44] (by decide +kernel) (by decide +kernel)
set_option maxRecDepth 20000 in
theorem gX0_endPlay_X0_clearStage : GoodIn wsX0_endPlay (wsV RX0 165 RX0 yX0_clearStage wsX0_clearStage) := goodIn_app (goodIn_of _ (by decide +kernel)) ggX0_endPlay_X0_clearStage
set_option maxRecDepth 20000 in
theorem ggX0_endPlay_X0_clearGuesses : GoodIn wsX0_endPlay wsX0_clearGuesses := goodIn_r _ [26, 27, 28, 29, 30, 31, 32, 33, 34, 35, 36, 37, 38, 39, 40, 41, 42, 43, 44] (by decide +kernel) (by decide +kernel)
set_option maxRecDepth 20000 in
theorem gX0_endPlay_X0_clearGuesses : GoodIn wsX0_endPlay (wsV RX0 168 RX0 yX0_clearGuesses wsX0_clearGuesses) := goodIn_app (goodIn_of _ (by decide +kernel)) ggX0_endPlay_X0_clearGuesses
theorem dX0_endPlay_0 : decode cX0_endPlay 0 = .ok (.aload_n 0, 1) := by decide +kernel
theorem dX0_endPlay_1 : decode cX0_endPlay 1 = .ok (.iconst 0, 1) := by decide +kernel
theorem dX0_endPlay_2 : decode cX0_endPlay 2 = .ok (.invokevirtual 151, 3) := by decide +kernel
theorem dX0_endPlay_5 : decode cX0_endPlay 5 = .ok (.ifCond .le 13, 3) := by decide +kernel
theorem dX0_endPlay_8 : decode cX0_endPlay 8 = .ok (.new 78, 3) := by decide +kernel
theorem dX0_endPlay_11 : decode cX0_endPlay 11 = .ok (.dup, 1) := by decide +kernel
theorem dX0_endPlay_12 : decode cX0_endPlay 12 = .ok (.ldc 154, 2) := by decide +kernel
theorem dX0_endPlay_14 : decode cX0_endPlay 14 = .ok (.invokespecial 82, 3) := by decide +kernel
theorem dX0_endPlay_17 : decode cX0_endPlay 17 = .ok (.athrow, 1) := by decide +kernel
theorem dX0_endPlay_18 : decode cX0_endPlay 18 = .ok (.aload_n 0, 1) := by decide +kernel
theorem dX0_endPlay_19 : decode cX0_endPlay 19 = .ok (.iconst 0, 1) := by decide +kernel
theorem dX0_endPlay_20 : decode cX0_endPlay 20 = .ok (.aload_n 0, 1) := by decide +kernel
theorem dX0_endPlay_21 : decode cX0_endPlay 21 = .ok (.getfield 47, 3) := by decide +kernel
theorem dX0_endPlay_24 : decode cX0_endPlay 24 = .ok (.aload_n 0, 1) := by decide +kernel
theorem dX0_endPlay_25 : decode cX0_endPlay 25 = .ok (.iconst 1, 1) := by decide +kernel
theorem dX0_endPlay_26 : decode cX0_endPlay 26 = .ok (.invokevirtual 151, 3) := by decide +kernel
theorem dX0_endPlay_29 : decode cX0_endPlay 29 = .ok (.iadd, 1) := by decide +kernel
theorem dX0_endPlay_30 : decode cX0_endPlay 30 = .ok (.aload_n 0, 1) := by decide +kernel
theorem dX0_endPlay_31 : decode cX0_endPlay 31 = .ok (.iconst 2, 1) := by decide +kernel
theorem dX0_endPlay_32 : decode cX0_endPlay 32 = .ok (.invokevirtual 151, 3) := by decide +kernel
theorem dX0_endPlay_35 : decode cX0_endPlay 35 = .ok (.isub, 1) := by decide +kernel
theorem dX0_endPlay_36 : decode cX0_endPlay 36 = .ok (.invokestatic 156, 3) := by decide +kernel
theorem dX0_endPlay_39 : decode cX0_endPlay 39 = .ok (.putfield 47, 3) := by decide +kernel
theorem dX0_endPlay_42 : decode cX0_endPlay 42 = .ok (.aload_n 0, 1) := by decide +kernel
theorem dX0_endPlay_43 : decode cX0_endPlay 43 = .ok (.dup, 1) := by decide +kernel
theorem dX0_endPlay_44 : decode cX0_endPlay 44 = .ok (.getfield 162, 3) := by decide +kernel
theorem dX0_endPlay_47 : decode cX0_endPlay 47 = .ok (.iconst 1, 1) := by decide +kernel
theorem dX0_endPlay_48 : decode cX0_endPlay 48 = .ok (.iadd, 1) := by decide +kernel
theorem dX0_endPlay_49 : decode cX0_endPlay 49 = .ok (.putfield 162, 3) := by decide +kernel
theorem dX0_endPlay_52 : decode cX0_endPlay 52 = .ok (.aload_n 0, 1) := by decide +kernel
theorem dX0_endPlay_53 : decode cX0_endPlay 53 = .ok (.invokevirtual 165, 3) := by decide +kernel
theorem dX0_endPlay_56 : decode cX0_endPlay 56 = .ok (.aload_n 0, 1) := by decide +kernel
theorem dX0_endPlay_57 : decode cX0_endPlay 57 = .ok (.invokevirtual 168, 3) := by decide +kernel
theorem dX0_endPlay_60 : decode cX0_endPlay 60 = .ok (.aload_n 0, 1) := by decide +kernel
theorem dX0_endPlay_61 : decode cX0_endPlay 61 = .ok (.iconst 0, 1) := by decide +kernel
theorem dX0_endPlay_62 : decode cX0_endPlay 62 = .ok (.putfield 104, 3) := by decide +kernel
theorem dX0_endPlay_65 : decode cX0_endPlay 65 = .ok (.aload_n 0, 1) := by decide +kernel
theorem dX0_endPlay_66 : decode cX0_endPlay 66 = .ok (.iconst 0, 1) := by decide +kernel
theorem dX0_endPlay_67 : decode cX0_endPlay 67 = .ok (.putfield 122, 3) := by decide +kernel
theorem dX0_endPlay_70 : decode cX0_endPlay 70 = .ok (.aload_n 0, 1) := by decide +kernel
theorem dX0_endPlay_71 : decode cX0_endPlay 71 = .ok (.getfield 47, 3) := by decide +kernel
theorem dX0_endPlay_74 : decode cX0_endPlay 74 = .ok (.ireturn, 1) := by decide +kernel
theorem dX0_plays_0 : decode cX0_plays 0 = .ok (.aload_n 0, 1) := by decide +kernel
theorem dX0_plays_1 : decode cX0_plays 1 = .ok (.getfield 162, 3) := by decide +kernel
theorem dX0_plays_4 : decode cX0_plays 4 = .ok (.ireturn, 1) := by decide +kernel
theorem dX0_isWithin_0 : decode cX0_isWithin 0 = .ok (.iload_n 0, 1) := by decide +kernel
theorem dX0_isWithin_1 : decode cX0_isWithin 1 = .ok (.ifCond .lt 12, 3) := by decide +kernel
theorem dX0_isWithin_4 : decode cX0_isWithin 4 = .ok (.iload_n 0, 1) := by decide +kernel
theorem dX0_isWithin_5 : decode cX0_isWithin 5 = .ok (.iload_n 1, 1) := by decide +kernel
theorem dX0_isWithin_6 : decode cX0_isWithin 6 = .ok (.if_icmp .ge 7, 3) := by decide +kernel
theorem dX0_isWithin_9 : decode cX0_isWithin 9 = .ok (.iconst 1, 1) := by decide +kernel
theorem dX0_isWithin_10 : decode cX0_isWithin 10 = .ok (.goto 4, 3) := by decide +kernel
theorem dX0_isWithin_13 : decode cX0_isWithin 13 = .ok (.iconst 0, 1) := by decide +kernel
theorem dX0_isWithin_14 : decode cX0_isWithin 14 = .ok (.ireturn, 1) := by decide +kernel
set_option maxRecDepth 20000 in
theorem ggX0_requirePlayer_X0_isWithin : GoodIn wsX0_requirePlayer wsX0_isWithin := goodIn_r _ [6] (by decide +kernel) (by decide +kernel)
set_option maxRecDepth 20000 in
theorem gX0_requirePlayer_X0_isWithin : GoodIn wsX0_requirePlayer (va_wsS RX0 171 yX0_isWithin wsX0_isWithin) := goodIn_app (goodIn_of _ (by decide +kernel)) ggX0_requirePlayer_X0_isWithin
theorem dX0_requirePlayer_0 : decode cX0_requirePlayer 0 = .ok (.iload_n 0, 1) := by decide +kernel
theorem dX0_requirePlayer_1 : decode cX0_requirePlayer 1 = .ok (.bipush 6, 2) := by decide +kernel
theorem dX0_requirePlayer_3 : decode cX0_requirePlayer 3 = .ok (.invokestatic 171, 3) := by decide +kernel
theorem dX0_requirePlayer_6 : decode cX0_requirePlayer 6 = .ok (.ifCond .ne 13, 3) := by decide +kernel
theorem dX0_requirePlayer_9 : decode cX0_requirePlayer 9 = .ok (.new 174, 3) := by decide +kernel
theorem dX0_requirePlayer_12 : decode cX0_requirePlayer 12 = .ok (.dup, 1) := by decide +kernel
theorem dX0_requirePlayer_13 : decode cX0_requirePlayer 13 = .ok (.ldc 176, 2) := by decide +kernel
theorem dX0_requirePlayer_15 : decode cX0_requirePlayer 15 = .ok (.invokespecial 178, 3) := by decide +kernel
theorem dX0_requirePlayer_18 : decode cX0_requirePlayer 18 = .ok (.athrow, 1) := by decide +kernel
theorem dX0_requirePlayer_19 : decode cX0_requirePlayer 19 = .ok (.return_, 1) := by decide +kernel
set_option maxRecDepth 20000 in
theorem ggX0_requireMask_X0_isWithin : GoodIn wsX0_requireMask wsX0_isWithin := goodIn_r _ [6] (by decide +kernel) (by decide +kernel)
set_option maxRecDepth 20000 in
theorem gX0_requireMask_X0_isWithin : GoodIn wsX0_requireMask (va_wsS RX0 171 yX0_isWithin wsX0_isWithin) := goodIn_app (goodIn_of _ (by decide +kernel)) ggX0_requireMask_X0_isWithin
theorem dX0_requireMask_0 : decode cX0_requireMask 0 = .ok (.iload_n 0, 1) := by decide +kernel
theorem dX0_requireMask_1 : decode cX0_requireMask 1 = .ok (.bipush 6, 2) := by decide +kernel
theorem dX0_requireMask_3 : decode cX0_requireMask 3 = .ok (.invokestatic 171, 3) := by decide +kernel
theorem dX0_requireMask_6 : decode cX0_requireMask 6 = .ok (.ifCond .ne 13, 3) := by decide +kernel
theorem dX0_requireMask_9 : decode cX0_requireMask 9 = .ok (.new 174, 3) := by decide +kernel
theorem dX0_requireMask_12 : decode cX0_requireMask 12 = .ok (.dup, 1) := by decide +kernel
theorem dX0_requireMask_13 : decode cX0_requireMask 13 = .ok (.ldc 179, 2) := by decide +kernel
theorem dX0_requireMask_15 : decode cX0_requireMask 15 = .ok (.invokespecial 178, 3) := by decide +kernel
theorem dX0_requireMask_18 : decode cX0_requireMask 18 = .ok (.athrow, 1) := by decide +kernel
theorem dX0_requireMask_19 : decode cX0_requireMask 19 = .ok (.return_, 1) := by decide +kernel
set_option maxRecDepth 20000 in
theorem ggX0_requireCostume_X0_isWithin : GoodIn wsX0_requireCostume wsX0_isWithin := goodIn_r _ [6] (by decide +kernel) (by decide +kernel)
set_option maxRecDepth 20000 in
theorem gX0_requireCostume_X0_isWithin : GoodIn wsX0_requireCostume (va_wsS RX0 171 yX0_isWithin wsX0_isWithin) := goodIn_app (goodIn_of _ (by decide +kernel)) ggX0_requireCostume_X0_isWithin
theorem dX0_requireCostume_0 : decode cX0_requireCostume 0 = .ok (.iload_n 0, 1) := by decide +kernel
theorem dX0_requireCostume_1 : decode cX0_requireCostume 1 = .ok (.bipush 8, 2) := by decide +kernel
theorem dX0_requireCostume_3 : decode cX0_requireCostume 3 = .ok (.invokestatic 171, 3) := by decide +kernel
theorem dX0_requireCostume_6 : decode cX0_requireCostume 6 = .ok (.ifCond .ne 13, 3) := by decide +kernel
theorem dX0_requireCostume_9 : decode cX0_requireCostume 9 = .ok (.new 174, 3) := by decide +kernel
theorem dX0_requireCostume_12 : decode cX0_requireCostume 12 = .ok (.dup, 1) := by decide +kernel
theorem dX0_requireCostume_13 : decode cX0_requireCostume 13 = .ok (.ldc 181, 2) := by decide +kernel
theorem dX0_requireCostume_15 : decode cX0_requireCostume 15 = .ok (.invokespecial 178, 3) := by decide +kernel
theorem dX0_requireCostume_18 : decode cX0_requireCostume 18 = .ok (.athrow, 1) := by decide +kernel
theorem dX0_requireCostume_19 : decode cX0_requireCostume 19 = .ok (.return_, 1) := by decide +kernel
set_option maxRecDepth 20000 in
theorem ggX0_requireGuesser_X0_isWithin : GoodIn wsX0_requireGuesser wsX0_isWithin := goodIn_r _ [6] (by decide +kernel) (by decide +kernel)
set_option maxRecDepth 20000 in
theorem gX0_requireGuesser_X0_isWithin : GoodIn wsX0_requireGuesser (va_wsS RX0 171 yX0_isWithin wsX0_isWithin) := goodIn_app (goodIn_of _ (by decide +kernel)) ggX0_requireGuesser_X0_isWithin
theorem dX0_requireGuesser_0 : decode cX0_requireGuesser 0 = .ok (.iload_n 0, 1) := by decide +kernel
theorem dX0_requireGuesser_1 : decode cX0_requireGuesser 1 = .ok (.iconst 3, 1) := by decide +kernel
theorem dX0_requireGuesser_2 : decode cX0_requireGuesser 2 = .ok (.invokestatic 171, 3) := by decide +kernel
theorem dX0_requireGuesser_5 : decode cX0_requireGuesser 5 = .ok (.ifCond .ne 13, 3) := by decide +kernel
theorem dX0_requireGuesser_8 : decode cX0_requireGuesser 8 = .ok (.new 174, 3) := by decide +kernel
theorem dX0_requireGuesser_11 : decode cX0_requireGuesser 11 = .ok (.dup, 1) := by decide +kernel
theorem dX0_requireGuesser_12 : decode cX0_requireGuesser 12 = .ok (.ldc 183, 2) := by decide +kernel
theorem dX0_requireGuesser_14 : decode cX0_requireGuesser 14 = .ok (.invokespecial 178, 3) := by decide +kernel
theorem dX0_requireGuesser_17 : decode cX0_requireGuesser 17 = .ok (.athrow, 1) := by decide +kernel
theorem dX0_requireGuesser_18 : decode cX0_requireGuesser 18 = .ok (.return_, 1) := by decide +kernel
set_option maxRecDepth 20000 in
theorem ggX0_requireCue_X0_isWithin : GoodIn wsX0_requireCue wsX0_isWithin := goodIn_r _ [7] (by decide +kernel) (by decide +kernel)
set_option maxRecDepth 20000 in
theorem gX0_requireCue_X0_isWithin : GoodIn wsX0_requireCue (va_wsS RX0 171 yX0_isWithin wsX0_isWithin) := goodIn_app (goodIn_of _ (by decide +kernel)) ggX0_requireCue_X0_isWithin
theorem dX0_requireCue_0 : decode cX0_requireCue 0 = .ok (.iload_n 1, 1) := by decide +kernel
theorem dX0_requireCue_1 : decode cX0_requireCue 1 = .ok (.aload_n 0, 1) := by decide +kernel
theorem dX0_requireCue_2 : decode cX0_requireCue 2 = .ok (.getfield 104, 3) := by decide +kernel
theorem dX0_requireCue_5 : decode cX0_requireCue 5 = .ok (.invokestatic 171, 3) := by decide +kernel
theorem dX0_requireCue_8 : decode cX0_requireCue 8 = .ok (.ifCond .ne 13, 3) := by decide +kernel
theorem dX0_requireCue_11 : decode cX0_requireCue 11 = .ok (.new 174, 3) := by decide +kernel
theorem dX0_requireCue_14 : decode cX0_requireCue 14 = .ok (.dup, 1) := by decide +kernel
theorem dX0_requireCue_15 : decode cX0_requireCue 15 = .ok (.ldc 185, 2) := by decide +kernel
theorem dX0_requireCue_17 : decode cX0_requireCue 17 = .ok (.invokespecial 178, 3) := by decide +kernel
theorem dX0_requireCue_20 : decode cX0_requireCue 20 = .ok (.athrow, 1) := by decide +kernel
theorem dX0_requireCue_21 : decode cX0_requireCue 21 = .ok (.return_, 1) := by decide +kernel
set_option maxRecDepth 20000 in
theorem ggX0_requireOther_X0_requireMask : GoodIn wsX0_requireOther wsX0_requireMask := goodIn_ca (goodIn_r _ [4, 5, 6, 7, 8, 3, 9] (by decide +kernel) (by decide +kernel)) (goodIn_sub (fun _ h => List.mem_cons_of_mem _ (List.mem_append_right _ h)) (by decide +kernel))
set_option maxRecDepth 20000 in
theorem gX0_requireOther_X0_requireMask : GoodIn wsX0_requireOther (va_wsS RX0 138 yX0_requireMask wsX0_requireMask) := goodIn_app (goodIn_of _ (by decide +kernel)) ggX0_requireOther_X0_requireMask
set_option maxRecDepth 20000 in
theorem ggX0_requireOther_X0_requirePlayer : GoodIn wsX0_requireOther wsX0_requirePlayer := goodIn_ca (goodIn_r _ [12, 5, 6, 7, 8, 3, 9] (by decide +kernel) (by decide +kernel)) (goodIn_sub (fun _ h => List.mem_cons_of_mem _ (List.mem_append_right _ h)) (by decide +kernel))
set_option maxRecDepth 20000 in
theorem gX0_requireOther_X0_requirePlayer : GoodIn wsX0_requireOther (va_wsS RX0 60 yX0_requirePlayer wsX0_requirePlayer) := goodIn_app (goodIn_of _ (by decide +kernel)) ggX0_requireOther_X0_requirePlayer
theorem dX0_requireOther_0 : decode cX0_requireOther 0 = .ok (.iload_n 0, 1) := by decide +kernel
theorem dX0_requireOther_1 : decode cX0_requireOther 1 = .ok (.iconst 2, 1) := by decide +kernel
theorem dX0_requireOther_2 : decode cX0_requireOther 2 = .ok (.if_icmp .ne 10, 3) := by decide +kernel
theorem dX0_requireOther_5 : decode cX0_requireOther 5 = .ok (.iload_n 1, 1) := by decide +kernel
theorem dX0_requireOther_6 : decode cX0_requireOther 6 = .ok (.invokestatic 138, 3) := by decide +kernel
theorem dX0_requireOther_9 : decode cX0_requireOther 9 = .ok (.goto 12, 3) := by decide +kernel
theorem dX0_requireOther_12 : decode cX0_requireOther 12 = .ok (.iload_n 0, 1) := by decide +kernel
theorem dX0_requireOther_13 : decode cX0_requireOther 13 = .ok (.iconst 4, 1) := by decide +kernel
theorem dX0_requireOther_14 : decode cX0_requireOther 14 = .ok (.if_icmp .ne 7, 3) := by decide +kernel
theorem dX0_requireOther_17 : decode cX0_requireOther 17 = .ok (.iload_n 1, 1) := by decide +kernel
theorem dX0_requireOther_18 : decode cX0_requireOther 18 = .ok (.invokestatic 60, 3) := by decide +kernel
theorem dX0_requireOther_21 : decode cX0_requireOther 21 = .ok (.return_, 1) := by decide +kernel
theorem dX0_fits_0 : decode cX0_fits 0 = .ok (.iload_n 0, 1) := by decide +kernel
theorem dX0_fits_1 : decode cX0_fits 1 = .ok (.iconst 1, 1) := by decide +kernel
theorem dX0_fits_2 : decode cX0_fits 2 = .ok (.isub, 1) := by decide +kernel
theorem dX0_fits_3 : decode cX0_fits 3 = .ok (.istore_n 2, 1) := by decide +kernel
theorem dX0_fits_4 : decode cX0_fits 4 = .ok (.iload_n 2, 1) := by decide +kernel
theorem dX0_fits_5 : decode cX0_fits 5 = .ok (.iload_n 1, 1) := by decide +kernel
theorem dX0_fits_6 : decode cX0_fits 6 = .ok (.isub, 1) := by decide +kernel
theorem dX0_fits_7 : decode cX0_fits 7 = .ok (.invokestatic 187, 3) := by decide +kernel
theorem dX0_fits_10 : decode cX0_fits 10 = .ok (.iconst 1, 1) := by decide +kernel
theorem dX0_fits_11 : decode cX0_fits 11 = .ok (.if_icmp .gt 7, 3) := by decide +kernel
theorem dX0_fits_14 : decode cX0_fits 14 = .ok (.iconst 1, 1) := by decide +kernel
theorem dX0_fits_15 : decode cX0_fits 15 = .ok (.goto 4, 3) := by decide +kernel
theorem dX0_fits_18 : decode cX0_fits 18 = .ok (.iconst 0, 1) := by decide +kernel
theorem dX0_fits_19 : decode cX0_fits 19 = .ok (.ireturn, 1) := by decide +kernel
set_option maxRecDepth 20000 in
theorem ggX0_playerIn_X0_indexOf : GoodIn wsX0_playerIn wsX0_indexOf := goodIn_r _ [5] (by decide +kernel) (by decide +kernel)
set_option maxRecDepth 20000 in
theorem gX0_playerIn_X0_indexOf : GoodIn wsX0_playerIn (va_wsS RX0 190 yX0_indexOf wsX0_indexOf) := goodIn_app (goodIn_of _ (by decide +kernel)) ggX0_playerIn_X0_indexOf
theorem dX0_playerIn_0 : decode cX0_playerIn 0 = .ok (.iload_n 1, 1) := by decide +kernel
theorem dX0_playerIn_1 : decode cX0_playerIn 1 = .ok (.aload_n 0, 1) := by decide +kernel
theorem dX0_playerIn_2 : decode cX0_playerIn 2 = .ok (.getfield 9, 3) := by decide +kernel
theorem dX0_playerIn_5 : decode cX0_playerIn 5 = .ok (.invokestatic 190, 3) := by decide +kernel
theorem dX0_playerIn_8 : decode cX0_playerIn 8 = .ok (.ireturn, 1) := by decide +kernel
set_option maxRecDepth 20000 in
theorem ggX0_playerBehind_X0_indexOf : GoodIn wsX0_playerBehind wsX0_indexOf := goodIn_r _ [5] (by decide +kernel) (by decide +kernel)
set_option maxRecDepth 20000 in
theorem gX0_playerBehind_X0_indexOf : GoodIn wsX0_playerBehind (va_wsS RX0 190 yX0_indexOf wsX0_indexOf) := goodIn_app (goodIn_of _ (by decide +kernel)) ggX0_playerBehind_X0_indexOf
theorem dX0_playerBehind_0 : decode cX0_playerBehind 0 = .ok (.iload_n 1, 1) := by decide +kernel
theorem dX0_playerBehind_1 : decode cX0_playerBehind 1 = .ok (.aload_n 0, 1) := by decide +kernel
theorem dX0_playerBehind_2 : decode cX0_playerBehind 2 = .ok (.getfield 13, 3) := by decide +kernel
theorem dX0_playerBehind_5 : decode cX0_playerBehind 5 = .ok (.invokestatic 190, 3) := by decide +kernel
theorem dX0_playerBehind_8 : decode cX0_playerBehind 8 = .ok (.ireturn, 1) := by decide +kernel
theorem dX0_indexOf_0 : decode cX0_indexOf 0 = .ok (.iconst 0, 1) := by decide +kernel
theorem dX0_indexOf_1 : decode cX0_indexOf 1 = .ok (.istore_n 2, 1) := by decide +kernel
theorem dX0_indexOf_2 : decode cX0_indexOf 2 = .ok (.iload_n 2, 1) := by decide +kernel
theorem dX0_indexOf_3 : decode cX0_indexOf 3 = .ok (.aload_n 1, 1) := by decide +kernel
theorem dX0_indexOf_4 : decode cX0_indexOf 4 = .ok (.arraylength, 1) := by decide +kernel
theorem dX0_indexOf_5 : decode cX0_indexOf 5 = .ok (.if_icmp .ge 18, 3) := by decide +kernel
theorem dX0_indexOf_8 : decode cX0_indexOf 8 = .ok (.aload_n 1, 1) := by decide +kernel
theorem dX0_indexOf_9 : decode cX0_indexOf 9 = .ok (.iload_n 2, 1) := by decide +kernel
theorem dX0_indexOf_10 : decode cX0_indexOf 10 = .ok (.iaload, 1) := by decide +kernel
theorem dX0_indexOf_11 : decode cX0_indexOf 11 = .ok (.iload_n 0, 1) := by decide +kernel
theorem dX0_indexOf_12 : decode cX0_indexOf 12 = .ok (.if_icmp .ne 5, 3) := by decide +kernel
theorem dX0_indexOf_15 : decode cX0_indexOf 15 = .ok (.iload_n 2, 1) := by decide +kernel
theorem dX0_indexOf_16 : decode cX0_indexOf 16 = .ok (.ireturn, 1) := by decide +kernel
theorem dX0_indexOf_17 : decode cX0_indexOf 17 = .ok (.iinc 2 1, 3) := by decide +kernel
theorem dX0_indexOf_20 : decode cX0_indexOf 20 = .ok (.goto (-18), 3) := by decide +kernel
theorem dX0_indexOf_23 : decode cX0_indexOf 23 = .ok (.iconst (-1), 1) := by decide +kernel
theorem dX0_indexOf_24 : decode cX0_indexOf 24 = .ok (.ireturn, 1) := by decide +kernel
set_option maxRecDepth 20000 in
theorem ggX0_firstCallable_X0_isCallable : GoodIn wsX0_firstCallable wsX0_isCallable := goodIn_r _ [6, 7, 8, 9, 10, 5, 11, 12, 13, 14, 15, 16, 17, 18, 19, 20, 21, 22, 23, 24, 25, 26, 27, 28, 29, 30, 31, 32, 33, 34, 35, 36, 37, 38, 39, 40, 41, 42, 43, 44, 45, 46, 47, 48, 49, 50] (by decide +kernel) (by decide +kernel)
set_option maxRecDepth 20000 in
theorem gX0_firstCallable_X0_isCallable : GoodIn wsX0_firstCallable (wsV RX0 113 RX0 yX0_isCallable wsX0_isCallable) := goodIn_app (goodIn_of _ (by decide +kernel)) ggX0_firstCallable_X0_isCallable
theorem dX0_firstCallable_0 : decode cX0_firstCallable 0 = .ok (.iconst 0, 1) := by decide +kernel
theorem dX0_firstCallable_1 : decode cX0_firstCallable 1 = .ok (.istore_n 1, 1) := by decide +kernel
theorem dX0_firstCallable_2 : decode cX0_firstCallable 2 = .ok (.iload_n 1, 1) := by decide +kernel
theorem dX0_firstCallable_3 : decode cX0_firstCallable 3 = .ok (.aload_n 0, 1) := by decide +kernel
theorem dX0_firstCallable_4 : decode cX0_firstCallable 4 = .ok (.getfield 104, 3) := by decide +kernel
theorem dX0_firstCallable_7 : decode cX0_firstCallable 7 = .ok (.if_icmp .ge 19, 3) := by decide +kernel
theorem dX0_firstCallable_10 : decode cX0_firstCallable 10 = .ok (.aload_n 0, 1) := by decide +kernel
theorem dX0_firstCallable_11 : decode cX0_firstCallable 11 = .ok (.iload_n 1, 1) := by decide +kernel
theorem dX0_firstCallable_12 : decode cX0_firstCallable 12 = .ok (.invokevirtual 113, 3) := by decide +kernel
theorem dX0_firstCallable_15 : decode cX0_firstCallable 15 = .ok (.ifCond .eq 5, 3) := by decide +kernel
theorem dX0_firstCallable_18 : decode cX0_firstCallable 18 = .ok (.iload_n 1, 1) := by decide +kernel
theorem dX0_firstCallable_19 : decode cX0_firstCallable 19 = .ok (.ireturn, 1) := by decide +kernel
theorem dX0_firstCallable_20 : decode cX0_firstCallable 20 = .ok (.iinc 1 1, 3) := by decide +kernel
theorem dX0_firstCallable_23 : decode cX0_firstCallable 23 = .ok (.goto (-21), 3) := by decide +kernel
theorem dX0_firstCallable_26 : decode cX0_firstCallable 26 = .ok (.iconst (-1), 1) := by decide +kernel
theorem dX0_firstCallable_27 : decode cX0_firstCallable 27 = .ok (.ireturn, 1) := by decide +kernel
set_option maxRecDepth 20000 in
theorem ggX0_isCallable_X0_isReleased : GoodIn wsX0_isCallable wsX0_isReleased := goodIn_r _ [6, 7, 1, 29, 30, 31, 32, 33, 34, 35, 36, 37, 38, 39, 40, 41, 42, 43, 44, 45] (by decide +kernel) (by decide +kernel)
set_option maxRecDepth 20000 in
theorem gX0_isCallable_X0_isReleased : GoodIn wsX0_isCallable (wsV RX0 194 RX0 yX0_isReleased wsX0_isReleased) := goodIn_app (goodIn_of _ (by decide +kernel)) ggX0_isCallable_X0_isReleased
set_option maxRecDepth 20000 in
theorem ggX0_isCallable_X0_canBeDone : GoodIn wsX0_isCallable wsX0_canBeDone := goodIn_r _ [11, 12, 13, 14, 15, 16, 17, 18, 19, 20, 5, 21, 22, 23, 24, 25, 26, 27, 28, 29, 30, 31, 32, 33, 34, 35, 36, 37, 38, 39, 40, 41, 42, 43, 44, 45] (by decide +kernel) (by decide +kernel)
set_option maxRecDepth 20000 in
theorem gX0_isCallable_X0_canBeDone : GoodIn wsX0_isCallable (wsV RX0 197 RX0 yX0_canBeDone wsX0_canBeDone) := goodIn_app (goodIn_of _ (by decide +kernel)) ggX0_isCallable_X0_canBeDone
theorem dX0_isCallable_0 : decode cX0_isCallable 0 = .ok (.aload_n 0, 1) := by decide +kernel
theorem dX0_isCallable_1 : decode cX0_isCallable 1 = .ok (.getfield 35, 3) := by decide +kernel
theorem dX0_isCallable_4 : decode cX0_isCallable 4 = .ok (.iload_n 1, 1) := by decide +kernel
theorem dX0_isCallable_5 : decode cX0_isCallable 5 = .ok (.iaload, 1) := by decide +kernel
theorem dX0_isCallable_6 : decode cX0_isCallable 6 = .ok (.ifCond .ne 23, 3) := by decide +kernel
theorem dX0_isCallable_9 : decode cX0_isCallable 9 = .ok (.aload_n 0, 1) := by decide +kernel
theorem dX0_isCallable_10 : decode cX0_isCallable 10 = .ok (.iload_n 1, 1) := by decide +kernel
theorem dX0_isCallable_11 : decode cX0_isCallable 11 = .ok (.invokevirtual 194, 3) := by decide +kernel
theorem dX0_isCallable_14 : decode cX0_isCallable 14 = .ok (.ifCond .eq 15, 3) := by decide +kernel
theorem dX0_isCallable_17 : decode cX0_isCallable 17 = .ok (.aload_n 0, 1) := by decide +kernel
theorem dX0_isCallable_18 : decode cX0_isCallable 18 = .ok (.iload_n 1, 1) := by decide +kernel
theorem dX0_isCallable_19 : decode cX0_isCallable 19 = .ok (.invokevirtual 197, 3) := by decide +kernel
theorem dX0_isCallable_22 : decode cX0_isCallable 22 = .ok (.ifCond .eq 7, 3) := by decide +kernel
theorem dX0_isCallable_25 : decode cX0_isCallable 25 = .ok (.iconst 1, 1) := by decide +kernel
theorem dX0_isCallable_26 : decode cX0_isCallable 26 = .ok (.goto 4, 3) := by decide +kernel
theorem dX0_isCallable_29 : decode cX0_isCallable 29 = .ok (.iconst 0, 1) := by decide +kernel
theorem dX0_isCallable_30 : decode cX0_isCallable 30 = .ok (.ireturn, 1) := by decide +kernel
theorem dX0_isReleased_0 : decode cX0_isReleased 0 = .ok (.aload_n 0, 1) := by decide +kernel
theorem dX0_isReleased_1 : decode cX0_isReleased 1 = .ok (.getfield 32, 3) := by decide +kernel
theorem dX0_isReleased_4 : decode cX0_isReleased 4 = .ok (.iload_n 1, 1) := by decide +kernel
theorem dX0_isReleased_5 : decode cX0_isReleased 5 = .ok (.iaload, 1) := by decide +kernel
theorem dX0_isReleased_6 : decode cX0_isReleased 6 = .ok (.istore_n 2, 1) := by decide +kernel
theorem dX0_isReleased_7 : decode cX0_isReleased 7 = .ok (.iload_n 2, 1) := by decide +kernel
theorem dX0_isReleased_8 : decode cX0_isReleased 8 = .ok (.iconst (-1), 1) := by decide +kernel
theorem dX0_isReleased_9 : decode cX0_isReleased 9 = .ok (.if_icmp .eq 13, 3) := by decide +kernel
theorem dX0_isReleased_12 : decode cX0_isReleased 12 = .ok (.aload_n 0, 1) := by decide +kernel
theorem dX0_isReleased_13 : decode cX0_isReleased 13 = .ok (.getfield 35, 3) := by decide +kernel
theorem dX0_isReleased_16 : decode cX0_isReleased 16 = .ok (.iload_n 2, 1) := by decide +kernel
theorem dX0_isReleased_17 : decode cX0_isReleased 17 = .ok (.iaload, 1) := by decide +kernel
theorem dX0_isReleased_18 : decode cX0_isReleased 18 = .ok (.iconst 1, 1) := by decide +kernel
theorem dX0_isReleased_19 : decode cX0_isReleased 19 = .ok (.if_icmp .ne 7, 3) := by decide +kernel
theorem dX0_isReleased_22 : decode cX0_isReleased 22 = .ok (.iconst 1, 1) := by decide +kernel
theorem dX0_isReleased_23 : decode cX0_isReleased 23 = .ok (.goto 4, 3) := by decide +kernel
theorem dX0_isReleased_26 : decode cX0_isReleased 26 = .ok (.iconst 0, 1) := by decide +kernel
theorem dX0_isReleased_27 : decode cX0_isReleased 27 = .ok (.ireturn, 1) := by decide +kernel
theorem dX0_waitsForMissed_0 : decode cX0_waitsForMissed 0 = .ok (.aload_n 0, 1) := by decide +kernel
theorem dX0_waitsForMissed_1 : decode cX0_waitsForMissed 1 = .ok (.getfield 32, 3) := by decide +kernel
theorem dX0_waitsForMissed_4 : decode cX0_waitsForMissed 4 = .ok (.iload_n 1, 1) := by decide +kernel
theorem dX0_waitsForMissed_5 : decode cX0_waitsForMissed 5 = .ok (.iaload, 1) := by decide +kernel
theorem dX0_waitsForMissed_6 : decode cX0_waitsForMissed 6 = .ok (.istore_n 2, 1) := by decide +kernel
theorem dX0_waitsForMissed_7 : decode cX0_waitsForMissed 7 = .ok (.iload_n 2, 1) := by decide +kernel
theorem dX0_waitsForMissed_8 : decode cX0_waitsForMissed 8 = .ok (.iconst (-1), 1) := by decide +kernel
theorem dX0_waitsForMissed_9 : decode cX0_waitsForMissed 9 = .ok (.if_icmp .eq 17, 3) := by decide +kernel
theorem dX0_waitsForMissed_12 : decode cX0_waitsForMissed 12 = .ok (.aload_n 0, 1) := by decide +kernel
theorem dX0_waitsForMissed_13 : decode cX0_waitsForMissed 13 = .ok (.getfield 35, 3) := by decide +kernel
theorem dX0_waitsForMissed_16 : decode cX0_waitsForMissed 16 = .ok (.iload_n 2, 1) := by decide +kernel
theorem dX0_waitsForMissed_17 : decode cX0_waitsForMissed 17 = .ok (.iaload, 1) := by decide +kernel
theorem dX0_waitsForMissed_18 : decode cX0_waitsForMissed 18 = .ok (.iconst 2, 1) := by decide +kernel
theorem dX0_waitsForMissed_19 : decode cX0_waitsForMissed 19 = .ok (.if_icmp .ne 7, 3) := by decide +kernel
theorem dX0_waitsForMissed_22 : decode cX0_waitsForMissed 22 = .ok (.iconst 1, 1) := by decide +kernel
theorem dX0_waitsForMissed_23 : decode cX0_waitsForMissed 23 = .ok (.goto 4, 3) := by decide +kernel
theorem dX0_waitsForMissed_26 : decode cX0_waitsForMissed 26 = .ok (.iconst 0, 1) := by decide +kernel
theorem dX0_waitsForMissed_27 : decode cX0_waitsForMissed 27 = .ok (.ireturn, 1) := by decide +kernel
set_option maxRecDepth 20000 in
theorem ggX0_canBeDone_X0_playerBehind : GoodIn wsX0_canBeDone wsX0_playerBehind := goodIn_r _ [11, 6, 12, 13, 10, 14, 19, 20, 21, 22, 23, 24, 25, 26, 27, 28, 29, 30, 31, 32, 33, 34, 35] (by decide +kernel) (by decide +kernel)
set_option maxRecDepth 20000 in
theorem gX0_canBeDone_X0_playerBehind : GoodIn wsX0_canBeDone (wsV RX0 141 RX0 yX0_playerBehind wsX0_playerBehind) := goodIn_app (goodIn_of _ (by decide +kernel)) ggX0_canBeDone_X0_playerBehind
set_option maxRecDepth 20000 in
theorem ggX0_canBeDone_X0_canSwap : GoodIn wsX0_canBeDone wsX0_canSwap := goodIn_r _ [18, 4, 6, 19, 20, 21, 22, 23, 24, 25, 26, 27, 28, 29, 30, 31, 32, 33, 34, 35] (by decide +kernel) (by decide +kernel)
set_option maxRecDepth 20000 in
theorem gX0_canBeDone_X0_canSwap : GoodIn wsX0_canBeDone (wsV RX0 200 RX0 yX0_canSwap wsX0_canSwap) := goodIn_app (goodIn_of _ (by decide +kernel)) ggX0_canBeDone_X0_canSwap
theorem dX0_canBeDone_0 : decode cX0_canBeDone 0 = .ok (.aload_n 0, 1) := by decide +kernel
theorem dX0_canBeDone_1 : decode cX0_canBeDone 1 = .ok (.getfield 26, 3) := by decide +kernel
theorem dX0_canBeDone_4 : decode cX0_canBeDone 4 = .ok (.iload_n 1, 1) := by decide +kernel
theorem dX0_canBeDone_5 : decode cX0_canBeDone 5 = .ok (.iaload, 1) := by decide +kernel
theorem dX0_canBeDone_6 : decode cX0_canBeDone 6 = .ok (.istore_n 2, 1) := by decide +kernel
theorem dX0_canBeDone_7 : decode cX0_canBeDone 7 = .ok (.aload_n 0, 1) := by decide +kernel
theorem dX0_canBeDone_8 : decode cX0_canBeDone 8 = .ok (.getfield 29, 3) := by decide +kernel
theorem dX0_canBeDone_11 : decode cX0_canBeDone 11 = .ok (.iload_n 1, 1) := by decide +kernel
theorem dX0_canBeDone_12 : decode cX0_canBeDone 12 = .ok (.iaload, 1) := by decide +kernel
theorem dX0_canBeDone_13 : decode cX0_canBeDone 13 = .ok (.istore_n 3, 1) := by decide +kernel
theorem dX0_canBeDone_14 : decode cX0_canBeDone 14 = .ok (.aload_n 0, 1) := by decide +kernel
theorem dX0_canBeDone_15 : decode cX0_canBeDone 15 = .ok (.getfield 23, 3) := by decide +kernel
theorem dX0_canBeDone_18 : decode cX0_canBeDone 18 = .ok (.iload_n 1, 1) := by decide +kernel
theorem dX0_canBeDone_19 : decode cX0_canBeDone 19 = .ok (.iaload, 1) := by decide +kernel
theorem dX0_canBeDone_20 : decode cX0_canBeDone 20 = .ok (.tableswitch 105 0 3 #[32, 57, 64, 89], 32) := by decide +kernel
theorem dX0_canBeDone_52 : decode cX0_canBeDone 52 = .ok (.aload_n 0, 1) := by decide +kernel
theorem dX0_canBeDone_53 : decode cX0_canBeDone 53 = .ok (.getfield 16, 3) := by decide +kernel
theorem dX0_canBeDone_56 : decode cX0_canBeDone 56 = .ok (.iload_n 2, 1) := by decide +kernel
theorem dX0_canBeDone_57 : decode cX0_canBeDone 57 = .ok (.baload, 1) := by decide +kernel
theorem dX0_canBeDone_58 : decode cX0_canBeDone 58 = .ok (.ifCond .ne 17, 3) := by decide +kernel
theorem dX0_canBeDone_61 : decode cX0_canBeDone 61 = .ok (.aload_n 0, 1) := by decide +kernel
theorem dX0_canBeDone_62 : decode cX0_canBeDone 62 = .ok (.getfield 9, 3) := by decide +kernel
theorem dX0_canBeDone_65 : decode cX0_canBeDone 65 = .ok (.iload_n 2, 1) := by decide +kernel
theorem dX0_canBeDone_66 : decode cX0_canBeDone 66 = .ok (.iaload, 1) := by decide +kernel
theorem dX0_canBeDone_67 : decode cX0_canBeDone 67 = .ok (.iconst (-1), 1) := by decide +kernel
theorem dX0_canBeDone_68 : decode cX0_canBeDone 68 = .ok (.if_icmp .eq 7, 3) := by decide +kernel
theorem dX0_canBeDone_71 : decode cX0_canBeDone 71 = .ok (.iconst 1, 1) := by decide +kernel
theorem dX0_canBeDone_72 : decode cX0_canBeDone 72 = .ok (.goto 4, 3) := by decide +kernel
theorem dX0_canBeDone_75 : decode cX0_canBeDone 75 = .ok (.iconst 0, 1) := by decide +kernel
theorem dX0_canBeDone_76 : decode cX0_canBeDone 76 = .ok (.ireturn, 1) := by decide +kernel
theorem dX0_canBeDone_77 : decode cX0_canBeDone 77 = .ok (.aload_n 0, 1) := by decide +kernel
theorem dX0_canBeDone_78 : decode cX0_canBeDone 78 = .ok (.getfield 16, 3) := by decide +kernel
theorem dX0_canBeDone_81 : decode cX0_canBeDone 81 = .ok (.iload_n 2, 1) := by decide +kernel
theorem dX0_canBeDone_82 : decode cX0_canBeDone 82 = .ok (.baload, 1) := by decide +kernel
theorem dX0_canBeDone_83 : decode cX0_canBeDone 83 = .ok (.ireturn, 1) := by decide +kernel
theorem dX0_canBeDone_84 : decode cX0_canBeDone 84 = .ok (.aload_n 0, 1) := by decide +kernel
theorem dX0_canBeDone_85 : decode cX0_canBeDone 85 = .ok (.getfield 13, 3) := by decide +kernel
theorem dX0_canBeDone_88 : decode cX0_canBeDone 88 = .ok (.iload_n 2, 1) := by decide +kernel
theorem dX0_canBeDone_89 : decode cX0_canBeDone 89 = .ok (.iaload, 1) := by decide +kernel
theorem dX0_canBeDone_90 : decode cX0_canBeDone 90 = .ok (.iconst (-1), 1) := by decide +kernel
theorem dX0_canBeDone_91 : decode cX0_canBeDone 91 = .ok (.if_icmp .ne 16, 3) := by decide +kernel
theorem dX0_canBeDone_94 : decode cX0_canBeDone 94 = .ok (.aload_n 0, 1) := by decide +kernel
theorem dX0_canBeDone_95 : decode cX0_canBeDone 95 = .ok (.iload_n 3, 1) := by decide +kernel
theorem dX0_canBeDone_96 : decode cX0_canBeDone 96 = .ok (.invokevirtual 141, 3) := by decide +kernel
theorem dX0_canBeDone_99 : decode cX0_canBeDone 99 = .ok (.iconst (-1), 1) := by decide +kernel
theorem dX0_canBeDone_100 : decode cX0_canBeDone 100 = .ok (.if_icmp .ne 7, 3) := by decide +kernel
theorem dX0_canBeDone_103 : decode cX0_canBeDone 103 = .ok (.iconst 1, 1) := by decide +kernel
theorem dX0_canBeDone_104 : decode cX0_canBeDone 104 = .ok (.goto 4, 3) := by decide +kernel
theorem dX0_canBeDone_107 : decode cX0_canBeDone 107 = .ok (.iconst 0, 1) := by decide +kernel
theorem dX0_canBeDone_108 : decode cX0_canBeDone 108 = .ok (.ireturn, 1) := by decide +kernel
theorem dX0_canBeDone_109 : decode cX0_canBeDone 109 = .ok (.aload_n 0, 1) := by decide +kernel
theorem dX0_canBeDone_110 : decode cX0_canBeDone 110 = .ok (.getfield 13, 3) := by decide +kernel
theorem dX0_canBeDone_113 : decode cX0_canBeDone 113 = .ok (.iload_n 2, 1) := by decide +kernel
theorem dX0_canBeDone_114 : decode cX0_canBeDone 114 = .ok (.iaload, 1) := by decide +kernel
theorem dX0_canBeDone_115 : decode cX0_canBeDone 115 = .ok (.iconst (-1), 1) := by decide +kernel
theorem dX0_canBeDone_116 : decode cX0_canBeDone 116 = .ok (.if_icmp .eq 7, 3) := by decide +kernel
theorem dX0_canBeDone_119 : decode cX0_canBeDone 119 = .ok (.iconst 1, 1) := by decide +kernel
theorem dX0_canBeDone_120 : decode cX0_canBeDone 120 = .ok (.goto 4, 3) := by decide +kernel
theorem dX0_canBeDone_123 : decode cX0_canBeDone 123 = .ok (.iconst 0, 1) := by decide +kernel
theorem dX0_canBeDone_124 : decode cX0_canBeDone 124 = .ok (.ireturn, 1) := by decide +kernel
theorem dX0_canBeDone_125 : decode cX0_canBeDone 125 = .ok (.aload_n 0, 1) := by decide +kernel
theorem dX0_canBeDone_126 : decode cX0_canBeDone 126 = .ok (.iload_n 2, 1) := by decide +kernel
theorem dX0_canBeDone_127 : decode cX0_canBeDone 127 = .ok (.iload_n 3, 1) := by decide +kernel
theorem dX0_canBeDone_128 : decode cX0_canBeDone 128 = .ok (.invokevirtual 200, 3) := by decide +kernel
theorem dX0_canBeDone_131 : decode cX0_canBeDone 131 = .ok (.ireturn, 1) := by decide +kernel
theorem dX0_canSwap_0 : decode cX0_canSwap 0 = .ok (.aload_n 0, 1) := by decide +kernel
theorem dX0_canSwap_1 : decode cX0_canSwap 1 = .ok (.getfield 16, 3) := by decide +kernel
theorem dX0_canSwap_4 : decode cX0_canSwap 4 = .ok (.iload_n 1, 1) := by decide +kernel
theorem dX0_canSwap_5 : decode cX0_canSwap 5 = .ok (.baload, 1) := by decide +kernel
theorem dX0_canSwap_6 : decode cX0_canSwap 6 = .ok (.ifCond .eq 16, 3) := by decide +kernel
theorem dX0_canSwap_9 : decode cX0_canSwap 9 = .ok (.aload_n 0, 1) := by decide +kernel
theorem dX0_canSwap_10 : decode cX0_canSwap 10 = .ok (.getfield 16, 3) := by decide +kernel
theorem dX0_canSwap_13 : decode cX0_canSwap 13 = .ok (.iload_n 2, 1) := by decide +kernel
theorem dX0_canSwap_14 : decode cX0_canSwap 14 = .ok (.baload, 1) := by decide +kernel
theorem dX0_canSwap_15 : decode cX0_canSwap 15 = .ok (.ifCond .eq 7, 3) := by decide +kernel
theorem dX0_canSwap_18 : decode cX0_canSwap 18 = .ok (.iconst 1, 1) := by decide +kernel
theorem dX0_canSwap_19 : decode cX0_canSwap 19 = .ok (.goto 4, 3) := by decide +kernel
theorem dX0_canSwap_22 : decode cX0_canSwap 22 = .ok (.iconst 0, 1) := by decide +kernel
theorem dX0_canSwap_23 : decode cX0_canSwap 23 = .ok (.istore_n 3, 1) := by decide +kernel
theorem dX0_canSwap_24 : decode cX0_canSwap 24 = .ok (.iload_n 3, 1) := by decide +kernel
theorem dX0_canSwap_25 : decode cX0_canSwap 25 = .ok (.ifCond .eq 27, 3) := by decide +kernel
theorem dX0_canSwap_28 : decode cX0_canSwap 28 = .ok (.aload_n 0, 1) := by decide +kernel
theorem dX0_canSwap_29 : decode cX0_canSwap 29 = .ok (.getfield 13, 3) := by decide +kernel
theorem dX0_canSwap_32 : decode cX0_canSwap 32 = .ok (.iload_n 1, 1) := by decide +kernel
theorem dX0_canSwap_33 : decode cX0_canSwap 33 = .ok (.iaload, 1) := by decide +kernel
theorem dX0_canSwap_34 : decode cX0_canSwap 34 = .ok (.iconst (-1), 1) := by decide +kernel
theorem dX0_canSwap_35 : decode cX0_canSwap 35 = .ok (.if_icmp .ne 13, 3) := by decide +kernel
theorem dX0_canSwap_38 : decode cX0_canSwap 38 = .ok (.aload_n 0, 1) := by decide +kernel
theorem dX0_canSwap_39 : decode cX0_canSwap 39 = .ok (.getfield 13, 3) := by decide +kernel
theorem dX0_canSwap_42 : decode cX0_canSwap 42 = .ok (.iload_n 2, 1) := by decide +kernel
theorem dX0_canSwap_43 : decode cX0_canSwap 43 = .ok (.iaload, 1) := by decide +kernel
theorem dX0_canSwap_44 : decode cX0_canSwap 44 = .ok (.iconst (-1), 1) := by decide +kernel
theorem dX0_canSwap_45 : decode cX0_canSwap 45 = .ok (.if_icmp .eq 7, 3) := by decide +kernel
theorem dX0_canSwap_48 : decode cX0_canSwap 48 = .ok (.iconst 1, 1) := by decide +kernel
theorem dX0_canSwap_49 : decode cX0_canSwap 49 = .ok (.goto 4, 3) := by decide +kernel
theorem dX0_canSwap_52 : decode cX0_canSwap 52 = .ok (.iconst 0, 1) := by decide +kernel
theorem dX0_canSwap_53 : decode cX0_canSwap 53 = .ok (.ireturn, 1) := by decide +kernel
set_option maxRecDepth 20000 in
theorem ggX0_carryOut_X0_leaveStage : GoodIn wsX0_carryOut wsX0_leaveStage := goodIn_r _ [10, 3, 11, 12, 24, 25, 26, 27, 28, 29, 30, 31, 32, 33, 34, 35, 36, 37, 38, 39, 40] (by decide +kernel) (by decide +kernel)
set_option maxRecDepth 20000 in
theorem gX0_carryOut_X0_leaveStage : GoodIn wsX0_carryOut (wsV RX0 203 RX0 yX0_leaveStage wsX0_leaveStage) := goodIn_app (goodIn_of _ (by decide +kernel)) ggX0_carryOut_X0_leaveStage
set_option maxRecDepth 20000 in
theorem ggX0_carryOut_X0_moveMasks : GoodIn wsX0_carryOut wsX0_moveMasks := goodIn_r _ [16, 1, 17, 2, 24, 25, 26, 27, 28, 29, 30, 31, 32, 33, 34, 35, 36, 37, 38, 39, 40] (by decide +kernel) (by decide +kernel)
set_option maxRecDepth 20000 in
theorem gX0_carryOut_X0_moveMasks : GoodIn wsX0_carryOut (wsV RX0 134 RX0 yX0_moveMasks wsX0_moveMasks) := goodIn_app (goodIn_of _ (by decide +kernel)) ggX0_carryOut_X0_moveMasks
set_option maxRecDepth 20000 in
theorem ggX0_carryOut_X0_noteCalled : GoodIn wsX0_carryOut wsX0_noteCalled := goodIn_r _ [21, 22, 23, 24, 25, 26, 27, 28, 29, 30, 31, 32, 33, 34, 35, 36, 37, 38, 39, 40] (by decide +kernel) (by decide +kernel)
set_option maxRecDepth 20000 in
theorem gX0_carryOut_X0_noteCalled : GoodIn wsX0_carryOut (wsV RX0 206 RX0 yX0_noteCalled wsX0_noteCalled) := goodIn_app (goodIn_of _ (by decide +kernel)) ggX0_carryOut_X0_noteCalled
theorem dX0_carryOut_0 : decode cX0_carryOut 0 = .ok (.aload_n 0, 1) := by decide +kernel
theorem dX0_carryOut_1 : decode cX0_carryOut 1 = .ok (.getfield 26, 3) := by decide +kernel
theorem dX0_carryOut_4 : decode cX0_carryOut 4 = .ok (.iload_n 1, 1) := by decide +kernel
theorem dX0_carryOut_5 : decode cX0_carryOut 5 = .ok (.iaload, 1) := by decide +kernel
theorem dX0_carryOut_6 : decode cX0_carryOut 6 = .ok (.istore_n 2, 1) := by decide +kernel
theorem dX0_carryOut_7 : decode cX0_carryOut 7 = .ok (.aload_n 0, 1) := by decide +kernel
theorem dX0_carryOut_8 : decode cX0_carryOut 8 = .ok (.getfield 23, 3) := by decide +kernel
theorem dX0_carryOut_11 : decode cX0_carryOut 11 = .ok (.iload_n 1, 1) := by decide +kernel
theorem dX0_carryOut_12 : decode cX0_carryOut 12 = .ok (.iaload, 1) := by decide +kernel
theorem dX0_carryOut_13 : decode cX0_carryOut 13 = .ok (.ifCond .ne 13, 3) := by decide +kernel
theorem dX0_carryOut_16 : decode cX0_carryOut 16 = .ok (.aload_n 0, 1) := by decide +kernel
theorem dX0_carryOut_17 : decode cX0_carryOut 17 = .ok (.getfield 16, 3) := by decide +kernel
theorem dX0_carryOut_20 : decode cX0_carryOut 20 = .ok (.iload_n 2, 1) := by decide +kernel
theorem dX0_carryOut_21 : decode cX0_carryOut 21 = .ok (.iconst 1, 1) := by decide +kernel
theorem dX0_carryOut_22 : decode cX0_carryOut 22 = .ok (.bastore, 1) := by decide +kernel
theorem dX0_carryOut_23 : decode cX0_carryOut 23 = .ok (.goto 30, 3) := by decide +kernel
theorem dX0_carryOut_26 : decode cX0_carryOut 26 = .ok (.aload_n 0, 1) := by decide +kernel
theorem dX0_carryOut_27 : decode cX0_carryOut 27 = .ok (.getfield 23, 3) := by decide +kernel
theorem dX0_carryOut_30 : decode cX0_carryOut 30 = .ok (.iload_n 1, 1) := by decide +kernel
theorem dX0_carryOut_31 : decode cX0_carryOut 31 = .ok (.iaload, 1) := by decide +kernel
theorem dX0_carryOut_32 : decode cX0_carryOut 32 = .ok (.iconst 1, 1) := by decide +kernel
theorem dX0_carryOut_33 : decode cX0_carryOut 33 = .ok (.if_icmp .ne 11, 3) := by decide +kernel
theorem dX0_carryOut_36 : decode cX0_carryOut 36 = .ok (.aload_n 0, 1) := by decide +kernel
theorem dX0_carryOut_37 : decode cX0_carryOut 37 = .ok (.iload_n 2, 1) := by decide +kernel
theorem dX0_carryOut_38 : decode cX0_carryOut 38 = .ok (.invokevirtual 203, 3) := by decide +kernel
theorem dX0_carryOut_41 : decode cX0_carryOut 41 = .ok (.goto 12, 3) := by decide +kernel
theorem dX0_carryOut_44 : decode cX0_carryOut 44 = .ok (.aload_n 0, 1) := by decide +kernel
theorem dX0_carryOut_45 : decode cX0_carryOut 45 = .ok (.iload_n 1, 1) := by decide +kernel
theorem dX0_carryOut_46 : decode cX0_carryOut 46 = .ok (.aload_n 0, 1) := by decide +kernel
theorem dX0_carryOut_47 : decode cX0_carryOut 47 = .ok (.getfield 13, 3) := by decide +kernel
theorem dX0_carryOut_50 : decode cX0_carryOut 50 = .ok (.invokevirtual 134, 3) := by decide +kernel
theorem dX0_carryOut_53 : decode cX0_carryOut 53 = .ok (.aload_n 0, 1) := by decide +kernel
theorem dX0_carryOut_54 : decode cX0_carryOut 54 = .ok (.getfield 35, 3) := by decide +kernel
theorem dX0_carryOut_57 : decode cX0_carryOut 57 = .ok (.iload_n 1, 1) := by decide +kernel
theorem dX0_carryOut_58 : decode cX0_carryOut 58 = .ok (.iconst 1, 1) := by decide +kernel
theorem dX0_carryOut_59 : decode cX0_carryOut 59 = .ok (.iastore, 1) := by decide +kernel
theorem dX0_carryOut_60 : decode cX0_carryOut 60 = .ok (.aload_n 0, 1) := by decide +kernel
theorem dX0_carryOut_61 : decode cX0_carryOut 61 = .ok (.iload_n 1, 1) := by decide +kernel
theorem dX0_carryOut_62 : decode cX0_carryOut 62 = .ok (.invokevirtual 206, 3) := by decide +kernel
theorem dX0_carryOut_65 : decode cX0_carryOut 65 = .ok (.return_, 1) := by decide +kernel
theorem dX0_noteCalled_0 : decode cX0_noteCalled 0 = .ok (.aload_n 0, 1) := by decide +kernel
theorem dX0_noteCalled_1 : decode cX0_noteCalled 1 = .ok (.getfield 122, 3) := by decide +kernel
theorem dX0_noteCalled_4 : decode cX0_noteCalled 4 = .ok (.aload_n 0, 1) := by decide +kernel
theorem dX0_noteCalled_5 : decode cX0_noteCalled 5 = .ok (.getfield 38, 3) := by decide +kernel
theorem dX0_noteCalled_8 : decode cX0_noteCalled 8 = .ok (.arraylength, 1) := by decide +kernel
theorem dX0_noteCalled_9 : decode cX0_noteCalled 9 = .ok (.if_icmp .ge 23, 3) := by decide +kernel
theorem dX0_noteCalled_12 : decode cX0_noteCalled 12 = .ok (.aload_n 0, 1) := by decide +kernel
theorem dX0_noteCalled_13 : decode cX0_noteCalled 13 = .ok (.getfield 38, 3) := by decide +kernel
theorem dX0_noteCalled_16 : decode cX0_noteCalled 16 = .ok (.aload_n 0, 1) := by decide +kernel
theorem dX0_noteCalled_17 : decode cX0_noteCalled 17 = .ok (.getfield 122, 3) := by decide +kernel
theorem dX0_noteCalled_20 : decode cX0_noteCalled 20 = .ok (.iload_n 1, 1) := by decide +kernel
theorem dX0_noteCalled_21 : decode cX0_noteCalled 21 = .ok (.iastore, 1) := by decide +kernel
theorem dX0_noteCalled_22 : decode cX0_noteCalled 22 = .ok (.aload_n 0, 1) := by decide +kernel
theorem dX0_noteCalled_23 : decode cX0_noteCalled 23 = .ok (.dup, 1) := by decide +kernel
theorem dX0_noteCalled_24 : decode cX0_noteCalled 24 = .ok (.getfield 122, 3) := by decide +kernel
theorem dX0_noteCalled_27 : decode cX0_noteCalled 27 = .ok (.iconst 1, 1) := by decide +kernel
theorem dX0_noteCalled_28 : decode cX0_noteCalled 28 = .ok (.iadd, 1) := by decide +kernel
theorem dX0_noteCalled_29 : decode cX0_noteCalled 29 = .ok (.putfield 122, 3) := by decide +kernel
theorem dX0_noteCalled_32 : decode cX0_noteCalled 32 = .ok (.return_, 1) := by decide +kernel
theorem dX0_leaveStage_0 : decode cX0_leaveStage 0 = .ok (.aload_n 0, 1) := by decide +kernel
theorem dX0_leaveStage_1 : decode cX0_leaveStage 1 = .ok (.getfield 16, 3) := by decide +kernel
theorem dX0_leaveStage_4 : decode cX0_leaveStage 4 = .ok (.iload_n 1, 1) := by decide +kernel
theorem dX0_leaveStage_5 : decode cX0_leaveStage 5 = .ok (.iconst 0, 1) := by decide +kernel
theorem dX0_leaveStage_6 : decode cX0_leaveStage 6 = .ok (.bastore, 1) := by decide +kernel
theorem dX0_leaveStage_7 : decode cX0_leaveStage 7 = .ok (.aload_n 0, 1) := by decide +kernel
theorem dX0_leaveStage_8 : decode cX0_leaveStage 8 = .ok (.getfield 9, 3) := by decide +kernel
theorem dX0_leaveStage_11 : decode cX0_leaveStage 11 = .ok (.iload_n 1, 1) := by decide +kernel
theorem dX0_leaveStage_12 : decode cX0_leaveStage 12 = .ok (.iaload, 1) := by decide +kernel
theorem dX0_leaveStage_13 : decode cX0_leaveStage 13 = .ok (.istore_n 2, 1) := by decide +kernel
theorem dX0_leaveStage_14 : decode cX0_leaveStage 14 = .ok (.iload_n 2, 1) := by decide +kernel
theorem dX0_leaveStage_15 : decode cX0_leaveStage 15 = .ok (.iconst (-1), 1) := by decide +kernel
theorem dX0_leaveStage_16 : decode cX0_leaveStage 16 = .ok (.if_icmp .ne 4, 3) := by decide +kernel
theorem dX0_leaveStage_19 : decode cX0_leaveStage 19 = .ok (.return_, 1) := by decide +kernel
theorem dX0_leaveStage_20 : decode cX0_leaveStage 20 = .ok (.aload_n 0, 1) := by decide +kernel
theorem dX0_leaveStage_21 : decode cX0_leaveStage 21 = .ok (.getfield 20, 3) := by decide +kernel
theorem dX0_leaveStage_24 : decode cX0_leaveStage 24 = .ok (.iload_n 2, 1) := by decide +kernel
theorem dX0_leaveStage_25 : decode cX0_leaveStage 25 = .ok (.dup2, 1) := by decide +kernel
theorem dX0_leaveStage_26 : decode cX0_leaveStage 26 = .ok (.iaload, 1) := by decide +kernel
theorem dX0_leaveStage_27 : decode cX0_leaveStage 27 = .ok (.iconst 1, 1) := by decide +kernel
theorem dX0_leaveStage_28 : decode cX0_leaveStage 28 = .ok (.iadd, 1) := by decide +kernel
theorem dX0_leaveStage_29 : decode cX0_leaveStage 29 = .ok (.iastore, 1) := by decide +kernel
theorem dX0_leaveStage_30 : decode cX0_leaveStage 30 = .ok (.aload_n 0, 1) := by decide +kernel
theorem dX0_leaveStage_31 : decode cX0_leaveStage 31 = .ok (.getfield 20, 3) := by decide +kernel
theorem dX0_leaveStage_34 : decode cX0_leaveStage 34 = .ok (.iload_n 2, 1) := by decide +kernel
theorem dX0_leaveStage_35 : decode cX0_leaveStage 35 = .ok (.iaload, 1) := by decide +kernel
theorem dX0_leaveStage_36 : decode cX0_leaveStage 36 = .ok (.iconst 3, 1) := by decide +kernel
theorem dX0_leaveStage_37 : decode cX0_leaveStage 37 = .ok (.if_icmp .lt 10, 3) := by decide +kernel
theorem dX0_leaveStage_40 : decode cX0_leaveStage 40 = .ok (.aload_n 0, 1) := by decide +kernel
theorem dX0_leaveStage_41 : decode cX0_leaveStage 41 = .ok (.getfield 9, 3) := by decide +kernel
theorem dX0_leaveStage_44 : decode cX0_leaveStage 44 = .ok (.iload_n 1, 1) := by decide +kernel
theorem dX0_leaveStage_45 : decode cX0_leaveStage 45 = .ok (.iconst (-1), 1) := by decide +kernel
theorem dX0_leaveStage_46 : decode cX0_leaveStage 46 = .ok (.iastore, 1) := by decide +kernel
theorem dX0_leaveStage_47 : decode cX0_leaveStage 47 = .ok (.return_, 1) := by decide +kernel
theorem dX0_moveMasks_0 : decode cX0_moveMasks 0 = .ok (.aload_n 0, 1) := by decide +kernel
theorem dX0_moveMasks_1 : decode cX0_moveMasks 1 = .ok (.getfield 26, 3) := by decide +kernel
theorem dX0_moveMasks_4 : decode cX0_moveMasks 4 = .ok (.iload_n 1, 1) := by decide +kernel
theorem dX0_moveMasks_5 : decode cX0_moveMasks 5 = .ok (.iaload, 1) := by decide +kernel
theorem dX0_moveMasks_6 : decode cX0_moveMasks 6 = .ok (.istore_n 3, 1) := by decide +kernel
theorem dX0_moveMasks_7 : decode cX0_moveMasks 7 = .ok (.aload_n 0, 1) := by decide +kernel
theorem dX0_moveMasks_8 : decode cX0_moveMasks 8 = .ok (.getfield 29, 3) := by decide +kernel
theorem dX0_moveMasks_11 : decode cX0_moveMasks 11 = .ok (.iload_n 1, 1) := by decide +kernel
theorem dX0_moveMasks_12 : decode cX0_moveMasks 12 = .ok (.iaload, 1) := by decide +kernel
theorem dX0_moveMasks_13 : decode cX0_moveMasks 13 = .ok (.istore 4, 2) := by decide +kernel
theorem dX0_moveMasks_15 : decode cX0_moveMasks 15 = .ok (.aload_n 0, 1) := by decide +kernel
theorem dX0_moveMasks_16 : decode cX0_moveMasks 16 = .ok (.getfield 23, 3) := by decide +kernel
theorem dX0_moveMasks_19 : decode cX0_moveMasks 19 = .ok (.iload_n 1, 1) := by decide +kernel
theorem dX0_moveMasks_20 : decode cX0_moveMasks 20 = .ok (.iaload, 1) := by decide +kernel
theorem dX0_moveMasks_21 : decode cX0_moveMasks 21 = .ok (.iconst 2, 1) := by decide +kernel
theorem dX0_moveMasks_22 : decode cX0_moveMasks 22 = .ok (.if_icmp .ne 11, 3) := by decide +kernel
theorem dX0_moveMasks_25 : decode cX0_moveMasks 25 = .ok (.aload_n 2, 1) := by decide +kernel
theorem dX0_moveMasks_26 : decode cX0_moveMasks 26 = .ok (.iload_n 3, 1) := by decide +kernel
theorem dX0_moveMasks_27 : decode cX0_moveMasks 27 = .ok (.iload 4, 2) := by decide +kernel
theorem dX0_moveMasks_29 : decode cX0_moveMasks 29 = .ok (.iastore, 1) := by decide +kernel
theorem dX0_moveMasks_30 : decode cX0_moveMasks 30 = .ok (.goto 48, 3) := by decide +kernel
theorem dX0_moveMasks_33 : decode cX0_moveMasks 33 = .ok (.aload_n 0, 1) := by decide +kernel
theorem dX0_moveMasks_34 : decode cX0_moveMasks 34 = .ok (.getfield 23, 3) := by decide +kernel
theorem dX0_moveMasks_37 : decode cX0_moveMasks 37 = .ok (.iload_n 1, 1) := by decide +kernel
theorem dX0_moveMasks_38 : decode cX0_moveMasks 38 = .ok (.iaload, 1) := by decide +kernel
theorem dX0_moveMasks_39 : decode cX0_moveMasks 39 = .ok (.iconst 3, 1) := by decide +kernel
theorem dX0_moveMasks_40 : decode cX0_moveMasks 40 = .ok (.if_icmp .ne 10, 3) := by decide +kernel
theorem dX0_moveMasks_43 : decode cX0_moveMasks 43 = .ok (.aload_n 2, 1) := by decide +kernel
theorem dX0_moveMasks_44 : decode cX0_moveMasks 44 = .ok (.iload_n 3, 1) := by decide +kernel
theorem dX0_moveMasks_45 : decode cX0_moveMasks 45 = .ok (.iconst (-1), 1) := by decide +kernel
theorem dX0_moveMasks_46 : decode cX0_moveMasks 46 = .ok (.iastore, 1) := by decide +kernel
theorem dX0_moveMasks_47 : decode cX0_moveMasks 47 = .ok (.goto 31, 3) := by decide +kernel
theorem dX0_moveMasks_50 : decode cX0_moveMasks 50 = .ok (.aload_n 0, 1) := by decide +kernel
theorem dX0_moveMasks_51 : decode cX0_moveMasks 51 = .ok (.getfield 23, 3) := by decide +kernel
theorem dX0_moveMasks_54 : decode cX0_moveMasks 54 = .ok (.iload_n 1, 1) := by decide +kernel
theorem dX0_moveMasks_55 : decode cX0_moveMasks 55 = .ok (.iaload, 1) := by decide +kernel
theorem dX0_moveMasks_56 : decode cX0_moveMasks 56 = .ok (.iconst 4, 1) := by decide +kernel
theorem dX0_moveMasks_57 : decode cX0_moveMasks 57 = .ok (.if_icmp .ne 21, 3) := by decide +kernel
theorem dX0_moveMasks_60 : decode cX0_moveMasks 60 = .ok (.aload_n 2, 1) := by decide +kernel
theorem dX0_moveMasks_61 : decode cX0_moveMasks 61 = .ok (.iload_n 3, 1) := by decide +kernel
theorem dX0_moveMasks_62 : decode cX0_moveMasks 62 = .ok (.iaload, 1) := by decide +kernel
theorem dX0_moveMasks_63 : decode cX0_moveMasks 63 = .ok (.istore 5, 2) := by decide +kernel
theorem dX0_moveMasks_65 : decode cX0_moveMasks 65 = .ok (.aload_n 2, 1) := by decide +kernel
theorem dX0_moveMasks_66 : decode cX0_moveMasks 66 = .ok (.iload_n 3, 1) := by decide +kernel
theorem dX0_moveMasks_67 : decode cX0_moveMasks 67 = .ok (.aload_n 2, 1) := by decide +kernel
theorem dX0_moveMasks_68 : decode cX0_moveMasks 68 = .ok (.iload 4, 2) := by decide +kernel
theorem dX0_moveMasks_70 : decode cX0_moveMasks 70 = .ok (.iaload, 1) := by decide +kernel
theorem dX0_moveMasks_71 : decode cX0_moveMasks 71 = .ok (.iastore, 1) := by decide +kernel
theorem dX0_moveMasks_72 : decode cX0_moveMasks 72 = .ok (.aload_n 2, 1) := by decide +kernel
theorem dX0_moveMasks_73 : decode cX0_moveMasks 73 = .ok (.iload 4, 2) := by decide +kernel
theorem dX0_moveMasks_75 : decode cX0_moveMasks 75 = .ok (.iload 5, 2) := by decide +kernel
theorem dX0_moveMasks_77 : decode cX0_moveMasks 77 = .ok (.iastore, 1) := by decide +kernel
theorem dX0_moveMasks_78 : decode cX0_moveMasks 78 = .ok (.return_, 1) := by decide +kernel
theorem dX0_countCues_0 : decode cX0_countCues 0 = .ok (.iconst 0, 1) := by decide +kernel
theorem dX0_countCues_1 : decode cX0_countCues 1 = .ok (.istore_n 2, 1) := by decide +kernel
theorem dX0_countCues_2 : decode cX0_countCues 2 = .ok (.iconst 0, 1) := by decide +kernel
theorem dX0_countCues_3 : decode cX0_countCues 3 = .ok (.istore_n 3, 1) := by decide +kernel
theorem dX0_countCues_4 : decode cX0_countCues 4 = .ok (.iload_n 3, 1) := by decide +kernel
theorem dX0_countCues_5 : decode cX0_countCues 5 = .ok (.aload_n 0, 1) := by decide +kernel
theorem dX0_countCues_6 : decode cX0_countCues 6 = .ok (.getfield 104, 3) := by decide +kernel
theorem dX0_countCues_9 : decode cX0_countCues 9 = .ok (.if_icmp .ge 22, 3) := by decide +kernel
theorem dX0_countCues_12 : decode cX0_countCues 12 = .ok (.aload_n 0, 1) := by decide +kernel
theorem dX0_countCues_13 : decode cX0_countCues 13 = .ok (.getfield 35, 3) := by decide +kernel
theorem dX0_countCues_16 : decode cX0_countCues 16 = .ok (.iload_n 3, 1) := by decide +kernel
theorem dX0_countCues_17 : decode cX0_countCues 17 = .ok (.iaload, 1) := by decide +kernel
theorem dX0_countCues_18 : decode cX0_countCues 18 = .ok (.iload_n 1, 1) := by decide +kernel
theorem dX0_countCues_19 : decode cX0_countCues 19 = .ok (.if_icmp .ne 6, 3) := by decide +kernel
theorem dX0_countCues_22 : decode cX0_countCues 22 = .ok (.iinc 2 1, 3) := by decide +kernel
theorem dX0_countCues_25 : decode cX0_countCues 25 = .ok (.iinc 3 1, 3) := by decide +kernel
theorem dX0_countCues_28 : decode cX0_countCues 28 = .ok (.goto (-24), 3) := by decide +kernel
theorem dX0_countCues_31 : decode cX0_countCues 31 = .ok (.iload_n 2, 1) := by decide +kernel
theorem dX0_countCues_32 : decode cX0_countCues 32 = .ok (.ireturn, 1) := by decide +kernel
theorem dX0_clearStage_0 : decode cX0_clearStage 0 = .ok (.iconst 0, 1) := by decide +kernel
theorem dX0_clearStage_1 : decode cX0_clearStage 1 = .ok (.istore_n 1, 1) := by decide +kernel
theorem dX0_clearStage_2 : decode cX0_clearStage 2 = .ok (.iload_n 1, 1) := by decide +kernel
theorem dX0_clearStage_3 : decode cX0_clearStage 3 = .ok (.bipush 6, 2) := by decide +kernel
theorem dX0_clearStage_5 : decode cX0_clearStage 5 = .ok (.if_icmp .ge 23, 3) := by decide +kernel
theorem dX0_clearStage_8 : decode cX0_clearStage 8 = .ok (.aload_n 0, 1) := by decide +kernel
theorem dX0_clearStage_9 : decode cX0_clearStage 9 = .ok (.getfield 13, 3) := by decide +kernel
theorem dX0_clearStage_12 : decode cX0_clearStage 12 = .ok (.iload_n 1, 1) := by decide +kernel
theorem dX0_clearStage_13 : decode cX0_clearStage 13 = .ok (.iconst (-1), 1) := by decide +kernel
theorem dX0_clearStage_14 : decode cX0_clearStage 14 = .ok (.iastore, 1) := by decide +kernel
theorem dX0_clearStage_15 : decode cX0_clearStage 15 = .ok (.aload_n 0, 1) := by decide +kernel
theorem dX0_clearStage_16 : decode cX0_clearStage 16 = .ok (.getfield 16, 3) := by decide +kernel
theorem dX0_clearStage_19 : decode cX0_clearStage 19 = .ok (.iload_n 1, 1) := by decide +kernel
theorem dX0_clearStage_20 : decode cX0_clearStage 20 = .ok (.iconst 0, 1) := by decide +kernel
theorem dX0_clearStage_21 : decode cX0_clearStage 21 = .ok (.bastore, 1) := by decide +kernel
theorem dX0_clearStage_22 : decode cX0_clearStage 22 = .ok (.iinc 1 1, 3) := by decide +kernel
theorem dX0_clearStage_25 : decode cX0_clearStage 25 = .ok (.goto (-23), 3) := by decide +kernel
theorem dX0_clearStage_28 : decode cX0_clearStage 28 = .ok (.return_, 1) := by decide +kernel
theorem dX0_clearGuesses_0 : decode cX0_clearGuesses 0 = .ok (.iconst 0, 1) := by decide +kernel
theorem dX0_clearGuesses_1 : decode cX0_clearGuesses 1 = .ok (.istore_n 1, 1) := by decide +kernel
theorem dX0_clearGuesses_2 : decode cX0_clearGuesses 2 = .ok (.iload_n 1, 1) := by decide +kernel
theorem dX0_clearGuesses_3 : decode cX0_clearGuesses 3 = .ok (.aload_n 0, 1) := by decide +kernel
theorem dX0_clearGuesses_4 : decode cX0_clearGuesses 4 = .ok (.getfield 44, 3) := by decide +kernel
theorem dX0_clearGuesses_7 : decode cX0_clearGuesses 7 = .ok (.arraylength, 1) := by decide +kernel
theorem dX0_clearGuesses_8 : decode cX0_clearGuesses 8 = .ok (.if_icmp .ge 16, 3) := by decide +kernel
theorem dX0_clearGuesses_11 : decode cX0_clearGuesses 11 = .ok (.aload_n 0, 1) := by decide +kernel
theorem dX0_clearGuesses_12 : decode cX0_clearGuesses 12 = .ok (.getfield 44, 3) := by decide +kernel
theorem dX0_clearGuesses_15 : decode cX0_clearGuesses 15 = .ok (.iload_n 1, 1) := by decide +kernel
theorem dX0_clearGuesses_16 : decode cX0_clearGuesses 16 = .ok (.iconst 0, 1) := by decide +kernel
theorem dX0_clearGuesses_17 : decode cX0_clearGuesses 17 = .ok (.bastore, 1) := by decide +kernel
theorem dX0_clearGuesses_18 : decode cX0_clearGuesses 18 = .ok (.iinc 1 1, 3) := by decide +kernel
theorem dX0_clearGuesses_21 : decode cX0_clearGuesses 21 = .ok (.goto (-19), 3) := by decide +kernel
theorem dX0_clearGuesses_24 : decode cX0_clearGuesses 24 = .ok (.return_, 1) := by decide +kernel
theorem dJ9_abs_0f7a4_0 : decode cJ9_abs_0f7a4 0 = .ok (.iload_n 0, 1) := by decide +kernel
theorem dJ9_abs_0f7a4_1 : decode cJ9_abs_0f7a4 1 = .ok (.ifCond .ge 8, 3) := by decide +kernel
theorem dJ9_abs_0f7a4_4 : decode cJ9_abs_0f7a4 4 = .ok (.iload_n 0, 1) := by decide +kernel
theorem dJ9_abs_0f7a4_5 : decode cJ9_abs_0f7a4 5 = .ok (.ineg, 1) := by decide +kernel
theorem dJ9_abs_0f7a4_6 : decode cJ9_abs_0f7a4 6 = .ok (.goto 4, 3) := by decide +kernel
theorem dJ9_abs_0f7a4_9 : decode cJ9_abs_0f7a4 9 = .ok (.iload_n 0, 1) := by decide +kernel
theorem dJ9_abs_0f7a4_10 : decode cJ9_abs_0f7a4 10 = .ok (.ireturn, 1) := by decide +kernel
theorem dJ9_max_7cf53_0 : decode cJ9_max_7cf53 0 = .ok (.iload_n 0, 1) := by decide +kernel
theorem dJ9_max_7cf53_1 : decode cJ9_max_7cf53 1 = .ok (.iload_n 1, 1) := by decide +kernel
theorem dJ9_max_7cf53_2 : decode cJ9_max_7cf53 2 = .ok (.if_icmp .lt 7, 3) := by decide +kernel
theorem dJ9_max_7cf53_5 : decode cJ9_max_7cf53 5 = .ok (.iload_n 0, 1) := by decide +kernel
theorem dJ9_max_7cf53_6 : decode cJ9_max_7cf53 6 = .ok (.goto 4, 3) := by decide +kernel
theorem dJ9_max_7cf53_9 : decode cJ9_max_7cf53 9 = .ok (.iload_n 1, 1) := by decide +kernel
theorem dJ9_max_7cf53_10 : decode cJ9_max_7cf53 10 = .ok (.ireturn, 1) := by decide +kernel
theorem dJ7_fill_53178_0 : decode cJ7_fill_53178 0 = .ok (.iconst 0, 1) := by decide +kernel
theorem dJ7_fill_53178_1 : decode cJ7_fill_53178 1 = .ok (.istore_n 2, 1) := by decide +kernel
theorem dJ7_fill_53178_2 : decode cJ7_fill_53178 2 = .ok (.aload_n 0, 1) := by decide +kernel
theorem dJ7_fill_53178_3 : decode cJ7_fill_53178 3 = .ok (.arraylength, 1) := by decide +kernel
theorem dJ7_fill_53178_4 : decode cJ7_fill_53178 4 = .ok (.istore_n 3, 1) := by decide +kernel
theorem dJ7_fill_53178_5 : decode cJ7_fill_53178 5 = .ok (.iload_n 2, 1) := by decide +kernel
theorem dJ7_fill_53178_6 : decode cJ7_fill_53178 6 = .ok (.iload_n 3, 1) := by decide +kernel
theorem dJ7_fill_53178_7 : decode cJ7_fill_53178 7 = .ok (.if_icmp .ge 13, 3) := by decide +kernel
theorem dJ7_fill_53178_10 : decode cJ7_fill_53178 10 = .ok (.aload_n 0, 1) := by decide +kernel
theorem dJ7_fill_53178_11 : decode cJ7_fill_53178 11 = .ok (.iload_n 2, 1) := by decide +kernel
theorem dJ7_fill_53178_12 : decode cJ7_fill_53178 12 = .ok (.iload_n 1, 1) := by decide +kernel
theorem dJ7_fill_53178_13 : decode cJ7_fill_53178 13 = .ok (.iastore, 1) := by decide +kernel
theorem dJ7_fill_53178_14 : decode cJ7_fill_53178 14 = .ok (.iinc 2 1, 3) := by decide +kernel
theorem dJ7_fill_53178_17 : decode cJ7_fill_53178 17 = .ok (.goto (-12), 3) := by decide +kernel
theorem dJ7_fill_53178_20 : decode cJ7_fill_53178 20 = .ok (.return_, 1) := by decide +kernel
