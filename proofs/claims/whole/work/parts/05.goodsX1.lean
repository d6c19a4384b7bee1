theorem dX1_init_0 : decode cX1_init 0 = .ok (.aload_n 0, 1) := by decide +kernel
theorem dX1_init_1 : decode cX1_init 1 = .ok (.invokespecial 1, 3) := by decide +kernel
theorem dX1_init_4 : decode cX1_init 4 = .ok (.aload_n 0, 1) := by decide +kernel
theorem dX1_init_5 : decode cX1_init 5 = .ok (.bipush 6, 2) := by decide +kernel
theorem dX1_init_7 : decode cX1_init 7 = .ok (.newarray .int, 2) := by decide +kernel
theorem dX1_init_9 : decode cX1_init 9 = .ok (.putfield 7, 3) := by decide +kernel
theorem dX1_init_12 : decode cX1_init 12 = .ok (.aload_n 0, 1) := by decide +kernel
theorem dX1_init_13 : decode cX1_init 13 = .ok (.bipush 6, 2) := by decide +kernel
theorem dX1_init_15 : decode cX1_init 15 = .ok (.newarray .int, 2) := by decide +kernel
theorem dX1_init_17 : decode cX1_init 17 = .ok (.putfield 13, 3) := by decide +kernel
theorem dX1_init_20 : decode cX1_init 20 = .ok (.aload_n 0, 1) := by decide +kernel
theorem dX1_init_21 : decode cX1_init 21 = .ok (.bipush 6, 2) := by decide +kernel
theorem dX1_init_23 : decode cX1_init 23 = .ok (.newarray .int, 2) := by decide +kernel
theorem dX1_init_25 : decode cX1_init 25 = .ok (.putfield 16, 3) := by decide +kernel
theorem dX1_init_28 : decode cX1_init 28 = .ok (.aload_n 0, 1) := by decide +kernel
theorem dX1_init_29 : decode cX1_init 29 = .ok (.bipush 8, 2) := by decide +kernel
theorem dX1_init_31 : decode cX1_init 31 = .ok (.newarray .int, 2) := by decide +kernel
theorem dX1_init_33 : decode cX1_init 33 = .ok (.putfield 19, 3) := by decide +kernel
theorem dX1_init_36 : decode cX1_init 36 = .ok (.aload_n 0, 1) := by decide +kernel
theorem dX1_init_37 : decode cX1_init 37 = .ok (.bipush 24, 2) := by decide +kernel
theorem dX1_init_39 : decode cX1_init 39 = .ok (.newarray .int, 2) := by decide +kernel
theorem dX1_init_41 : decode cX1_init 41 = .ok (.putfield 22, 3) := by decide +kernel
theorem dX1_init_44 : decode cX1_init 44 = .ok (.aload_n 0, 1) := by decide +kernel
theorem dX1_init_45 : decode cX1_init 45 = .ok (.bipush 24, 2) := by decide +kernel
theorem dX1_init_47 : decode cX1_init 47 = .ok (.newarray .int, 2) := by decide +kernel
theorem dX1_init_49 : decode cX1_init 49 = .ok (.putfield 25, 3) := by decide +kernel
theorem dX1_init_52 : decode cX1_init 52 = .ok (.aload_n 0, 1) := by decide +kernel
theorem dX1_init_53 : decode cX1_init 53 = .ok (.bipush 24, 2) := by decide +kernel
theorem dX1_init_55 : decode cX1_init 55 = .ok (.newarray .int, 2) := by decide +kernel
theorem dX1_init_57 : decode cX1_init 57 = .ok (.putfield 28, 3) := by decide +kernel
theorem dX1_init_60 : decode cX1_init 60 = .ok (.aload_n 0, 1) := by decide +kernel
theorem dX1_init_61 : decode cX1_init 61 = .ok (.bipush 24, 2) := by decide +kernel
theorem dX1_init_63 : decode cX1_init 63 = .ok (.newarray .int, 2) := by decide +kernel
theorem dX1_init_65 : decode cX1_init 65 = .ok (.putfield 31, 3) := by decide +kernel
theorem dX1_init_68 : decode cX1_init 68 = .ok (.aload_n 0, 1) := by decide +kernel
theorem dX1_init_69 : decode cX1_init 69 = .ok (.bipush 24, 2) := by decide +kernel
theorem dX1_init_71 : decode cX1_init 71 = .ok (.newarray .int, 2) := by decide +kernel
theorem dX1_init_73 : decode cX1_init 73 = .ok (.putfield 34, 3) := by decide +kernel
theorem dX1_init_76 : decode cX1_init 76 = .ok (.aload_n 0, 1) := by decide +kernel
theorem dX1_init_77 : decode cX1_init 77 = .ok (.bipush 24, 2) := by decide +kernel
theorem dX1_init_79 : decode cX1_init 79 = .ok (.newarray .int, 2) := by decide +kernel
theorem dX1_init_81 : decode cX1_init 81 = .ok (.putfield 37, 3) := by decide +kernel
theorem dX1_init_84 : decode cX1_init 84 = .ok (.aload_n 0, 1) := by decide +kernel
theorem dX1_init_85 : decode cX1_init 85 = .ok (.bipush 18, 2) := by decide +kernel
theorem dX1_init_87 : decode cX1_init 87 = .ok (.newarray .int, 2) := by decide +kernel
theorem dX1_init_89 : decode cX1_init 89 = .ok (.putfield 40, 3) := by decide +kernel
theorem dX1_init_92 : decode cX1_init 92 = .ok (.aload_n 0, 1) := by decide +kernel
theorem dX1_init_93 : decode cX1_init 93 = .ok (.iconst 3, 1) := by decide +kernel
theorem dX1_init_94 : decode cX1_init 94 = .ok (.newarray .int, 2) := by decide +kernel
theorem dX1_init_96 : decode cX1_init 96 = .ok (.putfield 43, 3) := by decide +kernel
theorem dX1_init_99 : decode cX1_init 99 = .ok (.aload_n 0, 1) := by decide +kernel
theorem dX1_init_100 : decode cX1_init 100 = .ok (.bipush 6, 2) := by decide +kernel
theorem dX1_init_102 : decode cX1_init 102 = .ok (.newarray .int, 2) := by decide +kernel
theorem dX1_init_104 : decode cX1_init 104 = .ok (.putfield 46, 3) := by decide +kernel
theorem dX1_init_107 : decode cX1_init 107 = .ok (.aload_n 0, 1) := by decide +kernel
theorem dX1_init_108 : decode cX1_init 108 = .ok (.bipush 10, 2) := by decide +kernel
theorem dX1_init_110 : decode cX1_init 110 = .ok (.putfield 49, 3) := by decide +kernel
theorem dX1_init_113 : decode cX1_init 113 = .ok (.iconst 0, 1) := by decide +kernel
theorem dX1_init_114 : decode cX1_init 114 = .ok (.istore_n 1, 1) := by decide +kernel
theorem dX1_init_115 : decode cX1_init 115 = .ok (.iload_n 1, 1) := by decide +kernel
theorem dX1_init_116 : decode cX1_init 116 = .ok (.bipush 6, 2) := by decide +kernel
theorem dX1_init_118 : decode cX1_init 118 = .ok (.if_icmp .ge 23, 3) := by decide +kernel
theorem dX1_init_121 : decode cX1_init 121 = .ok (.aload_n 0, 1) := by decide +kernel
theorem dX1_init_122 : decode cX1_init 122 = .ok (.getfield 7, 3) := by decide +kernel
theorem dX1_init_125 : decode cX1_init 125 = .ok (.iload_n 1, 1) := by decide +kernel
theorem dX1_init_126 : decode cX1_init 126 = .ok (.iconst (-1), 1) := by decide +kernel
theorem dX1_init_127 : decode cX1_init 127 = .ok (.iastore, 1) := by decide +kernel
theorem dX1_init_128 : decode cX1_init 128 = .ok (.aload_n 0, 1) := by decide +kernel
theorem dX1_init_129 : decode cX1_init 129 = .ok (.getfield 16, 3) := by decide +kernel
theorem dX1_init_132 : decode cX1_init 132 = .ok (.iload_n 1, 1) := by decide +kernel
theorem dX1_init_133 : decode cX1_init 133 = .ok (.iconst (-1), 1) := by decide +kernel
theorem dX1_init_134 : decode cX1_init 134 = .ok (.iastore, 1) := by decide +kernel
theorem dX1_init_135 : decode cX1_init 135 = .ok (.iinc 1 1, 3) := by decide +kernel
theorem dX1_init_138 : decode cX1_init 138 = .ok (.goto (-23), 3) := by decide +kernel
theorem dX1_init_141 : decode cX1_init 141 = .ok (.return_, 1) := by decide +kernel
theorem dX1_thrown_0 : decode cX1_thrown 0 = .ok (.aload_n 0, 1) := by decide +kernel
theorem dX1_thrown_1 : decode cX1_thrown 1 = .ok (.getfield 53, 3) := by decide +kernel
theorem dX1_thrown_4 : decode cX1_thrown 4 = .ok (.ireturn, 1) := by decide +kernel
theorem dX1_fails_0 : decode cX1_fails 0 = .ok (.aload_n 0, 1) := by decide +kernel
theorem dX1_fails_1 : decode cX1_fails 1 = .ok (.iload_n 1, 1) := by decide +kernel
theorem dX1_fails_2 : decode cX1_fails 2 = .ok (.putfield 53, 3) := by decide +kernel
theorem dX1_fails_5 : decode cX1_fails 5 = .ok (.iconst 0, 1) := by decide +kernel
theorem dX1_fails_6 : decode cX1_fails 6 = .ok (.ireturn, 1) := by decide +kernel
theorem dX1_in_0 : decode cX1_in 0 = .ok (.iload_n 0, 1) := by decide +kernel
theorem dX1_in_1 : decode cX1_in 1 = .ok (.iload_n 1, 1) := by decide +kernel
theorem dX1_in_2 : decode cX1_in 2 = .ok (.if_icmp .lt 12, 3) := by decide +kernel
theorem dX1_in_5 : decode cX1_in 5 = .ok (.iload_n 0, 1) := by decide +kernel
theorem dX1_in_6 : decode cX1_in 6 = .ok (.iload_n 2, 1) := by decide +kernel
theorem dX1_in_7 : decode cX1_in 7 = .ok (.if_icmp .gt 7, 3) := by decide +kernel
theorem dX1_in_10 : decode cX1_in 10 = .ok (.iconst 1, 1) := by decide +kernel
theorem dX1_in_11 : decode cX1_in 11 = .ok (.goto 4, 3) := by decide +kernel
theorem dX1_in_14 : decode cX1_in 14 = .ok (.iconst 0, 1) := by decide +kernel
theorem dX1_in_15 : decode cX1_in 15 = .ok (.ireturn, 1) := by decide +kernel
set_option maxRecDepth 20000 in
theorem ggX1_isPlayer_X1_in : GoodIn wsX1_isPlayer wsX1_in := goodIn_r _ [4] (by decide +kernel) (by decide +kernel)
set_option maxRecDepth 20000 in
theorem gX1_isPlayer_X1_in : GoodIn wsX1_isPlayer (va_wsS RX1 56 yX1_in wsX1_in) := goodIn_app (goodIn_of _ (by decide +kernel)) ggX1_isPlayer_X1_in
theorem dX1_isPlayer_0 : decode cX1_isPlayer 0 = .ok (.iload_n 0, 1) := by decide +kernel
theorem dX1_isPlayer_1 : decode cX1_isPlayer 1 = .ok (.iconst 0, 1) := by decide +kernel
theorem dX1_isPlayer_2 : decode cX1_isPlayer 2 = .ok (.iconst 5, 1) := by decide +kernel
theorem dX1_isPlayer_3 : decode cX1_isPlayer 3 = .ok (.invokestatic 56, 3) := by decide +kernel
theorem dX1_isPlayer_6 : decode cX1_isPlayer 6 = .ok (.ireturn, 1) := by decide +kernel
set_option maxRecDepth 20000 in
theorem ggX1_isCostume_X1_in : GoodIn wsX1_isCostume wsX1_in := goodIn_r _ [4] (by decide +kernel) (by decide +kernel)
set_option maxRecDepth 20000 in
theorem gX1_isCostume_X1_in : GoodIn wsX1_isCostume (va_wsS RX1 56 yX1_in wsX1_in) := goodIn_app (goodIn_of _ (by decide +kernel)) ggX1_isCostume_X1_in
theorem dX1_isCostume_0 : decode cX1_isCostume 0 = .ok (.iload_n 0, 1) := by decide +kernel
theorem dX1_isCostume_1 : decode cX1_isCostume 1 = .ok (.iconst 0, 1) := by decide +kernel
theorem dX1_isCostume_2 : decode cX1_isCostume 2 = .ok (.bipush 7, 2) := by decide +kernel
theorem dX1_isCostume_4 : decode cX1_isCostume 4 = .ok (.invokestatic 56, 3) := by decide +kernel
theorem dX1_isCostume_7 : decode cX1_isCostume 7 = .ok (.ireturn, 1) := by decide +kernel
set_option maxRecDepth 20000 in
theorem ggX1_isCue_X1_in : GoodIn wsX1_isCue wsX1_in := goodIn_r _ [5] (by decide +kernel) (by decide +kernel)
set_option maxRecDepth 20000 in
theorem gX1_isCue_X1_in : GoodIn wsX1_isCue (va_wsS RX1 56 yX1_in wsX1_in) := goodIn_app (goodIn_of _ (by decide +kernel)) ggX1_isCue_X1_in
theorem dX1_isCue_0 : decode cX1_isCue 0 = .ok (.iload_n 1, 1) := by decide +kernel
theorem dX1_isCue_1 : decode cX1_isCue 1 = .ok (.iconst 0, 1) := by decide +kernel
theorem dX1_isCue_2 : decode cX1_isCue 2 = .ok (.aload_n 0, 1) := by decide +kernel
theorem dX1_isCue_3 : decode cX1_isCue 3 = .ok (.getfield 60, 3) := by decide +kernel
theorem dX1_isCue_6 : decode cX1_isCue 6 = .ok (.iconst 1, 1) := by decide +kernel
theorem dX1_isCue_7 : decode cX1_isCue 7 = .ok (.isub, 1) := by decide +kernel
theorem dX1_isCue_8 : decode cX1_isCue 8 = .ok (.invokestatic 56, 3) := by decide +kernel
theorem dX1_isCue_11 : decode cX1_isCue 11 = .ok (.ireturn, 1) := by decide +kernel
theorem dX1_ownerOf_0 : decode cX1_ownerOf 0 = .ok (.iconst (-1), 1) := by decide +kernel
theorem dX1_ownerOf_1 : decode cX1_ownerOf 1 = .ok (.istore_n 2, 1) := by decide +kernel
theorem dX1_ownerOf_2 : decode cX1_ownerOf 2 = .ok (.iconst 0, 1) := by decide +kernel
theorem dX1_ownerOf_3 : decode cX1_ownerOf 3 = .ok (.istore_n 3, 1) := by decide +kernel
theorem dX1_ownerOf_4 : decode cX1_ownerOf 4 = .ok (.iload_n 3, 1) := by decide +kernel
theorem dX1_ownerOf_5 : decode cX1_ownerOf 5 = .ok (.bipush 6, 2) := by decide +kernel
theorem dX1_ownerOf_7 : decode cX1_ownerOf 7 = .ok (.if_icmp .ge 25, 3) := by decide +kernel
theorem dX1_ownerOf_10 : decode cX1_ownerOf 10 = .ok (.aload_n 0, 1) := by decide +kernel
theorem dX1_ownerOf_11 : decode cX1_ownerOf 11 = .ok (.getfield 16, 3) := by decide +kernel
theorem dX1_ownerOf_14 : decode cX1_ownerOf 14 = .ok (.iload_n 3, 1) := by decide +kernel
theorem dX1_ownerOf_15 : decode cX1_ownerOf 15 = .ok (.iaload, 1) := by decide +kernel
theorem dX1_ownerOf_16 : decode cX1_ownerOf 16 = .ok (.iload_n 1, 1) := by decide +kernel
theorem dX1_ownerOf_17 : decode cX1_ownerOf 17 = .ok (.if_icmp .ne 7, 3) := by decide +kernel
theorem dX1_ownerOf_20 : decode cX1_ownerOf 20 = .ok (.iload_n 3, 1) := by decide +kernel
theorem dX1_ownerOf_21 : decode cX1_ownerOf 21 = .ok (.goto 4, 3) := by decide +kernel
theorem dX1_ownerOf_24 : decode cX1_ownerOf 24 = .ok (.iload_n 2, 1) := by decide +kernel
theorem dX1_ownerOf_25 : decode cX1_ownerOf 25 = .ok (.istore_n 2, 1) := by decide +kernel
theorem dX1_ownerOf_26 : decode cX1_ownerOf 26 = .ok (.iinc 3 1, 3) := by decide +kernel
theorem dX1_ownerOf_29 : decode cX1_ownerOf 29 = .ok (.goto (-25), 3) := by decide +kernel
theorem dX1_ownerOf_32 : decode cX1_ownerOf 32 = .ok (.iload_n 2, 1) := by decide +kernel
theorem dX1_ownerOf_33 : decode cX1_ownerOf 33 = .ok (.ireturn, 1) := by decide +kernel
theorem dX1_wearer_0 : decode cX1_wearer 0 = .ok (.iconst (-1), 1) := by decide +kernel
theorem dX1_wearer_1 : decode cX1_wearer 1 = .ok (.istore_n 2, 1) := by decide +kernel
theorem dX1_wearer_2 : decode cX1_wearer 2 = .ok (.iconst 0, 1) := by decide +kernel
theorem dX1_wearer_3 : decode cX1_wearer 3 = .ok (.istore_n 3, 1) := by decide +kernel
theorem dX1_wearer_4 : decode cX1_wearer 4 = .ok (.iload_n 3, 1) := by decide +kernel
theorem dX1_wearer_5 : decode cX1_wearer 5 = .ok (.bipush 6, 2) := by decide +kernel
theorem dX1_wearer_7 : decode cX1_wearer 7 = .ok (.if_icmp .ge 25, 3) := by decide +kernel
theorem dX1_wearer_10 : decode cX1_wearer 10 = .ok (.aload_n 0, 1) := by decide +kernel
theorem dX1_wearer_11 : decode cX1_wearer 11 = .ok (.getfield 7, 3) := by decide +kernel
theorem dX1_wearer_14 : decode cX1_wearer 14 = .ok (.iload_n 3, 1) := by decide +kernel
theorem dX1_wearer_15 : decode cX1_wearer 15 = .ok (.iaload, 1) := by decide +kernel
theorem dX1_wearer_16 : decode cX1_wearer 16 = .ok (.iload_n 1, 1) := by decide +kernel
theorem dX1_wearer_17 : decode cX1_wearer 17 = .ok (.if_icmp .ne 7, 3) := by decide +kernel
theorem dX1_wearer_20 : decode cX1_wearer 20 = .ok (.iload_n 3, 1) := by decide +kernel
theorem dX1_wearer_21 : decode cX1_wearer 21 = .ok (.goto 4, 3) := by decide +kernel
theorem dX1_wearer_24 : decode cX1_wearer 24 = .ok (.iload_n 2, 1) := by decide +kernel
theorem dX1_wearer_25 : decode cX1_wearer 25 = .ok (.istore_n 2, 1) := by decide +kernel
theorem dX1_wearer_26 : decode cX1_wearer 26 = .ok (.iinc 3 1, 3) := by decide +kernel
theorem dX1_wearer_29 : decode cX1_wearer 29 = .ok (.goto (-25), 3) := by decide +kernel
theorem dX1_wearer_32 : decode cX1_wearer 32 = .ok (.iload_n 2, 1) := by decide +kernel
theorem dX1_wearer_33 : decode cX1_wearer 33 = .ok (.ireturn, 1) := by decide +kernel
set_option maxRecDepth 20000 in
theorem ggX1_dress_X1_isPlayer : GoodIn wsX1_dress wsX1_isPlayer := goodIn_r _ [8, 9, 10, 7, 11] (by decide +kernel) (by decide +kernel)
set_option maxRecDepth 20000 in
theorem gX1_dress_X1_isPlayer : GoodIn wsX1_dress (va_wsS RX1 63 yX1_isPlayer wsX1_isPlayer) := goodIn_app (goodIn_of _ (by decide +kernel)) ggX1_dress_X1_isPlayer
set_option maxRecDepth 20000 in
theorem ggX1_dress_X1_isCostume : GoodIn wsX1_dress wsX1_isCostume := goodIn_r _ [14, 9, 10, 7, 11] (by decide +kernel) (by decide +kernel)
set_option maxRecDepth 20000 in
theorem gX1_dress_X1_isCostume : GoodIn wsX1_dress (va_wsS RX1 67 yX1_isCostume wsX1_isCostume) := goodIn_app (goodIn_of _ (by decide +kernel)) ggX1_dress_X1_isCostume
set_option maxRecDepth 20000 in
theorem ggX1_dress_X1_fails : GoodIn wsX1_dress wsX1_fails := goodIn_r _ [18, 1, 23, 24, 25, 26, 27, 28, 29, 30, 31, 32, 33, 34, 35, 36, 37, 38, 39, 40] (by decide +kernel) (by decide +kernel)
set_option maxRecDepth 20000 in
theorem gX1_dress_X1_fails : GoodIn wsX1_dress (wsV RX1 70 RX1 yX1_fails wsX1_fails) := goodIn_app (goodIn_of _ (by decide +kernel)) ggX1_dress_X1_fails
set_option maxRecDepth 20000 in
theorem ggX1_dress_X1_in : GoodIn wsX1_dress wsX1_in := goodIn_r _ [11] (by decide +kernel) (by decide +kernel)
set_option maxRecDepth 20000 in
theorem gX1_dress_X1_in : GoodIn wsX1_dress (va_wsS RX1 56 yX1_in wsX1_in) := goodIn_app (goodIn_of _ (by decide +kernel)) ggX1_dress_X1_in
set_option maxRecDepth 20000 in
theorem ggX1_dress_X1_ownerOf : GoodIn wsX1_dress wsX1_ownerOf := goodIn_r _ [22, 4, 23, 24, 25, 26, 27, 28, 29, 30, 31, 32, 33, 34, 35, 36, 37, 38, 39, 40] (by decide +kernel) (by decide +kernel)
set_option maxRecDepth 20000 in
theorem gX1_dress_X1_ownerOf : GoodIn wsX1_dress (wsV RX1 74 RX1 yX1_ownerOf wsX1_ownerOf) := goodIn_app (goodIn_of _ (by decide +kernel)) ggX1_dress_X1_ownerOf
theorem dX1_dress_0 : decode cX1_dress 0 = .ok (.aload_n 0, 1) := by decide +kernel
theorem dX1_dress_1 : decode cX1_dress 1 = .ok (.iconst 0, 1) := by decide +kernel
theorem dX1_dress_2 : decode cX1_dress 2 = .ok (.putfield 53, 3) := by decide +kernel
theorem dX1_dress_5 : decode cX1_dress 5 = .ok (.iload_n 1, 1) := by decide +kernel
theorem dX1_dress_6 : decode cX1_dress 6 = .ok (.invokestatic 63, 3) := by decide +kernel
theorem dX1_dress_9 : decode cX1_dress 9 = .ok (.ifCond .eq 10, 3) := by decide +kernel
theorem dX1_dress_12 : decode cX1_dress 12 = .ok (.iload_n 2, 1) := by decide +kernel
theorem dX1_dress_13 : decode cX1_dress 13 = .ok (.invokestatic 67, 3) := by decide +kernel
theorem dX1_dress_16 : decode cX1_dress 16 = .ok (.ifCond .ne 9, 3) := by decide +kernel
theorem dX1_dress_19 : decode cX1_dress 19 = .ok (.aload_n 0, 1) := by decide +kernel
theorem dX1_dress_20 : decode cX1_dress 20 = .ok (.iconst 1, 1) := by decide +kernel
theorem dX1_dress_21 : decode cX1_dress 21 = .ok (.invokevirtual 70, 3) := by decide +kernel
theorem dX1_dress_24 : decode cX1_dress 24 = .ok (.ireturn, 1) := by decide +kernel
theorem dX1_dress_25 : decode cX1_dress 25 = .ok (.iload_n 1, 1) := by decide +kernel
theorem dX1_dress_26 : decode cX1_dress 26 = .ok (.iload_n 2, 1) := by decide +kernel
theorem dX1_dress_27 : decode cX1_dress 27 = .ok (.isub, 1) := by decide +kernel
theorem dX1_dress_28 : decode cX1_dress 28 = .ok (.iconst 1, 1) := by decide +kernel
theorem dX1_dress_29 : decode cX1_dress 29 = .ok (.iadd, 1) := by decide +kernel
theorem dX1_dress_30 : decode cX1_dress 30 = .ok (.iconst (-1), 1) := by decide +kernel
theorem dX1_dress_31 : decode cX1_dress 31 = .ok (.iconst 1, 1) := by decide +kernel
theorem dX1_dress_32 : decode cX1_dress 32 = .ok (.invokestatic 56, 3) := by decide +kernel
theorem dX1_dress_35 : decode cX1_dress 35 = .ok (.ifCond .ne 9, 3) := by decide +kernel
theorem dX1_dress_38 : decode cX1_dress 38 = .ok (.aload_n 0, 1) := by decide +kernel
theorem dX1_dress_39 : decode cX1_dress 39 = .ok (.iconst 2, 1) := by decide +kernel
theorem dX1_dress_40 : decode cX1_dress 40 = .ok (.invokevirtual 70, 3) := by decide +kernel
theorem dX1_dress_43 : decode cX1_dress 43 = .ok (.ireturn, 1) := by decide +kernel
theorem dX1_dress_44 : decode cX1_dress 44 = .ok (.aload_n 0, 1) := by decide +kernel
theorem dX1_dress_45 : decode cX1_dress 45 = .ok (.iload_n 2, 1) := by decide +kernel
theorem dX1_dress_46 : decode cX1_dress 46 = .ok (.invokevirtual 74, 3) := by decide +kernel
theorem dX1_dress_49 : decode cX1_dress 49 = .ok (.istore_n 3, 1) := by decide +kernel
theorem dX1_dress_50 : decode cX1_dress 50 = .ok (.aload_n 0, 1) := by decide +kernel
theorem dX1_dress_51 : decode cX1_dress 51 = .ok (.getfield 13, 3) := by decide +kernel
theorem dX1_dress_54 : decode cX1_dress 54 = .ok (.iload_n 1, 1) := by decide +kernel
theorem dX1_dress_55 : decode cX1_dress 55 = .ok (.iaload, 1) := by decide +kernel
theorem dX1_dress_56 : decode cX1_dress 56 = .ok (.iconst 1, 1) := by decide +kernel
theorem dX1_dress_57 : decode cX1_dress 57 = .ok (.if_icmp .eq 23, 3) := by decide +kernel
theorem dX1_dress_60 : decode cX1_dress 60 = .ok (.iload_n 3, 1) := by decide +kernel
theorem dX1_dress_61 : decode cX1_dress 61 = .ok (.iconst (-1), 1) := by decide +kernel
theorem dX1_dress_62 : decode cX1_dress 62 = .ok (.if_icmp .eq 8, 3) := by decide +kernel
theorem dX1_dress_65 : decode cX1_dress 65 = .ok (.iload_n 3, 1) := by decide +kernel
theorem dX1_dress_66 : decode cX1_dress 66 = .ok (.iload_n 1, 1) := by decide +kernel
theorem dX1_dress_67 : decode cX1_dress 67 = .ok (.if_icmp .ne 13, 3) := by decide +kernel
theorem dX1_dress_70 : decode cX1_dress 70 = .ok (.aload_n 0, 1) := by decide +kernel
theorem dX1_dress_71 : decode cX1_dress 71 = .ok (.getfield 19, 3) := by decide +kernel
theorem dX1_dress_74 : decode cX1_dress 74 = .ok (.iload_n 2, 1) := by decide +kernel
theorem dX1_dress_75 : decode cX1_dress 75 = .ok (.iaload, 1) := by decide +kernel
theorem dX1_dress_76 : decode cX1_dress 76 = .ok (.iconst 3, 1) := by decide +kernel
theorem dX1_dress_77 : decode cX1_dress 77 = .ok (.if_icmp .lt 9, 3) := by decide +kernel
theorem dX1_dress_80 : decode cX1_dress 80 = .ok (.aload_n 0, 1) := by decide +kernel
theorem dX1_dress_81 : decode cX1_dress 81 = .ok (.iconst 3, 1) := by decide +kernel
theorem dX1_dress_82 : decode cX1_dress 82 = .ok (.invokevirtual 70, 3) := by decide +kernel
theorem dX1_dress_85 : decode cX1_dress 85 = .ok (.ireturn, 1) := by decide +kernel
theorem dX1_dress_86 : decode cX1_dress 86 = .ok (.aload_n 0, 1) := by decide +kernel
theorem dX1_dress_87 : decode cX1_dress 87 = .ok (.getfield 16, 3) := by decide +kernel
theorem dX1_dress_90 : decode cX1_dress 90 = .ok (.iload_n 1, 1) := by decide +kernel
theorem dX1_dress_91 : decode cX1_dress 91 = .ok (.iaload, 1) := by decide +kernel
theorem dX1_dress_92 : decode cX1_dress 92 = .ok (.istore 4, 2) := by decide +kernel
theorem dX1_dress_94 : decode cX1_dress 94 = .ok (.aload_n 0, 1) := by decide +kernel
theorem dX1_dress_95 : decode cX1_dress 95 = .ok (.getfield 16, 3) := by decide +kernel
theorem dX1_dress_98 : decode cX1_dress 98 = .ok (.iload_n 1, 1) := by decide +kernel
theorem dX1_dress_99 : decode cX1_dress 99 = .ok (.iload_n 2, 1) := by decide +kernel
theorem dX1_dress_100 : decode cX1_dress 100 = .ok (.iastore, 1) := by decide +kernel
theorem dX1_dress_101 : decode cX1_dress 101 = .ok (.iload 4, 2) := by decide +kernel
theorem dX1_dress_103 : decode cX1_dress 103 = .ok (.ireturn, 1) := by decide +kernel
set_option maxRecDepth 20000 in
theorem ggX1_repair_X1_isCostume : GoodIn wsX1_repair wsX1_isCostume := goodIn_r _ [7, 8, 9, 6, 10] (by decide +kernel) (by decide +kernel)
set_option maxRecDepth 20000 in
theorem gX1_repair_X1_isCostume : GoodIn wsX1_repair (va_wsS RX1 67 yX1_isCostume wsX1_isCostume) := goodIn_app (goodIn_of _ (by decide +kernel)) ggX1_repair_X1_isCostume
set_option maxRecDepth 20000 in
theorem ggX1_repair_X1_fails : GoodIn wsX1_repair wsX1_fails := goodIn_r _ [14, 1, 20, 21, 22, 23, 24, 25, 26, 27, 28, 29, 30, 31, 32, 33, 34, 35, 36, 37] (by decide +kernel) (by decide +kernel)
set_option maxRecDepth 20000 in
theorem gX1_repair_X1_fails : GoodIn wsX1_repair (wsV RX1 70 RX1 yX1_fails wsX1_fails) := goodIn_app (goodIn_of _ (by decide +kernel)) ggX1_repair_X1_fails
set_option maxRecDepth 20000 in
theorem ggX1_repair_X1_ownerOf : GoodIn wsX1_repair wsX1_ownerOf := goodIn_r _ [18, 19, 20, 21, 22, 23, 24, 25, 26, 27, 28, 29, 30, 31, 32, 33, 34, 35, 36, 37] (by decide +kernel) (by decide +kernel)
set_option maxRecDepth 20000 in
theorem gX1_repair_X1_ownerOf : GoodIn wsX1_repair (wsV RX1 74 RX1 yX1_ownerOf wsX1_ownerOf) := goodIn_app (goodIn_of _ (by decide +kernel)) ggX1_repair_X1_ownerOf
theorem dX1_repair_0 : decode cX1_repair 0 = .ok (.aload_n 0, 1) := by decide +kernel
theorem dX1_repair_1 : decode cX1_repair 1 = .ok (.iconst 0, 1) := by decide +kernel
theorem dX1_repair_2 : decode cX1_repair 2 = .ok (.putfield 53, 3) := by decide +kernel
theorem dX1_repair_5 : decode cX1_repair 5 = .ok (.iload_n 1, 1) := by decide +kernel
theorem dX1_repair_6 : decode cX1_repair 6 = .ok (.invokestatic 67, 3) := by decide +kernel
theorem dX1_repair_9 : decode cX1_repair 9 = .ok (.ifCond .ne 9, 3) := by decide +kernel
theorem dX1_repair_12 : decode cX1_repair 12 = .ok (.aload_n 0, 1) := by decide +kernel
theorem dX1_repair_13 : decode cX1_repair 13 = .ok (.iconst 1, 1) := by decide +kernel
theorem dX1_repair_14 : decode cX1_repair 14 = .ok (.invokevirtual 70, 3) := by decide +kernel
theorem dX1_repair_17 : decode cX1_repair 17 = .ok (.ireturn, 1) := by decide +kernel
theorem dX1_repair_18 : decode cX1_repair 18 = .ok (.aload_n 0, 1) := by decide +kernel
theorem dX1_repair_19 : decode cX1_repair 19 = .ok (.iload_n 1, 1) := by decide +kernel
theorem dX1_repair_20 : decode cX1_repair 20 = .ok (.invokevirtual 74, 3) := by decide +kernel
theorem dX1_repair_23 : decode cX1_repair 23 = .ok (.iconst (-1), 1) := by decide +kernel
theorem dX1_repair_24 : decode cX1_repair 24 = .ok (.if_icmp .ne 16, 3) := by decide +kernel
theorem dX1_repair_27 : decode cX1_repair 27 = .ok (.aload_n 0, 1) := by decide +kernel
theorem dX1_repair_28 : decode cX1_repair 28 = .ok (.getfield 49, 3) := by decide +kernel
theorem dX1_repair_31 : decode cX1_repair 31 = .ok (.aload_n 0, 1) := by decide +kernel
theorem dX1_repair_32 : decode cX1_repair 32 = .ok (.getfield 19, 3) := by decide +kernel
theorem dX1_repair_35 : decode cX1_repair 35 = .ok (.iload_n 1, 1) := by decide +kernel
theorem dX1_repair_36 : decode cX1_repair 36 = .ok (.iaload, 1) := by decide +kernel
theorem dX1_repair_37 : decode cX1_repair 37 = .ok (.if_icmp .ge 9, 3) := by decide +kernel
theorem dX1_repair_40 : decode cX1_repair 40 = .ok (.aload_n 0, 1) := by decide +kernel
theorem dX1_repair_41 : decode cX1_repair 41 = .ok (.iconst 2, 1) := by decide +kernel
theorem dX1_repair_42 : decode cX1_repair 42 = .ok (.invokevirtual 70, 3) := by decide +kernel
theorem dX1_repair_45 : decode cX1_repair 45 = .ok (.ireturn, 1) := by decide +kernel
theorem dX1_repair_46 : decode cX1_repair 46 = .ok (.aload_n 0, 1) := by decide +kernel
theorem dX1_repair_47 : decode cX1_repair 47 = .ok (.dup, 1) := by decide +kernel
theorem dX1_repair_48 : decode cX1_repair 48 = .ok (.getfield 49, 3) := by decide +kernel
theorem dX1_repair_51 : decode cX1_repair 51 = .ok (.aload_n 0, 1) := by decide +kernel
theorem dX1_repair_52 : decode cX1_repair 52 = .ok (.getfield 19, 3) := by decide +kernel
theorem dX1_repair_55 : decode cX1_repair 55 = .ok (.iload_n 1, 1) := by decide +kernel
theorem dX1_repair_56 : decode cX1_repair 56 = .ok (.iaload, 1) := by decide +kernel
theorem dX1_repair_57 : decode cX1_repair 57 = .ok (.isub, 1) := by decide +kernel
theorem dX1_repair_58 : decode cX1_repair 58 = .ok (.putfield 49, 3) := by decide +kernel
theorem dX1_repair_61 : decode cX1_repair 61 = .ok (.aload_n 0, 1) := by decide +kernel
theorem dX1_repair_62 : decode cX1_repair 62 = .ok (.getfield 19, 3) := by decide +kernel
theorem dX1_repair_65 : decode cX1_repair 65 = .ok (.iload_n 1, 1) := by decide +kernel
theorem dX1_repair_66 : decode cX1_repair 66 = .ok (.iconst 0, 1) := by decide +kernel
theorem dX1_repair_67 : decode cX1_repair 67 = .ok (.iastore, 1) := by decide +kernel
theorem dX1_repair_68 : decode cX1_repair 68 = .ok (.aload_n 0, 1) := by decide +kernel
theorem dX1_repair_69 : decode cX1_repair 69 = .ok (.getfield 49, 3) := by decide +kernel
theorem dX1_repair_72 : decode cX1_repair 72 = .ok (.ireturn, 1) := by decide +kernel
set_option maxRecDepth 20000 in
theorem ggX1_costumeOf_X1_isPlayer : GoodIn wsX1_costumeOf wsX1_isPlayer := goodIn_r _ [6, 7, 8, 5, 9] (by decide +kernel) (by decide +kernel)
set_option maxRecDepth 20000 in
theorem gX1_costumeOf_X1_isPlayer : GoodIn wsX1_costumeOf (va_wsS RX1 63 yX1_isPlayer wsX1_isPlayer) := goodIn_app (goodIn_of _ (by decide +kernel)) ggX1_costumeOf_X1_isPlayer
set_option maxRecDepth 20000 in
theorem ggX1_costumeOf_X1_fails : GoodIn wsX1_costumeOf wsX1_fails := goodIn_r _ [13, 1, 14, 15, 16, 17, 18, 19, 20, 21, 22, 23, 24, 25, 26, 27, 28, 29, 30, 31] (by decide +kernel) (by decide +kernel)
set_option maxRecDepth 20000 in
theorem gX1_costumeOf_X1_fails : GoodIn wsX1_costumeOf (wsV RX1 70 RX1 yX1_fails wsX1_fails) := goodIn_app (goodIn_of _ (by decide +kernel)) ggX1_costumeOf_X1_fails
theorem dX1_costumeOf_0 : decode cX1_costumeOf 0 = .ok (.aload_n 0, 1) := by decide +kernel
theorem dX1_costumeOf_1 : decode cX1_costumeOf 1 = .ok (.iconst 0, 1) := by decide +kernel
theorem dX1_costumeOf_2 : decode cX1_costumeOf 2 = .ok (.putfield 53, 3) := by decide +kernel
theorem dX1_costumeOf_5 : decode cX1_costumeOf 5 = .ok (.iload_n 1, 1) := by decide +kernel
theorem dX1_costumeOf_6 : decode cX1_costumeOf 6 = .ok (.invokestatic 63, 3) := by decide +kernel
theorem dX1_costumeOf_9 : decode cX1_costumeOf 9 = .ok (.ifCond .eq 12, 3) := by decide +kernel
theorem dX1_costumeOf_12 : decode cX1_costumeOf 12 = .ok (.aload_n 0, 1) := by decide +kernel
theorem dX1_costumeOf_13 : decode cX1_costumeOf 13 = .ok (.getfield 16, 3) := by decide +kernel
theorem dX1_costumeOf_16 : decode cX1_costumeOf 16 = .ok (.iload_n 1, 1) := by decide +kernel
theorem dX1_costumeOf_17 : decode cX1_costumeOf 17 = .ok (.iaload, 1) := by decide +kernel
theorem dX1_costumeOf_18 : decode cX1_costumeOf 18 = .ok (.goto 8, 3) := by decide +kernel
theorem dX1_costumeOf_21 : decode cX1_costumeOf 21 = .ok (.aload_n 0, 1) := by decide +kernel
theorem dX1_costumeOf_22 : decode cX1_costumeOf 22 = .ok (.iconst 1, 1) := by decide +kernel
theorem dX1_costumeOf_23 : decode cX1_costumeOf 23 = .ok (.invokevirtual 70, 3) := by decide +kernel
theorem dX1_costumeOf_26 : decode cX1_costumeOf 26 = .ok (.ireturn, 1) := by decide +kernel
set_option maxRecDepth 20000 in
theorem ggX1_wear_X1_isCostume : GoodIn wsX1_wear wsX1_isCostume := goodIn_r _ [6, 7, 8, 5, 9] (by decide +kernel) (by decide +kernel)
set_option maxRecDepth 20000 in
theorem gX1_wear_X1_isCostume : GoodIn wsX1_wear (va_wsS RX1 67 yX1_isCostume wsX1_isCostume) := goodIn_app (goodIn_of _ (by decide +kernel)) ggX1_wear_X1_isCostume
set_option maxRecDepth 20000 in
theorem ggX1_wear_X1_fails : GoodIn wsX1_wear wsX1_fails := goodIn_r _ [13, 1, 14, 15, 16, 17, 18, 19, 20, 21, 22, 23, 24, 25, 26, 27, 28, 29, 30, 31] (by decide +kernel) (by decide +kernel)
set_option maxRecDepth 20000 in
theorem gX1_wear_X1_fails : GoodIn wsX1_wear (wsV RX1 70 RX1 yX1_fails wsX1_fails) := goodIn_app (goodIn_of _ (by decide +kernel)) ggX1_wear_X1_fails
theorem dX1_wear_0 : decode cX1_wear 0 = .ok (.aload_n 0, 1) := by decide +kernel
theorem dX1_wear_1 : decode cX1_wear 1 = .ok (.iconst 0, 1) := by decide +kernel
theorem dX1_wear_2 : decode cX1_wear 2 = .ok (.putfield 53, 3) := by decide +kernel
theorem dX1_wear_5 : decode cX1_wear 5 = .ok (.iload_n 1, 1) := by decide +kernel
theorem dX1_wear_6 : decode cX1_wear 6 = .ok (.invokestatic 67, 3) := by decide +kernel
theorem dX1_wear_9 : decode cX1_wear 9 = .ok (.ifCond .eq 12, 3) := by decide +kernel
theorem dX1_wear_12 : decode cX1_wear 12 = .ok (.aload_n 0, 1) := by decide +kernel
theorem dX1_wear_13 : decode cX1_wear 13 = .ok (.getfield 19, 3) := by decide +kernel
theorem dX1_wear_16 : decode cX1_wear 16 = .ok (.iload_n 1, 1) := by decide +kernel
theorem dX1_wear_17 : decode cX1_wear 17 = .ok (.iaload, 1) := by decide +kernel
theorem dX1_wear_18 : decode cX1_wear 18 = .ok (.goto 8, 3) := by decide +kernel
theorem dX1_wear_21 : decode cX1_wear 21 = .ok (.aload_n 0, 1) := by decide +kernel
theorem dX1_wear_22 : decode cX1_wear 22 = .ok (.iconst 1, 1) := by decide +kernel
theorem dX1_wear_23 : decode cX1_wear 23 = .ok (.invokevirtual 70, 3) := by decide +kernel
theorem dX1_wear_26 : decode cX1_wear 26 = .ok (.ireturn, 1) := by decide +kernel
theorem dX1_purse_0 : decode cX1_purse 0 = .ok (.aload_n 0, 1) := by decide +kernel
theorem dX1_purse_1 : decode cX1_purse 1 = .ok (.iconst 0, 1) := by decide +kernel
theorem dX1_purse_2 : decode cX1_purse 2 = .ok (.putfield 53, 3) := by decide +kernel
theorem dX1_purse_5 : decode cX1_purse 5 = .ok (.aload_n 0, 1) := by decide +kernel
theorem dX1_purse_6 : decode cX1_purse 6 = .ok (.getfield 49, 3) := by decide +kernel
theorem dX1_purse_9 : decode cX1_purse 9 = .ok (.ireturn, 1) := by decide +kernel
set_option maxRecDepth 20000 in
theorem ggX1_addCue_X1_in : GoodIn wsX1_addCue wsX1_in := goodIn_r _ [11] (by decide +kernel) (by decide +kernel)
set_option maxRecDepth 20000 in
theorem gX1_addCue_X1_in : GoodIn wsX1_addCue (va_wsS RX1 56 yX1_in wsX1_in) := goodIn_app (goodIn_of _ (by decide +kernel)) ggX1_addCue_X1_in
set_option maxRecDepth 20000 in
theorem ggX1_addCue_X1_fails : GoodIn wsX1_addCue wsX1_fails := goodIn_r _ [15, 1, 19, 20, 21, 22, 23, 24, 25, 26, 27, 28, 29, 30, 31, 32, 33, 34, 35, 36] (by decide +kernel) (by decide +kernel)
set_option maxRecDepth 20000 in
theorem gX1_addCue_X1_fails : GoodIn wsX1_addCue (wsV RX1 70 RX1 yX1_fails wsX1_fails) := goodIn_app (goodIn_of _ (by decide +kernel)) ggX1_addCue_X1_fails
set_option maxRecDepth 20000 in
theorem ggX1_addCue_X1_isPlayer : GoodIn wsX1_addCue wsX1_isPlayer := goodIn_r _ [18, 8, 9, 10, 11] (by decide +kernel) (by decide +kernel)
set_option maxRecDepth 20000 in
theorem gX1_addCue_X1_isPlayer : GoodIn wsX1_addCue (va_wsS RX1 63 yX1_isPlayer wsX1_isPlayer) := goodIn_app (goodIn_of _ (by decide +kernel)) ggX1_addCue_X1_isPlayer
theorem dX1_addCue_0 : decode cX1_addCue 0 = .ok (.aload_n 0, 1) := by decide +kernel
theorem dX1_addCue_1 : decode cX1_addCue 1 = .ok (.iconst 0, 1) := by decide +kernel
theorem dX1_addCue_2 : decode cX1_addCue 2 = .ok (.putfield 53, 3) := by decide +kernel
theorem dX1_addCue_5 : decode cX1_addCue 5 = .ok (.iload_n 1, 1) := by decide +kernel
theorem dX1_addCue_6 : decode cX1_addCue 6 = .ok (.iconst 0, 1) := by decide +kernel
theorem dX1_addCue_7 : decode cX1_addCue 7 = .ok (.iconst 4, 1) := by decide +kernel
theorem dX1_addCue_8 : decode cX1_addCue 8 = .ok (.invokestatic 56, 3) := by decide +kernel
theorem dX1_addCue_11 : decode cX1_addCue 11 = .ok (.ifCond .ne 9, 3) := by decide +kernel
theorem dX1_addCue_14 : decode cX1_addCue 14 = .ok (.aload_n 0, 1) := by decide +kernel
theorem dX1_addCue_15 : decode cX1_addCue 15 = .ok (.iconst 1, 1) := by decide +kernel
theorem dX1_addCue_16 : decode cX1_addCue 16 = .ok (.invokevirtual 70, 3) := by decide +kernel
theorem dX1_addCue_19 : decode cX1_addCue 19 = .ok (.ireturn, 1) := by decide +kernel
theorem dX1_addCue_20 : decode cX1_addCue 20 = .ok (.iload_n 1, 1) := by decide +kernel
theorem dX1_addCue_21 : decode cX1_addCue 21 = .ok (.iconst 2, 1) := by decide +kernel
theorem dX1_addCue_22 : decode cX1_addCue 22 = .ok (.if_icmp .eq 8, 3) := by decide +kernel
theorem dX1_addCue_25 : decode cX1_addCue 25 = .ok (.iload_n 1, 1) := by decide +kernel
theorem dX1_addCue_26 : decode cX1_addCue 26 = .ok (.iconst 4, 1) := by decide +kernel
theorem dX1_addCue_27 : decode cX1_addCue 27 = .ok (.if_icmp .ne 7, 3) := by decide +kernel
theorem dX1_addCue_30 : decode cX1_addCue 30 = .ok (.iconst 1, 1) := by decide +kernel
theorem dX1_addCue_31 : decode cX1_addCue 31 = .ok (.goto 4, 3) := by decide +kernel
theorem dX1_addCue_34 : decode cX1_addCue 34 = .ok (.iconst 0, 1) := by decide +kernel
theorem dX1_addCue_35 : decode cX1_addCue 35 = .ok (.istore 5, 2) := by decide +kernel
theorem dX1_addCue_37 : decode cX1_addCue 37 = .ok (.iload_n 2, 1) := by decide +kernel
theorem dX1_addCue_38 : decode cX1_addCue 38 = .ok (.invokestatic 63, 3) := by decide +kernel
theorem dX1_addCue_41 : decode cX1_addCue 41 = .ok (.ifCond .eq 30, 3) := by decide +kernel
theorem dX1_addCue_44 : decode cX1_addCue 44 = .ok (.iload 5, 2) := by decide +kernel
theorem dX1_addCue_46 : decode cX1_addCue 46 = .ok (.ifCond .eq 10, 3) := by decide +kernel
theorem dX1_addCue_49 : decode cX1_addCue 49 = .ok (.iload_n 3, 1) := by decide +kernel
theorem dX1_addCue_50 : decode cX1_addCue 50 = .ok (.invokestatic 63, 3) := by decide +kernel
theorem dX1_addCue_53 : decode cX1_addCue 53 = .ok (.ifCond .eq 18, 3) := by decide +kernel
theorem dX1_addCue_56 : decode cX1_addCue 56 = .ok (.iload 4, 2) := by decide +kernel
theorem dX1_addCue_58 : decode cX1_addCue 58 = .ok (.iconst (-1), 1) := by decide +kernel
theorem dX1_addCue_59 : decode cX1_addCue 59 = .ok (.aload_n 0, 1) := by decide +kernel
theorem dX1_addCue_60 : decode cX1_addCue 60 = .ok (.getfield 60, 3) := by decide +kernel
theorem dX1_addCue_63 : decode cX1_addCue 63 = .ok (.iconst 1, 1) := by decide +kernel
theorem dX1_addCue_64 : decode cX1_addCue 64 = .ok (.isub, 1) := by decide +kernel
theorem dX1_addCue_65 : decode cX1_addCue 65 = .ok (.invokestatic 56, 3) := by decide +kernel
theorem dX1_addCue_68 : decode cX1_addCue 68 = .ok (.ifCond .ne 9, 3) := by decide +kernel
theorem dX1_addCue_71 : decode cX1_addCue 71 = .ok (.aload_n 0, 1) := by decide +kernel
theorem dX1_addCue_72 : decode cX1_addCue 72 = .ok (.iconst 2, 1) := by decide +kernel
theorem dX1_addCue_73 : decode cX1_addCue 73 = .ok (.invokevirtual 70, 3) := by decide +kernel
theorem dX1_addCue_76 : decode cX1_addCue 76 = .ok (.ireturn, 1) := by decide +kernel
theorem dX1_addCue_77 : decode cX1_addCue 77 = .ok (.aload_n 0, 1) := by decide +kernel
theorem dX1_addCue_78 : decode cX1_addCue 78 = .ok (.getfield 60, 3) := by decide +kernel
theorem dX1_addCue_81 : decode cX1_addCue 81 = .ok (.bipush 24, 2) := by decide +kernel
theorem dX1_addCue_83 : decode cX1_addCue 83 = .ok (.if_icmp .eq 30, 3) := by decide +kernel
theorem dX1_addCue_86 : decode cX1_addCue 86 = .ok (.iload_n 1, 1) := by decide +kernel
theorem dX1_addCue_87 : decode cX1_addCue 87 = .ok (.iconst 4, 1) := by decide +kernel
theorem dX1_addCue_88 : decode cX1_addCue 88 = .ok (.if_icmp .ne 8, 3) := by decide +kernel
theorem dX1_addCue_91 : decode cX1_addCue 91 = .ok (.iload_n 2, 1) := by decide +kernel
theorem dX1_addCue_92 : decode cX1_addCue 92 = .ok (.iload_n 3, 1) := by decide +kernel
theorem dX1_addCue_93 : decode cX1_addCue 93 = .ok (.if_icmp .eq 20, 3) := by decide +kernel
theorem dX1_addCue_96 : decode cX1_addCue 96 = .ok (.iload 4, 2) := by decide +kernel
theorem dX1_addCue_98 : decode cX1_addCue 98 = .ok (.iconst (-1), 1) := by decide +kernel
theorem dX1_addCue_99 : decode cX1_addCue 99 = .ok (.if_icmp .eq 20, 3) := by decide +kernel
theorem dX1_addCue_102 : decode cX1_addCue 102 = .ok (.aload_n 0, 1) := by decide +kernel
theorem dX1_addCue_103 : decode cX1_addCue 103 = .ok (.getfield 34, 3) := by decide +kernel
theorem dX1_addCue_106 : decode cX1_addCue 106 = .ok (.iload 4, 2) := by decide +kernel
theorem dX1_addCue_108 : decode cX1_addCue 108 = .ok (.iaload, 1) := by decide +kernel
theorem dX1_addCue_109 : decode cX1_addCue 109 = .ok (.iconst 2, 1) := by decide +kernel
theorem dX1_addCue_110 : decode cX1_addCue 110 = .ok (.if_icmp .ne 9, 3) := by decide +kernel
theorem dX1_addCue_113 : decode cX1_addCue 113 = .ok (.aload_n 0, 1) := by decide +kernel
theorem dX1_addCue_114 : decode cX1_addCue 114 = .ok (.iconst 3, 1) := by decide +kernel
theorem dX1_addCue_115 : decode cX1_addCue 115 = .ok (.invokevirtual 70, 3) := by decide +kernel
theorem dX1_addCue_118 : decode cX1_addCue 118 = .ok (.ireturn, 1) := by decide +kernel
theorem dX1_addCue_119 : decode cX1_addCue 119 = .ok (.aload_n 0, 1) := by decide +kernel
theorem dX1_addCue_120 : decode cX1_addCue 120 = .ok (.getfield 22, 3) := by decide +kernel
theorem dX1_addCue_123 : decode cX1_addCue 123 = .ok (.aload_n 0, 1) := by decide +kernel
theorem dX1_addCue_124 : decode cX1_addCue 124 = .ok (.getfield 60, 3) := by decide +kernel
theorem dX1_addCue_127 : decode cX1_addCue 127 = .ok (.iload_n 1, 1) := by decide +kernel
theorem dX1_addCue_128 : decode cX1_addCue 128 = .ok (.iastore, 1) := by decide +kernel
theorem dX1_addCue_129 : decode cX1_addCue 129 = .ok (.aload_n 0, 1) := by decide +kernel
theorem dX1_addCue_130 : decode cX1_addCue 130 = .ok (.getfield 25, 3) := by decide +kernel
theorem dX1_addCue_133 : decode cX1_addCue 133 = .ok (.aload_n 0, 1) := by decide +kernel
theorem dX1_addCue_134 : decode cX1_addCue 134 = .ok (.getfield 60, 3) := by decide +kernel
theorem dX1_addCue_137 : decode cX1_addCue 137 = .ok (.iload_n 2, 1) := by decide +kernel
theorem dX1_addCue_138 : decode cX1_addCue 138 = .ok (.iastore, 1) := by decide +kernel
theorem dX1_addCue_139 : decode cX1_addCue 139 = .ok (.aload_n 0, 1) := by decide +kernel
theorem dX1_addCue_140 : decode cX1_addCue 140 = .ok (.getfield 28, 3) := by decide +kernel
theorem dX1_addCue_143 : decode cX1_addCue 143 = .ok (.aload_n 0, 1) := by decide +kernel
theorem dX1_addCue_144 : decode cX1_addCue 144 = .ok (.getfield 60, 3) := by decide +kernel
theorem dX1_addCue_147 : decode cX1_addCue 147 = .ok (.iload_n 3, 1) := by decide +kernel
theorem dX1_addCue_148 : decode cX1_addCue 148 = .ok (.iastore, 1) := by decide +kernel
theorem dX1_addCue_149 : decode cX1_addCue 149 = .ok (.aload_n 0, 1) := by decide +kernel
theorem dX1_addCue_150 : decode cX1_addCue 150 = .ok (.getfield 31, 3) := by decide +kernel
theorem dX1_addCue_153 : decode cX1_addCue 153 = .ok (.aload_n 0, 1) := by decide +kernel
theorem dX1_addCue_154 : decode cX1_addCue 154 = .ok (.getfield 60, 3) := by decide +kernel
theorem dX1_addCue_157 : decode cX1_addCue 157 = .ok (.iload 4, 2) := by decide +kernel
theorem dX1_addCue_159 : decode cX1_addCue 159 = .ok (.iastore, 1) := by decide +kernel
theorem dX1_addCue_160 : decode cX1_addCue 160 = .ok (.aload_n 0, 1) := by decide +kernel
theorem dX1_addCue_161 : decode cX1_addCue 161 = .ok (.getfield 34, 3) := by decide +kernel
theorem dX1_addCue_164 : decode cX1_addCue 164 = .ok (.aload_n 0, 1) := by decide +kernel
theorem dX1_addCue_165 : decode cX1_addCue 165 = .ok (.getfield 60, 3) := by decide +kernel
theorem dX1_addCue_168 : decode cX1_addCue 168 = .ok (.iconst 0, 1) := by decide +kernel
theorem dX1_addCue_169 : decode cX1_addCue 169 = .ok (.iastore, 1) := by decide +kernel
theorem dX1_addCue_170 : decode cX1_addCue 170 = .ok (.aload_n 0, 1) := by decide +kernel
theorem dX1_addCue_171 : decode cX1_addCue 171 = .ok (.dup, 1) := by decide +kernel
theorem dX1_addCue_172 : decode cX1_addCue 172 = .ok (.getfield 60, 3) := by decide +kernel
theorem dX1_addCue_175 : decode cX1_addCue 175 = .ok (.iconst 1, 1) := by decide +kernel
theorem dX1_addCue_176 : decode cX1_addCue 176 = .ok (.iadd, 1) := by decide +kernel
theorem dX1_addCue_177 : decode cX1_addCue 177 = .ok (.putfield 60, 3) := by decide +kernel
theorem dX1_addCue_180 : decode cX1_addCue 180 = .ok (.aload_n 0, 1) := by decide +kernel
theorem dX1_addCue_181 : decode cX1_addCue 181 = .ok (.getfield 60, 3) := by decide +kernel
theorem dX1_addCue_184 : decode cX1_addCue 184 = .ok (.iconst 1, 1) := by decide +kernel
theorem dX1_addCue_185 : decode cX1_addCue 185 = .ok (.isub, 1) := by decide +kernel
theorem dX1_addCue_186 : decode cX1_addCue 186 = .ok (.ireturn, 1) := by decide +kernel
set_option maxRecDepth 20000 in
theorem ggX1_canBeDone_X1_wearer : GoodIn wsX1_canBeDone wsX1_wearer := goodIn_r _ [11, 6, 12, 13, 14, 15, 16, 17, 18, 19, 20, 21, 22, 23, 24, 25, 26, 27, 28, 29] (by decide +kernel) (by decide +kernel)
set_option maxRecDepth 20000 in
theorem gX1_canBeDone_X1_wearer : GoodIn wsX1_canBeDone (wsV RX1 77 RX1 yX1_wearer wsX1_wearer) := goodIn_app (goodIn_of _ (by decide +kernel)) ggX1_canBeDone_X1_wearer
theorem dX1_canBeDone_0 : decode cX1_canBeDone 0 = .ok (.aload_n 0, 1) := by decide +kernel
theorem dX1_canBeDone_1 : decode cX1_canBeDone 1 = .ok (.getfield 25, 3) := by decide +kernel
theorem dX1_canBeDone_4 : decode cX1_canBeDone 4 = .ok (.iload_n 1, 1) := by decide +kernel
theorem dX1_canBeDone_5 : decode cX1_canBeDone 5 = .ok (.iaload, 1) := by decide +kernel
theorem dX1_canBeDone_6 : decode cX1_canBeDone 6 = .ok (.istore_n 2, 1) := by decide +kernel
theorem dX1_canBeDone_7 : decode cX1_canBeDone 7 = .ok (.aload_n 0, 1) := by decide +kernel
theorem dX1_canBeDone_8 : decode cX1_canBeDone 8 = .ok (.getfield 28, 3) := by decide +kernel
theorem dX1_canBeDone_11 : decode cX1_canBeDone 11 = .ok (.iload_n 1, 1) := by decide +kernel
theorem dX1_canBeDone_12 : decode cX1_canBeDone 12 = .ok (.iaload, 1) := by decide +kernel
theorem dX1_canBeDone_13 : decode cX1_canBeDone 13 = .ok (.istore_n 3, 1) := by decide +kernel
theorem dX1_canBeDone_14 : decode cX1_canBeDone 14 = .ok (.aload_n 0, 1) := by decide +kernel
theorem dX1_canBeDone_15 : decode cX1_canBeDone 15 = .ok (.getfield 22, 3) := by decide +kernel
theorem dX1_canBeDone_18 : decode cX1_canBeDone 18 = .ok (.iload_n 1, 1) := by decide +kernel
theorem dX1_canBeDone_19 : decode cX1_canBeDone 19 = .ok (.iaload, 1) := by decide +kernel
theorem dX1_canBeDone_20 : decode cX1_canBeDone 20 = .ok (.ifCond .ne 28, 3) := by decide +kernel
theorem dX1_canBeDone_23 : decode cX1_canBeDone 23 = .ok (.aload_n 0, 1) := by decide +kernel
theorem dX1_canBeDone_24 : decode cX1_canBeDone 24 = .ok (.getfield 13, 3) := by decide +kernel
theorem dX1_canBeDone_27 : decode cX1_canBeDone 27 = .ok (.iload_n 2, 1) := by decide +kernel
theorem dX1_canBeDone_28 : decode cX1_canBeDone 28 = .ok (.iaload, 1) := by decide +kernel
theorem dX1_canBeDone_29 : decode cX1_canBeDone 29 = .ok (.ifCond .ne 17, 3) := by decide +kernel
theorem dX1_canBeDone_32 : decode cX1_canBeDone 32 = .ok (.aload_n 0, 1) := by decide +kernel
theorem dX1_canBeDone_33 : decode cX1_canBeDone 33 = .ok (.getfield 16, 3) := by decide +kernel
theorem dX1_canBeDone_36 : decode cX1_canBeDone 36 = .ok (.iload_n 2, 1) := by decide +kernel
theorem dX1_canBeDone_37 : decode cX1_canBeDone 37 = .ok (.iaload, 1) := by decide +kernel
theorem dX1_canBeDone_38 : decode cX1_canBeDone 38 = .ok (.iconst (-1), 1) := by decide +kernel
theorem dX1_canBeDone_39 : decode cX1_canBeDone 39 = .ok (.if_icmp .eq 7, 3) := by decide +kernel
theorem dX1_canBeDone_42 : decode cX1_canBeDone 42 = .ok (.iconst 1, 1) := by decide +kernel
theorem dX1_canBeDone_43 : decode cX1_canBeDone 43 = .ok (.goto 4, 3) := by decide +kernel
theorem dX1_canBeDone_46 : decode cX1_canBeDone 46 = .ok (.iconst 0, 1) := by decide +kernel
theorem dX1_canBeDone_47 : decode cX1_canBeDone 47 = .ok (.ireturn, 1) := by decide +kernel
theorem dX1_canBeDone_48 : decode cX1_canBeDone 48 = .ok (.aload_n 0, 1) := by decide +kernel
theorem dX1_canBeDone_49 : decode cX1_canBeDone 49 = .ok (.getfield 22, 3) := by decide +kernel
theorem dX1_canBeDone_52 : decode cX1_canBeDone 52 = .ok (.iload_n 1, 1) := by decide +kernel
theorem dX1_canBeDone_53 : decode cX1_canBeDone 53 = .ok (.iaload, 1) := by decide +kernel
theorem dX1_canBeDone_54 : decode cX1_canBeDone 54 = .ok (.iconst 1, 1) := by decide +kernel
theorem dX1_canBeDone_55 : decode cX1_canBeDone 55 = .ok (.if_icmp .ne 19, 3) := by decide +kernel
theorem dX1_canBeDone_58 : decode cX1_canBeDone 58 = .ok (.aload_n 0, 1) := by decide +kernel
theorem dX1_canBeDone_59 : decode cX1_canBeDone 59 = .ok (.getfield 13, 3) := by decide +kernel
theorem dX1_canBeDone_62 : decode cX1_canBeDone 62 = .ok (.iload_n 2, 1) := by decide +kernel
theorem dX1_canBeDone_63 : decode cX1_canBeDone 63 = .ok (.iaload, 1) := by decide +kernel
theorem dX1_canBeDone_64 : decode cX1_canBeDone 64 = .ok (.iconst 1, 1) := by decide +kernel
theorem dX1_canBeDone_65 : decode cX1_canBeDone 65 = .ok (.if_icmp .ne 7, 3) := by decide +kernel
theorem dX1_canBeDone_68 : decode cX1_canBeDone 68 = .ok (.iconst 1, 1) := by decide +kernel
theorem dX1_canBeDone_69 : decode cX1_canBeDone 69 = .ok (.goto 4, 3) := by decide +kernel
theorem dX1_canBeDone_72 : decode cX1_canBeDone 72 = .ok (.iconst 0, 1) := by decide +kernel
theorem dX1_canBeDone_73 : decode cX1_canBeDone 73 = .ok (.ireturn, 1) := by decide +kernel
theorem dX1_canBeDone_74 : decode cX1_canBeDone 74 = .ok (.aload_n 0, 1) := by decide +kernel
theorem dX1_canBeDone_75 : decode cX1_canBeDone 75 = .ok (.getfield 22, 3) := by decide +kernel
theorem dX1_canBeDone_78 : decode cX1_canBeDone 78 = .ok (.iload_n 1, 1) := by decide +kernel
theorem dX1_canBeDone_79 : decode cX1_canBeDone 79 = .ok (.iaload, 1) := by decide +kernel
theorem dX1_canBeDone_80 : decode cX1_canBeDone 80 = .ok (.iconst 2, 1) := by decide +kernel
theorem dX1_canBeDone_81 : decode cX1_canBeDone 81 = .ok (.if_icmp .ne 28, 3) := by decide +kernel
theorem dX1_canBeDone_84 : decode cX1_canBeDone 84 = .ok (.aload_n 0, 1) := by decide +kernel
theorem dX1_canBeDone_85 : decode cX1_canBeDone 85 = .ok (.getfield 7, 3) := by decide +kernel
theorem dX1_canBeDone_88 : decode cX1_canBeDone 88 = .ok (.iload_n 2, 1) := by decide +kernel
theorem dX1_canBeDone_89 : decode cX1_canBeDone 89 = .ok (.iaload, 1) := by decide +kernel
theorem dX1_canBeDone_90 : decode cX1_canBeDone 90 = .ok (.iconst (-1), 1) := by decide +kernel
theorem dX1_canBeDone_91 : decode cX1_canBeDone 91 = .ok (.if_icmp .ne 16, 3) := by decide +kernel
theorem dX1_canBeDone_94 : decode cX1_canBeDone 94 = .ok (.aload_n 0, 1) := by decide +kernel
theorem dX1_canBeDone_95 : decode cX1_canBeDone 95 = .ok (.iload_n 3, 1) := by decide +kernel
theorem dX1_canBeDone_96 : decode cX1_canBeDone 96 = .ok (.invokevirtual 77, 3) := by decide +kernel
theorem dX1_canBeDone_99 : decode cX1_canBeDone 99 = .ok (.iconst (-1), 1) := by decide +kernel
theorem dX1_canBeDone_100 : decode cX1_canBeDone 100 = .ok (.if_icmp .ne 7, 3) := by decide +kernel
theorem dX1_canBeDone_103 : decode cX1_canBeDone 103 = .ok (.iconst 1, 1) := by decide +kernel
theorem dX1_canBeDone_104 : decode cX1_canBeDone 104 = .ok (.goto 4, 3) := by decide +kernel
theorem dX1_canBeDone_107 : decode cX1_canBeDone 107 = .ok (.iconst 0, 1) := by decide +kernel
theorem dX1_canBeDone_108 : decode cX1_canBeDone 108 = .ok (.ireturn, 1) := by decide +kernel
theorem dX1_canBeDone_109 : decode cX1_canBeDone 109 = .ok (.aload_n 0, 1) := by decide +kernel
theorem dX1_canBeDone_110 : decode cX1_canBeDone 110 = .ok (.getfield 22, 3) := by decide +kernel
theorem dX1_canBeDone_113 : decode cX1_canBeDone 113 = .ok (.iload_n 1, 1) := by decide +kernel
theorem dX1_canBeDone_114 : decode cX1_canBeDone 114 = .ok (.iaload, 1) := by decide +kernel
theorem dX1_canBeDone_115 : decode cX1_canBeDone 115 = .ok (.iconst 3, 1) := by decide +kernel
theorem dX1_canBeDone_116 : decode cX1_canBeDone 116 = .ok (.if_icmp .ne 19, 3) := by decide +kernel
theorem dX1_canBeDone_119 : decode cX1_canBeDone 119 = .ok (.aload_n 0, 1) := by decide +kernel
theorem dX1_canBeDone_120 : decode cX1_canBeDone 120 = .ok (.getfield 7, 3) := by decide +kernel
theorem dX1_canBeDone_123 : decode cX1_canBeDone 123 = .ok (.iload_n 2, 1) := by decide +kernel
theorem dX1_canBeDone_124 : decode cX1_canBeDone 124 = .ok (.iaload, 1) := by decide +kernel
theorem dX1_canBeDone_125 : decode cX1_canBeDone 125 = .ok (.iconst (-1), 1) := by decide +kernel
theorem dX1_canBeDone_126 : decode cX1_canBeDone 126 = .ok (.if_icmp .eq 7, 3) := by decide +kernel
theorem dX1_canBeDone_129 : decode cX1_canBeDone 129 = .ok (.iconst 1, 1) := by decide +kernel
theorem dX1_canBeDone_130 : decode cX1_canBeDone 130 = .ok (.goto 4, 3) := by decide +kernel
theorem dX1_canBeDone_133 : decode cX1_canBeDone 133 = .ok (.iconst 0, 1) := by decide +kernel
theorem dX1_canBeDone_134 : decode cX1_canBeDone 134 = .ok (.ireturn, 1) := by decide +kernel
theorem dX1_canBeDone_135 : decode cX1_canBeDone 135 = .ok (.aload_n 0, 1) := by decide +kernel
theorem dX1_canBeDone_136 : decode cX1_canBeDone 136 = .ok (.getfield 13, 3) := by decide +kernel
theorem dX1_canBeDone_139 : decode cX1_canBeDone 139 = .ok (.iload_n 2, 1) := by decide +kernel
theorem dX1_canBeDone_140 : decode cX1_canBeDone 140 = .ok (.iaload, 1) := by decide +kernel
theorem dX1_canBeDone_141 : decode cX1_canBeDone 141 = .ok (.iconst 1, 1) := by decide +kernel
theorem dX1_canBeDone_142 : decode cX1_canBeDone 142 = .ok (.if_icmp .ne 37, 3) := by decide +kernel
theorem dX1_canBeDone_145 : decode cX1_canBeDone 145 = .ok (.aload_n 0, 1) := by decide +kernel
theorem dX1_canBeDone_146 : decode cX1_canBeDone 146 = .ok (.getfield 13, 3) := by decide +kernel
theorem dX1_canBeDone_149 : decode cX1_canBeDone 149 = .ok (.iload_n 3, 1) := by decide +kernel
theorem dX1_canBeDone_150 : decode cX1_canBeDone 150 = .ok (.iaload, 1) := by decide +kernel
theorem dX1_canBeDone_151 : decode cX1_canBeDone 151 = .ok (.iconst 1, 1) := by decide +kernel
theorem dX1_canBeDone_152 : decode cX1_canBeDone 152 = .ok (.if_icmp .ne 27, 3) := by decide +kernel
theorem dX1_canBeDone_155 : decode cX1_canBeDone 155 = .ok (.aload_n 0, 1) := by decide +kernel
theorem dX1_canBeDone_156 : decode cX1_canBeDone 156 = .ok (.getfield 7, 3) := by decide +kernel
theorem dX1_canBeDone_159 : decode cX1_canBeDone 159 = .ok (.iload_n 2, 1) := by decide +kernel
theorem dX1_canBeDone_160 : decode cX1_canBeDone 160 = .ok (.iaload, 1) := by decide +kernel
theorem dX1_canBeDone_161 : decode cX1_canBeDone 161 = .ok (.iconst (-1), 1) := by decide +kernel
theorem dX1_canBeDone_162 : decode cX1_canBeDone 162 = .ok (.if_icmp .ne 13, 3) := by decide +kernel
theorem dX1_canBeDone_165 : decode cX1_canBeDone 165 = .ok (.aload_n 0, 1) := by decide +kernel
theorem dX1_canBeDone_166 : decode cX1_canBeDone 166 = .ok (.getfield 7, 3) := by decide +kernel
theorem dX1_canBeDone_169 : decode cX1_canBeDone 169 = .ok (.iload_n 3, 1) := by decide +kernel
theorem dX1_canBeDone_170 : decode cX1_canBeDone 170 = .ok (.iaload, 1) := by decide +kernel
theorem dX1_canBeDone_171 : decode cX1_canBeDone 171 = .ok (.iconst (-1), 1) := by decide +kernel
theorem dX1_canBeDone_172 : decode cX1_canBeDone 172 = .ok (.if_icmp .eq 7, 3) := by decide +kernel
theorem dX1_canBeDone_175 : decode cX1_canBeDone 175 = .ok (.iconst 1, 1) := by decide +kernel
theorem dX1_canBeDone_176 : decode cX1_canBeDone 176 = .ok (.goto 4, 3) := by decide +kernel
theorem dX1_canBeDone_179 : decode cX1_canBeDone 179 = .ok (.iconst 0, 1) := by decide +kernel
theorem dX1_canBeDone_180 : decode cX1_canBeDone 180 = .ok (.ireturn, 1) := by decide +kernel
set_option maxRecDepth 20000 in
theorem ggX1_isReady_X1_canBeDone : GoodIn wsX1_isReady wsX1_canBeDone := goodIn_r _ [7, 8, 9, 10, 11, 12, 13, 14, 15, 16, 6, 17, 18, 19, 20, 21, 22, 23, 24, 25, 26, 27, 28, 29, 30, 31, 32, 33, 34, 35] (by decide +kernel) (by decide +kernel)
set_option maxRecDepth 20000 in
theorem gX1_isReady_X1_canBeDone : GoodIn wsX1_isReady (wsV RX1 80 RX1 yX1_canBeDone wsX1_canBeDone) := goodIn_app (goodIn_of _ (by decide +kernel)) ggX1_isReady_X1_canBeDone
theorem dX1_isReady_0 : decode cX1_isReady 0 = .ok (.aload_n 0, 1) := by decide +kernel
theorem dX1_isReady_1 : decode cX1_isReady 1 = .ok (.getfield 31, 3) := by decide +kernel
theorem dX1_isReady_4 : decode cX1_isReady 4 = .ok (.iload_n 1, 1) := by decide +kernel
theorem dX1_isReady_5 : decode cX1_isReady 5 = .ok (.iaload, 1) := by decide +kernel
theorem dX1_isReady_6 : decode cX1_isReady 6 = .ok (.iconst (-1), 1) := by decide +kernel
theorem dX1_isReady_7 : decode cX1_isReady 7 = .ok (.if_icmp .eq 18, 3) := by decide +kernel
theorem dX1_isReady_10 : decode cX1_isReady 10 = .ok (.aload_n 0, 1) := by decide +kernel
theorem dX1_isReady_11 : decode cX1_isReady 11 = .ok (.getfield 34, 3) := by decide +kernel
theorem dX1_isReady_14 : decode cX1_isReady 14 = .ok (.aload_n 0, 1) := by decide +kernel
theorem dX1_isReady_15 : decode cX1_isReady 15 = .ok (.getfield 31, 3) := by decide +kernel
theorem dX1_isReady_18 : decode cX1_isReady 18 = .ok (.iload_n 1, 1) := by decide +kernel
theorem dX1_isReady_19 : decode cX1_isReady 19 = .ok (.iaload, 1) := by decide +kernel
theorem dX1_isReady_20 : decode cX1_isReady 20 = .ok (.iaload, 1) := by decide +kernel
theorem dX1_isReady_21 : decode cX1_isReady 21 = .ok (.iconst 1, 1) := by decide +kernel
theorem dX1_isReady_22 : decode cX1_isReady 22 = .ok (.if_icmp .ne 7, 3) := by decide +kernel
theorem dX1_isReady_25 : decode cX1_isReady 25 = .ok (.iconst 1, 1) := by decide +kernel
theorem dX1_isReady_26 : decode cX1_isReady 26 = .ok (.goto 4, 3) := by decide +kernel
theorem dX1_isReady_29 : decode cX1_isReady 29 = .ok (.iconst 0, 1) := by decide +kernel
theorem dX1_isReady_30 : decode cX1_isReady 30 = .ok (.istore_n 2, 1) := by decide +kernel
theorem dX1_isReady_31 : decode cX1_isReady 31 = .ok (.aload_n 0, 1) := by decide +kernel
theorem dX1_isReady_32 : decode cX1_isReady 32 = .ok (.getfield 34, 3) := by decide +kernel
theorem dX1_isReady_35 : decode cX1_isReady 35 = .ok (.iload_n 1, 1) := by decide +kernel
theorem dX1_isReady_36 : decode cX1_isReady 36 = .ok (.iaload, 1) := by decide +kernel
theorem dX1_isReady_37 : decode cX1_isReady 37 = .ok (.ifCond .ne 19, 3) := by decide +kernel
theorem dX1_isReady_40 : decode cX1_isReady 40 = .ok (.iload_n 2, 1) := by decide +kernel
theorem dX1_isReady_41 : decode cX1_isReady 41 = .ok (.ifCond .eq 15, 3) := by decide +kernel
theorem dX1_isReady_44 : decode cX1_isReady 44 = .ok (.aload_n 0, 1) := by decide +kernel
theorem dX1_isReady_45 : decode cX1_isReady 45 = .ok (.iload_n 1, 1) := by decide +kernel
theorem dX1_isReady_46 : decode cX1_isReady 46 = .ok (.invokevirtual 80, 3) := by decide +kernel
theorem dX1_isReady_49 : decode cX1_isReady 49 = .ok (.ifCond .eq 7, 3) := by decide +kernel
theorem dX1_isReady_52 : decode cX1_isReady 52 = .ok (.iconst 1, 1) := by decide +kernel
theorem dX1_isReady_53 : decode cX1_isReady 53 = .ok (.goto 4, 3) := by decide +kernel
theorem dX1_isReady_56 : decode cX1_isReady 56 = .ok (.iconst 0, 1) := by decide +kernel
theorem dX1_isReady_57 : decode cX1_isReady 57 = .ok (.ireturn, 1) := by decide +kernel
set_option maxRecDepth 20000 in
theorem ggX1_canCall_X1_isCue : GoodIn wsX1_canCall wsX1_isCue := goodIn_r _ [6, 7, 8, 9, 5, 10, 35, 36, 37, 38, 39, 40, 41, 42, 43, 44, 45, 46, 47, 48, 49, 50, 51, 52] (by decide +kernel) (by decide +kernel)
set_option maxRecDepth 20000 in
theorem gX1_canCall_X1_isCue : GoodIn wsX1_canCall (wsV RX1 83 RX1 yX1_isCue wsX1_isCue) := goodIn_app (goodIn_of _ (by decide +kernel)) ggX1_canCall_X1_isCue
set_option maxRecDepth 20000 in
theorem ggX1_canCall_X1_fails : GoodIn wsX1_canCall wsX1_fails := goodIn_r _ [14, 1, 35, 36, 37, 38, 39, 40, 41, 42, 43, 44, 45, 46, 47, 48, 49, 50, 51, 52] (by decide +kernel) (by decide +kernel)
set_option maxRecDepth 20000 in
theorem gX1_canCall_X1_fails : GoodIn wsX1_canCall (wsV RX1 70 RX1 yX1_fails wsX1_fails) := goodIn_app (goodIn_of _ (by decide +kernel)) ggX1_canCall_X1_fails
set_option maxRecDepth 20000 in
theorem ggX1_canCall_X1_isReady : GoodIn wsX1_canCall wsX1_isReady := goodIn_r _ [18, 19, 20, 21, 22, 23, 5, 24, 25, 26, 27, 28, 29, 30, 31, 32, 33, 34, 35, 36, 37, 38, 39, 40, 41, 42, 43, 44, 45, 46, 47, 48, 49, 50, 51, 52] (by decide +kernel) (by decide +kernel)
set_option maxRecDepth 20000 in
theorem gX1_canCall_X1_isReady : GoodIn wsX1_canCall (wsV RX1 86 RX1 yX1_isReady wsX1_isReady) := goodIn_app (goodIn_of _ (by decide +kernel)) ggX1_canCall_X1_isReady
theorem dX1_canCall_0 : decode cX1_canCall 0 = .ok (.aload_n 0, 1) := by decide +kernel
theorem dX1_canCall_1 : decode cX1_canCall 1 = .ok (.iconst 0, 1) := by decide +kernel
theorem dX1_canCall_2 : decode cX1_canCall 2 = .ok (.putfield 53, 3) := by decide +kernel
theorem dX1_canCall_5 : decode cX1_canCall 5 = .ok (.aload_n 0, 1) := by decide +kernel
theorem dX1_canCall_6 : decode cX1_canCall 6 = .ok (.iload_n 1, 1) := by decide +kernel
theorem dX1_canCall_7 : decode cX1_canCall 7 = .ok (.invokevirtual 83, 3) := by decide +kernel
theorem dX1_canCall_10 : decode cX1_canCall 10 = .ok (.ifCond .ne 11, 3) := by decide +kernel
theorem dX1_canCall_13 : decode cX1_canCall 13 = .ok (.aload_n 0, 1) := by decide +kernel
theorem dX1_canCall_14 : decode cX1_canCall 14 = .ok (.iconst 1, 1) := by decide +kernel
theorem dX1_canCall_15 : decode cX1_canCall 15 = .ok (.invokevirtual 70, 3) := by decide +kernel
theorem dX1_canCall_18 : decode cX1_canCall 18 = .ok (.pop, 1) := by decide +kernel
theorem dX1_canCall_19 : decode cX1_canCall 19 = .ok (.iconst 0, 1) := by decide +kernel
theorem dX1_canCall_20 : decode cX1_canCall 20 = .ok (.ireturn, 1) := by decide +kernel
theorem dX1_canCall_21 : decode cX1_canCall 21 = .ok (.aload_n 0, 1) := by decide +kernel
theorem dX1_canCall_22 : decode cX1_canCall 22 = .ok (.iload_n 1, 1) := by decide +kernel
theorem dX1_canCall_23 : decode cX1_canCall 23 = .ok (.invokevirtual 86, 3) := by decide +kernel
theorem dX1_canCall_26 : decode cX1_canCall 26 = .ok (.ireturn, 1) := by decide +kernel
theorem dX1_change_0 : decode cX1_change 0 = .ok (.aload_n 0, 1) := by decide +kernel
theorem dX1_change_1 : decode cX1_change 1 = .ok (.getfield 25, 3) := by decide +kernel
theorem dX1_change_4 : decode cX1_change 4 = .ok (.iload_n 1, 1) := by decide +kernel
theorem dX1_change_5 : decode cX1_change 5 = .ok (.iaload, 1) := by decide +kernel
theorem dX1_change_6 : decode cX1_change 6 = .ok (.istore_n 3, 1) := by decide +kernel
theorem dX1_change_7 : decode cX1_change 7 = .ok (.aload_n 0, 1) := by decide +kernel
theorem dX1_change_8 : decode cX1_change 8 = .ok (.getfield 28, 3) := by decide +kernel
theorem dX1_change_11 : decode cX1_change 11 = .ok (.iload_n 1, 1) := by decide +kernel
theorem dX1_change_12 : decode cX1_change 12 = .ok (.iaload, 1) := by decide +kernel
theorem dX1_change_13 : decode cX1_change 13 = .ok (.istore 4, 2) := by decide +kernel
theorem dX1_change_15 : decode cX1_change 15 = .ok (.aload_n 0, 1) := by decide +kernel
theorem dX1_change_16 : decode cX1_change 16 = .ok (.getfield 22, 3) := by decide +kernel
theorem dX1_change_19 : decode cX1_change 19 = .ok (.iload_n 1, 1) := by decide +kernel
theorem dX1_change_20 : decode cX1_change 20 = .ok (.iaload, 1) := by decide +kernel
theorem dX1_change_21 : decode cX1_change 21 = .ok (.iconst 2, 1) := by decide +kernel
theorem dX1_change_22 : decode cX1_change 22 = .ok (.if_icmp .ne 8, 3) := by decide +kernel
theorem dX1_change_25 : decode cX1_change 25 = .ok (.aload_n 2, 1) := by decide +kernel
theorem dX1_change_26 : decode cX1_change 26 = .ok (.iload_n 3, 1) := by decide +kernel
theorem dX1_change_27 : decode cX1_change 27 = .ok (.iload 4, 2) := by decide +kernel
theorem dX1_change_29 : decode cX1_change 29 = .ok (.iastore, 1) := by decide +kernel
theorem dX1_change_30 : decode cX1_change 30 = .ok (.aload_n 0, 1) := by decide +kernel
theorem dX1_change_31 : decode cX1_change 31 = .ok (.getfield 22, 3) := by decide +kernel
theorem dX1_change_34 : decode cX1_change 34 = .ok (.iload_n 1, 1) := by decide +kernel
theorem dX1_change_35 : decode cX1_change 35 = .ok (.iaload, 1) := by decide +kernel
theorem dX1_change_36 : decode cX1_change 36 = .ok (.iconst 3, 1) := by decide +kernel
theorem dX1_change_37 : decode cX1_change 37 = .ok (.if_icmp .ne 7, 3) := by decide +kernel
theorem dX1_change_40 : decode cX1_change 40 = .ok (.aload_n 2, 1) := by decide +kernel
theorem dX1_change_41 : decode cX1_change 41 = .ok (.iload_n 3, 1) := by decide +kernel
theorem dX1_change_42 : decode cX1_change 42 = .ok (.iconst (-1), 1) := by decide +kernel
theorem dX1_change_43 : decode cX1_change 43 = .ok (.iastore, 1) := by decide +kernel
theorem dX1_change_44 : decode cX1_change 44 = .ok (.aload_n 0, 1) := by decide +kernel
theorem dX1_change_45 : decode cX1_change 45 = .ok (.getfield 22, 3) := by decide +kernel
theorem dX1_change_48 : decode cX1_change 48 = .ok (.iload_n 1, 1) := by decide +kernel
theorem dX1_change_49 : decode cX1_change 49 = .ok (.iaload, 1) := by decide +kernel
theorem dX1_change_50 : decode cX1_change 50 = .ok (.iconst 4, 1) := by decide +kernel
theorem dX1_change_51 : decode cX1_change 51 = .ok (.if_icmp .ne 21, 3) := by decide +kernel
theorem dX1_change_54 : decode cX1_change 54 = .ok (.aload_n 2, 1) := by decide +kernel
theorem dX1_change_55 : decode cX1_change 55 = .ok (.iload_n 3, 1) := by decide +kernel
theorem dX1_change_56 : decode cX1_change 56 = .ok (.iaload, 1) := by decide +kernel
theorem dX1_change_57 : decode cX1_change 57 = .ok (.istore 5, 2) := by decide +kernel
theorem dX1_change_59 : decode cX1_change 59 = .ok (.aload_n 2, 1) := by decide +kernel
theorem dX1_change_60 : decode cX1_change 60 = .ok (.iload_n 3, 1) := by decide +kernel
theorem dX1_change_61 : decode cX1_change 61 = .ok (.aload_n 2, 1) := by decide +kernel
theorem dX1_change_62 : decode cX1_change 62 = .ok (.iload 4, 2) := by decide +kernel
theorem dX1_change_64 : decode cX1_change 64 = .ok (.iaload, 1) := by decide +kernel
theorem dX1_change_65 : decode cX1_change 65 = .ok (.iastore, 1) := by decide +kernel
theorem dX1_change_66 : decode cX1_change 66 = .ok (.aload_n 2, 1) := by decide +kernel
theorem dX1_change_67 : decode cX1_change 67 = .ok (.iload 4, 2) := by decide +kernel
theorem dX1_change_69 : decode cX1_change 69 = .ok (.iload 5, 2) := by decide +kernel
theorem dX1_change_71 : decode cX1_change 71 = .ok (.iastore, 1) := by decide +kernel
theorem dX1_change_72 : decode cX1_change 72 = .ok (.return_, 1) := by decide +kernel
theorem dX1_exit_0 : decode cX1_exit 0 = .ok (.aload_n 0, 1) := by decide +kernel
theorem dX1_exit_1 : decode cX1_exit 1 = .ok (.getfield 16, 3) := by decide +kernel
theorem dX1_exit_4 : decode cX1_exit 4 = .ok (.iload_n 1, 1) := by decide +kernel
theorem dX1_exit_5 : decode cX1_exit 5 = .ok (.iaload, 1) := by decide +kernel
theorem dX1_exit_6 : decode cX1_exit 6 = .ok (.istore_n 2, 1) := by decide +kernel
theorem dX1_exit_7 : decode cX1_exit 7 = .ok (.aload_n 0, 1) := by decide +kernel
theorem dX1_exit_8 : decode cX1_exit 8 = .ok (.getfield 13, 3) := by decide +kernel
theorem dX1_exit_11 : decode cX1_exit 11 = .ok (.iload_n 1, 1) := by decide +kernel
theorem dX1_exit_12 : decode cX1_exit 12 = .ok (.iconst 0, 1) := by decide +kernel
theorem dX1_exit_13 : decode cX1_exit 13 = .ok (.iastore, 1) := by decide +kernel
theorem dX1_exit_14 : decode cX1_exit 14 = .ok (.aload_n 0, 1) := by decide +kernel
theorem dX1_exit_15 : decode cX1_exit 15 = .ok (.getfield 19, 3) := by decide +kernel
theorem dX1_exit_18 : decode cX1_exit 18 = .ok (.iload_n 2, 1) := by decide +kernel
theorem dX1_exit_19 : decode cX1_exit 19 = .ok (.dup2, 1) := by decide +kernel
theorem dX1_exit_20 : decode cX1_exit 20 = .ok (.iaload, 1) := by decide +kernel
theorem dX1_exit_21 : decode cX1_exit 21 = .ok (.iconst 1, 1) := by decide +kernel
theorem dX1_exit_22 : decode cX1_exit 22 = .ok (.iadd, 1) := by decide +kernel
theorem dX1_exit_23 : decode cX1_exit 23 = .ok (.iastore, 1) := by decide +kernel
theorem dX1_exit_24 : decode cX1_exit 24 = .ok (.aload_n 0, 1) := by decide +kernel
theorem dX1_exit_25 : decode cX1_exit 25 = .ok (.getfield 16, 3) := by decide +kernel
theorem dX1_exit_28 : decode cX1_exit 28 = .ok (.iload_n 1, 1) := by decide +kernel
theorem dX1_exit_29 : decode cX1_exit 29 = .ok (.aload_n 0, 1) := by decide +kernel
theorem dX1_exit_30 : decode cX1_exit 30 = .ok (.getfield 19, 3) := by decide +kernel
theorem dX1_exit_33 : decode cX1_exit 33 = .ok (.iload_n 2, 1) := by decide +kernel
theorem dX1_exit_34 : decode cX1_exit 34 = .ok (.iaload, 1) := by decide +kernel
theorem dX1_exit_35 : decode cX1_exit 35 = .ok (.iconst 3, 1) := by decide +kernel
theorem dX1_exit_36 : decode cX1_exit 36 = .ok (.if_icmp .lt 7, 3) := by decide +kernel
theorem dX1_exit_39 : decode cX1_exit 39 = .ok (.iconst (-1), 1) := by decide +kernel
theorem dX1_exit_40 : decode cX1_exit 40 = .ok (.goto 4, 3) := by decide +kernel
theorem dX1_exit_43 : decode cX1_exit 43 = .ok (.iload_n 2, 1) := by decide +kernel
theorem dX1_exit_44 : decode cX1_exit 44 = .ok (.iastore, 1) := by decide +kernel
theorem dX1_exit_45 : decode cX1_exit 45 = .ok (.return_, 1) := by decide +kernel
set_option maxRecDepth 20000 in
theorem ggX1_callOne_X1_change : GoodIn wsX1_callOne wsX1_change := goodIn_r _ [12, 7, 13, 5, 20, 21, 22, 23, 24, 25, 26, 27, 28, 29, 30, 31, 32, 33, 34, 35, 36, 37] (by decide +kernel) (by decide +kernel)
set_option maxRecDepth 20000 in
theorem gX1_callOne_X1_change : GoodIn wsX1_callOne (wsV RX1 92 RX1 yX1_change wsX1_change) := goodIn_app (goodIn_of _ (by decide +kernel)) ggX1_callOne_X1_change
set_option maxRecDepth 20000 in
theorem ggX1_callOne_X1_exit : GoodIn wsX1_callOne wsX1_exit := goodIn_r _ [17, 18, 6, 19, 20, 21, 22, 23, 24, 25, 26, 27, 28, 29, 30, 31, 32, 33, 34, 35, 36, 37] (by decide +kernel) (by decide +kernel)
set_option maxRecDepth 20000 in
theorem gX1_callOne_X1_exit : GoodIn wsX1_callOne (wsV RX1 96 RX1 yX1_exit wsX1_exit) := goodIn_app (goodIn_of _ (by decide +kernel)) ggX1_callOne_X1_exit
theorem dX1_callOne_0 : decode cX1_callOne 0 = .ok (.aload_n 0, 1) := by decide +kernel
theorem dX1_callOne_1 : decode cX1_callOne 1 = .ok (.getfield 34, 3) := by decide +kernel
theorem dX1_callOne_4 : decode cX1_callOne 4 = .ok (.iload_n 1, 1) := by decide +kernel
theorem dX1_callOne_5 : decode cX1_callOne 5 = .ok (.iconst 1, 1) := by decide +kernel
theorem dX1_callOne_6 : decode cX1_callOne 6 = .ok (.iastore, 1) := by decide +kernel
theorem dX1_callOne_7 : decode cX1_callOne 7 = .ok (.aload_n 0, 1) := by decide +kernel
theorem dX1_callOne_8 : decode cX1_callOne 8 = .ok (.getfield 37, 3) := by decide +kernel
theorem dX1_callOne_11 : decode cX1_callOne 11 = .ok (.aload_n 0, 1) := by decide +kernel
theorem dX1_callOne_12 : decode cX1_callOne 12 = .ok (.getfield 89, 3) := by decide +kernel
theorem dX1_callOne_15 : decode cX1_callOne 15 = .ok (.iload_n 1, 1) := by decide +kernel
theorem dX1_callOne_16 : decode cX1_callOne 16 = .ok (.iastore, 1) := by decide +kernel
theorem dX1_callOne_17 : decode cX1_callOne 17 = .ok (.aload_n 0, 1) := by decide +kernel
theorem dX1_callOne_18 : decode cX1_callOne 18 = .ok (.dup, 1) := by decide +kernel
theorem dX1_callOne_19 : decode cX1_callOne 19 = .ok (.getfield 89, 3) := by decide +kernel
theorem dX1_callOne_22 : decode cX1_callOne 22 = .ok (.iconst 1, 1) := by decide +kernel
theorem dX1_callOne_23 : decode cX1_callOne 23 = .ok (.iadd, 1) := by decide +kernel
theorem dX1_callOne_24 : decode cX1_callOne 24 = .ok (.putfield 89, 3) := by decide +kernel
theorem dX1_callOne_27 : decode cX1_callOne 27 = .ok (.aload_n 0, 1) := by decide +kernel
theorem dX1_callOne_28 : decode cX1_callOne 28 = .ok (.iload_n 1, 1) := by decide +kernel
theorem dX1_callOne_29 : decode cX1_callOne 29 = .ok (.aload_n 0, 1) := by decide +kernel
theorem dX1_callOne_30 : decode cX1_callOne 30 = .ok (.getfield 7, 3) := by decide +kernel
theorem dX1_callOne_33 : decode cX1_callOne 33 = .ok (.invokevirtual 92, 3) := by decide +kernel
theorem dX1_callOne_36 : decode cX1_callOne 36 = .ok (.aload_n 0, 1) := by decide +kernel
theorem dX1_callOne_37 : decode cX1_callOne 37 = .ok (.getfield 22, 3) := by decide +kernel
theorem dX1_callOne_40 : decode cX1_callOne 40 = .ok (.iload_n 1, 1) := by decide +kernel
theorem dX1_callOne_41 : decode cX1_callOne 41 = .ok (.iaload, 1) := by decide +kernel
theorem dX1_callOne_42 : decode cX1_callOne 42 = .ok (.ifCond .ne 15, 3) := by decide +kernel
theorem dX1_callOne_45 : decode cX1_callOne 45 = .ok (.aload_n 0, 1) := by decide +kernel
theorem dX1_callOne_46 : decode cX1_callOne 46 = .ok (.getfield 13, 3) := by decide +kernel
theorem dX1_callOne_49 : decode cX1_callOne 49 = .ok (.aload_n 0, 1) := by decide +kernel
theorem dX1_callOne_50 : decode cX1_callOne 50 = .ok (.getfield 25, 3) := by decide +kernel
theorem dX1_callOne_53 : decode cX1_callOne 53 = .ok (.iload_n 1, 1) := by decide +kernel
theorem dX1_callOne_54 : decode cX1_callOne 54 = .ok (.iaload, 1) := by decide +kernel
theorem dX1_callOne_55 : decode cX1_callOne 55 = .ok (.iconst 1, 1) := by decide +kernel
theorem dX1_callOne_56 : decode cX1_callOne 56 = .ok (.iastore, 1) := by decide +kernel
theorem dX1_callOne_57 : decode cX1_callOne 57 = .ok (.aload_n 0, 1) := by decide +kernel
theorem dX1_callOne_58 : decode cX1_callOne 58 = .ok (.getfield 22, 3) := by decide +kernel
theorem dX1_callOne_61 : decode cX1_callOne 61 = .ok (.iload_n 1, 1) := by decide +kernel
theorem dX1_callOne_62 : decode cX1_callOne 62 = .ok (.iaload, 1) := by decide +kernel
theorem dX1_callOne_63 : decode cX1_callOne 63 = .ok (.iconst 1, 1) := by decide +kernel
theorem dX1_callOne_64 : decode cX1_callOne 64 = .ok (.if_icmp .ne 13, 3) := by decide +kernel
theorem dX1_callOne_67 : decode cX1_callOne 67 = .ok (.aload_n 0, 1) := by decide +kernel
theorem dX1_callOne_68 : decode cX1_callOne 68 = .ok (.aload_n 0, 1) := by decide +kernel
theorem dX1_callOne_69 : decode cX1_callOne 69 = .ok (.getfield 25, 3) := by decide +kernel
theorem dX1_callOne_72 : decode cX1_callOne 72 = .ok (.iload_n 1, 1) := by decide +kernel
theorem dX1_callOne_73 : decode cX1_callOne 73 = .ok (.iaload, 1) := by decide +kernel
theorem dX1_callOne_74 : decode cX1_callOne 74 = .ok (.invokevirtual 96, 3) := by decide +kernel
theorem dX1_callOne_77 : decode cX1_callOne 77 = .ok (.return_, 1) := by decide +kernel
set_option maxRecDepth 20000 in
theorem ggX1_call_X1_isCue : GoodIn wsX1_call wsX1_isCue := goodIn_r _ [7, 8, 9, 10, 6, 11, 50, 51, 52, 53, 54, 55, 56, 57, 58, 59, 60, 61, 62, 63, 64, 65, 66, 67] (by decide +kernel) (by decide +kernel)
set_option maxRecDepth 20000 in
theorem gX1_call_X1_isCue : GoodIn wsX1_call (wsV RX1 83 RX1 yX1_isCue wsX1_isCue) := goodIn_app (goodIn_of _ (by decide +kernel)) ggX1_call_X1_isCue
set_option maxRecDepth 20000 in
theorem ggX1_call_X1_fails : GoodIn wsX1_call wsX1_fails := goodIn_r _ [15, 1, 50, 51, 52, 53, 54, 55, 56, 57, 58, 59, 60, 61, 62, 63, 64, 65, 66, 67] (by decide +kernel) (by decide +kernel)
set_option maxRecDepth 20000 in
theorem gX1_call_X1_fails : GoodIn wsX1_call (wsV RX1 70 RX1 yX1_fails wsX1_fails) := goodIn_app (goodIn_of _ (by decide +kernel)) ggX1_call_X1_fails
set_option maxRecDepth 20000 in
theorem ggX1_call_X1_isReady : GoodIn wsX1_call wsX1_isReady := goodIn_r _ [19, 20, 21, 22, 23, 24, 6, 25, 26, 27, 28, 29, 30, 31, 32, 33, 34, 35, 50, 51, 52, 53, 54, 55, 56, 57, 58, 59, 60, 61, 62, 63, 64, 65, 66, 67] (by decide +kernel) (by decide +kernel)
set_option maxRecDepth 20000 in
theorem gX1_call_X1_isReady : GoodIn wsX1_call (wsV RX1 86 RX1 yX1_isReady wsX1_isReady) := goodIn_app (goodIn_of _ (by decide +kernel)) ggX1_call_X1_isReady
set_option maxRecDepth 20000 in
theorem ggX1_call_X1_callOne : GoodIn wsX1_call wsX1_callOne := goodIn_r _ [39, 21, 40, 2, 31, 28, 29, 26, 41, 42, 43, 6, 44, 27, 45, 46, 47, 48, 30, 49, 50, 51, 52, 53, 54, 55, 56, 57, 58, 59, 60, 61, 62, 63, 64, 65, 66, 67] (by decide +kernel) (by decide +kernel)
set_option maxRecDepth 20000 in
theorem gX1_call_X1_callOne : GoodIn wsX1_call (wsV RX1 100 RX1 yX1_callOne wsX1_callOne) := goodIn_app (goodIn_of _ (by decide +kernel)) ggX1_call_X1_callOne
theorem dX1_call_0 : decode cX1_call 0 = .ok (.aload_n 0, 1) := by decide +kernel
theorem dX1_call_1 : decode cX1_call 1 = .ok (.iconst 0, 1) := by decide +kernel
theorem dX1_call_2 : decode cX1_call 2 = .ok (.putfield 53, 3) := by decide +kernel
theorem dX1_call_5 : decode cX1_call 5 = .ok (.aload_n 0, 1) := by decide +kernel
theorem dX1_call_6 : decode cX1_call 6 = .ok (.iload_n 1, 1) := by decide +kernel
theorem dX1_call_7 : decode cX1_call 7 = .ok (.invokevirtual 83, 3) := by decide +kernel
theorem dX1_call_10 : decode cX1_call 10 = .ok (.ifCond .ne 9, 3) := by decide +kernel
theorem dX1_call_13 : decode cX1_call 13 = .ok (.aload_n 0, 1) := by decide +kernel
theorem dX1_call_14 : decode cX1_call 14 = .ok (.iconst 1, 1) := by decide +kernel
theorem dX1_call_15 : decode cX1_call 15 = .ok (.invokevirtual 70, 3) := by decide +kernel
theorem dX1_call_18 : decode cX1_call 18 = .ok (.ireturn, 1) := by decide +kernel
theorem dX1_call_19 : decode cX1_call 19 = .ok (.aload_n 0, 1) := by decide +kernel
theorem dX1_call_20 : decode cX1_call 20 = .ok (.iload_n 1, 1) := by decide +kernel
theorem dX1_call_21 : decode cX1_call 21 = .ok (.invokevirtual 86, 3) := by decide +kernel
theorem dX1_call_24 : decode cX1_call 24 = .ok (.ifCond .ne 9, 3) := by decide +kernel
theorem dX1_call_27 : decode cX1_call 27 = .ok (.aload_n 0, 1) := by decide +kernel
theorem dX1_call_28 : decode cX1_call 28 = .ok (.iconst 2, 1) := by decide +kernel
theorem dX1_call_29 : decode cX1_call 29 = .ok (.invokevirtual 70, 3) := by decide +kernel
theorem dX1_call_32 : decode cX1_call 32 = .ok (.ireturn, 1) := by decide +kernel
theorem dX1_call_33 : decode cX1_call 33 = .ok (.aload_n 0, 1) := by decide +kernel
theorem dX1_call_34 : decode cX1_call 34 = .ok (.iload_n 1, 1) := by decide +kernel
theorem dX1_call_35 : decode cX1_call 35 = .ok (.invokevirtual 100, 3) := by decide +kernel
theorem dX1_call_38 : decode cX1_call 38 = .ok (.aload_n 0, 1) := by decide +kernel
theorem dX1_call_39 : decode cX1_call 39 = .ok (.getfield 89, 3) := by decide +kernel
theorem dX1_call_42 : decode cX1_call 42 = .ok (.ireturn, 1) := by decide +kernel
set_option maxRecDepth 20000 in
theorem ggX1_run_X1_isReady : GoodIn wsX1_run wsX1_isReady := goodIn_r _ [8, 9, 10, 11, 12, 13, 7, 14, 15, 16, 17, 18, 19, 20, 21, 22, 23, 24, 39, 40, 41, 42, 43, 44, 45, 46, 47, 48, 49, 50, 51, 52, 53, 54, 55, 56] (by decide +kernel) (by decide +kernel)
set_option maxRecDepth 20000 in
theorem gX1_run_X1_isReady : GoodIn wsX1_run (wsV RX1 86 RX1 yX1_isReady wsX1_isReady) := goodIn_app (goodIn_of _ (by decide +kernel)) ggX1_run_X1_isReady
set_option maxRecDepth 20000 in
theorem ggX1_run_X1_callOne : GoodIn wsX1_run wsX1_callOne := goodIn_r _ [28, 10, 29, 2, 20, 17, 18, 15, 30, 31, 32, 7, 33, 16, 34, 35, 36, 37, 19, 38, 39, 40, 41, 42, 43, 44, 45, 46, 47, 48, 49, 50, 51, 52, 53, 54, 55, 56] (by decide +kernel) (by decide +kernel)
set_option maxRecDepth 20000 in
theorem gX1_run_X1_callOne : GoodIn wsX1_run (wsV RX1 100 RX1 yX1_callOne wsX1_callOne) := goodIn_app (goodIn_of _ (by decide +kernel)) ggX1_run_X1_callOne
theorem dX1_run_0 : decode cX1_run 0 = .ok (.aload_n 0, 1) := by decide +kernel
theorem dX1_run_1 : decode cX1_run 1 = .ok (.iconst 0, 1) := by decide +kernel
theorem dX1_run_2 : decode cX1_run 2 = .ok (.putfield 53, 3) := by decide +kernel
theorem dX1_run_5 : decode cX1_run 5 = .ok (.aload_n 0, 1) := by decide +kernel
theorem dX1_run_6 : decode cX1_run 6 = .ok (.getfield 89, 3) := by decide +kernel
theorem dX1_run_9 : decode cX1_run 9 = .ok (.istore_n 1, 1) := by decide +kernel
theorem dX1_run_10 : decode cX1_run 10 = .ok (.iconst 0, 1) := by decide +kernel
theorem dX1_run_11 : decode cX1_run 11 = .ok (.istore_n 2, 1) := by decide +kernel
theorem dX1_run_12 : decode cX1_run 12 = .ok (.iload_n 2, 1) := by decide +kernel
theorem dX1_run_13 : decode cX1_run 13 = .ok (.aload_n 0, 1) := by decide +kernel
theorem dX1_run_14 : decode cX1_run 14 = .ok (.getfield 60, 3) := by decide +kernel
theorem dX1_run_17 : decode cX1_run 17 = .ok (.if_icmp .ge 27, 3) := by decide +kernel
theorem dX1_run_20 : decode cX1_run 20 = .ok (.aload_n 0, 1) := by decide +kernel
theorem dX1_run_21 : decode cX1_run 21 = .ok (.iload_n 2, 1) := by decide +kernel
theorem dX1_run_22 : decode cX1_run 22 = .ok (.invokevirtual 86, 3) := by decide +kernel
theorem dX1_run_25 : decode cX1_run 25 = .ok (.ifCond .eq 13, 3) := by decide +kernel
theorem dX1_run_28 : decode cX1_run 28 = .ok (.aload_n 0, 1) := by decide +kernel
theorem dX1_run_29 : decode cX1_run 29 = .ok (.iload_n 2, 1) := by decide +kernel
theorem dX1_run_30 : decode cX1_run 30 = .ok (.invokevirtual 100, 3) := by decide +kernel
theorem dX1_run_33 : decode cX1_run 33 = .ok (.iconst 0, 1) := by decide +kernel
theorem dX1_run_34 : decode cX1_run 34 = .ok (.istore_n 2, 1) := by decide +kernel
theorem dX1_run_35 : decode cX1_run 35 = .ok (.goto (-23), 3) := by decide +kernel
theorem dX1_run_38 : decode cX1_run 38 = .ok (.iinc 2 1, 3) := by decide +kernel
theorem dX1_run_41 : decode cX1_run 41 = .ok (.goto (-29), 3) := by decide +kernel
theorem dX1_run_44 : decode cX1_run 44 = .ok (.aload_n 0, 1) := by decide +kernel
theorem dX1_run_45 : decode cX1_run 45 = .ok (.getfield 89, 3) := by decide +kernel
theorem dX1_run_48 : decode cX1_run 48 = .ok (.iload_n 1, 1) := by decide +kernel
theorem dX1_run_49 : decode cX1_run 49 = .ok (.isub, 1) := by decide +kernel
theorem dX1_run_50 : decode cX1_run 50 = .ok (.ireturn, 1) := by decide +kernel
set_option maxRecDepth 20000 in
theorem ggX1_miss_X1_isCue : GoodIn wsX1_miss wsX1_isCue := goodIn_r _ [9, 3, 10, 11, 8, 12, 17, 18, 19, 20, 21, 22, 23, 24, 25, 26, 27, 28, 29, 30, 31, 32, 33, 34] (by decide +kernel) (by decide +kernel)
set_option maxRecDepth 20000 in
theorem gX1_miss_X1_isCue : GoodIn wsX1_miss (wsV RX1 83 RX1 yX1_isCue wsX1_isCue) := goodIn_app (goodIn_of _ (by decide +kernel)) ggX1_miss_X1_isCue
set_option maxRecDepth 20000 in
theorem ggX1_miss_X1_fails : GoodIn wsX1_miss wsX1_fails := goodIn_r _ [16, 1, 17, 18, 19, 20, 21, 22, 23, 24, 25, 26, 27, 28, 29, 30, 31, 32, 33, 34] (by decide +kernel) (by decide +kernel)
set_option maxRecDepth 20000 in
theorem gX1_miss_X1_fails : GoodIn wsX1_miss (wsV RX1 70 RX1 yX1_fails wsX1_fails) := goodIn_app (goodIn_of _ (by decide +kernel)) ggX1_miss_X1_fails
theorem dX1_miss_0 : decode cX1_miss 0 = .ok (.aload_n 0, 1) := by decide +kernel
theorem dX1_miss_1 : decode cX1_miss 1 = .ok (.iconst 0, 1) := by decide +kernel
theorem dX1_miss_2 : decode cX1_miss 2 = .ok (.putfield 53, 3) := by decide +kernel
theorem dX1_miss_5 : decode cX1_miss 5 = .ok (.aload_n 0, 1) := by decide +kernel
theorem dX1_miss_6 : decode cX1_miss 6 = .ok (.iload_n 1, 1) := by decide +kernel
theorem dX1_miss_7 : decode cX1_miss 7 = .ok (.invokevirtual 83, 3) := by decide +kernel
theorem dX1_miss_10 : decode cX1_miss 10 = .ok (.ifCond .ne 9, 3) := by decide +kernel
theorem dX1_miss_13 : decode cX1_miss 13 = .ok (.aload_n 0, 1) := by decide +kernel
theorem dX1_miss_14 : decode cX1_miss 14 = .ok (.iconst 1, 1) := by decide +kernel
theorem dX1_miss_15 : decode cX1_miss 15 = .ok (.invokevirtual 70, 3) := by decide +kernel
theorem dX1_miss_18 : decode cX1_miss 18 = .ok (.ireturn, 1) := by decide +kernel
theorem dX1_miss_19 : decode cX1_miss 19 = .ok (.aload_n 0, 1) := by decide +kernel
theorem dX1_miss_20 : decode cX1_miss 20 = .ok (.getfield 34, 3) := by decide +kernel
theorem dX1_miss_23 : decode cX1_miss 23 = .ok (.iload_n 1, 1) := by decide +kernel
theorem dX1_miss_24 : decode cX1_miss 24 = .ok (.iaload, 1) := by decide +kernel
theorem dX1_miss_25 : decode cX1_miss 25 = .ok (.ifCond .eq 9, 3) := by decide +kernel
theorem dX1_miss_28 : decode cX1_miss 28 = .ok (.aload_n 0, 1) := by decide +kernel
theorem dX1_miss_29 : decode cX1_miss 29 = .ok (.iconst 2, 1) := by decide +kernel
theorem dX1_miss_30 : decode cX1_miss 30 = .ok (.invokevirtual 70, 3) := by decide +kernel
theorem dX1_miss_33 : decode cX1_miss 33 = .ok (.ireturn, 1) := by decide +kernel
theorem dX1_miss_34 : decode cX1_miss 34 = .ok (.aload_n 0, 1) := by decide +kernel
theorem dX1_miss_35 : decode cX1_miss 35 = .ok (.getfield 34, 3) := by decide +kernel
theorem dX1_miss_38 : decode cX1_miss 38 = .ok (.iload_n 1, 1) := by decide +kernel
theorem dX1_miss_39 : decode cX1_miss 39 = .ok (.iconst 2, 1) := by decide +kernel
theorem dX1_miss_40 : decode cX1_miss 40 = .ok (.iastore, 1) := by decide +kernel
theorem dX1_miss_41 : decode cX1_miss 41 = .ok (.iconst 1, 1) := by decide +kernel
theorem dX1_miss_42 : decode cX1_miss 42 = .ok (.istore_n 2, 1) := by decide +kernel
theorem dX1_miss_43 : decode cX1_miss 43 = .ok (.iload_n 1, 1) := by decide +kernel
theorem dX1_miss_44 : decode cX1_miss 44 = .ok (.iconst 1, 1) := by decide +kernel
theorem dX1_miss_45 : decode cX1_miss 45 = .ok (.iadd, 1) := by decide +kernel
theorem dX1_miss_46 : decode cX1_miss 46 = .ok (.istore_n 3, 1) := by decide +kernel
theorem dX1_miss_47 : decode cX1_miss 47 = .ok (.iload_n 3, 1) := by decide +kernel
theorem dX1_miss_48 : decode cX1_miss 48 = .ok (.aload_n 0, 1) := by decide +kernel
theorem dX1_miss_49 : decode cX1_miss 49 = .ok (.getfield 60, 3) := by decide +kernel
theorem dX1_miss_52 : decode cX1_miss 52 = .ok (.if_icmp .ge 84, 3) := by decide +kernel
theorem dX1_miss_55 : decode cX1_miss 55 = .ok (.aload_n 0, 1) := by decide +kernel
theorem dX1_miss_56 : decode cX1_miss 56 = .ok (.getfield 34, 3) := by decide +kernel
theorem dX1_miss_59 : decode cX1_miss 59 = .ok (.iload_n 3, 1) := by decide +kernel
theorem dX1_miss_60 : decode cX1_miss 60 = .ok (.iaload, 1) := by decide +kernel
theorem dX1_miss_61 : decode cX1_miss 61 = .ok (.ifCond .ne 32, 3) := by decide +kernel
theorem dX1_miss_64 : decode cX1_miss 64 = .ok (.aload_n 0, 1) := by decide +kernel
theorem dX1_miss_65 : decode cX1_miss 65 = .ok (.getfield 31, 3) := by decide +kernel
theorem dX1_miss_68 : decode cX1_miss 68 = .ok (.iload_n 3, 1) := by decide +kernel
theorem dX1_miss_69 : decode cX1_miss 69 = .ok (.iaload, 1) := by decide +kernel
theorem dX1_miss_70 : decode cX1_miss 70 = .ok (.iconst (-1), 1) := by decide +kernel
theorem dX1_miss_71 : decode cX1_miss 71 = .ok (.if_icmp .eq 22, 3) := by decide +kernel
theorem dX1_miss_74 : decode cX1_miss 74 = .ok (.aload_n 0, 1) := by decide +kernel
theorem dX1_miss_75 : decode cX1_miss 75 = .ok (.getfield 34, 3) := by decide +kernel
theorem dX1_miss_78 : decode cX1_miss 78 = .ok (.aload_n 0, 1) := by decide +kernel
theorem dX1_miss_79 : decode cX1_miss 79 = .ok (.getfield 31, 3) := by decide +kernel
theorem dX1_miss_82 : decode cX1_miss 82 = .ok (.iload_n 3, 1) := by decide +kernel
theorem dX1_miss_83 : decode cX1_miss 83 = .ok (.iaload, 1) := by decide +kernel
theorem dX1_miss_84 : decode cX1_miss 84 = .ok (.iaload, 1) := by decide +kernel
theorem dX1_miss_85 : decode cX1_miss 85 = .ok (.iconst 2, 1) := by decide +kernel
theorem dX1_miss_86 : decode cX1_miss 86 = .ok (.if_icmp .ne 7, 3) := by decide +kernel
theorem dX1_miss_89 : decode cX1_miss 89 = .ok (.iconst 1, 1) := by decide +kernel
theorem dX1_miss_90 : decode cX1_miss 90 = .ok (.goto 4, 3) := by decide +kernel
theorem dX1_miss_93 : decode cX1_miss 93 = .ok (.iconst 0, 1) := by decide +kernel
theorem dX1_miss_94 : decode cX1_miss 94 = .ok (.istore 4, 2) := by decide +kernel
theorem dX1_miss_96 : decode cX1_miss 96 = .ok (.aload_n 0, 1) := by decide +kernel
theorem dX1_miss_97 : decode cX1_miss 97 = .ok (.getfield 34, 3) := by decide +kernel
theorem dX1_miss_100 : decode cX1_miss 100 = .ok (.iload_n 3, 1) := by decide +kernel
theorem dX1_miss_101 : decode cX1_miss 101 = .ok (.iload 4, 2) := by decide +kernel
theorem dX1_miss_103 : decode cX1_miss 103 = .ok (.ifCond .eq 7, 3) := by decide +kernel
theorem dX1_miss_106 : decode cX1_miss 106 = .ok (.iconst 2, 1) := by decide +kernel
theorem dX1_miss_107 : decode cX1_miss 107 = .ok (.goto 9, 3) := by decide +kernel
theorem dX1_miss_110 : decode cX1_miss 110 = .ok (.aload_n 0, 1) := by decide +kernel
theorem dX1_miss_111 : decode cX1_miss 111 = .ok (.getfield 34, 3) := by decide +kernel
theorem dX1_miss_114 : decode cX1_miss 114 = .ok (.iload_n 3, 1) := by decide +kernel
theorem dX1_miss_115 : decode cX1_miss 115 = .ok (.iaload, 1) := by decide +kernel
theorem dX1_miss_116 : decode cX1_miss 116 = .ok (.iastore, 1) := by decide +kernel
theorem dX1_miss_117 : decode cX1_miss 117 = .ok (.iload_n 2, 1) := by decide +kernel
theorem dX1_miss_118 : decode cX1_miss 118 = .ok (.iload 4, 2) := by decide +kernel
theorem dX1_miss_120 : decode cX1_miss 120 = .ok (.ifCond .eq 7, 3) := by decide +kernel
theorem dX1_miss_123 : decode cX1_miss 123 = .ok (.iconst 1, 1) := by decide +kernel
theorem dX1_miss_124 : decode cX1_miss 124 = .ok (.goto 4, 3) := by decide +kernel
theorem dX1_miss_127 : decode cX1_miss 127 = .ok (.iconst 0, 1) := by decide +kernel
theorem dX1_miss_128 : decode cX1_miss 128 = .ok (.iadd, 1) := by decide +kernel
theorem dX1_miss_129 : decode cX1_miss 129 = .ok (.istore_n 2, 1) := by decide +kernel
theorem dX1_miss_130 : decode cX1_miss 130 = .ok (.iinc 3 1, 3) := by decide +kernel
theorem dX1_miss_133 : decode cX1_miss 133 = .ok (.goto (-86), 3) := by decide +kernel
theorem dX1_miss_136 : decode cX1_miss 136 = .ok (.iload_n 2, 1) := by decide +kernel
theorem dX1_miss_137 : decode cX1_miss 137 = .ok (.ireturn, 1) := by decide +kernel
set_option maxRecDepth 20000 in
theorem ggX1_stateOf_X1_isCue : GoodIn wsX1_stateOf wsX1_isCue := goodIn_r _ [7, 8, 9, 10, 6, 11, 16, 17, 18, 19, 20, 21, 22, 23, 24, 25, 26, 27, 28, 29, 30, 31, 32, 33] (by decide +kernel) (by decide +kernel)
set_option maxRecDepth 20000 in
theorem gX1_stateOf_X1_isCue : GoodIn wsX1_stateOf (wsV RX1 83 RX1 yX1_isCue wsX1_isCue) := goodIn_app (goodIn_of _ (by decide +kernel)) ggX1_stateOf_X1_isCue
set_option maxRecDepth 20000 in
theorem ggX1_stateOf_X1_fails : GoodIn wsX1_stateOf wsX1_fails := goodIn_r _ [15, 1, 16, 17, 18, 19, 20, 21, 22, 23, 24, 25, 26, 27, 28, 29, 30, 31, 32, 33] (by decide +kernel) (by decide +kernel)
set_option maxRecDepth 20000 in
theorem gX1_stateOf_X1_fails : GoodIn wsX1_stateOf (wsV RX1 70 RX1 yX1_fails wsX1_fails) := goodIn_app (goodIn_of _ (by decide +kernel)) ggX1_stateOf_X1_fails
theorem dX1_stateOf_0 : decode cX1_stateOf 0 = .ok (.aload_n 0, 1) := by decide +kernel
theorem dX1_stateOf_1 : decode cX1_stateOf 1 = .ok (.iconst 0, 1) := by decide +kernel
theorem dX1_stateOf_2 : decode cX1_stateOf 2 = .ok (.putfield 53, 3) := by decide +kernel
theorem dX1_stateOf_5 : decode cX1_stateOf 5 = .ok (.aload_n 0, 1) := by decide +kernel
theorem dX1_stateOf_6 : decode cX1_stateOf 6 = .ok (.iload_n 1, 1) := by decide +kernel
theorem dX1_stateOf_7 : decode cX1_stateOf 7 = .ok (.invokevirtual 83, 3) := by decide +kernel
theorem dX1_stateOf_10 : decode cX1_stateOf 10 = .ok (.ifCond .eq 12, 3) := by decide +kernel
theorem dX1_stateOf_13 : decode cX1_stateOf 13 = .ok (.aload_n 0, 1) := by decide +kernel
theorem dX1_stateOf_14 : decode cX1_stateOf 14 = .ok (.getfield 34, 3) := by decide +kernel
theorem dX1_stateOf_17 : decode cX1_stateOf 17 = .ok (.iload_n 1, 1) := by decide +kernel
theorem dX1_stateOf_18 : decode cX1_stateOf 18 = .ok (.iaload, 1) := by decide +kernel
theorem dX1_stateOf_19 : decode cX1_stateOf 19 = .ok (.goto 8, 3) := by decide +kernel
theorem dX1_stateOf_22 : decode cX1_stateOf 22 = .ok (.aload_n 0, 1) := by decide +kernel
theorem dX1_stateOf_23 : decode cX1_stateOf 23 = .ok (.iconst 1, 1) := by decide +kernel
theorem dX1_stateOf_24 : decode cX1_stateOf 24 = .ok (.invokevirtual 70, 3) := by decide +kernel
theorem dX1_stateOf_27 : decode cX1_stateOf 27 = .ok (.ireturn, 1) := by decide +kernel
theorem dX1_cues_0 : decode cX1_cues 0 = .ok (.aload_n 0, 1) := by decide +kernel
theorem dX1_cues_1 : decode cX1_cues 1 = .ok (.iconst 0, 1) := by decide +kernel
theorem dX1_cues_2 : decode cX1_cues 2 = .ok (.putfield 53, 3) := by decide +kernel
theorem dX1_cues_5 : decode cX1_cues 5 = .ok (.aload_n 0, 1) := by decide +kernel
theorem dX1_cues_6 : decode cX1_cues 6 = .ok (.getfield 60, 3) := by decide +kernel
theorem dX1_cues_9 : decode cX1_cues 9 = .ok (.ireturn, 1) := by decide +kernel
set_option maxRecDepth 20000 in
theorem ggX1_maskOf_X1_isPlayer : GoodIn wsX1_maskOf wsX1_isPlayer := goodIn_r _ [6, 7, 8, 5, 9] (by decide +kernel) (by decide +kernel)
set_option maxRecDepth 20000 in
theorem gX1_maskOf_X1_isPlayer : GoodIn wsX1_maskOf (va_wsS RX1 63 yX1_isPlayer wsX1_isPlayer) := goodIn_app (goodIn_of _ (by decide +kernel)) ggX1_maskOf_X1_isPlayer
set_option maxRecDepth 20000 in
theorem ggX1_maskOf_X1_fails : GoodIn wsX1_maskOf wsX1_fails := goodIn_r _ [13, 1, 14, 15, 16, 17, 18, 19, 20, 21, 22, 23, 24, 25, 26, 27, 28, 29, 30, 31] (by decide +kernel) (by decide +kernel)
set_option maxRecDepth 20000 in
theorem gX1_maskOf_X1_fails : GoodIn wsX1_maskOf (wsV RX1 70 RX1 yX1_fails wsX1_fails) := goodIn_app (goodIn_of _ (by decide +kernel)) ggX1_maskOf_X1_fails
theorem dX1_maskOf_0 : decode cX1_maskOf 0 = .ok (.aload_n 0, 1) := by decide +kernel
theorem dX1_maskOf_1 : decode cX1_maskOf 1 = .ok (.iconst 0, 1) := by decide +kernel
theorem dX1_maskOf_2 : decode cX1_maskOf 2 = .ok (.putfield 53, 3) := by decide +kernel
theorem dX1_maskOf_5 : decode cX1_maskOf 5 = .ok (.iload_n 1, 1) := by decide +kernel
theorem dX1_maskOf_6 : decode cX1_maskOf 6 = .ok (.invokestatic 63, 3) := by decide +kernel
theorem dX1_maskOf_9 : decode cX1_maskOf 9 = .ok (.ifCond .eq 12, 3) := by decide +kernel
theorem dX1_maskOf_12 : decode cX1_maskOf 12 = .ok (.aload_n 0, 1) := by decide +kernel
theorem dX1_maskOf_13 : decode cX1_maskOf 13 = .ok (.getfield 7, 3) := by decide +kernel
theorem dX1_maskOf_16 : decode cX1_maskOf 16 = .ok (.iload_n 1, 1) := by decide +kernel
theorem dX1_maskOf_17 : decode cX1_maskOf 17 = .ok (.iaload, 1) := by decide +kernel
theorem dX1_maskOf_18 : decode cX1_maskOf 18 = .ok (.goto 8, 3) := by decide +kernel
theorem dX1_maskOf_21 : decode cX1_maskOf 21 = .ok (.aload_n 0, 1) := by decide +kernel
theorem dX1_maskOf_22 : decode cX1_maskOf 22 = .ok (.iconst 1, 1) := by decide +kernel
theorem dX1_maskOf_23 : decode cX1_maskOf 23 = .ok (.invokevirtual 70, 3) := by decide +kernel
theorem dX1_maskOf_26 : decode cX1_maskOf 26 = .ok (.ireturn, 1) := by decide +kernel
set_option maxRecDepth 20000 in
theorem ggX1_maskByCues_X1_isPlayer : GoodIn wsX1_maskByCues wsX1_isPlayer := goodIn_r _ [8, 9, 10, 7, 11] (by decide +kernel) (by decide +kernel)
set_option maxRecDepth 20000 in
theorem gX1_maskByCues_X1_isPlayer : GoodIn wsX1_maskByCues (va_wsS RX1 63 yX1_isPlayer wsX1_isPlayer) := goodIn_app (goodIn_of _ (by decide +kernel)) ggX1_maskByCues_X1_isPlayer
set_option maxRecDepth 20000 in
theorem ggX1_maskByCues_X1_fails : GoodIn wsX1_maskByCues wsX1_fails := goodIn_r _ [15, 1, 23, 24, 25, 26, 27, 28, 29, 30, 31, 32, 33, 34, 35, 36, 37, 38, 39, 40] (by decide +kernel) (by decide +kernel)
set_option maxRecDepth 20000 in
theorem gX1_maskByCues_X1_fails : GoodIn wsX1_maskByCues (wsV RX1 70 RX1 yX1_fails wsX1_fails) := goodIn_app (goodIn_of _ (by decide +kernel)) ggX1_maskByCues_X1_fails
set_option maxRecDepth 20000 in
theorem ggX1_maskByCues_X1_change : GoodIn wsX1_maskByCues wsX1_change := goodIn_r _ [19, 20, 21, 22, 23, 24, 25, 26, 27, 28, 29, 30, 31, 32, 33, 34, 35, 36, 37, 38, 39, 40] (by decide +kernel) (by decide +kernel)
set_option maxRecDepth 20000 in
theorem gX1_maskByCues_X1_change : GoodIn wsX1_maskByCues (wsV RX1 92 RX1 yX1_change wsX1_change) := goodIn_app (goodIn_of _ (by decide +kernel)) ggX1_maskByCues_X1_change
theorem dX1_maskByCues_0 : decode cX1_maskByCues 0 = .ok (.aload_n 0, 1) := by decide +kernel
theorem dX1_maskByCues_1 : decode cX1_maskByCues 1 = .ok (.iconst 0, 1) := by decide +kernel
theorem dX1_maskByCues_2 : decode cX1_maskByCues 2 = .ok (.putfield 53, 3) := by decide +kernel
theorem dX1_maskByCues_5 : decode cX1_maskByCues 5 = .ok (.iload_n 1, 1) := by decide +kernel
theorem dX1_maskByCues_6 : decode cX1_maskByCues 6 = .ok (.invokestatic 63, 3) := by decide +kernel
theorem dX1_maskByCues_9 : decode cX1_maskByCues 9 = .ok (.ifCond .ne 9, 3) := by decide +kernel
theorem dX1_maskByCues_12 : decode cX1_maskByCues 12 = .ok (.aload_n 0, 1) := by decide +kernel
theorem dX1_maskByCues_13 : decode cX1_maskByCues 13 = .ok (.iconst 1, 1) := by decide +kernel
theorem dX1_maskByCues_14 : decode cX1_maskByCues 14 = .ok (.invokevirtual 70, 3) := by decide +kernel
theorem dX1_maskByCues_17 : decode cX1_maskByCues 17 = .ok (.ireturn, 1) := by decide +kernel
theorem dX1_maskByCues_18 : decode cX1_maskByCues 18 = .ok (.iconst 0, 1) := by decide +kernel
theorem dX1_maskByCues_19 : decode cX1_maskByCues 19 = .ok (.istore_n 2, 1) := by decide +kernel
theorem dX1_maskByCues_20 : decode cX1_maskByCues 20 = .ok (.iload_n 2, 1) := by decide +kernel
theorem dX1_maskByCues_21 : decode cX1_maskByCues 21 = .ok (.bipush 6, 2) := by decide +kernel
theorem dX1_maskByCues_23 : decode cX1_maskByCues 23 = .ok (.if_icmp .ge 16, 3) := by decide +kernel
theorem dX1_maskByCues_26 : decode cX1_maskByCues 26 = .ok (.aload_n 0, 1) := by decide +kernel
theorem dX1_maskByCues_27 : decode cX1_maskByCues 27 = .ok (.getfield 46, 3) := by decide +kernel
theorem dX1_maskByCues_30 : decode cX1_maskByCues 30 = .ok (.iload_n 2, 1) := by decide +kernel
theorem dX1_maskByCues_31 : decode cX1_maskByCues 31 = .ok (.iconst (-1), 1) := by decide +kernel
theorem dX1_maskByCues_32 : decode cX1_maskByCues 32 = .ok (.iastore, 1) := by decide +kernel
theorem dX1_maskByCues_33 : decode cX1_maskByCues 33 = .ok (.iinc 2 1, 3) := by decide +kernel
theorem dX1_maskByCues_36 : decode cX1_maskByCues 36 = .ok (.goto (-16), 3) := by decide +kernel
theorem dX1_maskByCues_39 : decode cX1_maskByCues 39 = .ok (.iconst 0, 1) := by decide +kernel
theorem dX1_maskByCues_40 : decode cX1_maskByCues 40 = .ok (.istore_n 2, 1) := by decide +kernel
theorem dX1_maskByCues_41 : decode cX1_maskByCues 41 = .ok (.iload_n 2, 1) := by decide +kernel
theorem dX1_maskByCues_42 : decode cX1_maskByCues 42 = .ok (.aload_n 0, 1) := by decide +kernel
theorem dX1_maskByCues_43 : decode cX1_maskByCues 43 = .ok (.getfield 89, 3) := by decide +kernel
theorem dX1_maskByCues_46 : decode cX1_maskByCues 46 = .ok (.if_icmp .ge 23, 3) := by decide +kernel
theorem dX1_maskByCues_49 : decode cX1_maskByCues 49 = .ok (.aload_n 0, 1) := by decide +kernel
theorem dX1_maskByCues_50 : decode cX1_maskByCues 50 = .ok (.aload_n 0, 1) := by decide +kernel
theorem dX1_maskByCues_51 : decode cX1_maskByCues 51 = .ok (.getfield 37, 3) := by decide +kernel
theorem dX1_maskByCues_54 : decode cX1_maskByCues 54 = .ok (.iload_n 2, 1) := by decide +kernel
theorem dX1_maskByCues_55 : decode cX1_maskByCues 55 = .ok (.iaload, 1) := by decide +kernel
theorem dX1_maskByCues_56 : decode cX1_maskByCues 56 = .ok (.aload_n 0, 1) := by decide +kernel
theorem dX1_maskByCues_57 : decode cX1_maskByCues 57 = .ok (.getfield 46, 3) := by decide +kernel
theorem dX1_maskByCues_60 : decode cX1_maskByCues 60 = .ok (.invokevirtual 92, 3) := by decide +kernel
theorem dX1_maskByCues_63 : decode cX1_maskByCues 63 = .ok (.iinc 2 1, 3) := by decide +kernel
theorem dX1_maskByCues_66 : decode cX1_maskByCues 66 = .ok (.goto (-25), 3) := by decide +kernel
theorem dX1_maskByCues_69 : decode cX1_maskByCues 69 = .ok (.aload_n 0, 1) := by decide +kernel
theorem dX1_maskByCues_70 : decode cX1_maskByCues 70 = .ok (.getfield 46, 3) := by decide +kernel
theorem dX1_maskByCues_73 : decode cX1_maskByCues 73 = .ok (.iload_n 1, 1) := by decide +kernel
theorem dX1_maskByCues_74 : decode cX1_maskByCues 74 = .ok (.iaload, 1) := by decide +kernel
theorem dX1_maskByCues_75 : decode cX1_maskByCues 75 = .ok (.ireturn, 1) := by decide +kernel
set_option maxRecDepth 20000 in
theorem ggX1_wearerOf_X1_isPlayer : GoodIn wsX1_wearerOf wsX1_isPlayer := goodIn_r _ [5, 6, 7, 4, 8] (by decide +kernel) (by decide +kernel)
set_option maxRecDepth 20000 in
theorem gX1_wearerOf_X1_isPlayer : GoodIn wsX1_wearerOf (va_wsS RX1 63 yX1_isPlayer wsX1_isPlayer) := goodIn_app (goodIn_of _ (by decide +kernel)) ggX1_wearerOf_X1_isPlayer
set_option maxRecDepth 20000 in
theorem ggX1_wearerOf_X1_wearer : GoodIn wsX1_wearerOf wsX1_wearer := goodIn_r _ [12, 13, 18, 19, 20, 21, 22, 23, 24, 25, 26, 27, 28, 29, 30, 31, 32, 33, 34, 35] (by decide +kernel) (by decide +kernel)
set_option maxRecDepth 20000 in
theorem gX1_wearerOf_X1_wearer : GoodIn wsX1_wearerOf (wsV RX1 77 RX1 yX1_wearer wsX1_wearer) := goodIn_app (goodIn_of _ (by decide +kernel)) ggX1_wearerOf_X1_wearer
set_option maxRecDepth 20000 in
theorem ggX1_wearerOf_X1_fails : GoodIn wsX1_wearerOf wsX1_fails := goodIn_r _ [17, 1, 18, 19, 20, 21, 22, 23, 24, 25, 26, 27, 28, 29, 30, 31, 32, 33, 34, 35] (by decide +kernel) (by decide +kernel)
set_option maxRecDepth 20000 in
theorem gX1_wearerOf_X1_fails : GoodIn wsX1_wearerOf (wsV RX1 70 RX1 yX1_fails wsX1_fails) := goodIn_app (goodIn_of _ (by decide +kernel)) ggX1_wearerOf_X1_fails
theorem dX1_wearerOf_0 : decode cX1_wearerOf 0 = .ok (.aload_n 0, 1) := by decide +kernel
theorem dX1_wearerOf_1 : decode cX1_wearerOf 1 = .ok (.iconst 0, 1) := by decide +kernel
theorem dX1_wearerOf_2 : decode cX1_wearerOf 2 = .ok (.putfield 53, 3) := by decide +kernel
theorem dX1_wearerOf_5 : decode cX1_wearerOf 5 = .ok (.iload_n 1, 1) := by decide +kernel
theorem dX1_wearerOf_6 : decode cX1_wearerOf 6 = .ok (.invokestatic 63, 3) := by decide +kernel
theorem dX1_wearerOf_9 : decode cX1_wearerOf 9 = .ok (.ifCond .eq 11, 3) := by decide +kernel
theorem dX1_wearerOf_12 : decode cX1_wearerOf 12 = .ok (.aload_n 0, 1) := by decide +kernel
theorem dX1_wearerOf_13 : decode cX1_wearerOf 13 = .ok (.iload_n 1, 1) := by decide +kernel
theorem dX1_wearerOf_14 : decode cX1_wearerOf 14 = .ok (.invokevirtual 77, 3) := by decide +kernel
theorem dX1_wearerOf_17 : decode cX1_wearerOf 17 = .ok (.goto 8, 3) := by decide +kernel
theorem dX1_wearerOf_20 : decode cX1_wearerOf 20 = .ok (.aload_n 0, 1) := by decide +kernel
theorem dX1_wearerOf_21 : decode cX1_wearerOf 21 = .ok (.iconst 1, 1) := by decide +kernel
theorem dX1_wearerOf_22 : decode cX1_wearerOf 22 = .ok (.invokevirtual 70, 3) := by decide +kernel
theorem dX1_wearerOf_25 : decode cX1_wearerOf 25 = .ok (.ireturn, 1) := by decide +kernel
set_option maxRecDepth 20000 in
theorem ggX1_isOn_X1_isPlayer : GoodIn wsX1_isOn wsX1_isPlayer := goodIn_r _ [6, 7, 8, 5, 9] (by decide +kernel) (by decide +kernel)
set_option maxRecDepth 20000 in
theorem gX1_isOn_X1_isPlayer : GoodIn wsX1_isOn (va_wsS RX1 63 yX1_isPlayer wsX1_isPlayer) := goodIn_app (goodIn_of _ (by decide +kernel)) ggX1_isOn_X1_isPlayer
set_option maxRecDepth 20000 in
theorem ggX1_isOn_X1_fails : GoodIn wsX1_isOn wsX1_fails := goodIn_r _ [13, 1, 14, 15, 16, 17, 18, 19, 20, 21, 22, 23, 24, 25, 26, 27, 28, 29, 30, 31] (by decide +kernel) (by decide +kernel)
set_option maxRecDepth 20000 in
theorem gX1_isOn_X1_fails : GoodIn wsX1_isOn (wsV RX1 70 RX1 yX1_fails wsX1_fails) := goodIn_app (goodIn_of _ (by decide +kernel)) ggX1_isOn_X1_fails
theorem dX1_isOn_0 : decode cX1_isOn 0 = .ok (.aload_n 0, 1) := by decide +kernel
theorem dX1_isOn_1 : decode cX1_isOn 1 = .ok (.iconst 0, 1) := by decide +kernel
theorem dX1_isOn_2 : decode cX1_isOn 2 = .ok (.putfield 53, 3) := by decide +kernel
theorem dX1_isOn_5 : decode cX1_isOn 5 = .ok (.iload_n 1, 1) := by decide +kernel
theorem dX1_isOn_6 : decode cX1_isOn 6 = .ok (.invokestatic 63, 3) := by decide +kernel
theorem dX1_isOn_9 : decode cX1_isOn 9 = .ok (.ifCond .ne 11, 3) := by decide +kernel
theorem dX1_isOn_12 : decode cX1_isOn 12 = .ok (.aload_n 0, 1) := by decide +kernel
theorem dX1_isOn_13 : decode cX1_isOn 13 = .ok (.iconst 1, 1) := by decide +kernel
theorem dX1_isOn_14 : decode cX1_isOn 14 = .ok (.invokevirtual 70, 3) := by decide +kernel
theorem dX1_isOn_17 : decode cX1_isOn 17 = .ok (.pop, 1) := by decide +kernel
theorem dX1_isOn_18 : decode cX1_isOn 18 = .ok (.iconst 0, 1) := by decide +kernel
theorem dX1_isOn_19 : decode cX1_isOn 19 = .ok (.ireturn, 1) := by decide +kernel
theorem dX1_isOn_20 : decode cX1_isOn 20 = .ok (.aload_n 0, 1) := by decide +kernel
theorem dX1_isOn_21 : decode cX1_isOn 21 = .ok (.getfield 13, 3) := by decide +kernel
theorem dX1_isOn_24 : decode cX1_isOn 24 = .ok (.iload_n 1, 1) := by decide +kernel
theorem dX1_isOn_25 : decode cX1_isOn 25 = .ok (.iaload, 1) := by decide +kernel
theorem dX1_isOn_26 : decode cX1_isOn 26 = .ok (.iconst 1, 1) := by decide +kernel
theorem dX1_isOn_27 : decode cX1_isOn 27 = .ok (.if_icmp .ne 7, 3) := by decide +kernel
theorem dX1_isOn_30 : decode cX1_isOn 30 = .ok (.iconst 1, 1) := by decide +kernel
theorem dX1_isOn_31 : decode cX1_isOn 31 = .ok (.goto 4, 3) := by decide +kernel
theorem dX1_isOn_34 : decode cX1_isOn 34 = .ok (.iconst 0, 1) := by decide +kernel
theorem dX1_isOn_35 : decode cX1_isOn 35 = .ok (.ireturn, 1) := by decide +kernel
set_option maxRecDepth 20000 in
theorem ggX1_guess_X1_in : GoodIn wsX1_guess wsX1_in := goodIn_r _ [9] (by decide +kernel) (by decide +kernel)
set_option maxRecDepth 20000 in
theorem gX1_guess_X1_in : GoodIn wsX1_guess (va_wsS RX1 56 yX1_in wsX1_in) := goodIn_app (goodIn_of _ (by decide +kernel)) ggX1_guess_X1_in
set_option maxRecDepth 20000 in
theorem ggX1_guess_X1_isPlayer : GoodIn wsX1_guess wsX1_isPlayer := goodIn_r _ [12, 6, 7, 8, 9] (by decide +kernel) (by decide +kernel)
set_option maxRecDepth 20000 in
theorem gX1_guess_X1_isPlayer : GoodIn wsX1_guess (va_wsS RX1 63 yX1_isPlayer wsX1_isPlayer) := goodIn_app (goodIn_of _ (by decide +kernel)) ggX1_guess_X1_isPlayer
set_option maxRecDepth 20000 in
theorem ggX1_guess_X1_fails : GoodIn wsX1_guess wsX1_fails := goodIn_r _ [16, 1, 17, 18, 19, 20, 21, 22, 23, 24, 25, 26, 27, 28, 29, 30, 31, 32, 33, 34] (by decide +kernel) (by decide +kernel)
set_option maxRecDepth 20000 in
theorem gX1_guess_X1_fails : GoodIn wsX1_guess (wsV RX1 70 RX1 yX1_fails wsX1_fails) := goodIn_app (goodIn_of _ (by decide +kernel)) ggX1_guess_X1_fails
theorem dX1_guess_0 : decode cX1_guess 0 = .ok (.aload_n 0, 1) := by decide +kernel
theorem dX1_guess_1 : decode cX1_guess 1 = .ok (.iconst 0, 1) := by decide +kernel
theorem dX1_guess_2 : decode cX1_guess 2 = .ok (.putfield 53, 3) := by decide +kernel
theorem dX1_guess_5 : decode cX1_guess 5 = .ok (.iload_n 1, 1) := by decide +kernel
theorem dX1_guess_6 : decode cX1_guess 6 = .ok (.iconst 0, 1) := by decide +kernel
theorem dX1_guess_7 : decode cX1_guess 7 = .ok (.iconst 2, 1) := by decide +kernel
theorem dX1_guess_8 : decode cX1_guess 8 = .ok (.invokestatic 56, 3) := by decide +kernel
theorem dX1_guess_11 : decode cX1_guess 11 = .ok (.ifCond .eq 17, 3) := by decide +kernel
theorem dX1_guess_14 : decode cX1_guess 14 = .ok (.iload_n 2, 1) := by decide +kernel
theorem dX1_guess_15 : decode cX1_guess 15 = .ok (.invokestatic 63, 3) := by decide +kernel
theorem dX1_guess_18 : decode cX1_guess 18 = .ok (.ifCond .eq 10, 3) := by decide +kernel
theorem dX1_guess_21 : decode cX1_guess 21 = .ok (.iload_n 3, 1) := by decide +kernel
theorem dX1_guess_22 : decode cX1_guess 22 = .ok (.invokestatic 63, 3) := by decide +kernel
theorem dX1_guess_25 : decode cX1_guess 25 = .ok (.ifCond .ne 11, 3) := by decide +kernel
theorem dX1_guess_28 : decode cX1_guess 28 = .ok (.aload_n 0, 1) := by decide +kernel
theorem dX1_guess_29 : decode cX1_guess 29 = .ok (.iconst 1, 1) := by decide +kernel
theorem dX1_guess_30 : decode cX1_guess 30 = .ok (.invokevirtual 70, 3) := by decide +kernel
theorem dX1_guess_33 : decode cX1_guess 33 = .ok (.pop, 1) := by decide +kernel
theorem dX1_guess_34 : decode cX1_guess 34 = .ok (.iconst 0, 1) := by decide +kernel
theorem dX1_guess_35 : decode cX1_guess 35 = .ok (.ireturn, 1) := by decide +kernel
theorem dX1_guess_36 : decode cX1_guess 36 = .ok (.aload_n 0, 1) := by decide +kernel
theorem dX1_guess_37 : decode cX1_guess 37 = .ok (.getfield 13, 3) := by decide +kernel
theorem dX1_guess_40 : decode cX1_guess 40 = .ok (.iload_n 2, 1) := by decide +kernel
theorem dX1_guess_41 : decode cX1_guess 41 = .ok (.iaload, 1) := by decide +kernel
theorem dX1_guess_42 : decode cX1_guess 42 = .ok (.ifCond .eq 28, 3) := by decide +kernel
theorem dX1_guess_45 : decode cX1_guess 45 = .ok (.aload_n 0, 1) := by decide +kernel
theorem dX1_guess_46 : decode cX1_guess 46 = .ok (.getfield 7, 3) := by decide +kernel
theorem dX1_guess_49 : decode cX1_guess 49 = .ok (.iload_n 2, 1) := by decide +kernel
theorem dX1_guess_50 : decode cX1_guess 50 = .ok (.iaload, 1) := by decide +kernel
theorem dX1_guess_51 : decode cX1_guess 51 = .ok (.iconst (-1), 1) := by decide +kernel
theorem dX1_guess_52 : decode cX1_guess 52 = .ok (.if_icmp .eq 18, 3) := by decide +kernel
theorem dX1_guess_55 : decode cX1_guess 55 = .ok (.aload_n 0, 1) := by decide +kernel
theorem dX1_guess_56 : decode cX1_guess 56 = .ok (.getfield 40, 3) := by decide +kernel
theorem dX1_guess_59 : decode cX1_guess 59 = .ok (.bipush 6, 2) := by decide +kernel
theorem dX1_guess_61 : decode cX1_guess 61 = .ok (.iload_n 1, 1) := by decide +kernel
theorem dX1_guess_62 : decode cX1_guess 62 = .ok (.imul, 1) := by decide +kernel
theorem dX1_guess_63 : decode cX1_guess 63 = .ok (.iload_n 2, 1) := by decide +kernel
theorem dX1_guess_64 : decode cX1_guess 64 = .ok (.iadd, 1) := by decide +kernel
theorem dX1_guess_65 : decode cX1_guess 65 = .ok (.iaload, 1) := by decide +kernel
theorem dX1_guess_66 : decode cX1_guess 66 = .ok (.iconst 1, 1) := by decide +kernel
theorem dX1_guess_67 : decode cX1_guess 67 = .ok (.if_icmp .ne 11, 3) := by decide +kernel
theorem dX1_guess_70 : decode cX1_guess 70 = .ok (.aload_n 0, 1) := by decide +kernel
theorem dX1_guess_71 : decode cX1_guess 71 = .ok (.iconst 2, 1) := by decide +kernel
theorem dX1_guess_72 : decode cX1_guess 72 = .ok (.invokevirtual 70, 3) := by decide +kernel
theorem dX1_guess_75 : decode cX1_guess 75 = .ok (.pop, 1) := by decide +kernel
theorem dX1_guess_76 : decode cX1_guess 76 = .ok (.iconst 0, 1) := by decide +kernel
theorem dX1_guess_77 : decode cX1_guess 77 = .ok (.ireturn, 1) := by decide +kernel
theorem dX1_guess_78 : decode cX1_guess 78 = .ok (.aload_n 0, 1) := by decide +kernel
theorem dX1_guess_79 : decode cX1_guess 79 = .ok (.getfield 40, 3) := by decide +kernel
theorem dX1_guess_82 : decode cX1_guess 82 = .ok (.bipush 6, 2) := by decide +kernel
theorem dX1_guess_84 : decode cX1_guess 84 = .ok (.iload_n 1, 1) := by decide +kernel
theorem dX1_guess_85 : decode cX1_guess 85 = .ok (.imul, 1) := by decide +kernel
theorem dX1_guess_86 : decode cX1_guess 86 = .ok (.iload_n 2, 1) := by decide +kernel
theorem dX1_guess_87 : decode cX1_guess 87 = .ok (.iadd, 1) := by decide +kernel
theorem dX1_guess_88 : decode cX1_guess 88 = .ok (.iconst 1, 1) := by decide +kernel
theorem dX1_guess_89 : decode cX1_guess 89 = .ok (.iastore, 1) := by decide +kernel
theorem dX1_guess_90 : decode cX1_guess 90 = .ok (.aload_n 0, 1) := by decide +kernel
theorem dX1_guess_91 : decode cX1_guess 91 = .ok (.getfield 43, 3) := by decide +kernel
theorem dX1_guess_94 : decode cX1_guess 94 = .ok (.iload_n 1, 1) := by decide +kernel
theorem dX1_guess_95 : decode cX1_guess 95 = .ok (.dup2, 1) := by decide +kernel
theorem dX1_guess_96 : decode cX1_guess 96 = .ok (.iaload, 1) := by decide +kernel
theorem dX1_guess_97 : decode cX1_guess 97 = .ok (.aload_n 0, 1) := by decide +kernel
theorem dX1_guess_98 : decode cX1_guess 98 = .ok (.getfield 7, 3) := by decide +kernel
theorem dX1_guess_101 : decode cX1_guess 101 = .ok (.iload_n 2, 1) := by decide +kernel
theorem dX1_guess_102 : decode cX1_guess 102 = .ok (.iaload, 1) := by decide +kernel
theorem dX1_guess_103 : decode cX1_guess 103 = .ok (.iload_n 3, 1) := by decide +kernel
theorem dX1_guess_104 : decode cX1_guess 104 = .ok (.if_icmp .ne 7, 3) := by decide +kernel
theorem dX1_guess_107 : decode cX1_guess 107 = .ok (.iconst 3, 1) := by decide +kernel
theorem dX1_guess_108 : decode cX1_guess 108 = .ok (.goto 4, 3) := by decide +kernel
theorem dX1_guess_111 : decode cX1_guess 111 = .ok (.iconst (-1), 1) := by decide +kernel
theorem dX1_guess_112 : decode cX1_guess 112 = .ok (.iadd, 1) := by decide +kernel
theorem dX1_guess_113 : decode cX1_guess 113 = .ok (.iastore, 1) := by decide +kernel
theorem dX1_guess_114 : decode cX1_guess 114 = .ok (.aload_n 0, 1) := by decide +kernel
theorem dX1_guess_115 : decode cX1_guess 115 = .ok (.getfield 7, 3) := by decide +kernel
theorem dX1_guess_118 : decode cX1_guess 118 = .ok (.iload_n 2, 1) := by decide +kernel
theorem dX1_guess_119 : decode cX1_guess 119 = .ok (.iaload, 1) := by decide +kernel
theorem dX1_guess_120 : decode cX1_guess 120 = .ok (.iload_n 3, 1) := by decide +kernel
theorem dX1_guess_121 : decode cX1_guess 121 = .ok (.if_icmp .ne 7, 3) := by decide +kernel
theorem dX1_guess_124 : decode cX1_guess 124 = .ok (.iconst 1, 1) := by decide +kernel
theorem dX1_guess_125 : decode cX1_guess 125 = .ok (.goto 4, 3) := by decide +kernel
theorem dX1_guess_128 : decode cX1_guess 128 = .ok (.iconst 0, 1) := by decide +kernel
theorem dX1_guess_129 : decode cX1_guess 129 = .ok (.ireturn, 1) := by decide +kernel
set_option maxRecDepth 20000 in
theorem ggX1_points_X1_in : GoodIn wsX1_points wsX1_in := goodIn_r _ [6] (by decide +kernel) (by decide +kernel)
set_option maxRecDepth 20000 in
theorem gX1_points_X1_in : GoodIn wsX1_points (va_wsS RX1 56 yX1_in wsX1_in) := goodIn_app (goodIn_of _ (by decide +kernel)) ggX1_points_X1_in
set_option maxRecDepth 20000 in
theorem ggX1_points_X1_fails : GoodIn wsX1_points wsX1_fails := goodIn_r _ [10, 1, 11, 12, 13, 14, 15, 16, 17, 18, 19, 20, 21, 22, 23, 24, 25, 26, 27, 28] (by decide +kernel) (by decide +kernel)
set_option maxRecDepth 20000 in
theorem gX1_points_X1_fails : GoodIn wsX1_points (wsV RX1 70 RX1 yX1_fails wsX1_fails) := goodIn_app (goodIn_of _ (by decide +kernel)) ggX1_points_X1_fails
theorem dX1_points_0 : decode cX1_points 0 = .ok (.aload_n 0, 1) := by decide +kernel
theorem dX1_points_1 : decode cX1_points 1 = .ok (.iconst 0, 1) := by decide +kernel
theorem dX1_points_2 : decode cX1_points 2 = .ok (.putfield 53, 3) := by decide +kernel
theorem dX1_points_5 : decode cX1_points 5 = .ok (.iload_n 1, 1) := by decide +kernel
theorem dX1_points_6 : decode cX1_points 6 = .ok (.iconst 0, 1) := by decide +kernel
theorem dX1_points_7 : decode cX1_points 7 = .ok (.iconst 2, 1) := by decide +kernel
theorem dX1_points_8 : decode cX1_points 8 = .ok (.invokestatic 56, 3) := by decide +kernel
theorem dX1_points_11 : decode cX1_points 11 = .ok (.ifCond .eq 12, 3) := by decide +kernel
theorem dX1_points_14 : decode cX1_points 14 = .ok (.aload_n 0, 1) := by decide +kernel
theorem dX1_points_15 : decode cX1_points 15 = .ok (.getfield 43, 3) := by decide +kernel
theorem dX1_points_18 : decode cX1_points 18 = .ok (.iload_n 1, 1) := by decide +kernel
theorem dX1_points_19 : decode cX1_points 19 = .ok (.iaload, 1) := by decide +kernel
theorem dX1_points_20 : decode cX1_points 20 = .ok (.goto 8, 3) := by decide +kernel
theorem dX1_points_23 : decode cX1_points 23 = .ok (.aload_n 0, 1) := by decide +kernel
theorem dX1_points_24 : decode cX1_points 24 = .ok (.iconst 1, 1) := by decide +kernel
theorem dX1_points_25 : decode cX1_points 25 = .ok (.invokevirtual 70, 3) := by decide +kernel
theorem dX1_points_28 : decode cX1_points 28 = .ok (.ireturn, 1) := by decide +kernel
set_option maxRecDepth 20000 in
theorem ggX1_endPlay_X1_fails : GoodIn wsX1_endPlay wsX1_fails := goodIn_r _ [14, 1, 15, 16, 17, 18, 19, 20, 21, 22, 23, 24, 25, 26, 27, 28, 29, 30, 31, 32] (by decide +kernel) (by decide +kernel)
set_option maxRecDepth 20000 in
theorem gX1_endPlay_X1_fails : GoodIn wsX1_endPlay (wsV RX1 70 RX1 yX1_fails wsX1_fails) := goodIn_app (goodIn_of _ (by decide +kernel)) ggX1_endPlay_X1_fails
theorem dX1_endPlay_0 : decode cX1_endPlay 0 = .ok (.aload_n 0, 1) := by decide +kernel
theorem dX1_endPlay_1 : decode cX1_endPlay 1 = .ok (.iconst 0, 1) := by decide +kernel
theorem dX1_endPlay_2 : decode cX1_endPlay 2 = .ok (.putfield 53, 3) := by decide +kernel
theorem dX1_endPlay_5 : decode cX1_endPlay 5 = .ok (.iconst 0, 1) := by decide +kernel
theorem dX1_endPlay_6 : decode cX1_endPlay 6 = .ok (.istore_n 1, 1) := by decide +kernel
theorem dX1_endPlay_7 : decode cX1_endPlay 7 = .ok (.iconst 0, 1) := by decide +kernel
theorem dX1_endPlay_8 : decode cX1_endPlay 8 = .ok (.istore_n 2, 1) := by decide +kernel
theorem dX1_endPlay_9 : decode cX1_endPlay 9 = .ok (.iload_n 2, 1) := by decide +kernel
theorem dX1_endPlay_10 : decode cX1_endPlay 10 = .ok (.aload_n 0, 1) := by decide +kernel
theorem dX1_endPlay_11 : decode cX1_endPlay 11 = .ok (.getfield 60, 3) := by decide +kernel
theorem dX1_endPlay_14 : decode cX1_endPlay 14 = .ok (.if_icmp .ge 42, 3) := by decide +kernel
theorem dX1_endPlay_17 : decode cX1_endPlay 17 = .ok (.aload_n 0, 1) := by decide +kernel
theorem dX1_endPlay_18 : decode cX1_endPlay 18 = .ok (.getfield 34, 3) := by decide +kernel
theorem dX1_endPlay_21 : decode cX1_endPlay 21 = .ok (.iload_n 2, 1) := by decide +kernel
theorem dX1_endPlay_22 : decode cX1_endPlay 22 = .ok (.iaload, 1) := by decide +kernel
theorem dX1_endPlay_23 : decode cX1_endPlay 23 = .ok (.ifCond .ne 9, 3) := by decide +kernel
theorem dX1_endPlay_26 : decode cX1_endPlay 26 = .ok (.aload_n 0, 1) := by decide +kernel
theorem dX1_endPlay_27 : decode cX1_endPlay 27 = .ok (.iconst 1, 1) := by decide +kernel
theorem dX1_endPlay_28 : decode cX1_endPlay 28 = .ok (.invokevirtual 70, 3) := by decide +kernel
theorem dX1_endPlay_31 : decode cX1_endPlay 31 = .ok (.ireturn, 1) := by decide +kernel
theorem dX1_endPlay_32 : decode cX1_endPlay 32 = .ok (.iload_n 1, 1) := by decide +kernel
theorem dX1_endPlay_33 : decode cX1_endPlay 33 = .ok (.aload_n 0, 1) := by decide +kernel
theorem dX1_endPlay_34 : decode cX1_endPlay 34 = .ok (.getfield 34, 3) := by decide +kernel
theorem dX1_endPlay_37 : decode cX1_endPlay 37 = .ok (.iload_n 2, 1) := by decide +kernel
theorem dX1_endPlay_38 : decode cX1_endPlay 38 = .ok (.iaload, 1) := by decide +kernel
theorem dX1_endPlay_39 : decode cX1_endPlay 39 = .ok (.iconst 2, 1) := by decide +kernel
theorem dX1_endPlay_40 : decode cX1_endPlay 40 = .ok (.if_icmp .ne 7, 3) := by decide +kernel
theorem dX1_endPlay_43 : decode cX1_endPlay 43 = .ok (.iconst 1, 1) := by decide +kernel
theorem dX1_endPlay_44 : decode cX1_endPlay 44 = .ok (.goto 4, 3) := by decide +kernel
theorem dX1_endPlay_47 : decode cX1_endPlay 47 = .ok (.iconst 0, 1) := by decide +kernel
theorem dX1_endPlay_48 : decode cX1_endPlay 48 = .ok (.iadd, 1) := by decide +kernel
theorem dX1_endPlay_49 : decode cX1_endPlay 49 = .ok (.istore_n 1, 1) := by decide +kernel
theorem dX1_endPlay_50 : decode cX1_endPlay 50 = .ok (.iinc 2 1, 3) := by decide +kernel
theorem dX1_endPlay_53 : decode cX1_endPlay 53 = .ok (.goto (-44), 3) := by decide +kernel
theorem dX1_endPlay_56 : decode cX1_endPlay 56 = .ok (.aload_n 0, 1) := by decide +kernel
theorem dX1_endPlay_57 : decode cX1_endPlay 57 = .ok (.dup, 1) := by decide +kernel
theorem dX1_endPlay_58 : decode cX1_endPlay 58 = .ok (.getfield 49, 3) := by decide +kernel
theorem dX1_endPlay_61 : decode cX1_endPlay 61 = .ok (.aload_n 0, 1) := by decide +kernel
theorem dX1_endPlay_62 : decode cX1_endPlay 62 = .ok (.getfield 89, 3) := by decide +kernel
theorem dX1_endPlay_65 : decode cX1_endPlay 65 = .ok (.iadd, 1) := by decide +kernel
theorem dX1_endPlay_66 : decode cX1_endPlay 66 = .ok (.putfield 49, 3) := by decide +kernel
theorem dX1_endPlay_69 : decode cX1_endPlay 69 = .ok (.aload_n 0, 1) := by decide +kernel
theorem dX1_endPlay_70 : decode cX1_endPlay 70 = .ok (.dup, 1) := by decide +kernel
theorem dX1_endPlay_71 : decode cX1_endPlay 71 = .ok (.getfield 49, 3) := by decide +kernel
theorem dX1_endPlay_74 : decode cX1_endPlay 74 = .ok (.aload_n 0, 1) := by decide +kernel
theorem dX1_endPlay_75 : decode cX1_endPlay 75 = .ok (.getfield 49, 3) := by decide +kernel
theorem dX1_endPlay_78 : decode cX1_endPlay 78 = .ok (.iload_n 1, 1) := by decide +kernel
theorem dX1_endPlay_79 : decode cX1_endPlay 79 = .ok (.if_icmp .ge 10, 3) := by decide +kernel
theorem dX1_endPlay_82 : decode cX1_endPlay 82 = .ok (.aload_n 0, 1) := by decide +kernel
theorem dX1_endPlay_83 : decode cX1_endPlay 83 = .ok (.getfield 49, 3) := by decide +kernel
theorem dX1_endPlay_86 : decode cX1_endPlay 86 = .ok (.goto 4, 3) := by decide +kernel
theorem dX1_endPlay_89 : decode cX1_endPlay 89 = .ok (.iload_n 1, 1) := by decide +kernel
theorem dX1_endPlay_90 : decode cX1_endPlay 90 = .ok (.isub, 1) := by decide +kernel
theorem dX1_endPlay_91 : decode cX1_endPlay 91 = .ok (.putfield 49, 3) := by decide +kernel
theorem dX1_endPlay_94 : decode cX1_endPlay 94 = .ok (.iconst 0, 1) := by decide +kernel
theorem dX1_endPlay_95 : decode cX1_endPlay 95 = .ok (.istore_n 2, 1) := by decide +kernel
theorem dX1_endPlay_96 : decode cX1_endPlay 96 = .ok (.iload_n 2, 1) := by decide +kernel
theorem dX1_endPlay_97 : decode cX1_endPlay 97 = .ok (.bipush 6, 2) := by decide +kernel
theorem dX1_endPlay_99 : decode cX1_endPlay 99 = .ok (.if_icmp .ge 23, 3) := by decide +kernel
theorem dX1_endPlay_102 : decode cX1_endPlay 102 = .ok (.aload_n 0, 1) := by decide +kernel
theorem dX1_endPlay_103 : decode cX1_endPlay 103 = .ok (.getfield 7, 3) := by decide +kernel
theorem dX1_endPlay_106 : decode cX1_endPlay 106 = .ok (.iload_n 2, 1) := by decide +kernel
theorem dX1_endPlay_107 : decode cX1_endPlay 107 = .ok (.iconst (-1), 1) := by decide +kernel
theorem dX1_endPlay_108 : decode cX1_endPlay 108 = .ok (.iastore, 1) := by decide +kernel
theorem dX1_endPlay_109 : decode cX1_endPlay 109 = .ok (.aload_n 0, 1) := by decide +kernel
theorem dX1_endPlay_110 : decode cX1_endPlay 110 = .ok (.getfield 13, 3) := by decide +kernel
theorem dX1_endPlay_113 : decode cX1_endPlay 113 = .ok (.iload_n 2, 1) := by decide +kernel
theorem dX1_endPlay_114 : decode cX1_endPlay 114 = .ok (.iconst 0, 1) := by decide +kernel
theorem dX1_endPlay_115 : decode cX1_endPlay 115 = .ok (.iastore, 1) := by decide +kernel
theorem dX1_endPlay_116 : decode cX1_endPlay 116 = .ok (.iinc 2 1, 3) := by decide +kernel
theorem dX1_endPlay_119 : decode cX1_endPlay 119 = .ok (.goto (-23), 3) := by decide +kernel
theorem dX1_endPlay_122 : decode cX1_endPlay 122 = .ok (.iconst 0, 1) := by decide +kernel
theorem dX1_endPlay_123 : decode cX1_endPlay 123 = .ok (.istore_n 2, 1) := by decide +kernel
theorem dX1_endPlay_124 : decode cX1_endPlay 124 = .ok (.iload_n 2, 1) := by decide +kernel
theorem dX1_endPlay_125 : decode cX1_endPlay 125 = .ok (.bipush 18, 2) := by decide +kernel
theorem dX1_endPlay_127 : decode cX1_endPlay 127 = .ok (.if_icmp .ge 16, 3) := by decide +kernel
theorem dX1_endPlay_130 : decode cX1_endPlay 130 = .ok (.aload_n 0, 1) := by decide +kernel
theorem dX1_endPlay_131 : decode cX1_endPlay 131 = .ok (.getfield 40, 3) := by decide +kernel
theorem dX1_endPlay_134 : decode cX1_endPlay 134 = .ok (.iload_n 2, 1) := by decide +kernel
theorem dX1_endPlay_135 : decode cX1_endPlay 135 = .ok (.iconst 0, 1) := by decide +kernel
theorem dX1_endPlay_136 : decode cX1_endPlay 136 = .ok (.iastore, 1) := by decide +kernel
theorem dX1_endPlay_137 : decode cX1_endPlay 137 = .ok (.iinc 2 1, 3) := by decide +kernel
theorem dX1_endPlay_140 : decode cX1_endPlay 140 = .ok (.goto (-16), 3) := by decide +kernel
theorem dX1_endPlay_143 : decode cX1_endPlay 143 = .ok (.aload_n 0, 1) := by decide +kernel
theorem dX1_endPlay_144 : decode cX1_endPlay 144 = .ok (.iconst 0, 1) := by decide +kernel
theorem dX1_endPlay_145 : decode cX1_endPlay 145 = .ok (.putfield 60, 3) := by decide +kernel
theorem dX1_endPlay_148 : decode cX1_endPlay 148 = .ok (.aload_n 0, 1) := by decide +kernel
theorem dX1_endPlay_149 : decode cX1_endPlay 149 = .ok (.iconst 0, 1) := by decide +kernel
theorem dX1_endPlay_150 : decode cX1_endPlay 150 = .ok (.putfield 89, 3) := by decide +kernel
theorem dX1_endPlay_153 : decode cX1_endPlay 153 = .ok (.aload_n 0, 1) := by decide +kernel
theorem dX1_endPlay_154 : decode cX1_endPlay 154 = .ok (.dup, 1) := by decide +kernel
theorem dX1_endPlay_155 : decode cX1_endPlay 155 = .ok (.getfield 103, 3) := by decide +kernel
theorem dX1_endPlay_158 : decode cX1_endPlay 158 = .ok (.iconst 1, 1) := by decide +kernel
theorem dX1_endPlay_159 : decode cX1_endPlay 159 = .ok (.iadd, 1) := by decide +kernel
theorem dX1_endPlay_160 : decode cX1_endPlay 160 = .ok (.putfield 103, 3) := by decide +kernel
theorem dX1_endPlay_163 : decode cX1_endPlay 163 = .ok (.aload_n 0, 1) := by decide +kernel
theorem dX1_endPlay_164 : decode cX1_endPlay 164 = .ok (.getfield 49, 3) := by decide +kernel
theorem dX1_endPlay_167 : decode cX1_endPlay 167 = .ok (.ireturn, 1) := by decide +kernel
theorem dX1_plays_0 : decode cX1_plays 0 = .ok (.aload_n 0, 1) := by decide +kernel
theorem dX1_plays_1 : decode cX1_plays 1 = .ok (.iconst 0, 1) := by decide +kernel
theorem dX1_plays_2 : decode cX1_plays 2 = .ok (.putfield 53, 3) := by decide +kernel
theorem dX1_plays_5 : decode cX1_plays 5 = .ok (.aload_n 0, 1) := by decide +kernel
theorem dX1_plays_6 : decode cX1_plays 6 = .ok (.getfield 103, 3) := by decide +kernel
theorem dX1_plays_9 : decode cX1_plays 9 = .ok (.ireturn, 1) := by decide +kernel
theorem dJ9_abs_0f7a4_0 : decode cJ9_abs_0f7a4 0 = .ok (.iload_n 0, 1) := by decide +kernel
theorem dJ9_abs_0f7a4_1 : decode cJ9_abs_0f7a4 1 = .ok (.ifCond .ge 8, 3) := by decide +kernel
theorem dJ9_abs_0f7a4_4 : decode cJ9_abs_0f7a4 4 = .ok (.iload_n 0, 1) := by decide +kernel
theorem dJ9_abs_0f7a4_5 : decode cJ9_abs_0f7a4 5 = .ok (.ineg, 1) := by decide +kernel
theorem dJ9_abs_0f7a4_6 : decode cJ9_abs_0f7a4 6 = .ok (.goto 4, 3) := by decide +kernel
theorem dJ9_abs_0f7a4_9 : decode cJ9_abs_0f7a4 9 = .ok (.iload_n 0, 1) := by decide +kernel
theorem dJ9_abs_0f7a4_10 : decode cJ9_abs_0f7a4 10 = .ok (.ireturn, 1) := by decide +kernel
theorem dJ9_max_7cf53_0 : decode cJ9_max_7cf53 0 = .ok (.iload_n 0, 1) := by decide +kernel
theorem dJ9_max_7cf53_1 : decode cJ9_max_7cf53 1 = .ok (.iload_n 1, 1) := by decide +kernel
theorem dJ9_max_7cf53_2 : decode cJ9_max_7cf53 2 = .ok (.if_icmp .lt 7, 3) := by decide +kernel
theorem dJ9_max_7cf53_5 : decode cJ9_max_7cf53 5 = .ok (.iload_n 0, 1) := by decide +kernel
theorem dJ9_max_7cf53_6 : decode cJ9_max_7cf53 6 = .ok (.goto 4, 3) := by decide +kernel
theorem dJ9_max_7cf53_9 : decode cJ9_max_7cf53 9 = .ok (.iload_n 1, 1) := by decide +kernel
theorem dJ9_max_7cf53_10 : decode cJ9_max_7cf53 10 = .ok (.ireturn, 1) := by decide +kernel
