theorem dL_cell_0 : decode cL_cell 0 = .ok (.iload_n 1, 1) := by decide +kernel
theorem dL_cell_1 : decode cL_cell 1 = .ok (.aload_n 0, 1) := by decide +kernel
theorem dL_cell_2 : decode cL_cell 2 = .ok (.arraylength, 1) := by decide +kernel
theorem dL_cell_3 : decode cL_cell 3 = .ok (.if_icmp .ge 9, 3) := by decide +kernel
theorem dL_cell_6 : decode cL_cell 6 = .ok (.aload_n 0, 1) := by decide +kernel
theorem dL_cell_7 : decode cL_cell 7 = .ok (.iload_n 1, 1) := by decide +kernel
theorem dL_cell_8 : decode cL_cell 8 = .ok (.iaload, 1) := by decide +kernel
theorem dL_cell_9 : decode cL_cell 9 = .ok (.goto 9, 3) := by decide +kernel
theorem dL_cell_12 : decode cL_cell 12 = .ok (.ldc 7, 2) := by decide +kernel
theorem dL_cell_14 : decode cL_cell 14 = .ok (.iload_n 1, 1) := by decide +kernel
theorem dL_cell_15 : decode cL_cell 15 = .ok (.iconst 1, 1) := by decide +kernel
theorem dL_cell_16 : decode cL_cell 16 = .ok (.iadd, 1) := by decide +kernel
theorem dL_cell_17 : decode cL_cell 17 = .ok (.imul, 1) := by decide +kernel
theorem dL_cell_18 : decode cL_cell 18 = .ok (.ireturn, 1) := by decide +kernel
theorem dL_at_0 : decode cL_at 0 = .ok (.iload_n 0, 1) := by decide +kernel
theorem dL_at_1 : decode cL_at 1 = .ok (.iconst 1, 1) := by decide +kernel
theorem dL_at_2 : decode cL_at 2 = .ok (.iushr, 1) := by decide +kernel
theorem dL_at_3 : decode cL_at 3 = .ok (.iload_n 1, 1) := by decide +kernel
theorem dL_at_4 : decode cL_at 4 = .ok (.irem, 1) := by decide +kernel
theorem dL_at_5 : decode cL_at 5 = .ok (.ireturn, 1) := by decide +kernel
set_option maxRecDepth 20000 in
theorem ggL_sound_X0_maskOf : GoodIn wsL_sound wsX0_maskOf := goodIn_ca (goodIn_r _ [5, 6, 7, 8, 4, 9, 10, 11, 12, 13, 14, 65, 66, 67, 68, 69, 70, 71, 72, 73, 74, 75, 76, 77, 78, 79, 80, 81] (by decide +kernel) (by decide +kernel)) (goodIn_sub (fun _ h => List.mem_cons_of_mem _ (List.mem_append_right _ h)) (by decide +kernel))
set_option maxRecDepth 20000 in
theorem gL_sound_X0_maskOf : GoodIn wsL_sound (wsV RL 8 RX0 yX0_maskOf wsX0_maskOf) := goodIn_app (goodIn_of _ (by decide +kernel)) ggL_sound_X0_maskOf
set_option maxRecDepth 20000 in
theorem ggL_sound_X0_costumeOf : GoodIn wsL_sound wsX0_costumeOf := goodIn_ca (goodIn_r _ [18, 19, 7, 8, 4, 9, 10, 11, 12, 13, 14, 65, 66, 67, 68, 69, 70, 71, 72, 73, 74, 75, 76, 77, 78, 79, 80, 81] (by decide +kernel) (by decide +kernel)) (goodIn_sub (fun _ h => List.mem_cons_of_mem _ (List.mem_append_right _ h)) (by decide +kernel))
set_option maxRecDepth 20000 in
theorem gL_sound_X0_costumeOf : GoodIn wsL_sound (wsV RL 14 RX0 yX0_costumeOf wsX0_costumeOf) := goodIn_app (goodIn_of _ (by decide +kernel)) ggL_sound_X0_costumeOf
set_option maxRecDepth 20000 in
theorem ggL_sound_X0_maskByCues : GoodIn wsL_sound wsX0_maskByCues := goodIn_ca (goodIn_r _ [23, 24, 25, 26, 7, 8, 4, 9, 10, 11, 12, 13, 14, 27, 28, 29, 30, 31, 32, 33, 34, 35, 36, 37, 65, 66, 67, 68, 69, 70, 71, 72, 73, 74, 75, 76, 77, 78, 79, 80, 81] (by decide +kernel) (by decide +kernel)) (goodIn_sub (fun _ h => List.mem_cons_of_mem _ (List.mem_append_right _ h)) (by decide +kernel))
set_option maxRecDepth 20000 in
theorem gL_sound_X0_maskByCues : GoodIn wsL_sound (wsV RL 17 RX0 yX0_maskByCues wsX0_maskByCues) := goodIn_app (goodIn_of _ (by decide +kernel)) ggL_sound_X0_maskByCues
set_option maxRecDepth 20000 in
theorem ggL_sound_X0_wearerOf : GoodIn wsL_sound wsX0_wearerOf := goodIn_ca (goodIn_r _ [41, 42, 43, 4, 44, 10, 11, 12, 13, 14, 45, 46, 47, 48, 6, 49, 50, 51, 65, 66, 67, 68, 69, 70, 71, 72, 73, 74, 75, 76, 77, 78, 79, 80, 81] (by decide +kernel) (by decide +kernel)) (goodIn_sub (fun _ h => List.mem_cons_of_mem _ (List.mem_append_right _ h)) (by decide +kernel))
set_option maxRecDepth 20000 in
theorem gL_sound_X0_wearerOf : GoodIn wsL_sound (wsV RL 20 RX0 yX0_wearerOf wsX0_wearerOf) := goodIn_app (goodIn_of _ (by decide +kernel)) ggL_sound_X0_wearerOf
set_option maxRecDepth 20000 in
theorem ggL_sound_X0_isOn : GoodIn wsL_sound wsX0_isOn := goodIn_ca (goodIn_r _ [55, 56, 7, 8, 4, 9, 10, 11, 12, 13, 14, 65, 66, 67, 68, 69, 70, 71, 72, 73, 74, 75, 76, 77, 78, 79, 80, 81] (by decide +kernel) (by decide +kernel)) (goodIn_sub (fun _ h => List.mem_cons_of_mem _ (List.mem_append_right _ h)) (by decide +kernel))
set_option maxRecDepth 20000 in
theorem gL_sound_X0_isOn : GoodIn wsL_sound (wsV RL 23 RX0 yX0_isOn wsX0_isOn) := goodIn_app (goodIn_of _ (by decide +kernel)) ggL_sound_X0_isOn
set_option maxRecDepth 20000 in
theorem ggL_sound_X0_wear : GoodIn wsL_sound wsX0_wear := goodIn_ca (goodIn_r _ [60, 61, 62, 63, 4, 64, 10, 11, 12, 13, 14, 65, 66, 67, 68, 69, 70, 71, 72, 73, 74, 75, 76, 77, 78, 79, 80, 81] (by decide +kernel) (by decide +kernel)) (goodIn_sub (fun _ h => List.mem_cons_of_mem _ (List.mem_append_right _ h)) (by decide +kernel))
set_option maxRecDepth 20000 in
theorem gL_sound_X0_wear : GoodIn wsL_sound (wsV RL 27 RX0 yX0_wear wsX0_wear) := goodIn_app (goodIn_of _ (by decide +kernel)) ggL_sound_X0_wear
theorem dL_sound_0 : decode cL_sound 0 = .ok (.iconst 0, 1) := by decide +kernel
theorem dL_sound_1 : decode cL_sound 1 = .ok (.istore_n 1, 1) := by decide +kernel
theorem dL_sound_2 : decode cL_sound 2 = .ok (.iload_n 1, 1) := by decide +kernel
theorem dL_sound_3 : decode cL_sound 3 = .ok (.bipush 6, 2) := by decide +kernel
theorem dL_sound_5 : decode cL_sound 5 = .ok (.if_icmp .ge 162, 3) := by decide +kernel
theorem dL_sound_8 : decode cL_sound 8 = .ok (.aload_n 0, 1) := by decide +kernel
theorem dL_sound_9 : decode cL_sound 9 = .ok (.iload_n 1, 1) := by decide +kernel
theorem dL_sound_10 : decode cL_sound 10 = .ok (.invokevirtual 8, 3) := by decide +kernel
theorem dL_sound_13 : decode cL_sound 13 = .ok (.istore_n 2, 1) := by decide +kernel
theorem dL_sound_14 : decode cL_sound 14 = .ok (.aload_n 0, 1) := by decide +kernel
theorem dL_sound_15 : decode cL_sound 15 = .ok (.iload_n 1, 1) := by decide +kernel
theorem dL_sound_16 : decode cL_sound 16 = .ok (.invokevirtual 14, 3) := by decide +kernel
theorem dL_sound_19 : decode cL_sound 19 = .ok (.istore_n 3, 1) := by decide +kernel
theorem dL_sound_20 : decode cL_sound 20 = .ok (.iload_n 2, 1) := by decide +kernel
theorem dL_sound_21 : decode cL_sound 21 = .ok (.iconst (-1), 1) := by decide +kernel
theorem dL_sound_22 : decode cL_sound 22 = .ok (.if_icmp .lt 30, 3) := by decide +kernel
theorem dL_sound_25 : decode cL_sound 25 = .ok (.iload_n 2, 1) := by decide +kernel
theorem dL_sound_26 : decode cL_sound 26 = .ok (.iconst 5, 1) := by decide +kernel
theorem dL_sound_27 : decode cL_sound 27 = .ok (.if_icmp .gt 25, 3) := by decide +kernel
theorem dL_sound_30 : decode cL_sound 30 = .ok (.aload_n 0, 1) := by decide +kernel
theorem dL_sound_31 : decode cL_sound 31 = .ok (.iload_n 1, 1) := by decide +kernel
theorem dL_sound_32 : decode cL_sound 32 = .ok (.invokevirtual 17, 3) := by decide +kernel
theorem dL_sound_35 : decode cL_sound 35 = .ok (.iload_n 2, 1) := by decide +kernel
theorem dL_sound_36 : decode cL_sound 36 = .ok (.if_icmp .ne 16, 3) := by decide +kernel
theorem dL_sound_39 : decode cL_sound 39 = .ok (.iload_n 2, 1) := by decide +kernel
theorem dL_sound_40 : decode cL_sound 40 = .ok (.ifCond .lt 14, 3) := by decide +kernel
theorem dL_sound_43 : decode cL_sound 43 = .ok (.aload_n 0, 1) := by decide +kernel
theorem dL_sound_44 : decode cL_sound 44 = .ok (.iload_n 2, 1) := by decide +kernel
theorem dL_sound_45 : decode cL_sound 45 = .ok (.invokevirtual 20, 3) := by decide +kernel
theorem dL_sound_48 : decode cL_sound 48 = .ok (.iload_n 1, 1) := by decide +kernel
theorem dL_sound_49 : decode cL_sound 49 = .ok (.if_icmp .eq 5, 3) := by decide +kernel
theorem dL_sound_52 : decode cL_sound 52 = .ok (.iconst 0, 1) := by decide +kernel
theorem dL_sound_53 : decode cL_sound 53 = .ok (.ireturn, 1) := by decide +kernel
theorem dL_sound_54 : decode cL_sound 54 = .ok (.aload_n 0, 1) := by decide +kernel
theorem dL_sound_55 : decode cL_sound 55 = .ok (.iload_n 1, 1) := by decide +kernel
theorem dL_sound_56 : decode cL_sound 56 = .ok (.invokevirtual 20, 3) := by decide +kernel
theorem dL_sound_59 : decode cL_sound 59 = .ok (.ifCond .lt 16, 3) := by decide +kernel
theorem dL_sound_62 : decode cL_sound 62 = .ok (.aload_n 0, 1) := by decide +kernel
theorem dL_sound_63 : decode cL_sound 63 = .ok (.aload_n 0, 1) := by decide +kernel
theorem dL_sound_64 : decode cL_sound 64 = .ok (.iload_n 1, 1) := by decide +kernel
theorem dL_sound_65 : decode cL_sound 65 = .ok (.invokevirtual 20, 3) := by decide +kernel
theorem dL_sound_68 : decode cL_sound 68 = .ok (.invokevirtual 8, 3) := by decide +kernel
theorem dL_sound_71 : decode cL_sound 71 = .ok (.iload_n 1, 1) := by decide +kernel
theorem dL_sound_72 : decode cL_sound 72 = .ok (.if_icmp .ne 15, 3) := by decide +kernel
theorem dL_sound_75 : decode cL_sound 75 = .ok (.aload_n 0, 1) := by decide +kernel
theorem dL_sound_76 : decode cL_sound 76 = .ok (.iload_n 1, 1) := by decide +kernel
theorem dL_sound_77 : decode cL_sound 77 = .ok (.invokevirtual 23, 3) := by decide +kernel
theorem dL_sound_80 : decode cL_sound 80 = .ok (.ifCond .eq 9, 3) := by decide +kernel
theorem dL_sound_83 : decode cL_sound 83 = .ok (.iload_n 3, 1) := by decide +kernel
theorem dL_sound_84 : decode cL_sound 84 = .ok (.ifCond .ge 5, 3) := by decide +kernel
theorem dL_sound_87 : decode cL_sound 87 = .ok (.iconst 0, 1) := by decide +kernel
theorem dL_sound_88 : decode cL_sound 88 = .ok (.ireturn, 1) := by decide +kernel
theorem dL_sound_89 : decode cL_sound 89 = .ok (.iload_n 3, 1) := by decide +kernel
theorem dL_sound_90 : decode cL_sound 90 = .ok (.ifCond .lt 26, 3) := by decide +kernel
theorem dL_sound_93 : decode cL_sound 93 = .ok (.iload_n 3, 1) := by decide +kernel
theorem dL_sound_94 : decode cL_sound 94 = .ok (.iload_n 1, 1) := by decide +kernel
theorem dL_sound_95 : decode cL_sound 95 = .ok (.if_icmp .lt 19, 3) := by decide +kernel
theorem dL_sound_98 : decode cL_sound 98 = .ok (.iload_n 3, 1) := by decide +kernel
theorem dL_sound_99 : decode cL_sound 99 = .ok (.iload_n 1, 1) := by decide +kernel
theorem dL_sound_100 : decode cL_sound 100 = .ok (.iconst 2, 1) := by decide +kernel
theorem dL_sound_101 : decode cL_sound 101 = .ok (.iadd, 1) := by decide +kernel
theorem dL_sound_102 : decode cL_sound 102 = .ok (.if_icmp .gt 12, 3) := by decide +kernel
theorem dL_sound_105 : decode cL_sound 105 = .ok (.aload_n 0, 1) := by decide +kernel
theorem dL_sound_106 : decode cL_sound 106 = .ok (.iload_n 3, 1) := by decide +kernel
theorem dL_sound_107 : decode cL_sound 107 = .ok (.invokevirtual 27, 3) := by decide +kernel
theorem dL_sound_110 : decode cL_sound 110 = .ok (.iconst 2, 1) := by decide +kernel
theorem dL_sound_111 : decode cL_sound 111 = .ok (.if_icmp .le 5, 3) := by decide +kernel
theorem dL_sound_114 : decode cL_sound 114 = .ok (.iconst 0, 1) := by decide +kernel
theorem dL_sound_115 : decode cL_sound 115 = .ok (.ireturn, 1) := by decide +kernel
theorem dL_sound_116 : decode cL_sound 116 = .ok (.iconst 0, 1) := by decide +kernel
theorem dL_sound_117 : decode cL_sound 117 = .ok (.istore 4, 2) := by decide +kernel
theorem dL_sound_119 : decode cL_sound 119 = .ok (.iload 4, 2) := by decide +kernel
theorem dL_sound_121 : decode cL_sound 121 = .ok (.iload_n 1, 1) := by decide +kernel
theorem dL_sound_122 : decode cL_sound 122 = .ok (.if_icmp .ge 39, 3) := by decide +kernel
theorem dL_sound_125 : decode cL_sound 125 = .ok (.iload_n 2, 1) := by decide +kernel
theorem dL_sound_126 : decode cL_sound 126 = .ok (.ifCond .lt 13, 3) := by decide +kernel
theorem dL_sound_129 : decode cL_sound 129 = .ok (.aload_n 0, 1) := by decide +kernel
theorem dL_sound_130 : decode cL_sound 130 = .ok (.iload 4, 2) := by decide +kernel
theorem dL_sound_132 : decode cL_sound 132 = .ok (.invokevirtual 8, 3) := by decide +kernel
theorem dL_sound_135 : decode cL_sound 135 = .ok (.iload_n 2, 1) := by decide +kernel
theorem dL_sound_136 : decode cL_sound 136 = .ok (.if_icmp .eq 17, 3) := by decide +kernel
theorem dL_sound_139 : decode cL_sound 139 = .ok (.iload_n 3, 1) := by decide +kernel
theorem dL_sound_140 : decode cL_sound 140 = .ok (.ifCond .lt 15, 3) := by decide +kernel
theorem dL_sound_143 : decode cL_sound 143 = .ok (.aload_n 0, 1) := by decide +kernel
theorem dL_sound_144 : decode cL_sound 144 = .ok (.iload 4, 2) := by decide +kernel
theorem dL_sound_146 : decode cL_sound 146 = .ok (.invokevirtual 14, 3) := by decide +kernel
theorem dL_sound_149 : decode cL_sound 149 = .ok (.iload_n 3, 1) := by decide +kernel
theorem dL_sound_150 : decode cL_sound 150 = .ok (.if_icmp .ne 5, 3) := by decide +kernel
theorem dL_sound_153 : decode cL_sound 153 = .ok (.iconst 0, 1) := by decide +kernel
theorem dL_sound_154 : decode cL_sound 154 = .ok (.ireturn, 1) := by decide +kernel
theorem dL_sound_155 : decode cL_sound 155 = .ok (.iinc 4 1, 3) := by decide +kernel
theorem dL_sound_158 : decode cL_sound 158 = .ok (.goto (-39), 3) := by decide +kernel
theorem dL_sound_161 : decode cL_sound 161 = .ok (.iinc 1 1, 3) := by decide +kernel
theorem dL_sound_164 : decode cL_sound 164 = .ok (.goto (-162), 3) := by decide +kernel
theorem dL_sound_167 : decode cL_sound 167 = .ok (.iconst 1, 1) := by decide +kernel
theorem dL_sound_168 : decode cL_sound 168 = .ok (.ireturn, 1) := by decide +kernel
set_option maxRecDepth 20000 in
theorem ggL_chained_X0_cues : GoodIn wsL_chained wsX0_cues := goodIn_r _ [5, 6, 55, 56, 57, 58, 59, 60, 61, 62, 63, 64, 65, 66, 67, 68, 69, 70, 71] (by decide +kernel) (by decide +kernel)
set_option maxRecDepth 20000 in
theorem gL_chained_X0_cues : GoodIn wsL_chained (wsV RL 30 RX0 yX0_cues wsX0_cues) := goodIn_app (goodIn_of _ (by decide +kernel)) ggL_chained_X0_cues
set_option maxRecDepth 20000 in
theorem ggL_chained_X0_stateOf : GoodIn wsL_chained wsX0_stateOf := goodIn_ca (goodIn_r _ [10, 11, 12, 13, 14, 4, 15, 16, 17, 6, 18, 19, 20, 55, 56, 57, 58, 59, 60, 61, 62, 63, 64, 65, 66, 67, 68, 69, 70, 71] (by decide +kernel) (by decide +kernel)) (goodIn_sub (fun _ h => List.mem_cons_of_mem _ (List.mem_append_right _ h)) (by decide +kernel))
set_option maxRecDepth 20000 in
theorem gL_chained_X0_stateOf : GoodIn wsL_chained (wsV RL 34 RX0 yX0_stateOf wsX0_stateOf) := goodIn_app (goodIn_of _ (by decide +kernel)) ggL_chained_X0_stateOf
set_option maxRecDepth 20000 in
theorem ggL_chained_X0_canCall : GoodIn wsL_chained wsX0_canCall := goodIn_ca (goodIn_r _ [24, 12, 13, 14, 4, 15, 16, 17, 6, 18, 19, 20, 25, 26, 27, 28, 11, 29, 30, 31, 32, 33, 34, 35, 36, 37, 38, 39, 40, 41, 42, 43, 44, 45, 46, 47, 48, 49, 50, 51, 52, 53, 54, 55, 56, 57, 58, 59, 60, 61, 62, 63, 64, 65, 66, 67, 68, 69, 70, 71] (by decide +kernel) (by decide +kernel)) (goodIn_sub (fun _ h => List.mem_cons_of_mem _ (List.mem_append_right _ h)) (by decide +kernel))
set_option maxRecDepth 20000 in
theorem gL_chained_X0_canCall : GoodIn wsL_chained (wsV RL 37 RX0 yX0_canCall wsX0_canCall) := goodIn_app (goodIn_of _ (by decide +kernel)) ggL_chained_X0_canCall
theorem dL_chained_0 : decode cL_chained 0 = .ok (.iconst 0, 1) := by decide +kernel
theorem dL_chained_1 : decode cL_chained 1 = .ok (.istore_n 2, 1) := by decide +kernel
theorem dL_chained_2 : decode cL_chained 2 = .ok (.iload_n 2, 1) := by decide +kernel
theorem dL_chained_3 : decode cL_chained 3 = .ok (.aload_n 0, 1) := by decide +kernel
theorem dL_chained_4 : decode cL_chained 4 = .ok (.invokevirtual 30, 3) := by decide +kernel
theorem dL_chained_7 : decode cL_chained 7 = .ok (.if_icmp .ge 94, 3) := by decide +kernel
theorem dL_chained_10 : decode cL_chained 10 = .ok (.aload_n 0, 1) := by decide +kernel
theorem dL_chained_11 : decode cL_chained 11 = .ok (.iload_n 2, 1) := by decide +kernel
theorem dL_chained_12 : decode cL_chained 12 = .ok (.invokevirtual 34, 3) := by decide +kernel
theorem dL_chained_15 : decode cL_chained 15 = .ok (.istore_n 3, 1) := by decide +kernel
theorem dL_chained_16 : decode cL_chained 16 = .ok (.iload_n 3, 1) := by decide +kernel
theorem dL_chained_17 : decode cL_chained 17 = .ok (.ifCond .lt 20, 3) := by decide +kernel
theorem dL_chained_20 : decode cL_chained 20 = .ok (.iload_n 3, 1) := by decide +kernel
theorem dL_chained_21 : decode cL_chained 21 = .ok (.iconst 2, 1) := by decide +kernel
theorem dL_chained_22 : decode cL_chained 22 = .ok (.if_icmp .gt 15, 3) := by decide +kernel
theorem dL_chained_25 : decode cL_chained 25 = .ok (.iload_n 3, 1) := by decide +kernel
theorem dL_chained_26 : decode cL_chained 26 = .ok (.ifCond .eq 13, 3) := by decide +kernel
theorem dL_chained_29 : decode cL_chained 29 = .ok (.aload_n 0, 1) := by decide +kernel
theorem dL_chained_30 : decode cL_chained 30 = .ok (.iload_n 2, 1) := by decide +kernel
theorem dL_chained_31 : decode cL_chained 31 = .ok (.invokevirtual 37, 3) := by decide +kernel
theorem dL_chained_34 : decode cL_chained 34 = .ok (.ifCond .eq 5, 3) := by decide +kernel
theorem dL_chained_37 : decode cL_chained 37 = .ok (.iconst 0, 1) := by decide +kernel
theorem dL_chained_38 : decode cL_chained 38 = .ok (.ireturn, 1) := by decide +kernel
theorem dL_chained_39 : decode cL_chained 39 = .ok (.aload_n 1, 1) := by decide +kernel
theorem dL_chained_40 : decode cL_chained 40 = .ok (.iload_n 2, 1) := by decide +kernel
theorem dL_chained_41 : decode cL_chained 41 = .ok (.iaload, 1) := by decide +kernel
theorem dL_chained_42 : decode cL_chained 42 = .ok (.ifCond .ge 6, 3) := by decide +kernel
theorem dL_chained_45 : decode cL_chained 45 = .ok (.goto 50, 3) := by decide +kernel
theorem dL_chained_48 : decode cL_chained 48 = .ok (.aload_n 0, 1) := by decide +kernel
theorem dL_chained_49 : decode cL_chained 49 = .ok (.aload_n 1, 1) := by decide +kernel
theorem dL_chained_50 : decode cL_chained 50 = .ok (.iload_n 2, 1) := by decide +kernel
theorem dL_chained_51 : decode cL_chained 51 = .ok (.iaload, 1) := by decide +kernel
theorem dL_chained_52 : decode cL_chained 52 = .ok (.invokevirtual 34, 3) := by decide +kernel
theorem dL_chained_55 : decode cL_chained 55 = .ok (.istore 4, 2) := by decide +kernel
theorem dL_chained_57 : decode cL_chained 57 = .ok (.iload 4, 2) := by decide +kernel
theorem dL_chained_59 : decode cL_chained 59 = .ok (.iconst 2, 1) := by decide +kernel
theorem dL_chained_60 : decode cL_chained 60 = .ok (.if_icmp .ne 8, 3) := by decide +kernel
theorem dL_chained_63 : decode cL_chained 63 = .ok (.iload_n 3, 1) := by decide +kernel
theorem dL_chained_64 : decode cL_chained 64 = .ok (.iconst 2, 1) := by decide +kernel
theorem dL_chained_65 : decode cL_chained 65 = .ok (.if_icmp .ne 28, 3) := by decide +kernel
theorem dL_chained_68 : decode cL_chained 68 = .ok (.iload_n 3, 1) := by decide +kernel
theorem dL_chained_69 : decode cL_chained 69 = .ok (.iconst 1, 1) := by decide +kernel
theorem dL_chained_70 : decode cL_chained 70 = .ok (.if_icmp .ne 9, 3) := by decide +kernel
theorem dL_chained_73 : decode cL_chained 73 = .ok (.iload 4, 2) := by decide +kernel
theorem dL_chained_75 : decode cL_chained 75 = .ok (.iconst 1, 1) := by decide +kernel
theorem dL_chained_76 : decode cL_chained 76 = .ok (.if_icmp .ne 17, 3) := by decide +kernel
theorem dL_chained_79 : decode cL_chained 79 = .ok (.iload 4, 2) := by decide +kernel
theorem dL_chained_81 : decode cL_chained 81 = .ok (.iconst 1, 1) := by decide +kernel
theorem dL_chained_82 : decode cL_chained 82 = .ok (.if_icmp .eq 13, 3) := by decide +kernel
theorem dL_chained_85 : decode cL_chained 85 = .ok (.aload_n 0, 1) := by decide +kernel
theorem dL_chained_86 : decode cL_chained 86 = .ok (.iload_n 2, 1) := by decide +kernel
theorem dL_chained_87 : decode cL_chained 87 = .ok (.invokevirtual 37, 3) := by decide +kernel
theorem dL_chained_90 : decode cL_chained 90 = .ok (.ifCond .eq 5, 3) := by decide +kernel
theorem dL_chained_93 : decode cL_chained 93 = .ok (.iconst 0, 1) := by decide +kernel
theorem dL_chained_94 : decode cL_chained 94 = .ok (.ireturn, 1) := by decide +kernel
theorem dL_chained_95 : decode cL_chained 95 = .ok (.iinc 2 1, 3) := by decide +kernel
theorem dL_chained_98 : decode cL_chained 98 = .ok (.goto (-96), 3) := by decide +kernel
theorem dL_chained_101 : decode cL_chained 101 = .ok (.iconst 1, 1) := by decide +kernel
theorem dL_chained_102 : decode cL_chained 102 = .ok (.ireturn, 1) := by decide +kernel
set_option maxRecDepth 20000 in
theorem ggL_count_X0_cues : GoodIn wsL_count wsX0_cues := goodIn_r _ [5, 6, 21, 22, 23, 24, 25, 26, 27, 28, 29, 30, 31, 32, 33, 34, 35, 36, 37] (by decide +kernel) (by decide +kernel)
set_option maxRecDepth 20000 in
theorem gL_count_X0_cues : GoodIn wsL_count (wsV RL 30 RX0 yX0_cues wsX0_cues) := goodIn_app (goodIn_of _ (by decide +kernel)) ggL_count_X0_cues
set_option maxRecDepth 20000 in
theorem ggL_count_X0_stateOf : GoodIn wsL_count wsX0_stateOf := goodIn_ca (goodIn_r _ [10, 11, 12, 13, 14, 4, 15, 16, 17, 6, 18, 19, 20, 21, 22, 23, 24, 25, 26, 27, 28, 29, 30, 31, 32, 33, 34, 35, 36, 37] (by decide +kernel) (by decide +kernel)) (goodIn_sub (fun _ h => List.mem_cons_of_mem _ (List.mem_append_right _ h)) (by decide +kernel))
set_option maxRecDepth 20000 in
theorem gL_count_X0_stateOf : GoodIn wsL_count (wsV RL 34 RX0 yX0_stateOf wsX0_stateOf) := goodIn_app (goodIn_of _ (by decide +kernel)) ggL_count_X0_stateOf
theorem dL_count_0 : decode cL_count 0 = .ok (.iconst 0, 1) := by decide +kernel
theorem dL_count_1 : decode cL_count 1 = .ok (.istore_n 2, 1) := by decide +kernel
theorem dL_count_2 : decode cL_count 2 = .ok (.iconst 0, 1) := by decide +kernel
theorem dL_count_3 : decode cL_count 3 = .ok (.istore_n 3, 1) := by decide +kernel
theorem dL_count_4 : decode cL_count 4 = .ok (.iload_n 3, 1) := by decide +kernel
theorem dL_count_5 : decode cL_count 5 = .ok (.aload_n 0, 1) := by decide +kernel
theorem dL_count_6 : decode cL_count 6 = .ok (.invokevirtual 30, 3) := by decide +kernel
theorem dL_count_9 : decode cL_count 9 = .ok (.if_icmp .ge 26, 3) := by decide +kernel
theorem dL_count_12 : decode cL_count 12 = .ok (.iload_n 2, 1) := by decide +kernel
theorem dL_count_13 : decode cL_count 13 = .ok (.aload_n 0, 1) := by decide +kernel
theorem dL_count_14 : decode cL_count 14 = .ok (.iload_n 3, 1) := by decide +kernel
theorem dL_count_15 : decode cL_count 15 = .ok (.invokevirtual 34, 3) := by decide +kernel
theorem dL_count_18 : decode cL_count 18 = .ok (.iload_n 1, 1) := by decide +kernel
theorem dL_count_19 : decode cL_count 19 = .ok (.if_icmp .ne 7, 3) := by decide +kernel
theorem dL_count_22 : decode cL_count 22 = .ok (.iconst 1, 1) := by decide +kernel
theorem dL_count_23 : decode cL_count 23 = .ok (.goto 4, 3) := by decide +kernel
theorem dL_count_26 : decode cL_count 26 = .ok (.iconst 0, 1) := by decide +kernel
theorem dL_count_27 : decode cL_count 27 = .ok (.iadd, 1) := by decide +kernel
theorem dL_count_28 : decode cL_count 28 = .ok (.istore_n 2, 1) := by decide +kernel
theorem dL_count_29 : decode cL_count 29 = .ok (.iinc 3 1, 3) := by decide +kernel
theorem dL_count_32 : decode cL_count 32 = .ok (.goto (-28), 3) := by decide +kernel
theorem dL_count_35 : decode cL_count 35 = .ok (.iload_n 2, 1) := by decide +kernel
theorem dL_count_36 : decode cL_count 36 = .ok (.ireturn, 1) := by decide +kernel
set_option maxRecDepth 20000 in
theorem ggL_act_L_at : GoodIn wsL_act wsL_at := goodIn_r _ [4] (by decide +kernel) (by decide +kernel)
set_option maxRecDepth 20000 in
theorem gL_act_L_at : GoodIn wsL_act (va_wsS RL 40 yL_at wsL_at) := goodIn_app (goodIn_of _ (by decide +kernel)) ggL_act_L_at
set_option maxRecDepth 20000 in
theorem ggL_act_X0_costumeOf : GoodIn wsL_act wsX0_costumeOf := goodIn_ca (goodIn_r _ [9, 10, 11, 12, 8, 13, 14, 15, 16, 17, 18, 178, 179, 180, 181, 182, 183, 184, 185, 186, 187, 188, 189, 190, 191, 192, 193, 194] (by decide +kernel) (by decide +kernel)) (goodIn_sub (fun _ h => List.mem_cons_of_mem _ (List.mem_append_left _ (List.mem_append_left _ (List.mem_append_right _ h)))) (by decide +kernel))
set_option maxRecDepth 20000 in
theorem gL_act_X0_costumeOf : GoodIn wsL_act (wsV RL 14 RX0 yX0_costumeOf wsX0_costumeOf) := goodIn_app (goodIn_of _ (by decide +kernel)) ggL_act_X0_costumeOf
set_option maxRecDepth 20000 in
theorem ggL_act_X0_isOn : GoodIn wsL_act wsX0_isOn := goodIn_ca (goodIn_r _ [22, 23, 11, 12, 8, 13, 14, 15, 16, 17, 18, 178, 179, 180, 181, 182, 183, 184, 185, 186, 187, 188, 189, 190, 191, 192, 193, 194] (by decide +kernel) (by decide +kernel)) (goodIn_sub (fun _ h => List.mem_cons_of_mem _ (List.mem_append_left _ (List.mem_append_left _ (List.mem_append_right _ h)))) (by decide +kernel))
set_option maxRecDepth 20000 in
theorem gL_act_X0_isOn : GoodIn wsL_act (wsV RL 23 RX0 yX0_isOn wsX0_isOn) := goodIn_app (goodIn_of _ (by decide +kernel)) ggL_act_X0_isOn
set_option maxRecDepth 20000 in
theorem ggL_act_X0_wear : GoodIn wsL_act wsX0_wear := goodIn_ca (goodIn_r _ [27, 28, 29, 30, 8, 31, 14, 15, 16, 17, 18, 178, 179, 180, 181, 182, 183, 184, 185, 186, 187, 188, 189, 190, 191, 192, 193, 194] (by decide +kernel) (by decide +kernel)) (goodIn_sub (fun _ h => List.mem_cons_of_mem _ (List.mem_append_left _ (List.mem_append_left _ (List.mem_append_right _ h)))) (by decide +kernel))
set_option maxRecDepth 20000 in
theorem gL_act_X0_wear : GoodIn wsL_act (wsV RL 27 RX0 yX0_wear wsX0_wear) := goodIn_app (goodIn_of _ (by decide +kernel)) ggL_act_X0_wear
set_option maxRecDepth 20000 in
theorem ggL_act_X0_dress : GoodIn wsL_act wsX0_dress := goodIn_ca (goodIn_ca (goodIn_ca (goodIn_r _ [35, 36, 37, 38, 39, 23, 28, 10, 11, 12, 8, 13, 14, 15, 16, 17, 18, 29, 30, 31, 40, 41, 42, 43, 44, 45, 46, 47, 48, 49, 50, 51, 52, 53, 178, 179, 180, 181, 182, 183, 184, 185, 186, 187, 188, 189, 190, 191, 192, 193, 194] (by decide +kernel) (by decide +kernel)) (goodIn_sub (fun _ h => List.mem_cons_of_mem _ (List.mem_append_left _ (List.mem_append_right _ h))) (by decide +kernel))) (goodIn_sub (fun _ h => List.mem_cons_of_mem _ (List.mem_append_right _ h)) (by decide +kernel))) (goodIn_sub (fun _ h => List.mem_cons_of_mem _ (List.mem_append_left _ (List.mem_append_left _ (List.mem_append_right _ h)))) (by decide +kernel))
set_option maxRecDepth 20000 in
theorem gL_act_X0_dress : GoodIn wsL_act (wsV RL 46 RX0 yX0_dress wsX0_dress) := goodIn_app (goodIn_of _ (by decide +kernel)) ggL_act_X0_dress
set_option maxRecDepth 20000 in
theorem ggL_act_X0_cues : GoodIn wsL_act wsX0_cues := goodIn_r _ [57, 58, 178, 179, 180, 181, 182, 183, 184, 185, 186, 187, 188, 189, 190, 191, 192, 193, 194] (by decide +kernel) (by decide +kernel)
set_option maxRecDepth 20000 in
theorem gL_act_X0_cues : GoodIn wsL_act (wsV RL 30 RX0 yX0_cues wsX0_cues) := goodIn_app (goodIn_of _ (by decide +kernel)) ggL_act_X0_cues
set_option maxRecDepth 20000 in
theorem ggL_act_X0_stateOf : GoodIn wsL_act wsX0_stateOf := goodIn_ca (goodIn_r _ [62, 63, 64, 65, 66, 8, 67, 14, 15, 58, 16, 17, 18, 178, 179, 180, 181, 182, 183, 184, 185, 186, 187, 188, 189, 190, 191, 192, 193, 194] (by decide +kernel) (by decide +kernel)) (goodIn_sub (fun _ h => List.mem_cons_of_mem _ (List.mem_append_left _ (List.mem_append_left _ (List.mem_append_right _ h)))) (by decide +kernel))
set_option maxRecDepth 20000 in
theorem gL_act_X0_stateOf : GoodIn wsL_act (wsV RL 34 RX0 yX0_stateOf wsX0_stateOf) := goodIn_app (goodIn_of _ (by decide +kernel)) ggL_act_X0_stateOf
set_option maxRecDepth 20000 in
theorem ggL_act_X0_addCue : GoodIn wsL_act wsX0_addCue := goodIn_ca (goodIn_ca (goodIn_ca (goodIn_r _ [71, 36, 37, 38, 39, 58, 63, 72, 73, 74, 75, 11, 12, 8, 13, 14, 15, 16, 17, 18, 76, 77, 78, 79, 80, 81, 64, 65, 66, 67, 178, 179, 180, 181, 182, 183, 184, 185, 186, 187, 188, 189, 190, 191, 192, 193, 194] (by decide +kernel) (by decide +kernel)) (goodIn_sub (fun _ h => List.mem_cons_of_mem _ (List.mem_append_left _ (List.mem_append_right _ h))) (by decide +kernel))) (goodIn_sub (fun _ h => List.mem_cons_of_mem _ (List.mem_append_right _ h)) (by decide +kernel))) (goodIn_sub (fun _ h => List.mem_cons_of_mem _ (List.mem_append_left _ (List.mem_append_left _ (List.mem_append_right _ h)))) (by decide +kernel))
set_option maxRecDepth 20000 in
theorem gL_act_X0_addCue : GoodIn wsL_act (wsV RL 49 RX0 yX0_addCue wsX0_addCue) := goodIn_app (goodIn_of _ (by decide +kernel)) ggL_act_X0_addCue
set_option maxRecDepth 20000 in
theorem ggL_act_X0_run : GoodIn wsL_act wsX0_run := goodIn_r _ [85, 86, 87, 88, 89, 8, 90, 58, 91, 92, 93, 94, 63, 95, 96, 97, 98, 75, 99, 100, 101, 102, 73, 74, 72, 23, 10, 103, 104, 105, 106, 107, 51, 52, 53, 108, 109, 110, 111, 112, 113, 114, 115, 116, 117, 118, 119, 28, 120, 121, 122, 123, 124, 125, 126, 127, 128, 178, 179, 180, 181, 182, 183, 184, 185, 186, 187, 188, 189, 190, 191, 192, 193, 194] (by decide +kernel) (by decide +kernel)
set_option maxRecDepth 20000 in
theorem gL_act_X0_run : GoodIn wsL_act (wsV RL 53 RX0 yX0_run wsX0_run) := goodIn_app (goodIn_of _ (by decide +kernel)) ggL_act_X0_run
set_option maxRecDepth 20000 in
theorem ggL_act_L_count : GoodIn wsL_act wsL_count := goodIn_ca (goodIn_r _ [131, 54, 55, 56, 8, 57, 58, 59, 60, 61, 62, 63, 64, 65, 66, 67, 14, 15, 16, 17, 18, 178, 179, 180, 181, 182, 183, 184, 185, 186, 187, 188, 189, 190, 191, 192, 193, 194] (by decide +kernel) (by decide +kernel)) (goodIn_sub (fun _ h => List.mem_cons_of_mem _ (List.mem_append_left _ (List.mem_append_left _ (List.mem_append_right _ h)))) (by decide +kernel))
set_option maxRecDepth 20000 in
theorem gL_act_L_count : GoodIn wsL_act (va_wsS RL 56 yL_count wsL_count) := goodIn_app (goodIn_of _ (by decide +kernel)) ggL_act_L_count
set_option maxRecDepth 20000 in
theorem ggL_act_X0_miss : GoodIn wsL_act wsX0_miss := goodIn_ca (goodIn_ca (goodIn_r _ [135, 38, 39, 63, 58, 64, 65, 66, 8, 67, 14, 15, 16, 17, 18, 136, 137, 138, 139, 75, 178, 179, 180, 181, 182, 183, 184, 185, 186, 187, 188, 189, 190, 191, 192, 193, 194] (by decide +kernel) (by decide +kernel)) (goodIn_sub (fun _ h => List.mem_cons_of_mem _ (List.mem_append_right _ h)) (by decide +kernel))) (goodIn_sub (fun _ h => List.mem_cons_of_mem _ (List.mem_append_left _ (List.mem_append_left _ (List.mem_append_right _ h)))) (by decide +kernel))
set_option maxRecDepth 20000 in
theorem gL_act_X0_miss : GoodIn wsL_act (wsV RL 60 RX0 yX0_miss wsX0_miss) := goodIn_app (goodIn_of _ (by decide +kernel)) ggL_act_X0_miss
set_option maxRecDepth 20000 in
theorem ggL_act_X0_canCall : GoodIn wsL_act wsX0_canCall := goodIn_ca (goodIn_r _ [143, 64, 65, 66, 8, 67, 14, 15, 58, 16, 17, 18, 91, 92, 93, 94, 63, 95, 96, 97, 98, 75, 99, 100, 101, 102, 73, 74, 72, 23, 10, 103, 104, 105, 106, 107, 51, 52, 53, 108, 109, 110, 111, 178, 179, 180, 181, 182, 183, 184, 185, 186, 187, 188, 189, 190, 191, 192, 193, 194] (by decide +kernel) (by decide +kernel)) (goodIn_sub (fun _ h => List.mem_cons_of_mem _ (List.mem_append_left _ (List.mem_append_left _ (List.mem_append_right _ h)))) (by decide +kernel))
set_option maxRecDepth 20000 in
theorem gL_act_X0_canCall : GoodIn wsL_act (wsV RL 37 RX0 yX0_canCall wsX0_canCall) := goodIn_app (goodIn_of _ (by decide +kernel)) ggL_act_X0_canCall
set_option maxRecDepth 20000 in
theorem ggL_act_X0_call : GoodIn wsL_act wsX0_call := goodIn_ca (goodIn_ca (goodIn_r _ [147, 38, 39, 86, 64, 65, 66, 8, 67, 14, 15, 58, 16, 17, 18, 91, 92, 93, 94, 63, 95, 96, 97, 98, 75, 99, 100, 101, 102, 73, 74, 72, 23, 10, 103, 104, 105, 106, 107, 51, 52, 53, 108, 109, 110, 111, 112, 113, 114, 115, 116, 117, 118, 119, 28, 120, 121, 122, 123, 124, 125, 126, 127, 128, 178, 179, 180, 181, 182, 183, 184, 185, 186, 187, 188, 189, 190, 191, 192, 193, 194] (by decide +kernel) (by decide +kernel)) (goodIn_sub (fun _ h => List.mem_cons_of_mem _ (List.mem_append_right _ h)) (by decide +kernel))) (goodIn_sub (fun _ h => List.mem_cons_of_mem _ (List.mem_append_left _ (List.mem_append_left _ (List.mem_append_right _ h)))) (by decide +kernel))
set_option maxRecDepth 20000 in
theorem gL_act_X0_call : GoodIn wsL_act (wsV RL 63 RX0 yX0_call wsX0_call) := goodIn_app (goodIn_of _ (by decide +kernel)) ggL_act_X0_call
set_option maxRecDepth 20000 in
theorem ggL_act_X0_purse : GoodIn wsL_act wsX0_purse := goodIn_r _ [151, 152, 178, 179, 180, 181, 182, 183, 184, 185, 186, 187, 188, 189, 190, 191, 192, 193, 194] (by decide +kernel) (by decide +kernel)
set_option maxRecDepth 20000 in
theorem gL_act_X0_purse : GoodIn wsL_act (wsV RL 66 RX0 yX0_purse wsX0_purse) := goodIn_app (goodIn_of _ (by decide +kernel)) ggL_act_X0_purse
set_option maxRecDepth 20000 in
theorem ggL_act_X0_plays : GoodIn wsL_act wsX0_plays := goodIn_r _ [156, 157, 178, 179, 180, 181, 182, 183, 184, 185, 186, 187, 188, 189, 190, 191, 192, 193, 194] (by decide +kernel) (by decide +kernel)
set_option maxRecDepth 20000 in
theorem gL_act_X0_plays : GoodIn wsL_act (wsV RL 69 RX0 yX0_plays wsX0_plays) := goodIn_app (goodIn_of _ (by decide +kernel)) ggL_act_X0_plays
set_option maxRecDepth 20000 in
theorem ggL_act_X0_endPlay : GoodIn wsL_act wsX0_endPlay := goodIn_ca (goodIn_r _ [161, 38, 39, 152, 162, 163, 45, 164, 157, 58, 86, 165, 166, 167, 8, 168, 63, 169, 170, 171, 172, 103, 23, 173, 174, 175, 176, 177, 178, 179, 180, 181, 182, 183, 184, 185, 186, 187, 188, 189, 190, 191, 192, 193, 194] (by decide +kernel) (by decide +kernel)) (goodIn_sub (fun _ h => List.mem_cons_of_mem _ (List.mem_append_right _ h)) (by decide +kernel))
set_option maxRecDepth 20000 in
theorem gL_act_X0_endPlay : GoodIn wsL_act (wsV RL 72 RX0 yX0_endPlay wsX0_endPlay) := goodIn_app (goodIn_of _ (by decide +kernel)) ggL_act_X0_endPlay
