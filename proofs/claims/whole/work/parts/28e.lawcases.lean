set_option maxHeartbeats 4000000 in
set_option maxRecDepth 100000 in
theorem law_case_16 {p_ : Program} {l : Launch} {e_ : Env} {s_ : State} {m_ : MethodId} {below : List Frame} {meth : Method} {c_ : Code} {D : va_G} {cI cZ cJ : ClassId} {b0 L : Nat} {xs : Nat → Int32} {x_ y_ ou : Nat} {a_ b_ : Nat → Nat} (hL : L ≤ 2560) (hfl : l.stackTraces = false) (C0_ : lw_At p_ s_ m_ meth c_ b0 L xs) (hG : xG (fun q_ => s_.heap.size ≤ q_) s_ s_.heap) (hN_ : xN s_) (hK_ : va_K D vwCl (tyL cI cZ cJ) s_) {k_ : Nat} {i4_ : Int32} (hk : 5 * k_ + 5 ≤ L) (e4_ : i4_ = nI (5 * k_)) {S : ST} {t_ : Int32} {fo : Nat → Int64} (hI_ : Inv (10 + 24 * k_) S) {H : Heap} {locs : List Loc} (hP : va_P D vwCl (wW cI cZ cJ x_ y_ ou a_ b_ S S t_ fo) H) (hD : va_D (fun q_ : Nat => s_.heap.size ≤ q_) (wW cI cZ cJ x_ y_ ou a_ b_ S S t_ fo)) (hS_ : va_S (fun q_ : Nat => s_.heap.size ≤ q_) s_.heap H locs) {ls : Array Slot} (hl : lv_has ls 7 [(0, .ref b0), (1, .ref x_), (2, .ref y_), (3, .ref ou), (4, .int i4_)]) (kont : ∀ (S' : ST) (t' : Int32) (f' : Nat → Int64), Inv (10 + 24 * (k_ + 1)) S' → ∀ (H : Heap) (locs : List Loc), va_P D vwCl (wW cI cZ cJ x_ y_ ou a_ b_ S' S' t' f') H → va_D (fun q_ : Nat => s_.heap.size ≤ q_) (wW cI cZ cJ x_ y_ ou a_ b_ S' S' t' f') → va_S (fun q_ : Nat => s_.heap.size ≤ q_) s_.heap H locs → ∀ ls : Array Slot, lv_has ls 7 [(0, .ref b0), (1, .ref x_), (2, .ref y_), (3, .ref ou), (4, .int i4_)] → W p_ l e_ room_1 s_ m_ #[Value.ref b0] below meth c_ H locs (29 + k_ + 1) (430 + 6 * k_ + 6) (lw_Z below #[Value.ref b0] s_) (F0 m_ 1161 ls [])) : W p_ l e_ room_1 s_ m_ #[Value.ref b0] below meth c_ H locs (29 + k_) (430 + 6 * k_) (lw_Z below #[Value.ref b0] s_) (F0 m_ 961 ls []) := by
  obtain ⟨hx, hb_, hr, hml, hown, hts, hX, hbl, hlocks, hgv⟩ := C0_
  have hts := fun w_ h_ => hts w_ (wsL_law_in w_ h_)
  have hown : s_.vm.findClass RL = some m_.cls := hown
  have hA : ∀ q_ : Nat, s_.heap.size ≤ q_ → (fun q_ : Nat => s_.heap.size ≤ q_) q_ := fun _ h_ => h_
  have hbA : ¬ (fun q_ : Nat => s_.heap.size ≤ q_) b0 := Nat.not_le.mpr hbl
  refine lv_aload_n hx hb_ dL_law_961 rfl (lv_at hl 1 rfl) ?_
  refine lv_aload_n hx hb_ dL_law_962 rfl (lv_at hl 0 rfl) ?_
  refine lv_iload hx hb_ dL_law_963 (lv_at hl 4 rfl) ?_
  refine lv_iconst (v := 1) hx hb_ dL_law_965 (by decide) ?_
  refine lv_iadd hx hb_ dL_law_966 ?_
  refine va_sld hx hb_ hX hbl hbA hS_ (sidx (jx := 1) e4_ hk hL (by decide)) dL_law_967 ?_
  refine lv_aload_n hx hb_ dL_law_968 rfl (lv_at hl 0 rfl) ?_
  refine lv_iload hx hb_ dL_law_969 (lv_at hl 4 rfl) ?_
  refine lv_iconst (v := 2) hx hb_ dL_law_971 (by decide) ?_
  refine lv_iadd hx hb_ dL_law_972 ?_
  refine va_sld hx hb_ hX hbl hbA hS_ (sidx (jx := 2) e4_ hk hL (by decide)) dL_law_973 ?_
  refine lv_aload_n hx hb_ dL_law_974 rfl (lv_at hl 0 rfl) ?_
  refine lv_iload hx hb_ dL_law_975 (lv_at hl 4 rfl) ?_
  refine lv_iconst (v := 3) hx hb_ dL_law_977 (by decide) ?_
  refine lv_iadd hx hb_ dL_law_978 ?_
  refine va_sld hx hb_ hX hbl hbA hS_ (sidx (jx := 3) e4_ hk hL (by decide)) dL_law_979 ?_
  refine lv_aload_n hx hb_ dL_law_980 rfl (lv_at hl 3 rfl) ?_
  have hPc := hP.sub (ws' := wX cI cZ x_ a_ S ++ [wO cJ ou fo]) [0, 1, 2, 3, 4, 5, 6, 7, 8, 9, 10, 11, 12, 13, 28] rfl
  have hDc := hD.sub (ws' := wX cI cZ x_ a_ S ++ [wO cJ ou fo]) [0, 1, 2, 3, 4, 5, 6, 7, 8, 9, 10, 11, 12, 13, 28] (by decide) rfl
  have hFc := va_free (wc := wX cI cZ x_ a_ S ++ [wO cJ ou fo]) hD hS_ hA [0, 1, 2, 3, 4, 5, 6, 7, 8, 9, 10, 11, 12, 13, 28] rfl
  have hGH : xG (fun q_ => s_.heap.size ≤ q_) s_ H := hG.kept (fun q_ h1 h2 => hS_.2.1 q_ h1 h2)
  refine va_calli (vx_runSW (As := [.ref x_, .int (xs (i4_ + 1).toNatClampNeg), .int (xs (i4_ + 2).toNatClampNeg), .int (xs (i4_ + 3).toNatClampNeg), .ref ou]) (rest := []) ⟨hx, hb_, hml, hown, hts⟩ (c_L_guess l hfl D cI cZ cJ x_ ou a_ S fo H.size (xs (i4_ + 1).toNatClampNeg) (xs (i4_ + 2).toNatClampNeg) (xs (i4_ + 3).toNatClampNeg) ) (vx_cwSW 5 hts gL_law_L_guess rfl rfl rfl (by decide +kernel) ⟨Nat.le_of_ble_eq_true rfl, Nat.le_of_ble_eq_true rfl⟩) (pL_S (pW_S hPc hK_ hDc) hGH (fun _ h_ => Nat.le_trans hS_.1 h_) hN_) rfl rfl hl.1 rfl (lv_room (Nat.le_of_ble_eq_true rfl)) dL_law_981 ⟨by show _ ≤ 1073; omega, by show _ ≤ 8742; omega⟩) hS_ (fun q_ _ h_ => hFc q_ h_) hFc (fun r1_ u1_ t9 H1 locs ht9 hvm9 hw hB9 hz9 hk9 hS_ => ?_)
  obtain ⟨S1, f1_⟩ := u1_
  obtain ⟨v1_, hw1, ho⟩ := hw
  have hJ9 := va_join (wr := wM cI y_ b_ S t_) hP hD [0, 1, 2, 3, 4, 5, 6, 7, 8, 9, 10, 11, 12, 13, 28] [14, 15, 16, 17, 18, 19, 20, 21, 22, 23, 24, 25, 26, 27] rfl rfl (by decide) (by decide) hk9 hFc (atW_P hB9 ht9) hB9.2
  have hP : va_P D vwCl (wW cI cZ cJ x_ y_ ou a_ b_ S1 S t_ f1_) H1 := hJ9.1.sub [14, 15, 16, 17, 18, 19, 20, 21, 22, 23, 24, 25, 26, 27, 0, 1, 2, 3, 4, 5, 6, 7, 8, 9, 10, 11, 12, 13, 28] rfl
  have hD : va_D (fun q_ : Nat => s_.heap.size ≤ q_) (wW cI cZ cJ x_ y_ ou a_ b_ S1 S t_ f1_) := hJ9.2.sub [14, 15, 16, 17, 18, 19, 20, 21, 22, 23, 24, 25, 26, 27, 0, 1, 2, 3, 4, 5, 6, 7, 8, 9, 10, 11, 12, 13, 28] (by decide) rfl
  generalize H1 = H at hP hS_ ⊢
  refine lv_istore (lv' := [(5, .int r1_), (0, .ref b0), (1, .ref x_), (2, .ref y_), (3, .ref ou), (4, .int i4_)]) hx hb_ dL_law_984 hl (by decide) rfl (fun ls hl => ?_)
  refine lv_aload_n hx hb_ dL_law_986 rfl (lv_at hl 3 rfl) ?_
  refine lv_aload_n hx hb_ dL_law_987 rfl (lv_at hl 1 rfl) ?_
  refine lv_iload hx hb_ dL_law_988 (lv_at hl 5 rfl) ?_
  refine lv_iconst (v := 1) hx hb_ dL_law_990 (by decide) ?_
  refine lv_iadd hx hb_ dL_law_991 ?_
  refine va_sld hx hb_ hX hbl hbA hS_ (sidx (jx := 1) e4_ hk hL (by decide)) dL_law_992 ?_
  refine lv_aload_n hx hb_ dL_law_993 rfl (lv_at hl 1 rfl) ?_
  refine lv_iload hx hb_ dL_law_994 (lv_at hl 5 rfl) ?_
  refine lv_iconst (v := 2) hx hb_ dL_law_996 (by decide) ?_
  refine lv_iadd hx hb_ dL_law_997 ?_
  refine va_sld hx hb_ hX hbl hbA hS_ (sidx (jx := 2) e4_ hk hL (by decide)) dL_law_998 ?_
  refine lv_aload_n hx hb_ dL_law_999 rfl (lv_at hl 1 rfl) ?_
  refine lv_iload hx hb_ dL_law_1000 (lv_at hl 5 rfl) ?_
  refine lv_iconst (v := 3) hx hb_ dL_law_1002 (by decide) ?_
  refine lv_iadd hx hb_ dL_law_1003 ?_
  refine va_sld hx hb_ hX hbl hbA hS_ (sidx (jx := 3) e4_ hk hL (by decide)) dL_law_1004 ?_
  have hPc := hP.sub (ws' := wM cI y_ b_ S t_) [14, 15, 16, 17, 18, 19, 20, 21, 22, 23, 24, 25, 26, 27] rfl
  have hDc := hD.sub (ws' := wM cI y_ b_ S t_) [14, 15, 16, 17, 18, 19, 20, 21, 22, 23, 24, 25, 26, 27] (by decide) rfl
  have hFc := va_free (wc := wM cI y_ b_ S t_) hD hS_ hA [14, 15, 16, 17, 18, 19, 20, 21, 22, 23, 24, 25, 26, 27] rfl
  refine va_calli (va_runV (As := [.int (xs (i4_ + 1).toNatClampNeg), .int (xs (i4_ + 2).toNatClampNeg), .int (xs (i4_ + 3).toNatClampNeg)]) (rest := []) ⟨hx, hb_, hml, hown, hts⟩ (c_X1_guess l D cI y_ b_ S t_ H.size (xs (i4_ + 1).toNatClampNeg) (xs (i4_ + 2).toNatClampNeg) (xs (i4_ + 3).toNatClampNeg) (10 + 24 * k_) hI_) (cwV 3 hts gL_law_X1_guess rfl rfl rfl (by decide +kernel) ⟨Nat.le_of_ble_eq_true rfl, Nat.le_of_ble_eq_true rfl⟩) (pW_V (ci := 1) hPc (hK_.sub (tys' := tyM cI) [0] rfl) hDc rfl rfl) rfl rfl hl.1 rfl (lv_room (Nat.le_of_ble_eq_true rfl)) dL_law_1005 ⟨by show _ ≤ 1073; omega, by show _ ≤ 8742; omega⟩) hS_ (fun q_ _ h_ => hFc q_ h_) hFc (fun r2_ u2_ t9 H1 locs ht9 hvm9 hw2 hB9 hz9 hk9 hS_ => ?_)
  obtain ⟨S2, t2_⟩ := u2_
  have hJ9 := va_join (wr := wX cI cZ x_ a_ S1 ++ [wO cJ ou f1_]) hP hD [14, 15, 16, 17, 18, 19, 20, 21, 22, 23, 24, 25, 26, 27] [0, 1, 2, 3, 4, 5, 6, 7, 8, 9, 10, 11, 12, 13, 28] rfl rfl (by decide) (by decide) hk9 hFc (atW_P hB9 ht9) hB9.2
  have hP : va_P D vwCl (wW cI cZ cJ x_ y_ ou a_ b_ S1 S2 t2_ f1_) H1 := hJ9.1.sub [0, 1, 2, 3, 4, 5, 6, 7, 8, 9, 10, 11, 12, 13, 15, 16, 17, 18, 19, 20, 21, 22, 23, 24, 25, 26, 27, 28, 14] rfl
  have hD : va_D (fun q_ : Nat => s_.heap.size ≤ q_) (wW cI cZ cJ x_ y_ ou a_ b_ S1 S2 t2_ f1_) := hJ9.2.sub [0, 1, 2, 3, 4, 5, 6, 7, 8, 9, 10, 11, 12, 13, 15, 16, 17, 18, 19, 20, 21, 22, 23, 24, 25, 26, 27, 28, 14] (by decide) rfl
  generalize H1 = H at hP hS_ ⊢
  obtain ⟨e1_, e23_⟩ := Prod.mk.inj (hw1.symm.trans hw2)
  obtain ⟨e2_, e3_⟩ := Prod.mk.inj e23_
  subst e1_
  subst e2_
  subst e3_
  have hI0 : Inv (10 + 24 * k_) (k_guess S (xs (i4_ + 1).toNatClampNeg) (xs (i4_ + 2).toNatClampNeg) (xs (i4_ + 3).toNatClampNeg)).2.2 := keep_guess hI_ (xs (i4_ + 1).toNatClampNeg) (xs (i4_ + 2).toNatClampNeg) (xs (i4_ + 3).toNatClampNeg)
  rw [hw1] at hI0
  have hI1 : Inv (10 + 24 * (k_ + 1)) S1 := Inv.mono hI0 (by omega)
  refine lv_istore (lv' := [(6, .int v1_), (5, .int r1_), (0, .ref b0), (1, .ref x_), (2, .ref y_), (3, .ref ou), (4, .int i4_)]) hx hb_ dL_law_1008 hl (by decide) rfl (fun ls hl => ?_)
  refine lv_aload_n hx hb_ dL_law_1010 rfl (lv_at hl 4 rfl) ?_
  have hPc := hP.sub (ws' := wM cI y_ b_ S1 r1_) [14, 15, 16, 17, 18, 19, 20, 21, 22, 23, 24, 25, 26, 27] rfl
  refine vp_callSi (W.runV (As := []) (rest := []) ⟨hx, hb_, hml, hown, hts⟩ (c_X1_thrown l D cI y_ b_ S1 r1_  ) (cwV 0 hts gL_law_X1_thrown rfl rfl rfl (by decide +kernel) ⟨Nat.le_of_ble_eq_true rfl, Nat.le_of_ble_eq_true rfl⟩) (pR_V (ci := 1) hPc (hK_.sub (tys' := tyM cI) [0] rfl) rfl rfl) rfl rfl hl.1 rfl (lv_room (Nat.le_of_ble_eq_true rfl)) dL_law_1011 ⟨by show _ ≤ 1073; omega, by show _ ≤ 8742; omega⟩) (fun r3 h3 => ?_)
  replace h3 := h3.symm
  subst h3
  refine lv_iload hx hb_ dL_law_1014 (lv_at hl 1 rfl) ?_
  refine lv_icmp_eq (tgt := 1021) hx hb_ dL_law_1016 (by decide) (fun c_1016 => ?_) (fun c_1016 => absurd rfl c_1016)
  refine lv_iload hx hb_ dL_law_1021 (lv_at hl 1 rfl) ?_
  refine lv_if_ne (tgt := 1045) hx hb_ dL_law_1023 (by decide) (fun c0_ => ?_) (fun c0_ => ?_)
  · skip
    refine lv_goto (tgt := 1161) hx hb_ dL_law_1045 (by decide) ?_
    refine W.widen (k := 29 + k_ + 1) (n := 430 + 6 * k_ + 6) (by omega) (by omega) ?_
    exact kont S1 r1_ f1_ hI1 _ _ hP hD hS_ _ (lv_sub hl [2, 3, 4, 5, 6] rfl)
  · skip
    refine lv_aload_n hx hb_ dL_law_1026 rfl (lv_at hl 5 rfl) ?_
    refine lv_iconst (v := 0) hx hb_ dL_law_1027 (by decide) ?_
    refine va_lald (f := f1_) (n := 1) hx hb_ hK_ hP 28 2 rfl rfl vin01 dL_law_1028 ?_
    refine lv_iload hx hb_ dL_law_1029 (lv_at hl 0 rfl) ?_
    refine lv_if_eq (tgt := 1038) hx hb_ dL_law_1031 (by decide) (fun cb => ?_) (fun cb => ?_)
    · skip
      refine lv_lconst (v := 0) hx hb_ dL_law_1038 (by decide) ?_
      refine W.lcmp hx hb_ dL_law_1039 ?_
      refine lv_if_eq (tgt := 1045) hx hb_ dL_law_1040 (by decide) (fun _ => ?_) (fun z_ => absurd ((lg_cmp_eq _ _).mpr ((ho c0_).trans (if_pos cb))) z_)
      refine lv_goto (tgt := 1161) hx hb_ dL_law_1045 (by decide) ?_
      refine W.widen (k := 29 + k_ + 1) (n := 430 + 6 * k_ + 6) (by omega) (by omega) ?_
      exact kont S1 r1_ f1_ hI1 _ _ hP hD hS_ _ (lv_sub hl [2, 3, 4, 5, 6] rfl)
    · skip
      refine lv_lconst (v := 1) hx hb_ dL_law_1034 (by decide) ?_
      refine lv_goto (tgt := 1039) hx hb_ dL_law_1035 (by decide) ?_
      refine W.lcmp hx hb_ dL_law_1039 ?_
      refine lv_if_eq (tgt := 1045) hx hb_ dL_law_1040 (by decide) (fun _ => ?_) (fun z_ => absurd ((lg_cmp_eq _ _).mpr ((ho c0_).trans (if_neg cb))) z_)
      refine lv_goto (tgt := 1161) hx hb_ dL_law_1045 (by decide) ?_
      refine W.widen (k := 29 + k_ + 1) (n := 430 + 6 * k_ + 6) (by omega) (by omega) ?_
      exact kont S1 r1_ f1_ hI1 _ _ hP hD hS_ _ (lv_sub hl [2, 3, 4, 5, 6] rfl)
set_option maxHeartbeats 4000000 in
set_option maxRecDepth 100000 in
theorem law_case_17 {p_ : Program} {l : Launch} {e_ : Env} {s_ : State} {m_ : MethodId} {below : List Frame} {meth : Method} {c_ : Code} {D : va_G} {cI cZ cJ : ClassId} {b0 L : Nat} {xs : Nat → Int32} {x_ y_ ou : Nat} {a_ b_ : Nat → Nat} (hL : L ≤ 2560) (hfl : l.stackTraces = false) (C0_ : lw_At p_ s_ m_ meth c_ b0 L xs) (hG : xG (fun q_ => s_.heap.size ≤ q_) s_ s_.heap) (hN_ : xN s_) (hK_ : va_K D vwCl (tyL cI cZ cJ) s_) {k_ : Nat} {i4_ : Int32} (hk : 5 * k_ + 5 ≤ L) (e4_ : i4_ = nI (5 * k_)) {S : ST} {t_ : Int32} {fo : Nat → Int64} (hI_ : Inv (10 + 24 * k_) S) {H : Heap} {locs : List Loc} (hP : va_P D vwCl (wW cI cZ cJ x_ y_ ou a_ b_ S S t_ fo) H) (hD : va_D (fun q_ : Nat => s_.heap.size ≤ q_) (wW cI cZ cJ x_ y_ ou a_ b_ S S t_ fo)) (hS_ : va_S (fun q_ : Nat => s_.heap.size ≤ q_) s_.heap H locs) {ls : Array Slot} (hl : lv_has ls 7 [(0, .ref b0), (1, .ref x_), (2, .ref y_), (3, .ref ou), (4, .int i4_)]) (kont : ∀ (S' : ST) (t' : Int32) (f' : Nat → Int64), Inv (10 + 24 * (k_ + 1)) S' → ∀ (H : Heap) (locs : List Loc), va_P D vwCl (wW cI cZ cJ x_ y_ ou a_ b_ S' S' t' f') H → va_D (fun q_ : Nat => s_.heap.size ≤ q_) (wW cI cZ cJ x_ y_ ou a_ b_ S' S' t' f') → va_S (fun q_ : Nat => s_.heap.size ≤ q_) s_.heap H locs → ∀ ls : Array Slot, lv_has ls 7 [(0, .ref b0), (1, .ref x_), (2, .ref y_), (3, .ref ou), (4, .int i4_)] → W p_ l e_ room_1 s_ m_ #[Value.ref b0] below meth c_ H locs (29 + k_ + 1) (430 + 6 * k_ + 6) (lw_Z below #[Value.ref b0] s_) (F0 m_ 1161 ls [])) : W p_ l e_ room_1 s_ m_ #[Value.ref b0] below meth c_ H locs (29 + k_) (430 + 6 * k_) (lw_Z below #[Value.ref b0] s_) (F0 m_ 1048 ls []) := by
  obtain ⟨hx, hb_, hr, hml, hown, hts, hX, hbl, hlocks, hgv⟩ := C0_
  have hts := fun w_ h_ => hts w_ (wsL_law_in w_ h_)
  have hown : s_.vm.findClass RL = some m_.cls := hown
  have hA : ∀ q_ : Nat, s_.heap.size ≤ q_ → (fun q_ : Nat => s_.heap.size ≤ q_) q_ := fun _ h_ => h_
  have hbA : ¬ (fun q_ : Nat => s_.heap.size ≤ q_) b0 := Nat.not_le.mpr hbl
  refine lv_aload_n hx hb_ dL_law_1048 rfl (lv_at hl 1 rfl) ?_
  refine lv_aload_n hx hb_ dL_law_1049 rfl (lv_at hl 0 rfl) ?_
  refine lv_iload hx hb_ dL_law_1050 (lv_at hl 4 rfl) ?_
  refine lv_iconst (v := 1) hx hb_ dL_law_1052 (by decide) ?_
  refine lv_iadd hx hb_ dL_law_1053 ?_
  refine va_sld hx hb_ hX hbl hbA hS_ (sidx (jx := 1) e4_ hk hL (by decide)) dL_law_1054 ?_
  refine lv_aload_n hx hb_ dL_law_1055 rfl (lv_at hl 3 rfl) ?_
  have hPc := hP.sub (ws' := wX cI cZ x_ a_ S ++ [wO cJ ou fo]) [0, 1, 2, 3, 4, 5, 6, 7, 8, 9, 10, 11, 12, 13, 28] rfl
  have hDc := hD.sub (ws' := wX cI cZ x_ a_ S ++ [wO cJ ou fo]) [0, 1, 2, 3, 4, 5, 6, 7, 8, 9, 10, 11, 12, 13, 28] (by decide) rfl
  have hFc := va_free (wc := wX cI cZ x_ a_ S ++ [wO cJ ou fo]) hD hS_ hA [0, 1, 2, 3, 4, 5, 6, 7, 8, 9, 10, 11, 12, 13, 28] rfl
  have hGH : xG (fun q_ => s_.heap.size ≤ q_) s_ H := hG.kept (fun q_ h1 h2 => hS_.2.1 q_ h1 h2)
  refine va_calli (vx_runSW (As := [.ref x_, .int (xs (i4_ + 1).toNatClampNeg), .ref ou]) (rest := []) ⟨hx, hb_, hml, hown, hts⟩ (c_L_points l hfl D cI cZ cJ x_ ou a_ S fo H.size (xs (i4_ + 1).toNatClampNeg) ) (vx_cwSW 3 hts gL_law_L_points rfl rfl rfl (by decide +kernel) ⟨Nat.le_of_ble_eq_true rfl, Nat.le_of_ble_eq_true rfl⟩) (pL_S (pW_S hPc hK_ hDc) hGH (fun _ h_ => Nat.le_trans hS_.1 h_) hN_) rfl rfl hl.1 rfl (lv_room (Nat.le_of_ble_eq_true rfl)) dL_law_1056 ⟨by show _ ≤ 1073; omega, by show _ ≤ 8742; omega⟩) hS_ (fun q_ _ h_ => hFc q_ h_) hFc (fun r1_ u1_ t9 H1 locs ht9 hvm9 hw hB9 hz9 hk9 hS_ => ?_)
  obtain ⟨S1, f1_⟩ := u1_
  obtain ⟨v1_, hw1, ho⟩ := hw
  have hJ9 := va_join (wr := wM cI y_ b_ S t_) hP hD [0, 1, 2, 3, 4, 5, 6, 7, 8, 9, 10, 11, 12, 13, 28] [14, 15, 16, 17, 18, 19, 20, 21, 22, 23, 24, 25, 26, 27] rfl rfl (by decide) (by decide) hk9 hFc (atW_P hB9 ht9) hB9.2
  have hP : va_P D vwCl (wW cI cZ cJ x_ y_ ou a_ b_ S1 S t_ f1_) H1 := hJ9.1.sub [14, 15, 16, 17, 18, 19, 20, 21, 22, 23, 24, 25, 26, 27, 0, 1, 2, 3, 4, 5, 6, 7, 8, 9, 10, 11, 12, 13, 28] rfl
  have hD : va_D (fun q_ : Nat => s_.heap.size ≤ q_) (wW cI cZ cJ x_ y_ ou a_ b_ S1 S t_ f1_) := hJ9.2.sub [14, 15, 16, 17, 18, 19, 20, 21, 22, 23, 24, 25, 26, 27, 0, 1, 2, 3, 4, 5, 6, 7, 8, 9, 10, 11, 12, 13, 28] (by decide) rfl
  generalize H1 = H at hP hS_ ⊢
  refine lv_istore (lv' := [(5, .int r1_), (0, .ref b0), (1, .ref x_), (2, .ref y_), (3, .ref ou), (4, .int i4_)]) hx hb_ dL_law_1059 hl (by decide) rfl (fun ls hl => ?_)
  refine lv_aload_n hx hb_ dL_law_1061 rfl (lv_at hl 3 rfl) ?_
  refine lv_aload_n hx hb_ dL_law_1062 rfl (lv_at hl 1 rfl) ?_
  refine lv_iload hx hb_ dL_law_1063 (lv_at hl 5 rfl) ?_
  refine lv_iconst (v := 1) hx hb_ dL_law_1065 (by decide) ?_
  refine lv_iadd hx hb_ dL_law_1066 ?_
  refine va_sld hx hb_ hX hbl hbA hS_ (sidx (jx := 1) e4_ hk hL (by decide)) dL_law_1067 ?_
  have hPc := hP.sub (ws' := wM cI y_ b_ S t_) [14, 15, 16, 17, 18, 19, 20, 21, 22, 23, 24, 25, 26, 27] rfl
  have hDc := hD.sub (ws' := wM cI y_ b_ S t_) [14, 15, 16, 17, 18, 19, 20, 21, 22, 23, 24, 25, 26, 27] (by decide) rfl
  have hFc := va_free (wc := wM cI y_ b_ S t_) hD hS_ hA [14, 15, 16, 17, 18, 19, 20, 21, 22, 23, 24, 25, 26, 27] rfl
  refine va_calli (va_runV (As := [.int (xs (i4_ + 1).toNatClampNeg)]) (rest := []) ⟨hx, hb_, hml, hown, hts⟩ (c_X1_points l D cI y_ b_ S t_ H.size (xs (i4_ + 1).toNatClampNeg) ) (cwV 1 hts gL_law_X1_points rfl rfl rfl (by decide +kernel) ⟨Nat.le_of_ble_eq_true rfl, Nat.le_of_ble_eq_true rfl⟩) (pW_V (ci := 1) hPc (hK_.sub (tys' := tyM cI) [0] rfl) hDc rfl rfl) rfl rfl hl.1 rfl (lv_room (Nat.le_of_ble_eq_true rfl)) dL_law_1068 ⟨by show _ ≤ 1073; omega, by show _ ≤ 8742; omega⟩) hS_ (fun q_ _ h_ => hFc q_ h_) hFc (fun r2_ u2_ t9 H1 locs ht9 hvm9 hw2 hB9 hz9 hk9 hS_ => ?_)
  obtain ⟨S2, t2_⟩ := u2_
  have hJ9 := va_join (wr := wX cI cZ x_ a_ S1 ++ [wO cJ ou f1_]) hP hD [14, 15, 16, 17, 18, 19, 20, 21, 22, 23, 24, 25, 26, 27] [0, 1, 2, 3, 4, 5, 6, 7, 8, 9, 10, 11, 12, 13, 28] rfl rfl (by decide) (by decide) hk9 hFc (atW_P hB9 ht9) hB9.2
  have hP : va_P D vwCl (wW cI cZ cJ x_ y_ ou a_ b_ S1 S2 t2_ f1_) H1 := hJ9.1.sub [0, 1, 2, 3, 4, 5, 6, 7, 8, 9, 10, 11, 12, 13, 15, 16, 17, 18, 19, 20, 21, 22, 23, 24, 25, 26, 27, 28, 14] rfl
  have hD : va_D (fun q_ : Nat => s_.heap.size ≤ q_) (wW cI cZ cJ x_ y_ ou a_ b_ S1 S2 t2_ f1_) := hJ9.2.sub [0, 1, 2, 3, 4, 5, 6, 7, 8, 9, 10, 11, 12, 13, 15, 16, 17, 18, 19, 20, 21, 22, 23, 24, 25, 26, 27, 28, 14] (by decide) rfl
  generalize H1 = H at hP hS_ ⊢
  obtain ⟨e1_, e23_⟩ := Prod.mk.inj (hw1.symm.trans hw2)
  obtain ⟨e2_, e3_⟩ := Prod.mk.inj e23_
  subst e1_
  subst e2_
  subst e3_
  have hI0 : Inv (10 + 24 * k_) (k_points S (xs (i4_ + 1).toNatClampNeg)).2.2 := cif_elim (fun z_ : KR => Inv (10 + 24 * k_) z_.2.2) (fun _ => hI_) (fun _ => hI_)
  rw [hw1] at hI0
  have hI1 : Inv (10 + 24 * (k_ + 1)) S1 := Inv.mono hI0 (by omega)
  refine lv_istore (lv' := [(6, .int v1_), (5, .int r1_), (0, .ref b0), (1, .ref x_), (2, .ref y_), (3, .ref ou), (4, .int i4_)]) hx hb_ dL_law_1071 hl (by decide) rfl (fun ls hl => ?_)
  refine lv_aload_n hx hb_ dL_law_1073 rfl (lv_at hl 4 rfl) ?_
  have hPc := hP.sub (ws' := wM cI y_ b_ S1 r1_) [14, 15, 16, 17, 18, 19, 20, 21, 22, 23, 24, 25, 26, 27] rfl
  refine vp_callSi (W.runV (As := []) (rest := []) ⟨hx, hb_, hml, hown, hts⟩ (c_X1_thrown l D cI y_ b_ S1 r1_  ) (cwV 0 hts gL_law_X1_thrown rfl rfl rfl (by decide +kernel) ⟨Nat.le_of_ble_eq_true rfl, Nat.le_of_ble_eq_true rfl⟩) (pR_V (ci := 1) hPc (hK_.sub (tys' := tyM cI) [0] rfl) rfl rfl) rfl rfl hl.1 rfl (lv_room (Nat.le_of_ble_eq_true rfl)) dL_law_1074 ⟨by show _ ≤ 1073; omega, by show _ ≤ 8742; omega⟩) (fun r3 h3 => ?_)
  replace h3 := h3.symm
  subst h3
  refine lv_iload hx hb_ dL_law_1077 (lv_at hl 1 rfl) ?_
  refine lv_icmp_eq (tgt := 1084) hx hb_ dL_law_1079 (by decide) (fun c_1079 => ?_) (fun c_1079 => absurd rfl c_1079)
  refine lv_iload hx hb_ dL_law_1084 (lv_at hl 1 rfl) ?_
  refine lv_if_ne (tgt := 1101) hx hb_ dL_law_1086 (by decide) (fun c0_ => ?_) (fun c0_ => ?_)
  · skip
    refine lv_goto (tgt := 1161) hx hb_ dL_law_1101 (by decide) ?_
    refine W.widen (k := 29 + k_ + 1) (n := 430 + 6 * k_ + 6) (by omega) (by omega) ?_
    exact kont S1 r1_ f1_ hI1 _ _ hP hD hS_ _ (lv_sub hl [2, 3, 4, 5, 6] rfl)
  · skip
    refine lv_aload_n hx hb_ dL_law_1089 rfl (lv_at hl 5 rfl) ?_
    refine lv_iconst (v := 0) hx hb_ dL_law_1090 (by decide) ?_
    refine va_lald (f := f1_) (n := 1) hx hb_ hK_ hP 28 2 rfl rfl vin01 dL_law_1091 ?_
    refine lv_iload hx hb_ dL_law_1092 (lv_at hl 0 rfl) ?_
    refine lv_i2l (v := v1_.toInt64) hx hb_ dL_law_1094 rfl ?_
    refine W.lcmp hx hb_ dL_law_1095 ?_
    refine lv_if_eq (tgt := 1101) hx hb_ dL_law_1096 (by decide) (fun _ => ?_) (fun z_ => absurd ((lg_cmp_eq _ _).mpr (ho c0_)) z_)
    refine lv_goto (tgt := 1161) hx hb_ dL_law_1101 (by decide) ?_
    refine W.widen (k := 29 + k_ + 1) (n := 430 + 6 * k_ + 6) (by omega) (by omega) ?_
    exact kont S1 r1_ f1_ hI1 _ _ hP hD hS_ _ (lv_sub hl [2, 3, 4, 5, 6] rfl)
set_option maxHeartbeats 4000000 in
set_option maxRecDepth 100000 in
theorem law_case_18 {p_ : Program} {l : Launch} {e_ : Env} {s_ : State} {m_ : MethodId} {below : List Frame} {meth : Method} {c_ : Code} {D : va_G} {cI cZ cJ : ClassId} {b0 L : Nat} {xs : Nat → Int32} {x_ y_ ou : Nat} {a_ b_ : Nat → Nat} (hL : L ≤ 2560) (hfl : l.stackTraces = false) (C0_ : lw_At p_ s_ m_ meth c_ b0 L xs) (hG : xG (fun q_ => s_.heap.size ≤ q_) s_ s_.heap) (hN_ : xN s_) (hK_ : va_K D vwCl (tyL cI cZ cJ) s_) {k_ : Nat} {i4_ : Int32} (hk : 5 * k_ + 5 ≤ L) (e4_ : i4_ = nI (5 * k_)) {S : ST} {t_ : Int32} {fo : Nat → Int64} (hI_ : Inv (10 + 24 * k_) S) {H : Heap} {locs : List Loc} (hP : va_P D vwCl (wW cI cZ cJ x_ y_ ou a_ b_ S S t_ fo) H) (hD : va_D (fun q_ : Nat => s_.heap.size ≤ q_) (wW cI cZ cJ x_ y_ ou a_ b_ S S t_ fo)) (hS_ : va_S (fun q_ : Nat => s_.heap.size ≤ q_) s_.heap H locs) {ls : Array Slot} (hl : lv_has ls 7 [(0, .ref b0), (1, .ref x_), (2, .ref y_), (3, .ref ou), (4, .int i4_)]) (kont : ∀ (S' : ST) (t' : Int32) (f' : Nat → Int64), Inv (10 + 24 * (k_ + 1)) S' → ∀ (H : Heap) (locs : List Loc), va_P D vwCl (wW cI cZ cJ x_ y_ ou a_ b_ S' S' t' f') H → va_D (fun q_ : Nat => s_.heap.size ≤ q_) (wW cI cZ cJ x_ y_ ou a_ b_ S' S' t' f') → va_S (fun q_ : Nat => s_.heap.size ≤ q_) s_.heap H locs → ∀ ls : Array Slot, lv_has ls 7 [(0, .ref b0), (1, .ref x_), (2, .ref y_), (3, .ref ou), (4, .int i4_)] → W p_ l e_ room_1 s_ m_ #[Value.ref b0] below meth c_ H locs (29 + k_ + 1) (430 + 6 * k_ + 6) (lw_Z below #[Value.ref b0] s_) (F0 m_ 1161 ls [])) : W p_ l e_ room_1 s_ m_ #[Value.ref b0] below meth c_ H locs (29 + k_) (430 + 6 * k_) (lw_Z below #[Value.ref b0] s_) (F0 m_ 1104 ls []) := by
  obtain ⟨hx, hb_, hr, hml, hown, hts, hX, hbl, hlocks, hgv⟩ := C0_
  have hts := fun w_ h_ => hts w_ (wsL_law_in w_ h_)
  have hown : s_.vm.findClass RL = some m_.cls := hown
  have hA : ∀ q_ : Nat, s_.heap.size ≤ q_ → (fun q_ : Nat => s_.heap.size ≤ q_) q_ := fun _ h_ => h_
  have hbA : ¬ (fun q_ : Nat => s_.heap.size ≤ q_) b0 := Nat.not_le.mpr hbl
  refine lv_aload_n hx hb_ dL_law_1104 rfl (lv_at hl 1 rfl) ?_
  refine lv_aload_n hx hb_ dL_law_1105 rfl (lv_at hl 3 rfl) ?_
  have hPc := hP.sub (ws' := wX cI cZ x_ a_ S ++ [wO cJ ou fo]) [0, 1, 2, 3, 4, 5, 6, 7, 8, 9, 10, 11, 12, 13, 28] rfl
  have hDc := hD.sub (ws' := wX cI cZ x_ a_ S ++ [wO cJ ou fo]) [0, 1, 2, 3, 4, 5, 6, 7, 8, 9, 10, 11, 12, 13, 28] (by decide) rfl
  have hFc := va_free (wc := wX cI cZ x_ a_ S ++ [wO cJ ou fo]) hD hS_ hA [0, 1, 2, 3, 4, 5, 6, 7, 8, 9, 10, 11, 12, 13, 28] rfl
  have hGH : xG (fun q_ => s_.heap.size ≤ q_) s_ H := hG.kept (fun q_ h1 h2 => hS_.2.1 q_ h1 h2)
  refine va_calli (vx_runSW (As := [.ref x_, .ref ou]) (rest := []) ⟨hx, hb_, hml, hown, hts⟩ (c_L_endPlay l hfl D cI cZ cJ x_ ou a_ S fo H.size  (10 + 24 * k_) hI_ (by omega)) (vx_cwSW 2 hts gL_law_L_endPlay rfl rfl rfl (by decide +kernel) ⟨Nat.le_of_ble_eq_true rfl, Nat.le_of_ble_eq_true rfl⟩) (pL_S (pW_S hPc hK_ hDc) hGH (fun _ h_ => Nat.le_trans hS_.1 h_) hN_) rfl rfl hl.1 rfl (lv_room (Nat.le_of_ble_eq_true rfl)) dL_law_1106 ⟨by show _ ≤ 1073; omega, by show _ ≤ 8742; omega⟩) hS_ (fun q_ _ h_ => hFc q_ h_) hFc (fun r1_ u1_ t9 H1 locs ht9 hvm9 hw hB9 hz9 hk9 hS_ => ?_)
  obtain ⟨S1, f1_⟩ := u1_
  obtain ⟨v1_, hw1, ho⟩ := hw
  have hJ9 := va_join (wr := wM cI y_ b_ S t_) hP hD [0, 1, 2, 3, 4, 5, 6, 7, 8, 9, 10, 11, 12, 13, 28] [14, 15, 16, 17, 18, 19, 20, 21, 22, 23, 24, 25, 26, 27] rfl rfl (by decide) (by decide) hk9 hFc (atW_P hB9 ht9) hB9.2
  have hP : va_P D vwCl (wW cI cZ cJ x_ y_ ou a_ b_ S1 S t_ f1_) H1 := hJ9.1.sub [14, 15, 16, 17, 18, 19, 20, 21, 22, 23, 24, 25, 26, 27, 0, 1, 2, 3, 4, 5, 6, 7, 8, 9, 10, 11, 12, 13, 28] rfl
  have hD : va_D (fun q_ : Nat => s_.heap.size ≤ q_) (wW cI cZ cJ x_ y_ ou a_ b_ S1 S t_ f1_) := hJ9.2.sub [14, 15, 16, 17, 18, 19, 20, 21, 22, 23, 24, 25, 26, 27, 0, 1, 2, 3, 4, 5, 6, 7, 8, 9, 10, 11, 12, 13, 28] (by decide) rfl
  generalize H1 = H at hP hS_ ⊢
  refine lv_istore (lv' := [(5, .int r1_), (0, .ref b0), (1, .ref x_), (2, .ref y_), (3, .ref ou), (4, .int i4_)]) hx hb_ dL_law_1109 hl (by decide) rfl (fun ls hl => ?_)
  refine lv_aload_n hx hb_ dL_law_1111 rfl (lv_at hl 3 rfl) ?_
  have hPc := hP.sub (ws' := wM cI y_ b_ S t_) [14, 15, 16, 17, 18, 19, 20, 21, 22, 23, 24, 25, 26, 27] rfl
  have hDc := hD.sub (ws' := wM cI y_ b_ S t_) [14, 15, 16, 17, 18, 19, 20, 21, 22, 23, 24, 25, 26, 27] (by decide) rfl
  have hFc := va_free (wc := wM cI y_ b_ S t_) hD hS_ hA [14, 15, 16, 17, 18, 19, 20, 21, 22, 23, 24, 25, 26, 27] rfl
  refine va_calli (va_runV (As := []) (rest := []) ⟨hx, hb_, hml, hown, hts⟩ (c_X1_endPlay l D cI y_ b_ S t_ H.size  (10 + 24 * k_) hI_) (cwV 0 hts gL_law_X1_endPlay rfl rfl rfl (by decide +kernel) ⟨Nat.le_of_ble_eq_true rfl, Nat.le_of_ble_eq_true rfl⟩) (pW_V (ci := 1) hPc (hK_.sub (tys' := tyM cI) [0] rfl) hDc rfl rfl) rfl rfl hl.1 rfl (lv_room (Nat.le_of_ble_eq_true rfl)) dL_law_1112 ⟨by show _ ≤ 1073; omega, by show _ ≤ 8742; omega⟩) hS_ (fun q_ _ h_ => hFc q_ h_) hFc (fun r2_ u2_ t9 H1 locs ht9 hvm9 hw2 hB9 hz9 hk9 hS_ => ?_)
  obtain ⟨S2, t2_⟩ := u2_
  have hJ9 := va_join (wr := wX cI cZ x_ a_ S1 ++ [wO cJ ou f1_]) hP hD [14, 15, 16, 17, 18, 19, 20, 21, 22, 23, 24, 25, 26, 27] [0, 1, 2, 3, 4, 5, 6, 7, 8, 9, 10, 11, 12, 13, 28] rfl rfl (by decide) (by decide) hk9 hFc (atW_P hB9 ht9) hB9.2
  have hP : va_P D vwCl (wW cI cZ cJ x_ y_ ou a_ b_ S1 S2 t2_ f1_) H1 := hJ9.1.sub [0, 1, 2, 3, 4, 5, 6, 7, 8, 9, 10, 11, 12, 13, 15, 16, 17, 18, 19, 20, 21, 22, 23, 24, 25, 26, 27, 28, 14] rfl
  have hD : va_D (fun q_ : Nat => s_.heap.size ≤ q_) (wW cI cZ cJ x_ y_ ou a_ b_ S1 S2 t2_ f1_) := hJ9.2.sub [0, 1, 2, 3, 4, 5, 6, 7, 8, 9, 10, 11, 12, 13, 15, 16, 17, 18, 19, 20, 21, 22, 23, 24, 25, 26, 27, 28, 14] (by decide) rfl
  generalize H1 = H at hP hS_ ⊢
  obtain ⟨e1_, e23_⟩ := Prod.mk.inj (hw1.symm.trans hw2)
  obtain ⟨e2_, e3_⟩ := Prod.mk.inj e23_
  subst e1_
  subst e2_
  subst e3_
  have hI0 : Inv (10 + 24 * k_ + 24) (k_endPlay S).2.2 := keep_endPlay hI_ (by omega)
  rw [hw1] at hI0
  have hI1 : Inv (10 + 24 * (k_ + 1)) S1 := Inv.mono hI0 (by omega)
  refine lv_istore (lv' := [(6, .int v1_), (5, .int r1_), (0, .ref b0), (1, .ref x_), (2, .ref y_), (3, .ref ou), (4, .int i4_)]) hx hb_ dL_law_1115 hl (by decide) rfl (fun ls hl => ?_)
  refine lv_aload_n hx hb_ dL_law_1117 rfl (lv_at hl 4 rfl) ?_
  have hPc := hP.sub (ws' := wM cI y_ b_ S1 r1_) [14, 15, 16, 17, 18, 19, 20, 21, 22, 23, 24, 25, 26, 27] rfl
  refine vp_callSi (W.runV (As := []) (rest := []) ⟨hx, hb_, hml, hown, hts⟩ (c_X1_thrown l D cI y_ b_ S1 r1_  ) (cwV 0 hts gL_law_X1_thrown rfl rfl rfl (by decide +kernel) ⟨Nat.le_of_ble_eq_true rfl, Nat.le_of_ble_eq_true rfl⟩) (pR_V (ci := 1) hPc (hK_.sub (tys' := tyM cI) [0] rfl) rfl rfl) rfl rfl hl.1 rfl (lv_room (Nat.le_of_ble_eq_true rfl)) dL_law_1118 ⟨by show _ ≤ 1073; omega, by show _ ≤ 8742; omega⟩) (fun r3 h3 => ?_)
  replace h3 := h3.symm
  subst h3
  refine lv_iload hx hb_ dL_law_1121 (lv_at hl 1 rfl) ?_
  refine lv_icmp_eq (tgt := 1128) hx hb_ dL_law_1123 (by decide) (fun c_1123 => ?_) (fun c_1123 => absurd rfl c_1123)
  refine lv_iload hx hb_ dL_law_1128 (lv_at hl 1 rfl) ?_
  refine lv_if_ne (tgt := 1145) hx hb_ dL_law_1130 (by decide) (fun c0_ => ?_) (fun c0_ => ?_)
  · skip
    refine lv_goto (tgt := 1161) hx hb_ dL_law_1145 (by decide) ?_
    refine W.widen (k := 29 + k_ + 1) (n := 430 + 6 * k_ + 6) (by omega) (by omega) ?_
    exact kont S1 r1_ f1_ hI1 _ _ hP hD hS_ _ (lv_sub hl [2, 3, 4, 5, 6] rfl)
  · skip
    refine lv_aload_n hx hb_ dL_law_1133 rfl (lv_at hl 5 rfl) ?_
    refine lv_iconst (v := 0) hx hb_ dL_law_1134 (by decide) ?_
    refine va_lald (f := f1_) (n := 1) hx hb_ hK_ hP 28 2 rfl rfl vin01 dL_law_1135 ?_
    refine lv_iload hx hb_ dL_law_1136 (lv_at hl 0 rfl) ?_
    refine lv_i2l (v := v1_.toInt64) hx hb_ dL_law_1138 rfl ?_
    refine W.lcmp hx hb_ dL_law_1139 ?_
    refine lv_if_eq (tgt := 1145) hx hb_ dL_law_1140 (by decide) (fun _ => ?_) (fun z_ => absurd ((lg_cmp_eq _ _).mpr (ho c0_)) z_)
    refine lv_goto (tgt := 1161) hx hb_ dL_law_1145 (by decide) ?_
    refine W.widen (k := 29 + k_ + 1) (n := 430 + 6 * k_ + 6) (by omega) (by omega) ?_
    exact kont S1 r1_ f1_ hI1 _ _ hP hD hS_ _ (lv_sub hl [2, 3, 4, 5, 6] rfl)
set_option maxHeartbeats 4000000 in
set_option maxRecDepth 100000 in
theorem law_case_19 {p_ : Program} {l : Launch} {e_ : Env} {s_ : State} {m_ : MethodId} {below : List Frame} {meth : Method} {c_ : Code} {D : va_G} {cI cZ cJ : ClassId} {b0 L : Nat} {xs : Nat → Int32} {x_ y_ ou : Nat} {a_ b_ : Nat → Nat} (hL : L ≤ 2560) (hfl : l.stackTraces = false) (C0_ : lw_At p_ s_ m_ meth c_ b0 L xs) (hG : xG (fun q_ => s_.heap.size ≤ q_) s_ s_.heap) (hN_ : xN s_) (hK_ : va_K D vwCl (tyL cI cZ cJ) s_) {k_ : Nat} {i4_ : Int32} (hk : 5 * k_ + 5 ≤ L) (e4_ : i4_ = nI (5 * k_)) {S : ST} {t_ : Int32} {fo : Nat → Int64} (hI_ : Inv (10 + 24 * k_) S) {H : Heap} {locs : List Loc} (hP : va_P D vwCl (wW cI cZ cJ x_ y_ ou a_ b_ S S t_ fo) H) (hD : va_D (fun q_ : Nat => s_.heap.size ≤ q_) (wW cI cZ cJ x_ y_ ou a_ b_ S S t_ fo)) (hS_ : va_S (fun q_ : Nat => s_.heap.size ≤ q_) s_.heap H locs) {ls : Array Slot} (hl : lv_has ls 7 [(0, .ref b0), (1, .ref x_), (2, .ref y_), (3, .ref ou), (4, .int i4_)]) (kont : ∀ (S' : ST) (t' : Int32) (f' : Nat → Int64), Inv (10 + 24 * (k_ + 1)) S' → ∀ (H : Heap) (locs : List Loc), va_P D vwCl (wW cI cZ cJ x_ y_ ou a_ b_ S' S' t' f') H → va_D (fun q_ : Nat => s_.heap.size ≤ q_) (wW cI cZ cJ x_ y_ ou a_ b_ S' S' t' f') → va_S (fun q_ : Nat => s_.heap.size ≤ q_) s_.heap H locs → ∀ ls : Array Slot, lv_has ls 7 [(0, .ref b0), (1, .ref x_), (2, .ref y_), (3, .ref ou), (4, .int i4_)] → W p_ l e_ room_1 s_ m_ #[Value.ref b0] below meth c_ H locs (29 + k_ + 1) (430 + 6 * k_ + 6) (lw_Z below #[Value.ref b0] s_) (F0 m_ 1161 ls [])) : W p_ l e_ room_1 s_ m_ #[Value.ref b0] below meth c_ H locs (29 + k_) (430 + 6 * k_) (lw_Z below #[Value.ref b0] s_) (F0 m_ 1148 ls []) := by
  obtain ⟨hx, hb_, hr, hml, hown, hts, hX, hbl, hlocks, hgv⟩ := C0_
  have hts := fun w_ h_ => hts w_ (wsL_law_in w_ h_)
  have hown : s_.vm.findClass RL = some m_.cls := hown
  have hA : ∀ q_ : Nat, s_.heap.size ≤ q_ → (fun q_ : Nat => s_.heap.size ≤ q_) q_ := fun _ h_ => h_
  have hbA : ¬ (fun q_ : Nat => s_.heap.size ≤ q_) b0 := Nat.not_le.mpr hbl
  refine lv_aload_n hx hb_ dL_law_1148 rfl (lv_at hl 1 rfl) ?_
  have hPc := hP.sub (ws' := wX cI cZ x_ a_ S) [0, 1, 2, 3, 4, 5, 6, 7, 8, 9, 10, 11, 12, 13] rfl
  refine vp_callSi (W.runV (As := []) (rest := []) ⟨hx, hb_, hml, hown, hts⟩ (c_X0_plays l D cI cZ x_ a_ S  ) (cwV 0 hts gL_law_X0_plays rfl rfl rfl (by decide +kernel) ⟨Nat.le_of_ble_eq_true rfl, Nat.le_of_ble_eq_true rfl⟩) (pR_V (ci := 0) hPc (hK_.sub (tys' := tyX cI cZ) [0, 1] rfl) rfl rfl) rfl rfl hl.1 rfl (lv_room (Nat.le_of_ble_eq_true rfl)) dL_law_1149 ⟨by show _ ≤ 1073; omega, by show _ ≤ 8742; omega⟩) (fun r3 h3 => ?_)
  replace h3 := h3.symm
  subst h3
  refine lv_aload_n hx hb_ dL_law_1152 rfl (lv_at hl 2 rfl) ?_
  have hPc := hP.sub (ws' := wM cI y_ b_ S t_) [14, 15, 16, 17, 18, 19, 20, 21, 22, 23, 24, 25, 26, 27] rfl
  have hDc := hD.sub (ws' := wM cI y_ b_ S t_) [14, 15, 16, 17, 18, 19, 20, 21, 22, 23, 24, 25, 26, 27] (by decide) rfl
  have hFc := va_free (wc := wM cI y_ b_ S t_) hD hS_ hA [14, 15, 16, 17, 18, 19, 20, 21, 22, 23, 24, 25, 26, 27] rfl
  refine va_calli (va_runV (As := []) (rest := [.int (S 15 0)]) ⟨hx, hb_, hml, hown, hts⟩ (c_X1_plays l D cI y_ b_ S t_ H.size  ) (cwV 0 hts gL_law_X1_plays rfl rfl rfl (by decide +kernel) ⟨Nat.le_of_ble_eq_true rfl, Nat.le_of_ble_eq_true rfl⟩) (pW_V (ci := 1) hPc (hK_.sub (tys' := tyM cI) [0] rfl) hDc rfl rfl) rfl rfl hl.1 rfl (lv_room (Nat.le_of_ble_eq_true rfl)) dL_law_1153 ⟨by show _ ≤ 1073; omega, by show _ ≤ 8742; omega⟩) hS_ (fun q_ _ h_ => hFc q_ h_) hFc (fun r2_ u2_ t9 H1 locs ht9 hvm9 hw2 hB9 hz9 hk9 hS_ => ?_)
  obtain ⟨S2, t2_⟩ := u2_
  have hJ9 := va_join (wr := wX cI cZ x_ a_ S ++ [wO cJ ou fo]) hP hD [14, 15, 16, 17, 18, 19, 20, 21, 22, 23, 24, 25, 26, 27] [0, 1, 2, 3, 4, 5, 6, 7, 8, 9, 10, 11, 12, 13, 28] rfl rfl (by decide) (by decide) hk9 hFc (atW_P hB9 ht9) hB9.2
  have hP : va_P D vwCl (wW cI cZ cJ x_ y_ ou a_ b_ S S2 t2_ fo) H1 := hJ9.1.sub [0, 1, 2, 3, 4, 5, 6, 7, 8, 9, 10, 11, 12, 13, 15, 16, 17, 18, 19, 20, 21, 22, 23, 24, 25, 26, 27, 28, 14] rfl
  have hD : va_D (fun q_ : Nat => s_.heap.size ≤ q_) (wW cI cZ cJ x_ y_ ou a_ b_ S S2 t2_ fo) := hJ9.2.sub [0, 1, 2, 3, 4, 5, 6, 7, 8, 9, 10, 11, 12, 13, 15, 16, 17, 18, 19, 20, 21, 22, 23, 24, 25, 26, 27, 28, 14] (by decide) rfl
  generalize H1 = H at hP hS_ ⊢
  obtain ⟨e1_, e2_⟩ := hw2
  obtain ⟨e3_, e4b⟩ := Prod.mk.inj e2_
  subst e1_
  replace e3_ := e3_.symm
  subst e3_
  subst e4b
  have hI1 : Inv (10 + 24 * (k_ + 1)) S := hI_.mono (by omega)
  refine lv_icmp_eq (tgt := 1161) hx hb_ dL_law_1156 (by decide) (fun c_1156 => ?_) (fun c_1156 => absurd rfl c_1156)
  refine W.widen (k := 29 + k_ + 1) (n := 430 + 6 * k_ + 6) (by omega) (by omega) ?_
  exact kont S 0 fo hI1 _ _ hP hD hS_ _ (lv_sub hl [0, 1, 2, 3, 4] rfl)
