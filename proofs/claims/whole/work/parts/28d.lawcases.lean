set_option maxHeartbeats 4000000 in
set_option maxRecDepth 100000 in
theorem law_case_12 {p_ : Program} {l : Launch} {e_ : Env} {s_ : State} {m_ : MethodId} {below : List Frame} {meth : Method} {c_ : Code} {D : va_G} {cI cZ cJ : ClassId} {b0 L : Nat} {xs : Nat → Int32} {x_ y_ ou : Nat} {a_ b_ : Nat → Nat} (hL : L ≤ 2560) (hfl : l.stackTraces = false) (C0_ : lw_At p_ s_ m_ meth c_ b0 L xs) (hG : xG (fun q_ => s_.heap.size ≤ q_) s_ s_.heap) (hN_ : xN s_) (hK_ : va_K D vwCl (tyL cI cZ cJ) s_) {k_ : Nat} {i4_ : Int32} (hk : 5 * k_ + 5 ≤ L) (e4_ : i4_ = nI (5 * k_)) {S : ST} {t_ : Int32} {fo : Nat → Int64} (hI_ : Inv (10 + 24 * k_) S) {H : Heap} {locs : List Loc} (hP : va_P D vwCl (wW cI cZ cJ x_ y_ ou a_ b_ S S t_ fo) H) (hD : va_D (fun q_ : Nat => s_.heap.size ≤ q_) (wW cI cZ cJ x_ y_ ou a_ b_ S S t_ fo)) (hS_ : va_S (fun q_ : Nat => s_.heap.size ≤ q_) s_.heap H locs) {ls : Array Slot} (hl : lv_has ls 7 [(0, .ref b0), (1, .ref x_), (2, .ref y_), (3, .ref ou), (4, .int i4_)]) (kont : ∀ (S' : ST) (t' : Int32) (f' : Nat → Int64), Inv (10 + 24 * (k_ + 1)) S' → ∀ (H : Heap) (locs : List Loc), va_P D vwCl (wW cI cZ cJ x_ y_ ou a_ b_ S' S' t' f') H → va_D (fun q_ : Nat => s_.heap.size ≤ q_) (wW cI cZ cJ x_ y_ ou a_ b_ S' S' t' f') → va_S (fun q_ : Nat => s_.heap.size ≤ q_) s_.heap H locs → ∀ ls : Array Slot, lv_has ls 7 [(0, .ref b0), (1, .ref x_), (2, .ref y_), (3, .ref ou), (4, .int i4_)] → W p_ l e_ room_1 s_ m_ #[Value.ref b0] below meth c_ H locs (29 + k_ + 1) (430 + 6 * k_ + 6) (lw_Z below #[Value.ref b0] s_) (F0 m_ 1161 ls [])) : W p_ l e_ room_1 s_ m_ #[Value.ref b0] below meth c_ H locs (29 + k_) (430 + 6 * k_) (lw_Z below #[Value.ref b0] s_) (F0 m_ 730 ls []) := by
  obtain ⟨hx, hb_, hr, hml, hown, hts, hX, hbl, hlocks, hgv⟩ := C0_
  have hts := fun w_ h_ => hts w_ (wsL_law_in w_ h_)
  have hown : s_.vm.findClass RL = some m_.cls := hown
  have hA : ∀ q_ : Nat, s_.heap.size ≤ q_ → (fun q_ : Nat => s_.heap.size ≤ q_) q_ := fun _ h_ => h_
  have hbA : ¬ (fun q_ : Nat => s_.heap.size ≤ q_) b0 := Nat.not_le.mpr hbl
  refine lv_aload_n hx hb_ dL_law_730 rfl (lv_at hl 1 rfl) ?_
  refine lv_aload_n hx hb_ dL_law_731 rfl (lv_at hl 0 rfl) ?_
  refine lv_iload hx hb_ dL_law_732 (lv_at hl 4 rfl) ?_
  refine lv_iconst (v := 1) hx hb_ dL_law_734 (by decide) ?_
  refine lv_iadd hx hb_ dL_law_735 ?_
  refine va_sld hx hb_ hX hbl hbA hS_ (sidx (jx := 1) e4_ hk hL (by decide)) dL_law_736 ?_
  refine lv_aload_n hx hb_ dL_law_737 rfl (lv_at hl 3 rfl) ?_
  have hPc := hP.sub (ws' := wX cI cZ x_ a_ S ++ [wO cJ ou fo]) [0, 1, 2, 3, 4, 5, 6, 7, 8, 9, 10, 11, 12, 13, 28] rfl
  have hDc := hD.sub (ws' := wX cI cZ x_ a_ S ++ [wO cJ ou fo]) [0, 1, 2, 3, 4, 5, 6, 7, 8, 9, 10, 11, 12, 13, 28] (by decide) rfl
  have hFc := va_free (wc := wX cI cZ x_ a_ S ++ [wO cJ ou fo]) hD hS_ hA [0, 1, 2, 3, 4, 5, 6, 7, 8, 9, 10, 11, 12, 13, 28] rfl
  have hGH : xG (fun q_ => s_.heap.size ≤ q_) s_ H := hG.kept (fun q_ h1 h2 => hS_.2.1 q_ h1 h2)
  refine va_calli (vx_runSW (As := [.ref x_, .int (xs (i4_ + 1).toNatClampNeg), .ref ou]) (rest := []) ⟨hx, hb_, hml, hown, hts⟩ (c_L_maskOf l hfl D cI cZ cJ x_ ou a_ S fo H.size (xs (i4_ + 1).toNatClampNeg) ) (vx_cwSW 3 hts gL_law_L_maskOf rfl rfl rfl (by decide +kernel) ⟨Nat.le_of_ble_eq_true rfl, Nat.le_of_ble_eq_true rfl⟩) (pL_S (pW_S hPc hK_ hDc) hGH (fun _ h_ => Nat.le_trans hS_.1 h_) hN_) rfl rfl hl.1 rfl (lv_room (Nat.le_of_ble_eq_true rfl)) dL_law_738 ⟨by show _ ≤ 1073; omega, by show _ ≤ 8742; omega⟩) hS_ (fun q_ _ h_ => hFc q_ h_) hFc (fun r1_ u1_ t9 H1 locs ht9 hvm9 hw hB9 hz9 hk9 hS_ => ?_)
  obtain ⟨S1, f1_⟩ := u1_
  obtain ⟨v1_, hw1, ho⟩ := hw
  have hJ9 := va_join (wr := wM cI y_ b_ S t_) hP hD [0, 1, 2, 3, 4, 5, 6, 7, 8, 9, 10, 11, 12, 13, 28] [14, 15, 16, 17, 18, 19, 20, 21, 22, 23, 24, 25, 26, 27] rfl rfl (by decide) (by decide) hk9 hFc (atW_P hB9 ht9) hB9.2
  have hP : va_P D vwCl (wW cI cZ cJ x_ y_ ou a_ b_ S1 S t_ f1_) H1 := hJ9.1.sub [14, 15, 16, 17, 18, 19, 20, 21, 22, 23, 24, 25, 26, 27, 0, 1, 2, 3, 4, 5, 6, 7, 8, 9, 10, 11, 12, 13, 28] rfl
  have hD : va_D (fun q_ : Nat => s_.heap.size ≤ q_) (wW cI cZ cJ x_ y_ ou a_ b_ S1 S t_ f1_) := hJ9.2.sub [14, 15, 16, 17, 18, 19, 20, 21, 22, 23, 24, 25, 26, 27, 0, 1, 2, 3, 4, 5, 6, 7, 8, 9, 10, 11, 12, 13, 28] (by decide) rfl
  generalize H1 = H at hP hS_ ⊢
  refine lv_istore (lv' := [(5, .int r1_), (0, .ref b0), (1, .ref x_), (2, .ref y_), (3, .ref ou), (4, .int i4_)]) hx hb_ dL_law_741 hl (by decide) rfl (fun ls hl => ?_)
  refine lv_aload_n hx hb_ dL_law_743 rfl (lv_at hl 3 rfl) ?_
  refine lv_aload_n hx hb_ dL_law_744 rfl (lv_at hl 1 rfl) ?_
  refine lv_iload hx hb_ dL_law_745 (lv_at hl 5 rfl) ?_
  refine lv_iconst (v := 1) hx hb_ dL_law_747 (by decide) ?_
  refine lv_iadd hx hb_ dL_law_748 ?_
  refine va_sld hx hb_ hX hbl hbA hS_ (sidx (jx := 1) e4_ hk hL (by decide)) dL_law_749 ?_
  have hPc := hP.sub (ws' := wM cI y_ b_ S t_) [14, 15, 16, 17, 18, 19, 20, 21, 22, 23, 24, 25, 26, 27] rfl
  have hDc := hD.sub (ws' := wM cI y_ b_ S t_) [14, 15, 16, 17, 18, 19, 20, 21, 22, 23, 24, 25, 26, 27] (by decide) rfl
  have hFc := va_free (wc := wM cI y_ b_ S t_) hD hS_ hA [14, 15, 16, 17, 18, 19, 20, 21, 22, 23, 24, 25, 26, 27] rfl
  refine va_calli (va_runV (As := [.int (xs (i4_ + 1).toNatClampNeg)]) (rest := []) ⟨hx, hb_, hml, hown, hts⟩ (c_X1_maskOf l D cI y_ b_ S t_ H.size (xs (i4_ + 1).toNatClampNeg) ) (cwV 1 hts gL_law_X1_maskOf rfl rfl rfl (by decide +kernel) ⟨Nat.le_of_ble_eq_true rfl, Nat.le_of_ble_eq_true rfl⟩) (pW_V (ci := 1) hPc (hK_.sub (tys' := tyM cI) [0] rfl) hDc rfl rfl) rfl rfl hl.1 rfl (lv_room (Nat.le_of_ble_eq_true rfl)) dL_law_750 ⟨by show _ ≤ 1073; omega, by show _ ≤ 8742; omega⟩) hS_ (fun q_ _ h_ => hFc q_ h_) hFc (fun r2_ u2_ t9 H1 locs ht9 hvm9 hw2 hB9 hz9 hk9 hS_ => ?_)
  obtain ⟨S2, t2_⟩ := u2_
  have hJ9 := va_join (wr := wX cI cZ x_ a_ S1 ++ [wO cJ ou f1_]) hP hD [14, 15, 16, 17, 18, 19, 20, 21, 22, 23, 24, 25, 26, 27] [0, 1, 2, 3, 4, 5, 6, 7, 8, 9, 10, 11, 12, 13, 28] rfl rfl (by decide) (by decide) hk9 hFc (atW_P hB9 ht9) hB9.2
  have hP : va_P D vwCl (wW cI cZ cJ x_ y_ ou a_ b_ S1 S2 t2_ f1_) H1 := hJ9.1.sub [0, 1, 2, 3, 4, 5, 6, 7, 8, 9, 10, 11, 12, 13, 15, 16, 17, 18, 19, 20, 21, 22, 23, 24, 25, 26, 27, 28, 14] rfl
  have hD : va_D (fun q_ : Nat => s_.heap.size ≤ q_) (wW cI cZ cJ x_ y_ ou a_ b_ S1 S2 t2_ f1_) := hJ9.2.sub [0, 1, 2, 3, 4, 5, 6, 7, 8, 9, 10, 11, 12, 13, 15, 16, 17, 18, 19, 20, 21, 22, 23, 24, 25, 26, 27, 28, 14] (by decide) rfl
  generalize H1 = H at hP hS_ ⊢
  obtain ⟨e1_, e23_⟩ := Prod.mk.inj (hw1.symm.trans hw2)
  obtain ⟨e2_, e3_⟩ := Prod.mk.inj e23_
  subst e1_
  subst e2_
  subst e3_
  have hI0 : Inv (10 + 24 * k_) (k_maskOf S (xs (i4_ + 1).toNatClampNeg)).2.2 := cif_elim (fun z_ : KR => Inv (10 + 24 * k_) z_.2.2) (fun _ => hI_) (fun _ => hI_)
  rw [hw1] at hI0
  have hI1 : Inv (10 + 24 * (k_ + 1)) S1 := Inv.mono hI0 (by omega)
  refine lv_istore (lv' := [(6, .int v1_), (5, .int r1_), (0, .ref b0), (1, .ref x_), (2, .ref y_), (3, .ref ou), (4, .int i4_)]) hx hb_ dL_law_753 hl (by decide) rfl (fun ls hl => ?_)
  refine lv_aload_n hx hb_ dL_law_755 rfl (lv_at hl 4 rfl) ?_
  have hPc := hP.sub (ws' := wM cI y_ b_ S1 r1_) [14, 15, 16, 17, 18, 19, 20, 21, 22, 23, 24, 25, 26, 27] rfl
  refine vp_callSi (W.runV (As := []) (rest := []) ⟨hx, hb_, hml, hown, hts⟩ (c_X1_thrown l D cI y_ b_ S1 r1_  ) (cwV 0 hts gL_law_X1_thrown rfl rfl rfl (by decide +kernel) ⟨Nat.le_of_ble_eq_true rfl, Nat.le_of_ble_eq_true rfl⟩) (pR_V (ci := 1) hPc (hK_.sub (tys' := tyM cI) [0] rfl) rfl rfl) rfl rfl hl.1 rfl (lv_room (Nat.le_of_ble_eq_true rfl)) dL_law_756 ⟨by show _ ≤ 1073; omega, by show _ ≤ 8742; omega⟩) (fun r3 h3 => ?_)
  replace h3 := h3.symm
  subst h3
  refine lv_iload hx hb_ dL_law_759 (lv_at hl 1 rfl) ?_
  refine lv_icmp_eq (tgt := 766) hx hb_ dL_law_761 (by decide) (fun c_761 => ?_) (fun c_761 => absurd rfl c_761)
  refine lv_iload hx hb_ dL_law_766 (lv_at hl 1 rfl) ?_
  refine lv_if_ne (tgt := 783) hx hb_ dL_law_768 (by decide) (fun c0_ => ?_) (fun c0_ => ?_)
  · skip
    refine lv_goto (tgt := 1161) hx hb_ dL_law_783 (by decide) ?_
    refine W.widen (k := 29 + k_ + 1) (n := 430 + 6 * k_ + 6) (by omega) (by omega) ?_
    exact kont S1 r1_ f1_ hI1 _ _ hP hD hS_ _ (lv_sub hl [2, 3, 4, 5, 6] rfl)
  · skip
    refine lv_aload_n hx hb_ dL_law_771 rfl (lv_at hl 5 rfl) ?_
    refine lv_iconst (v := 0) hx hb_ dL_law_772 (by decide) ?_
    refine va_lald (f := f1_) (n := 1) hx hb_ hK_ hP 28 2 rfl rfl vin01 dL_law_773 ?_
    refine lv_iload hx hb_ dL_law_774 (lv_at hl 0 rfl) ?_
    refine lv_i2l (v := v1_.toInt64) hx hb_ dL_law_776 rfl ?_
    refine W.lcmp hx hb_ dL_law_777 ?_
    refine lv_if_eq (tgt := 783) hx hb_ dL_law_778 (by decide) (fun _ => ?_) (fun z_ => absurd ((lg_cmp_eq _ _).mpr (ho c0_)) z_)
    refine lv_goto (tgt := 1161) hx hb_ dL_law_783 (by decide) ?_
    refine W.widen (k := 29 + k_ + 1) (n := 430 + 6 * k_ + 6) (by omega) (by omega) ?_
    exact kont S1 r1_ f1_ hI1 _ _ hP hD hS_ _ (lv_sub hl [2, 3, 4, 5, 6] rfl)
set_option maxHeartbeats 4000000 in
set_option maxRecDepth 100000 in
theorem law_case_13 {p_ : Program} {l : Launch} {e_ : Env} {s_ : State} {m_ : MethodId} {below : List Frame} {meth : Method} {c_ : Code} {D : va_G} {cI cZ cJ : ClassId} {b0 L : Nat} {xs : Nat → Int32} {x_ y_ ou : Nat} {a_ b_ : Nat → Nat} (hL : L ≤ 2560) (hfl : l.stackTraces = false) (C0_ : lw_At p_ s_ m_ meth c_ b0 L xs) (hG : xG (fun q_ => s_.heap.size ≤ q_) s_ s_.heap) (hN_ : xN s_) (hK_ : va_K D vwCl (tyL cI cZ cJ) s_) {k_ : Nat} {i4_ : Int32} (hk : 5 * k_ + 5 ≤ L) (e4_ : i4_ = nI (5 * k_)) {S : ST} {t_ : Int32} {fo : Nat → Int64} (hI_ : Inv (10 + 24 * k_) S) {H : Heap} {locs : List Loc} (hP : va_P D vwCl (wW cI cZ cJ x_ y_ ou a_ b_ S S t_ fo) H) (hD : va_D (fun q_ : Nat => s_.heap.size ≤ q_) (wW cI cZ cJ x_ y_ ou a_ b_ S S t_ fo)) (hS_ : va_S (fun q_ : Nat => s_.heap.size ≤ q_) s_.heap H locs) {ls : Array Slot} (hl : lv_has ls 7 [(0, .ref b0), (1, .ref x_), (2, .ref y_), (3, .ref ou), (4, .int i4_)]) (kont : ∀ (S' : ST) (t' : Int32) (f' : Nat → Int64), Inv (10 + 24 * (k_ + 1)) S' → ∀ (H : Heap) (locs : List Loc), va_P D vwCl (wW cI cZ cJ x_ y_ ou a_ b_ S' S' t' f') H → va_D (fun q_ : Nat => s_.heap.size ≤ q_) (wW cI cZ cJ x_ y_ ou a_ b_ S' S' t' f') → va_S (fun q_ : Nat => s_.heap.size ≤ q_) s_.heap H locs → ∀ ls : Array Slot, lv_has ls 7 [(0, .ref b0), (1, .ref x_), (2, .ref y_), (3, .ref ou), (4, .int i4_)] → W p_ l e_ room_1 s_ m_ #[Value.ref b0] below meth c_ H locs (29 + k_ + 1) (430 + 6 * k_ + 6) (lw_Z below #[Value.ref b0] s_) (F0 m_ 1161 ls [])) : W p_ l e_ room_1 s_ m_ #[Value.ref b0] below meth c_ H locs (29 + k_) (430 + 6 * k_) (lw_Z below #[Value.ref b0] s_) (F0 m_ 786 ls []) := by
  obtain ⟨hx, hb_, hr, hml, hown, hts, hX, hbl, hlocks, hgv⟩ := C0_
  have hts := fun w_ h_ => hts w_ (wsL_law_in w_ h_)
  have hown : s_.vm.findClass RL = some m_.cls := hown
  have hA : ∀ q_ : Nat, s_.heap.size ≤ q_ → (fun q_ : Nat => s_.heap.size ≤ q_) q_ := fun _ h_ => h_
  have hbA : ¬ (fun q_ : Nat => s_.heap.size ≤ q_) b0 := Nat.not_le.mpr hbl
  refine lv_aload_n hx hb_ dL_law_786 rfl (lv_at hl 1 rfl) ?_
  refine lv_aload_n hx hb_ dL_law_787 rfl (lv_at hl 0 rfl) ?_
  refine lv_iload hx hb_ dL_law_788 (lv_at hl 4 rfl) ?_
  refine lv_iconst (v := 1) hx hb_ dL_law_790 (by decide) ?_
  refine lv_iadd hx hb_ dL_law_791 ?_
  refine va_sld hx hb_ hX hbl hbA hS_ (sidx (jx := 1) e4_ hk hL (by decide)) dL_law_792 ?_
  refine lv_aload_n hx hb_ dL_law_793 rfl (lv_at hl 3 rfl) ?_
  have hPc := hP.sub (ws' := wX cI cZ x_ a_ S ++ [wO cJ ou fo]) [0, 1, 2, 3, 4, 5, 6, 7, 8, 9, 10, 11, 12, 13, 28] rfl
  have hDc := hD.sub (ws' := wX cI cZ x_ a_ S ++ [wO cJ ou fo]) [0, 1, 2, 3, 4, 5, 6, 7, 8, 9, 10, 11, 12, 13, 28] (by decide) rfl
  have hFc := va_free (wc := wX cI cZ x_ a_ S ++ [wO cJ ou fo]) hD hS_ hA [0, 1, 2, 3, 4, 5, 6, 7, 8, 9, 10, 11, 12, 13, 28] rfl
  have hGH : xG (fun q_ => s_.heap.size ≤ q_) s_ H := hG.kept (fun q_ h1 h2 => hS_.2.1 q_ h1 h2)
  refine va_calli (vx_runSW (As := [.ref x_, .int (xs (i4_ + 1).toNatClampNeg), .ref ou]) (rest := []) ⟨hx, hb_, hml, hown, hts⟩ (c_L_maskByCues l hfl D cI cZ cJ x_ ou a_ S fo H.size (xs (i4_ + 1).toNatClampNeg) (10 + 24 * k_) hI_) (vx_cwSW 3 hts gL_law_L_maskByCues rfl rfl rfl (by decide +kernel) ⟨Nat.le_of_ble_eq_true rfl, Nat.le_of_ble_eq_true rfl⟩) (pL_S (pW_S hPc hK_ hDc) hGH (fun _ h_ => Nat.le_trans hS_.1 h_) hN_) rfl rfl hl.1 rfl (lv_room (Nat.le_of_ble_eq_true rfl)) dL_law_794 ⟨by show _ ≤ 1073; omega, by show _ ≤ 8742; omega⟩) hS_ (fun q_ _ h_ => hFc q_ h_) hFc (fun r1_ u1_ t9 H1 locs ht9 hvm9 hw hB9 hz9 hk9 hS_ => ?_)
  obtain ⟨S1, f1_⟩ := u1_
  obtain ⟨v1_, hw1, ho⟩ := hw
  have hJ9 := va_join (wr := wM cI y_ b_ S t_) hP hD [0, 1, 2, 3, 4, 5, 6, 7, 8, 9, 10, 11, 12, 13, 28] [14, 15, 16, 17, 18, 19, 20, 21, 22, 23, 24, 25, 26, 27] rfl rfl (by decide) (by decide) hk9 hFc (atW_P hB9 ht9) hB9.2
  have hP : va_P D vwCl (wW cI cZ cJ x_ y_ ou a_ b_ S1 S t_ f1_) H1 := hJ9.1.sub [14, 15, 16, 17, 18, 19, 20, 21, 22, 23, 24, 25, 26, 27, 0, 1, 2, 3, 4, 5, 6, 7, 8, 9, 10, 11, 12, 13, 28] rfl
  have hD : va_D (fun q_ : Nat => s_.heap.size ≤ q_) (wW cI cZ cJ x_ y_ ou a_ b_ S1 S t_ f1_) := hJ9.2.sub [14, 15, 16, 17, 18, 19, 20, 21, 22, 23, 24, 25, 26, 27, 0, 1, 2, 3, 4, 5, 6, 7, 8, 9, 10, 11, 12, 13, 28] (by decide) rfl
  generalize H1 = H at hP hS_ ⊢
  refine lv_istore (lv' := [(5, .int r1_), (0, .ref b0), (1, .ref x_), (2, .ref y_), (3, .ref ou), (4, .int i4_)]) hx hb_ dL_law_797 hl (by decide) rfl (fun ls hl => ?_)
  refine lv_aload_n hx hb_ dL_law_799 rfl (lv_at hl 3 rfl) ?_
  refine lv_aload_n hx hb_ dL_law_800 rfl (lv_at hl 1 rfl) ?_
  refine lv_iload hx hb_ dL_law_801 (lv_at hl 5 rfl) ?_
  refine lv_iconst (v := 1) hx hb_ dL_law_803 (by decide) ?_
  refine lv_iadd hx hb_ dL_law_804 ?_
  refine va_sld hx hb_ hX hbl hbA hS_ (sidx (jx := 1) e4_ hk hL (by decide)) dL_law_805 ?_
  have hPc := hP.sub (ws' := wM cI y_ b_ S t_) [14, 15, 16, 17, 18, 19, 20, 21, 22, 23, 24, 25, 26, 27] rfl
  have hDc := hD.sub (ws' := wM cI y_ b_ S t_) [14, 15, 16, 17, 18, 19, 20, 21, 22, 23, 24, 25, 26, 27] (by decide) rfl
  have hFc := va_free (wc := wM cI y_ b_ S t_) hD hS_ hA [14, 15, 16, 17, 18, 19, 20, 21, 22, 23, 24, 25, 26, 27] rfl
  refine va_calli (va_runV (As := [.int (xs (i4_ + 1).toNatClampNeg)]) (rest := []) ⟨hx, hb_, hml, hown, hts⟩ (c_X1_maskByCues l D cI y_ b_ S t_ H.size (xs (i4_ + 1).toNatClampNeg) (10 + 24 * k_) hI_) (cwV 1 hts gL_law_X1_maskByCues rfl rfl rfl (by decide +kernel) ⟨Nat.le_of_ble_eq_true rfl, Nat.le_of_ble_eq_true rfl⟩) (pW_V (ci := 1) hPc (hK_.sub (tys' := tyM cI) [0] rfl) hDc rfl rfl) rfl rfl hl.1 rfl (lv_room (Nat.le_of_ble_eq_true rfl)) dL_law_806 ⟨by show _ ≤ 1073; omega, by show _ ≤ 8742; omega⟩) hS_ (fun q_ _ h_ => hFc q_ h_) hFc (fun r2_ u2_ t9 H1 locs ht9 hvm9 hw2 hB9 hz9 hk9 hS_ => ?_)
  obtain ⟨S2, t2_⟩ := u2_
  have hJ9 := va_join (wr := wX cI cZ x_ a_ S1 ++ [wO cJ ou f1_]) hP hD [14, 15, 16, 17, 18, 19, 20, 21, 22, 23, 24, 25, 26, 27] [0, 1, 2, 3, 4, 5, 6, 7, 8, 9, 10, 11, 12, 13, 28] rfl rfl (by decide) (by decide) hk9 hFc (atW_P hB9 ht9) hB9.2
  have hP : va_P D vwCl (wW cI cZ cJ x_ y_ ou a_ b_ S1 S2 t2_ f1_) H1 := hJ9.1.sub [0, 1, 2, 3, 4, 5, 6, 7, 8, 9, 10, 11, 12, 13, 15, 16, 17, 18, 19, 20, 21, 22, 23, 24, 25, 26, 27, 28, 14] rfl
  have hD : va_D (fun q_ : Nat => s_.heap.size ≤ q_) (wW cI cZ cJ x_ y_ ou a_ b_ S1 S2 t2_ f1_) := hJ9.2.sub [0, 1, 2, 3, 4, 5, 6, 7, 8, 9, 10, 11, 12, 13, 15, 16, 17, 18, 19, 20, 21, 22, 23, 24, 25, 26, 27, 28, 14] (by decide) rfl
  generalize H1 = H at hP hS_ ⊢
  obtain ⟨e1_, e23_⟩ := Prod.mk.inj (hw1.symm.trans hw2)
  obtain ⟨e2_, e3_⟩ := Prod.mk.inj e23_
  subst e1_
  subst e2_
  subst e3_
  have hI0 : Inv (10 + 24 * k_) (k_maskByCues S (xs (i4_ + 1).toNatClampNeg)).2.2 := keep_maskByCues hI_ (xs (i4_ + 1).toNatClampNeg)
  rw [hw1] at hI0
  have hI1 : Inv (10 + 24 * (k_ + 1)) S1 := Inv.mono hI0 (by omega)
  refine lv_istore (lv' := [(6, .int v1_), (5, .int r1_), (0, .ref b0), (1, .ref x_), (2, .ref y_), (3, .ref ou), (4, .int i4_)]) hx hb_ dL_law_809 hl (by decide) rfl (fun ls hl => ?_)
  refine lv_aload_n hx hb_ dL_law_811 rfl (lv_at hl 4 rfl) ?_
  have hPc := hP.sub (ws' := wM cI y_ b_ S1 r1_) [14, 15, 16, 17, 18, 19, 20, 21, 22, 23, 24, 25, 26, 27] rfl
  refine vp_callSi (W.runV (As := []) (rest := []) ⟨hx, hb_, hml, hown, hts⟩ (c_X1_thrown l D cI y_ b_ S1 r1_  ) (cwV 0 hts gL_law_X1_thrown rfl rfl rfl (by decide +kernel) ⟨Nat.le_of_ble_eq_true rfl, Nat.le_of_ble_eq_true rfl⟩) (pR_V (ci := 1) hPc (hK_.sub (tys' := tyM cI) [0] rfl) rfl rfl) rfl rfl hl.1 rfl (lv_room (Nat.le_of_ble_eq_true rfl)) dL_law_812 ⟨by show _ ≤ 1073; omega, by show _ ≤ 8742; omega⟩) (fun r3 h3 => ?_)
  replace h3 := h3.symm
  subst h3
  refine lv_iload hx hb_ dL_law_815 (lv_at hl 1 rfl) ?_
  refine lv_icmp_eq (tgt := 822) hx hb_ dL_law_817 (by decide) (fun c_817 => ?_) (fun c_817 => absurd rfl c_817)
  refine lv_iload hx hb_ dL_law_822 (lv_at hl 1 rfl) ?_
  refine lv_if_ne (tgt := 839) hx hb_ dL_law_824 (by decide) (fun c0_ => ?_) (fun c0_ => ?_)
  · skip
    refine lv_goto (tgt := 1161) hx hb_ dL_law_839 (by decide) ?_
    refine W.widen (k := 29 + k_ + 1) (n := 430 + 6 * k_ + 6) (by omega) (by omega) ?_
    exact kont S1 r1_ f1_ hI1 _ _ hP hD hS_ _ (lv_sub hl [2, 3, 4, 5, 6] rfl)
  · skip
    refine lv_aload_n hx hb_ dL_law_827 rfl (lv_at hl 5 rfl) ?_
    refine lv_iconst (v := 0) hx hb_ dL_law_828 (by decide) ?_
    refine va_lald (f := f1_) (n := 1) hx hb_ hK_ hP 28 2 rfl rfl vin01 dL_law_829 ?_
    refine lv_iload hx hb_ dL_law_830 (lv_at hl 0 rfl) ?_
    refine lv_i2l (v := v1_.toInt64) hx hb_ dL_law_832 rfl ?_
    refine W.lcmp hx hb_ dL_law_833 ?_
    refine lv_if_eq (tgt := 839) hx hb_ dL_law_834 (by decide) (fun _ => ?_) (fun z_ => absurd ((lg_cmp_eq _ _).mpr (ho c0_)) z_)
    refine lv_goto (tgt := 1161) hx hb_ dL_law_839 (by decide) ?_
    refine W.widen (k := 29 + k_ + 1) (n := 430 + 6 * k_ + 6) (by omega) (by omega) ?_
    exact kont S1 r1_ f1_ hI1 _ _ hP hD hS_ _ (lv_sub hl [2, 3, 4, 5, 6] rfl)
set_option maxHeartbeats 4000000 in
set_option maxRecDepth 100000 in
theorem law_case_14 {p_ : Program} {l : Launch} {e_ : Env} {s_ : State} {m_ : MethodId} {below : List Frame} {meth : Method} {c_ : Code} {D : va_G} {cI cZ cJ : ClassId} {b0 L : Nat} {xs : Nat → Int32} {x_ y_ ou : Nat} {a_ b_ : Nat → Nat} (hL : L ≤ 2560) (hfl : l.stackTraces = false) (C0_ : lw_At p_ s_ m_ meth c_ b0 L xs) (hG : xG (fun q_ => s_.heap.size ≤ q_) s_ s_.heap) (hN_ : xN s_) (hK_ : va_K D vwCl (tyL cI cZ cJ) s_) {k_ : Nat} {i4_ : Int32} (hk : 5 * k_ + 5 ≤ L) (e4_ : i4_ = nI (5 * k_)) {S : ST} {t_ : Int32} {fo : Nat → Int64} (hI_ : Inv (10 + 24 * k_) S) {H : Heap} {locs : List Loc} (hP : va_P D vwCl (wW cI cZ cJ x_ y_ ou a_ b_ S S t_ fo) H) (hD : va_D (fun q_ : Nat => s_.heap.size ≤ q_) (wW cI cZ cJ x_ y_ ou a_ b_ S S t_ fo)) (hS_ : va_S (fun q_ : Nat => s_.heap.size ≤ q_) s_.heap H locs) {ls : Array Slot} (hl : lv_has ls 7 [(0, .ref b0), (1, .ref x_), (2, .ref y_), (3, .ref ou), (4, .int i4_)]) (kont : ∀ (S' : ST) (t' : Int32) (f' : Nat → Int64), Inv (10 + 24 * (k_ + 1)) S' → ∀ (H : Heap) (locs : List Loc), va_P D vwCl (wW cI cZ cJ x_ y_ ou a_ b_ S' S' t' f') H → va_D (fun q_ : Nat => s_.heap.size ≤ q_) (wW cI cZ cJ x_ y_ ou a_ b_ S' S' t' f') → va_S (fun q_ : Nat => s_.heap.size ≤ q_) s_.heap H locs → ∀ ls : Array Slot, lv_has ls 7 [(0, .ref b0), (1, .ref x_), (2, .ref y_), (3, .ref ou), (4, .int i4_)] → W p_ l e_ room_1 s_ m_ #[Value.ref b0] below meth c_ H locs (29 + k_ + 1) (430 + 6 * k_ + 6) (lw_Z below #[Value.ref b0] s_) (F0 m_ 1161 ls [])) : W p_ l e_ room_1 s_ m_ #[Value.ref b0] below meth c_ H locs (29 + k_) (430 + 6 * k_) (lw_Z below #[Value.ref b0] s_) (F0 m_ 842 ls []) := by
  obtain ⟨hx, hb_, hr, hml, hown, hts, hX, hbl, hlocks, hgv⟩ := C0_
  have hts := fun w_ h_ => hts w_ (wsL_law_in w_ h_)
  have hown : s_.vm.findClass RL = some m_.cls := hown
  have hA : ∀ q_ : Nat, s_.heap.size ≤ q_ → (fun q_ : Nat => s_.heap.size ≤ q_) q_ := fun _ h_ => h_
  have hbA : ¬ (fun q_ : Nat => s_.heap.size ≤ q_) b0 := Nat.not_le.mpr hbl
  refine lv_aload_n hx hb_ dL_law_842 rfl (lv_at hl 1 rfl) ?_
  refine lv_aload_n hx hb_ dL_law_843 rfl (lv_at hl 0 rfl) ?_
  refine lv_iload hx hb_ dL_law_844 (lv_at hl 4 rfl) ?_
  refine lv_iconst (v := 1) hx hb_ dL_law_846 (by decide) ?_
  refine lv_iadd hx hb_ dL_law_847 ?_
  refine va_sld hx hb_ hX hbl hbA hS_ (sidx (jx := 1) e4_ hk hL (by decide)) dL_law_848 ?_
  refine lv_aload_n hx hb_ dL_law_849 rfl (lv_at hl 3 rfl) ?_
  have hPc := hP.sub (ws' := wX cI cZ x_ a_ S ++ [wO cJ ou fo]) [0, 1, 2, 3, 4, 5, 6, 7, 8, 9, 10, 11, 12, 13, 28] rfl
  have hDc := hD.sub (ws' := wX cI cZ x_ a_ S ++ [wO cJ ou fo]) [0, 1, 2, 3, 4, 5, 6, 7, 8, 9, 10, 11, 12, 13, 28] (by decide) rfl
  have hFc := va_free (wc := wX cI cZ x_ a_ S ++ [wO cJ ou fo]) hD hS_ hA [0, 1, 2, 3, 4, 5, 6, 7, 8, 9, 10, 11, 12, 13, 28] rfl
  have hGH : xG (fun q_ => s_.heap.size ≤ q_) s_ H := hG.kept (fun q_ h1 h2 => hS_.2.1 q_ h1 h2)
  refine va_calli (vx_runSW (As := [.ref x_, .int (xs (i4_ + 1).toNatClampNeg), .ref ou]) (rest := []) ⟨hx, hb_, hml, hown, hts⟩ (c_L_wearerOf l hfl D cI cZ cJ x_ ou a_ S fo H.size (xs (i4_ + 1).toNatClampNeg) ) (vx_cwSW 3 hts gL_law_L_wearerOf rfl rfl rfl (by decide +kernel) ⟨Nat.le_of_ble_eq_true rfl, Nat.le_of_ble_eq_true rfl⟩) (pL_S (pW_S hPc hK_ hDc) hGH (fun _ h_ => Nat.le_trans hS_.1 h_) hN_) rfl rfl hl.1 rfl (lv_room (Nat.le_of_ble_eq_true rfl)) dL_law_850 ⟨by show _ ≤ 1073; omega, by show _ ≤ 8742; omega⟩) hS_ (fun q_ _ h_ => hFc q_ h_) hFc (fun r1_ u1_ t9 H1 locs ht9 hvm9 hw hB9 hz9 hk9 hS_ => ?_)
  obtain ⟨S1, f1_⟩ := u1_
  obtain ⟨v1_, hw1, ho⟩ := hw
  have hJ9 := va_join (wr := wM cI y_ b_ S t_) hP hD [0, 1, 2, 3, 4, 5, 6, 7, 8, 9, 10, 11, 12, 13, 28] [14, 15, 16, 17, 18, 19, 20, 21, 22, 23, 24, 25, 26, 27] rfl rfl (by decide) (by decide) hk9 hFc (atW_P hB9 ht9) hB9.2
  have hP : va_P D vwCl (wW cI cZ cJ x_ y_ ou a_ b_ S1 S t_ f1_) H1 := hJ9.1.sub [14, 15, 16, 17, 18, 19, 20, 21, 22, 23, 24, 25, 26, 27, 0, 1, 2, 3, 4, 5, 6, 7, 8, 9, 10, 11, 12, 13, 28] rfl
  have hD : va_D (fun q_ : Nat => s_.heap.size ≤ q_) (wW cI cZ cJ x_ y_ ou a_ b_ S1 S t_ f1_) := hJ9.2.sub [14, 15, 16, 17, 18, 19, 20, 21, 22, 23, 24, 25, 26, 27, 0, 1, 2, 3, 4, 5, 6, 7, 8, 9, 10, 11, 12, 13, 28] (by decide) rfl
  generalize H1 = H at hP hS_ ⊢
  refine lv_istore (lv' := [(5, .int r1_), (0, .ref b0), (1, .ref x_), (2, .ref y_), (3, .ref ou), (4, .int i4_)]) hx hb_ dL_law_853 hl (by decide) rfl (fun ls hl => ?_)
  refine lv_aload_n hx hb_ dL_law_855 rfl (lv_at hl 3 rfl) ?_
  refine lv_aload_n hx hb_ dL_law_856 rfl (lv_at hl 1 rfl) ?_
  refine lv_iload hx hb_ dL_law_857 (lv_at hl 5 rfl) ?_
  refine lv_iconst (v := 1) hx hb_ dL_law_859 (by decide) ?_
  refine lv_iadd hx hb_ dL_law_860 ?_
  refine va_sld hx hb_ hX hbl hbA hS_ (sidx (jx := 1) e4_ hk hL (by decide)) dL_law_861 ?_
  have hPc := hP.sub (ws' := wM cI y_ b_ S t_) [14, 15, 16, 17, 18, 19, 20, 21, 22, 23, 24, 25, 26, 27] rfl
  have hDc := hD.sub (ws' := wM cI y_ b_ S t_) [14, 15, 16, 17, 18, 19, 20, 21, 22, 23, 24, 25, 26, 27] (by decide) rfl
  have hFc := va_free (wc := wM cI y_ b_ S t_) hD hS_ hA [14, 15, 16, 17, 18, 19, 20, 21, 22, 23, 24, 25, 26, 27] rfl
  refine va_calli (va_runV (As := [.int (xs (i4_ + 1).toNatClampNeg)]) (rest := []) ⟨hx, hb_, hml, hown, hts⟩ (c_X1_wearerOf l D cI y_ b_ S t_ H.size (xs (i4_ + 1).toNatClampNeg) (10 + 24 * k_) hI_) (cwV 1 hts gL_law_X1_wearerOf rfl rfl rfl (by decide +kernel) ⟨Nat.le_of_ble_eq_true rfl, Nat.le_of_ble_eq_true rfl⟩) (pW_V (ci := 1) hPc (hK_.sub (tys' := tyM cI) [0] rfl) hDc rfl rfl) rfl rfl hl.1 rfl (lv_room (Nat.le_of_ble_eq_true rfl)) dL_law_862 ⟨by show _ ≤ 1073; omega, by show _ ≤ 8742; omega⟩) hS_ (fun q_ _ h_ => hFc q_ h_) hFc (fun r2_ u2_ t9 H1 locs ht9 hvm9 hw2 hB9 hz9 hk9 hS_ => ?_)
  obtain ⟨S2, t2_⟩ := u2_
  have hJ9 := va_join (wr := wX cI cZ x_ a_ S1 ++ [wO cJ ou f1_]) hP hD [14, 15, 16, 17, 18, 19, 20, 21, 22, 23, 24, 25, 26, 27] [0, 1, 2, 3, 4, 5, 6, 7, 8, 9, 10, 11, 12, 13, 28] rfl rfl (by decide) (by decide) hk9 hFc (atW_P hB9 ht9) hB9.2
  have hP : va_P D vwCl (wW cI cZ cJ x_ y_ ou a_ b_ S1 S2 t2_ f1_) H1 := hJ9.1.sub [0, 1, 2, 3, 4, 5, 6, 7, 8, 9, 10, 11, 12, 13, 15, 16, 17, 18, 19, 20, 21, 22, 23, 24, 25, 26, 27, 28, 14] rfl
  have hD : va_D (fun q_ : Nat => s_.heap.size ≤ q_) (wW cI cZ cJ x_ y_ ou a_ b_ S1 S2 t2_ f1_) := hJ9.2.sub [0, 1, 2, 3, 4, 5, 6, 7, 8, 9, 10, 11, 12, 13, 15, 16, 17, 18, 19, 20, 21, 22, 23, 24, 25, 26, 27, 28, 14] (by decide) rfl
  generalize H1 = H at hP hS_ ⊢
  obtain ⟨e1_, e23_⟩ := Prod.mk.inj (hw1.symm.trans hw2)
  obtain ⟨e2_, e3_⟩ := Prod.mk.inj e23_
  subst e1_
  subst e2_
  subst e3_
  have hI0 : Inv (10 + 24 * k_) (k_wearerOf S (xs (i4_ + 1).toNatClampNeg)).2.2 := cif_elim (fun z_ : KR => Inv (10 + 24 * k_) z_.2.2) (fun _ => hI_) (fun _ => hI_)
  rw [hw1] at hI0
  have hI1 : Inv (10 + 24 * (k_ + 1)) S1 := Inv.mono hI0 (by omega)
  refine lv_istore (lv' := [(6, .int v1_), (5, .int r1_), (0, .ref b0), (1, .ref x_), (2, .ref y_), (3, .ref ou), (4, .int i4_)]) hx hb_ dL_law_865 hl (by decide) rfl (fun ls hl => ?_)
  refine lv_aload_n hx hb_ dL_law_867 rfl (lv_at hl 4 rfl) ?_
  have hPc := hP.sub (ws' := wM cI y_ b_ S1 r1_) [14, 15, 16, 17, 18, 19, 20, 21, 22, 23, 24, 25, 26, 27] rfl
  refine vp_callSi (W.runV (As := []) (rest := []) ⟨hx, hb_, hml, hown, hts⟩ (c_X1_thrown l D cI y_ b_ S1 r1_  ) (cwV 0 hts gL_law_X1_thrown rfl rfl rfl (by decide +kernel) ⟨Nat.le_of_ble_eq_true rfl, Nat.le_of_ble_eq_true rfl⟩) (pR_V (ci := 1) hPc (hK_.sub (tys' := tyM cI) [0] rfl) rfl rfl) rfl rfl hl.1 rfl (lv_room (Nat.le_of_ble_eq_true rfl)) dL_law_868 ⟨by show _ ≤ 1073; omega, by show _ ≤ 8742; omega⟩) (fun r3 h3 => ?_)
  replace h3 := h3.symm
  subst h3
  refine lv_iload hx hb_ dL_law_871 (lv_at hl 1 rfl) ?_
  refine lv_icmp_eq (tgt := 878) hx hb_ dL_law_873 (by decide) (fun c_873 => ?_) (fun c_873 => absurd rfl c_873)
  refine lv_iload hx hb_ dL_law_878 (lv_at hl 1 rfl) ?_
  refine lv_if_ne (tgt := 895) hx hb_ dL_law_880 (by decide) (fun c0_ => ?_) (fun c0_ => ?_)
  · skip
    refine lv_goto (tgt := 1161) hx hb_ dL_law_895 (by decide) ?_
    refine W.widen (k := 29 + k_ + 1) (n := 430 + 6 * k_ + 6) (by omega) (by omega) ?_
    exact kont S1 r1_ f1_ hI1 _ _ hP hD hS_ _ (lv_sub hl [2, 3, 4, 5, 6] rfl)
  · skip
    refine lv_aload_n hx hb_ dL_law_883 rfl (lv_at hl 5 rfl) ?_
    refine lv_iconst (v := 0) hx hb_ dL_law_884 (by decide) ?_
    refine va_lald (f := f1_) (n := 1) hx hb_ hK_ hP 28 2 rfl rfl vin01 dL_law_885 ?_
    refine lv_iload hx hb_ dL_law_886 (lv_at hl 0 rfl) ?_
    refine lv_i2l (v := v1_.toInt64) hx hb_ dL_law_888 rfl ?_
    refine W.lcmp hx hb_ dL_law_889 ?_
    refine lv_if_eq (tgt := 895) hx hb_ dL_law_890 (by decide) (fun _ => ?_) (fun z_ => absurd ((lg_cmp_eq _ _).mpr (ho c0_)) z_)
    refine lv_goto (tgt := 1161) hx hb_ dL_law_895 (by decide) ?_
    refine W.widen (k := 29 + k_ + 1) (n := 430 + 6 * k_ + 6) (by omega) (by omega) ?_
    exact kont S1 r1_ f1_ hI1 _ _ hP hD hS_ _ (lv_sub hl [2, 3, 4, 5, 6] rfl)
set_option maxHeartbeats 4000000 in
set_option maxRecDepth 100000 in
theorem law_case_15 {p_ : Program} {l : Launch} {e_ : Env} {s_ : State} {m_ : MethodId} {below : List Frame} {meth : Method} {c_ : Code} {D : va_G} {cI cZ cJ : ClassId} {b0 L : Nat} {xs : Nat → Int32} {x_ y_ ou : Nat} {a_ b_ : Nat → Nat} (hL : L ≤ 2560) (hfl : l.stackTraces = false) (C0_ : lw_At p_ s_ m_ meth c_ b0 L xs) (hG : xG (fun q_ => s_.heap.size ≤ q_) s_ s_.heap) (hN_ : xN s_) (hK_ : va_K D vwCl (tyL cI cZ cJ) s_) {k_ : Nat} {i4_ : Int32} (hk : 5 * k_ + 5 ≤ L) (e4_ : i4_ = nI (5 * k_)) {S : ST} {t_ : Int32} {fo : Nat → Int64} (hI_ : Inv (10 + 24 * k_) S) {H : Heap} {locs : List Loc} (hP : va_P D vwCl (wW cI cZ cJ x_ y_ ou a_ b_ S S t_ fo) H) (hD : va_D (fun q_ : Nat => s_.heap.size ≤ q_) (wW cI cZ cJ x_ y_ ou a_ b_ S S t_ fo)) (hS_ : va_S (fun q_ : Nat => s_.heap.size ≤ q_) s_.heap H locs) {ls : Array Slot} (hl : lv_has ls 7 [(0, .ref b0), (1, .ref x_), (2, .ref y_), (3, .ref ou), (4, .int i4_)]) (kont : ∀ (S' : ST) (t' : Int32) (f' : Nat → Int64), Inv (10 + 24 * (k_ + 1)) S' → ∀ (H : Heap) (locs : List Loc), va_P D vwCl (wW cI cZ cJ x_ y_ ou a_ b_ S' S' t' f') H → va_D (fun q_ : Nat => s_.heap.size ≤ q_) (wW cI cZ cJ x_ y_ ou a_ b_ S' S' t' f') → va_S (fun q_ : Nat => s_.heap.size ≤ q_) s_.heap H locs → ∀ ls : Array Slot, lv_has ls 7 [(0, .ref b0), (1, .ref x_), (2, .ref y_), (3, .ref ou), (4, .int i4_)] → W p_ l e_ room_1 s_ m_ #[Value.ref b0] below meth c_ H locs (29 + k_ + 1) (430 + 6 * k_ + 6) (lw_Z below #[Value.ref b0] s_) (F0 m_ 1161 ls [])) : W p_ l e_ room_1 s_ m_ #[Value.ref b0] below meth c_ H locs (29 + k_) (430 + 6 * k_) (lw_Z below #[Value.ref b0] s_) (F0 m_ 898 ls []) := by
  obtain ⟨hx, hb_, hr, hml, hown, hts, hX, hbl, hlocks, hgv⟩ := C0_
  have hts := fun w_ h_ => hts w_ (wsL_law_in w_ h_)
  have hown : s_.vm.findClass RL = some m_.cls := hown
  have hA : ∀ q_ : Nat, s_.heap.size ≤ q_ → (fun q_ : Nat => s_.heap.size ≤ q_) q_ := fun _ h_ => h_
  have hbA : ¬ (fun q_ : Nat => s_.heap.size ≤ q_) b0 := Nat.not_le.mpr hbl
  refine lv_aload_n hx hb_ dL_law_898 rfl (lv_at hl 1 rfl) ?_
  refine lv_aload_n hx hb_ dL_law_899 rfl (lv_at hl 0 rfl) ?_
  refine lv_iload hx hb_ dL_law_900 (lv_at hl 4 rfl) ?_
  refine lv_iconst (v := 1) hx hb_ dL_law_902 (by decide) ?_
  refine lv_iadd hx hb_ dL_law_903 ?_
  refine va_sld hx hb_ hX hbl hbA hS_ (sidx (jx := 1) e4_ hk hL (by decide)) dL_law_904 ?_
  refine lv_aload_n hx hb_ dL_law_905 rfl (lv_at hl 3 rfl) ?_
  have hPc := hP.sub (ws' := wX cI cZ x_ a_ S ++ [wO cJ ou fo]) [0, 1, 2, 3, 4, 5, 6, 7, 8, 9, 10, 11, 12, 13, 28] rfl
  have hDc := hD.sub (ws' := wX cI cZ x_ a_ S ++ [wO cJ ou fo]) [0, 1, 2, 3, 4, 5, 6, 7, 8, 9, 10, 11, 12, 13, 28] (by decide) rfl
  have hFc := va_free (wc := wX cI cZ x_ a_ S ++ [wO cJ ou fo]) hD hS_ hA [0, 1, 2, 3, 4, 5, 6, 7, 8, 9, 10, 11, 12, 13, 28] rfl
  have hGH : xG (fun q_ => s_.heap.size ≤ q_) s_ H := hG.kept (fun q_ h1 h2 => hS_.2.1 q_ h1 h2)
  refine va_calli (vx_runSW (As := [.ref x_, .int (xs (i4_ + 1).toNatClampNeg), .ref ou]) (rest := []) ⟨hx, hb_, hml, hown, hts⟩ (c_L_isOn l hfl D cI cZ cJ x_ ou a_ S fo H.size (xs (i4_ + 1).toNatClampNeg) (10 + 24 * k_) hI_) (vx_cwSW 3 hts gL_law_L_isOn rfl rfl rfl (by decide +kernel) ⟨Nat.le_of_ble_eq_true rfl, Nat.le_of_ble_eq_true rfl⟩) (pL_S (pW_S hPc hK_ hDc) hGH (fun _ h_ => Nat.le_trans hS_.1 h_) hN_) rfl rfl hl.1 rfl (lv_room (Nat.le_of_ble_eq_true rfl)) dL_law_906 ⟨by show _ ≤ 1073; omega, by show _ ≤ 8742; omega⟩) hS_ (fun q_ _ h_ => hFc q_ h_) hFc (fun r1_ u1_ t9 H1 locs ht9 hvm9 hw hB9 hz9 hk9 hS_ => ?_)
  obtain ⟨S1, f1_⟩ := u1_
  obtain ⟨v1_, hw1, ho⟩ := hw
  have hJ9 := va_join (wr := wM cI y_ b_ S t_) hP hD [0, 1, 2, 3, 4, 5, 6, 7, 8, 9, 10, 11, 12, 13, 28] [14, 15, 16, 17, 18, 19, 20, 21, 22, 23, 24, 25, 26, 27] rfl rfl (by decide) (by decide) hk9 hFc (atW_P hB9 ht9) hB9.2
  have hP : va_P D vwCl (wW cI cZ cJ x_ y_ ou a_ b_ S1 S t_ f1_) H1 := hJ9.1.sub [14, 15, 16, 17, 18, 19, 20, 21, 22, 23, 24, 25, 26, 27, 0, 1, 2, 3, 4, 5, 6, 7, 8, 9, 10, 11, 12, 13, 28] rfl
  have hD : va_D (fun q_ : Nat => s_.heap.size ≤ q_) (wW cI cZ cJ x_ y_ ou a_ b_ S1 S t_ f1_) := hJ9.2.sub [14, 15, 16, 17, 18, 19, 20, 21, 22, 23, 24, 25, 26, 27, 0, 1, 2, 3, 4, 5, 6, 7, 8, 9, 10, 11, 12, 13, 28] (by decide) rfl
  generalize H1 = H at hP hS_ ⊢
  refine lv_istore (lv' := [(5, .int r1_), (0, .ref b0), (1, .ref x_), (2, .ref y_), (3, .ref ou), (4, .int i4_)]) hx hb_ dL_law_909 hl (by decide) rfl (fun ls hl => ?_)
  refine lv_aload_n hx hb_ dL_law_911 rfl (lv_at hl 3 rfl) ?_
  refine lv_aload_n hx hb_ dL_law_912 rfl (lv_at hl 1 rfl) ?_
  refine lv_iload hx hb_ dL_law_913 (lv_at hl 5 rfl) ?_
  refine lv_iconst (v := 1) hx hb_ dL_law_915 (by decide) ?_
  refine lv_iadd hx hb_ dL_law_916 ?_
  refine va_sld hx hb_ hX hbl hbA hS_ (sidx (jx := 1) e4_ hk hL (by decide)) dL_law_917 ?_
  have hPc := hP.sub (ws' := wM cI y_ b_ S t_) [14, 15, 16, 17, 18, 19, 20, 21, 22, 23, 24, 25, 26, 27] rfl
  have hDc := hD.sub (ws' := wM cI y_ b_ S t_) [14, 15, 16, 17, 18, 19, 20, 21, 22, 23, 24, 25, 26, 27] (by decide) rfl
  have hFc := va_free (wc := wM cI y_ b_ S t_) hD hS_ hA [14, 15, 16, 17, 18, 19, 20, 21, 22, 23, 24, 25, 26, 27] rfl
  refine va_calli (va_runV (As := [.int (xs (i4_ + 1).toNatClampNeg)]) (rest := []) ⟨hx, hb_, hml, hown, hts⟩ (c_X1_isOn l D cI y_ b_ S t_ H.size (xs (i4_ + 1).toNatClampNeg) (10 + 24 * k_) hI_) (cwV 1 hts gL_law_X1_isOn rfl rfl rfl (by decide +kernel) ⟨Nat.le_of_ble_eq_true rfl, Nat.le_of_ble_eq_true rfl⟩) (pW_V (ci := 1) hPc (hK_.sub (tys' := tyM cI) [0] rfl) hDc rfl rfl) rfl rfl hl.1 rfl (lv_room (Nat.le_of_ble_eq_true rfl)) dL_law_918 ⟨by show _ ≤ 1073; omega, by show _ ≤ 8742; omega⟩) hS_ (fun q_ _ h_ => hFc q_ h_) hFc (fun r2_ u2_ t9 H1 locs ht9 hvm9 hw2 hB9 hz9 hk9 hS_ => ?_)
  obtain ⟨S2, t2_⟩ := u2_
  have hJ9 := va_join (wr := wX cI cZ x_ a_ S1 ++ [wO cJ ou f1_]) hP hD [14, 15, 16, 17, 18, 19, 20, 21, 22, 23, 24, 25, 26, 27] [0, 1, 2, 3, 4, 5, 6, 7, 8, 9, 10, 11, 12, 13, 28] rfl rfl (by decide) (by decide) hk9 hFc (atW_P hB9 ht9) hB9.2
  have hP : va_P D vwCl (wW cI cZ cJ x_ y_ ou a_ b_ S1 S2 t2_ f1_) H1 := hJ9.1.sub [0, 1, 2, 3, 4, 5, 6, 7, 8, 9, 10, 11, 12, 13, 15, 16, 17, 18, 19, 20, 21, 22, 23, 24, 25, 26, 27, 28, 14] rfl
  have hD : va_D (fun q_ : Nat => s_.heap.size ≤ q_) (wW cI cZ cJ x_ y_ ou a_ b_ S1 S2 t2_ f1_) := hJ9.2.sub [0, 1, 2, 3, 4, 5, 6, 7, 8, 9, 10, 11, 12, 13, 15, 16, 17, 18, 19, 20, 21, 22, 23, 24, 25, 26, 27, 28, 14] (by decide) rfl
  generalize H1 = H at hP hS_ ⊢
  obtain ⟨e1_, e23_⟩ := Prod.mk.inj (hw1.symm.trans hw2)
  obtain ⟨e2_, e3_⟩ := Prod.mk.inj e23_
  subst e1_
  subst e2_
  subst e3_
  have hI0 : Inv (10 + 24 * k_) (k_isOn S (xs (i4_ + 1).toNatClampNeg)).2.2 := cif_elim (fun z_ : KR => Inv (10 + 24 * k_) z_.2.2) (fun _ => hI_) (fun _ => hI_)
  rw [hw1] at hI0
  have hI1 : Inv (10 + 24 * (k_ + 1)) S1 := Inv.mono hI0 (by omega)
  refine lv_istore (lv' := [(6, .int v1_), (5, .int r1_), (0, .ref b0), (1, .ref x_), (2, .ref y_), (3, .ref ou), (4, .int i4_)]) hx hb_ dL_law_921 hl (by decide) rfl (fun ls hl => ?_)
  refine lv_aload_n hx hb_ dL_law_923 rfl (lv_at hl 4 rfl) ?_
  have hPc := hP.sub (ws' := wM cI y_ b_ S1 r1_) [14, 15, 16, 17, 18, 19, 20, 21, 22, 23, 24, 25, 26, 27] rfl
  refine vp_callSi (W.runV (As := []) (rest := []) ⟨hx, hb_, hml, hown, hts⟩ (c_X1_thrown l D cI y_ b_ S1 r1_  ) (cwV 0 hts gL_law_X1_thrown rfl rfl rfl (by decide +kernel) ⟨Nat.le_of_ble_eq_true rfl, Nat.le_of_ble_eq_true rfl⟩) (pR_V (ci := 1) hPc (hK_.sub (tys' := tyM cI) [0] rfl) rfl rfl) rfl rfl hl.1 rfl (lv_room (Nat.le_of_ble_eq_true rfl)) dL_law_924 ⟨by show _ ≤ 1073; omega, by show _ ≤ 8742; omega⟩) (fun r3 h3 => ?_)
  replace h3 := h3.symm
  subst h3
  refine lv_iload hx hb_ dL_law_927 (lv_at hl 1 rfl) ?_
  refine lv_icmp_eq (tgt := 934) hx hb_ dL_law_929 (by decide) (fun c_929 => ?_) (fun c_929 => absurd rfl c_929)
  refine lv_iload hx hb_ dL_law_934 (lv_at hl 1 rfl) ?_
  refine lv_if_ne (tgt := 958) hx hb_ dL_law_936 (by decide) (fun c0_ => ?_) (fun c0_ => ?_)
  · skip
    refine lv_goto (tgt := 1161) hx hb_ dL_law_958 (by decide) ?_
    refine W.widen (k := 29 + k_ + 1) (n := 430 + 6 * k_ + 6) (by omega) (by omega) ?_
    exact kont S1 r1_ f1_ hI1 _ _ hP hD hS_ _ (lv_sub hl [2, 3, 4, 5, 6] rfl)
  · skip
    refine lv_aload_n hx hb_ dL_law_939 rfl (lv_at hl 5 rfl) ?_
    refine lv_iconst (v := 0) hx hb_ dL_law_940 (by decide) ?_
    refine va_lald (f := f1_) (n := 1) hx hb_ hK_ hP 28 2 rfl rfl vin01 dL_law_941 ?_
    refine lv_iload hx hb_ dL_law_942 (lv_at hl 0 rfl) ?_
    refine lv_if_eq (tgt := 951) hx hb_ dL_law_944 (by decide) (fun cb => ?_) (fun cb => ?_)
    · skip
      refine lv_lconst (v := 0) hx hb_ dL_law_951 (by decide) ?_
      refine W.lcmp hx hb_ dL_law_952 ?_
      refine lv_if_eq (tgt := 958) hx hb_ dL_law_953 (by decide) (fun _ => ?_) (fun z_ => absurd ((lg_cmp_eq _ _).mpr ((ho c0_).trans (if_pos cb))) z_)
      refine lv_goto (tgt := 1161) hx hb_ dL_law_958 (by decide) ?_
      refine W.widen (k := 29 + k_ + 1) (n := 430 + 6 * k_ + 6) (by omega) (by omega) ?_
      exact kont S1 r1_ f1_ hI1 _ _ hP hD hS_ _ (lv_sub hl [2, 3, 4, 5, 6] rfl)
    · skip
      refine lv_lconst (v := 1) hx hb_ dL_law_947 (by decide) ?_
      refine lv_goto (tgt := 952) hx hb_ dL_law_948 (by decide) ?_
      refine W.lcmp hx hb_ dL_law_952 ?_
      refine lv_if_eq (tgt := 958) hx hb_ dL_law_953 (by decide) (fun _ => ?_) (fun z_ => absurd ((lg_cmp_eq _ _).mpr ((ho c0_).trans (if_neg cb))) z_)
      refine lv_goto (tgt := 1161) hx hb_ dL_law_958 (by decide) ?_
      refine W.widen (k := 29 + k_ + 1) (n := 430 + 6 * k_ + 6) (by omega) (by omega) ?_
      exact kont S1 r1_ f1_ hI1 _ _ hP hD hS_ _ (lv_sub hl [2, 3, 4, 5, 6] rfl)
