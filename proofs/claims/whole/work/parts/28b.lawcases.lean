set_option maxHeartbeats 4000000 in
set_option maxRecDepth 100000 in
theorem law_case_4 {p_ : Program} {l : Launch} {e_ : Env} {s_ : State} {m_ : MethodId} {below : List Frame} {meth : Method} {c_ : Code} {D : va_G} {cI cZ cJ : ClassId} {b0 L : Nat} {xs : Nat → Int32} {x_ y_ ou : Nat} {a_ b_ : Nat → Nat} (hL : L ≤ 2560) (hfl : l.stackTraces = false) (C0_ : lw_At p_ s_ m_ meth c_ b0 L xs) (hG : xG (fun q_ => s_.heap.size ≤ q_) s_ s_.heap) (hN_ : xN s_) (hK_ : va_K D vwCl (tyL cI cZ cJ) s_) {k_ : Nat} {i4_ : Int32} (hk : 5 * k_ + 5 ≤ L) (e4_ : i4_ = nI (5 * k_)) {S : ST} {t_ : Int32} {fo : Nat → Int64} (hI_ : Inv (10 + 24 * k_) S) {H : Heap} {locs : List Loc} (hP : va_P D vwCl (wW cI cZ cJ x_ y_ ou a_ b_ S S t_ fo) H) (hD : va_D (fun q_ : Nat => s_.heap.size ≤ q_) (wW cI cZ cJ x_ y_ ou a_ b_ S S t_ fo)) (hS_ : va_S (fun q_ : Nat => s_.heap.size ≤ q_) s_.heap H locs) {ls : Array Slot} (hl : lv_has ls 7 [(0, .ref b0), (1, .ref x_), (2, .ref y_), (3, .ref ou), (4, .int i4_)]) (kont : ∀ (S' : ST) (t' : Int32) (f' : Nat → Int64), Inv (10 + 24 * (k_ + 1)) S' → ∀ (H : Heap) (locs : List Loc), va_P D vwCl (wW cI cZ cJ x_ y_ ou a_ b_ S' S' t' f') H → va_D (fun q_ : Nat => s_.heap.size ≤ q_) (wW cI cZ cJ x_ y_ ou a_ b_ S' S' t' f') → va_S (fun q_ : Nat => s_.heap.size ≤ q_) s_.heap H locs → ∀ ls : Array Slot, lv_has ls 7 [(0, .ref b0), (1, .ref x_), (2, .ref y_), (3, .ref ou), (4, .int i4_)] → W p_ l e_ room_1 s_ m_ #[Value.ref b0] below meth c_ H locs (29 + k_ + 1) (430 + 6 * k_ + 6) (lw_Z below #[Value.ref b0] s_) (F0 m_ 1161 ls [])) : W p_ l e_ room_1 s_ m_ #[Value.ref b0] below meth c_ H locs (29 + k_) (430 + 6 * k_) (lw_Z below #[Value.ref b0] s_) (F0 m_ 368 ls []) := by
  obtain ⟨hx, hb_, hr, hml, hown, hts, hX, hbl, hlocks, hgv⟩ := C0_
  have hts := fun w_ h_ => hts w_ (wsL_law_in w_ h_)
  have hown : s_.vm.findClass RL = some m_.cls := hown
  have hA : ∀ q_ : Nat, s_.heap.size ≤ q_ → (fun q_ : Nat => s_.heap.size ≤ q_) q_ := fun _ h_ => h_
  have hbA : ¬ (fun q_ : Nat => s_.heap.size ≤ q_) b0 := Nat.not_le.mpr hbl
  refine lv_aload_n hx hb_ dL_law_368 rfl (lv_at hl 1 rfl) ?_
  have hPc := hP.sub (ws' := wX cI cZ x_ a_ S) [0, 1, 2, 3, 4, 5, 6, 7, 8, 9, 10, 11, 12, 13] rfl
  refine vp_callSi (W.runV (As := []) (rest := []) ⟨hx, hb_, hml, hown, hts⟩ (c_X0_purse l D cI cZ x_ a_ S  ) (cwV 0 hts gL_law_X0_purse rfl rfl rfl (by decide +kernel) ⟨Nat.le_of_ble_eq_true rfl, Nat.le_of_ble_eq_true rfl⟩) (pR_V (ci := 0) hPc (hK_.sub (tys' := tyX cI cZ) [0, 1] rfl) rfl rfl) rfl rfl hl.1 rfl (lv_room (Nat.le_of_ble_eq_true rfl)) dL_law_369 ⟨by show _ ≤ 1073; omega, by show _ ≤ 8742; omega⟩) (fun r3 h3 => ?_)
  replace h3 := h3.symm
  subst h3
  refine lv_aload_n hx hb_ dL_law_372 rfl (lv_at hl 2 rfl) ?_
  have hPc := hP.sub (ws' := wM cI y_ b_ S t_) [14, 15, 16, 17, 18, 19, 20, 21, 22, 23, 24, 25, 26, 27] rfl
  have hDc := hD.sub (ws' := wM cI y_ b_ S t_) [14, 15, 16, 17, 18, 19, 20, 21, 22, 23, 24, 25, 26, 27] (by decide) rfl
  have hFc := va_free (wc := wM cI y_ b_ S t_) hD hS_ hA [14, 15, 16, 17, 18, 19, 20, 21, 22, 23, 24, 25, 26, 27] rfl
  refine va_calli (va_runV (As := []) (rest := [.int (S 14 0)]) ⟨hx, hb_, hml, hown, hts⟩ (c_X1_purse l D cI y_ b_ S t_ H.size  ) (cwV 0 hts gL_law_X1_purse rfl rfl rfl (by decide +kernel) ⟨Nat.le_of_ble_eq_true rfl, Nat.le_of_ble_eq_true rfl⟩) (pW_V (ci := 1) hPc (hK_.sub (tys' := tyM cI) [0] rfl) hDc rfl rfl) rfl rfl hl.1 rfl (lv_room (Nat.le_of_ble_eq_true rfl)) dL_law_373 ⟨by show _ ≤ 1073; omega, by show _ ≤ 8742; omega⟩) hS_ (fun q_ _ h_ => hFc q_ h_) hFc (fun r2_ u2_ t9 H1 locs ht9 hvm9 hw2 hB9 hz9 hk9 hS_ => ?_)
  obtain ⟨S2, t2_⟩ := u2_
  have hJ9 := va_join (wr := wX cI cZ x_ a_ S ++ [wO cJ ou fo]) hP hD [14, 15, 16, 17, 18, 19, 20, 21, 22, 23, 24, 25, 26, 27] [0, 1, 2, 3, 4, 5, 6, 7, 8, 9, 10, 11, 12, 13, 28] rfl rfl (by decide) (by decide) hk9 hFc (atW_P hB9 ht9) hB9.2
  have hP : va_P D vwCl (wW cI cZ cJ x_ y_ ou a_ b_ S S2 t2_ fo) H1 := hJ9.1.sub [0, 1, 2, 3, 4, 5, 6, 7, 8, 9, 10, 11, 12, 13, 15, 16, 17, 18, 19, 20, 21, 22, 23, 24, 25, 26, 27, 28, 14] rfl
  have hD : va_D (fun q_ : Nat => s_.heap.size ≤ q_) (wW cI cZ cJ x_ y_ ou a_ b_ S S2 t2_ fo) := hJ9.2.sub [0, 1, 2, 3, 4, 5, 6, 7, 8, 9, 10, 11, 12, 13, 15, 16, 17, 18, 19, 20, 21, 22, 23, 24, 25, 26, 27, 28, 14] (by decide) rfl
  generalize H1 = H at hP hS_ ⊢
  obtain ⟨e1_, e2_⟩ := hw2
  obtain ⟨e3_, e4b⟩ := Prod.mk.inj e2_
  subst e1_
  replace e3_ := e3_.symm
  subst e3_
  subst e4b
  have hI1 : Inv (10 + 24 * (k_ + 1)) S := hI_.mono (by omega)
  refine lv_icmp_eq (tgt := 1161) hx hb_ dL_law_376 (by decide) (fun c_376 => ?_) (fun c_376 => absurd rfl c_376)
  refine W.widen (k := 29 + k_ + 1) (n := 430 + 6 * k_ + 6) (by omega) (by omega) ?_
  exact kont S 0 fo hI1 _ _ hP hD hS_ _ (lv_sub hl [0, 1, 2, 3, 4] rfl)
set_option maxHeartbeats 4000000 in
set_option maxRecDepth 100000 in
theorem law_case_5 {p_ : Program} {l : Launch} {e_ : Env} {s_ : State} {m_ : MethodId} {below : List Frame} {meth : Method} {c_ : Code} {D : va_G} {cI cZ cJ : ClassId} {b0 L : Nat} {xs : Nat → Int32} {x_ y_ ou : Nat} {a_ b_ : Nat → Nat} (hL : L ≤ 2560) (hfl : l.stackTraces = false) (C0_ : lw_At p_ s_ m_ meth c_ b0 L xs) (hG : xG (fun q_ => s_.heap.size ≤ q_) s_ s_.heap) (hN_ : xN s_) (hK_ : va_K D vwCl (tyL cI cZ cJ) s_) {k_ : Nat} {i4_ : Int32} (hk : 5 * k_ + 5 ≤ L) (e4_ : i4_ = nI (5 * k_)) {S : ST} {t_ : Int32} {fo : Nat → Int64} (hI_ : Inv (10 + 24 * k_) S) {H : Heap} {locs : List Loc} (hP : va_P D vwCl (wW cI cZ cJ x_ y_ ou a_ b_ S S t_ fo) H) (hD : va_D (fun q_ : Nat => s_.heap.size ≤ q_) (wW cI cZ cJ x_ y_ ou a_ b_ S S t_ fo)) (hS_ : va_S (fun q_ : Nat => s_.heap.size ≤ q_) s_.heap H locs) {ls : Array Slot} (hl : lv_has ls 7 [(0, .ref b0), (1, .ref x_), (2, .ref y_), (3, .ref ou), (4, .int i4_)]) (kont : ∀ (S' : ST) (t' : Int32) (f' : Nat → Int64), Inv (10 + 24 * (k_ + 1)) S' → ∀ (H : Heap) (locs : List Loc), va_P D vwCl (wW cI cZ cJ x_ y_ ou a_ b_ S' S' t' f') H → va_D (fun q_ : Nat => s_.heap.size ≤ q_) (wW cI cZ cJ x_ y_ ou a_ b_ S' S' t' f') → va_S (fun q_ : Nat => s_.heap.size ≤ q_) s_.heap H locs → ∀ ls : Array Slot, lv_has ls 7 [(0, .ref b0), (1, .ref x_), (2, .ref y_), (3, .ref ou), (4, .int i4_)] → W p_ l e_ room_1 s_ m_ #[Value.ref b0] below meth c_ H locs (29 + k_ + 1) (430 + 6 * k_ + 6) (lw_Z below #[Value.ref b0] s_) (F0 m_ 1161 ls [])) : W p_ l e_ room_1 s_ m_ #[Value.ref b0] below meth c_ H locs (29 + k_) (430 + 6 * k_) (lw_Z below #[Value.ref b0] s_) (F0 m_ 381 ls []) := by
  obtain ⟨hx, hb_, hr, hml, hown, hts, hX, hbl, hlocks, hgv⟩ := C0_
  have hts := fun w_ h_ => hts w_ (wsL_law_in w_ h_)
  have hown : s_.vm.findClass RL = some m_.cls := hown
  have hA : ∀ q_ : Nat, s_.heap.size ≤ q_ → (fun q_ : Nat => s_.heap.size ≤ q_) q_ := fun _ h_ => h_
  have hbA : ¬ (fun q_ : Nat => s_.heap.size ≤ q_) b0 := Nat.not_le.mpr hbl
  refine lv_aload_n hx hb_ dL_law_381 rfl (lv_at hl 1 rfl) ?_
  refine lv_aload_n hx hb_ dL_law_382 rfl (lv_at hl 0 rfl) ?_
  refine lv_iload hx hb_ dL_law_383 (lv_at hl 4 rfl) ?_
  refine lv_iconst (v := 1) hx hb_ dL_law_385 (by decide) ?_
  refine lv_iadd hx hb_ dL_law_386 ?_
  refine va_sld hx hb_ hX hbl hbA hS_ (sidx (jx := 1) e4_ hk hL (by decide)) dL_law_387 ?_
  refine lv_aload_n hx hb_ dL_law_388 rfl (lv_at hl 0 rfl) ?_
  refine lv_iload hx hb_ dL_law_389 (lv_at hl 4 rfl) ?_
  refine lv_iconst (v := 2) hx hb_ dL_law_391 (by decide) ?_
  refine lv_iadd hx hb_ dL_law_392 ?_
  refine va_sld hx hb_ hX hbl hbA hS_ (sidx (jx := 2) e4_ hk hL (by decide)) dL_law_393 ?_
  refine lv_aload_n hx hb_ dL_law_394 rfl (lv_at hl 0 rfl) ?_
  refine lv_iload hx hb_ dL_law_395 (lv_at hl 4 rfl) ?_
  refine lv_iconst (v := 3) hx hb_ dL_law_397 (by decide) ?_
  refine lv_iadd hx hb_ dL_law_398 ?_
  refine va_sld hx hb_ hX hbl hbA hS_ (sidx (jx := 3) e4_ hk hL (by decide)) dL_law_399 ?_
  refine lv_aload_n hx hb_ dL_law_400 rfl (lv_at hl 0 rfl) ?_
  refine lv_iload hx hb_ dL_law_401 (lv_at hl 4 rfl) ?_
  refine lv_iconst (v := 4) hx hb_ dL_law_403 (by decide) ?_
  refine lv_iadd hx hb_ dL_law_404 ?_
  refine va_sld hx hb_ hX hbl hbA hS_ (sidx (jx := 4) e4_ hk hL (by decide)) dL_law_405 ?_
  refine lv_aload_n hx hb_ dL_law_406 rfl (lv_at hl 3 rfl) ?_
  have hPc := hP.sub (ws' := wX cI cZ x_ a_ S ++ [wO cJ ou fo]) [0, 1, 2, 3, 4, 5, 6, 7, 8, 9, 10, 11, 12, 13, 28] rfl
  have hDc := hD.sub (ws' := wX cI cZ x_ a_ S ++ [wO cJ ou fo]) [0, 1, 2, 3, 4, 5, 6, 7, 8, 9, 10, 11, 12, 13, 28] (by decide) rfl
  have hFc := va_free (wc := wX cI cZ x_ a_ S ++ [wO cJ ou fo]) hD hS_ hA [0, 1, 2, 3, 4, 5, 6, 7, 8, 9, 10, 11, 12, 13, 28] rfl
  have hGH : xG (fun q_ => s_.heap.size ≤ q_) s_ H := hG.kept (fun q_ h1 h2 => hS_.2.1 q_ h1 h2)
  refine va_calli (vx_runSW (As := [.ref x_, .int (xs (i4_ + 1).toNatClampNeg), .int (xs (i4_ + 2).toNatClampNeg), .int (xs (i4_ + 3).toNatClampNeg), .int (xs (i4_ + 4).toNatClampNeg), .ref ou]) (rest := []) ⟨hx, hb_, hml, hown, hts⟩ (c_L_addCue l hfl D cI cZ cJ x_ ou a_ S fo H.size (xs (i4_ + 1).toNatClampNeg) (xs (i4_ + 2).toNatClampNeg) (xs (i4_ + 3).toNatClampNeg) (xs (i4_ + 4).toNatClampNeg) (10 + 24 * k_) hI_) (vx_cwSW 6 hts gL_law_L_addCue rfl rfl rfl (by decide +kernel) ⟨Nat.le_of_ble_eq_true rfl, Nat.le_of_ble_eq_true rfl⟩) (pL_S (pW_S hPc hK_ hDc) hGH (fun _ h_ => Nat.le_trans hS_.1 h_) hN_) rfl rfl hl.1 rfl (lv_room (Nat.le_of_ble_eq_true rfl)) dL_law_407 ⟨by show _ ≤ 1073; omega, by show _ ≤ 8742; omega⟩) hS_ (fun q_ _ h_ => hFc q_ h_) hFc (fun r1_ u1_ t9 H1 locs ht9 hvm9 hw hB9 hz9 hk9 hS_ => ?_)
  obtain ⟨S1, f1_⟩ := u1_
  obtain ⟨v1_, hw1, ho⟩ := hw
  have hJ9 := va_join (wr := wM cI y_ b_ S t_) hP hD [0, 1, 2, 3, 4, 5, 6, 7, 8, 9, 10, 11, 12, 13, 28] [14, 15, 16, 17, 18, 19, 20, 21, 22, 23, 24, 25, 26, 27] rfl rfl (by decide) (by decide) hk9 hFc (atW_P hB9 ht9) hB9.2
  have hP : va_P D vwCl (wW cI cZ cJ x_ y_ ou a_ b_ S1 S t_ f1_) H1 := hJ9.1.sub [14, 15, 16, 17, 18, 19, 20, 21, 22, 23, 24, 25, 26, 27, 0, 1, 2, 3, 4, 5, 6, 7, 8, 9, 10, 11, 12, 13, 28] rfl
  have hD : va_D (fun q_ : Nat => s_.heap.size ≤ q_) (wW cI cZ cJ x_ y_ ou a_ b_ S1 S t_ f1_) := hJ9.2.sub [14, 15, 16, 17, 18, 19, 20, 21, 22, 23, 24, 25, 26, 27, 0, 1, 2, 3, 4, 5, 6, 7, 8, 9, 10, 11, 12, 13, 28] (by decide) rfl
  generalize H1 = H at hP hS_ ⊢
  refine lv_istore (lv' := [(5, .int r1_), (0, .ref b0), (1, .ref x_), (2, .ref y_), (3, .ref ou), (4, .int i4_)]) hx hb_ dL_law_410 hl (by decide) rfl (fun ls hl => ?_)
  refine lv_aload_n hx hb_ dL_law_412 rfl (lv_at hl 3 rfl) ?_
  refine lv_aload_n hx hb_ dL_law_413 rfl (lv_at hl 1 rfl) ?_
  refine lv_iload hx hb_ dL_law_414 (lv_at hl 5 rfl) ?_
  refine lv_iconst (v := 1) hx hb_ dL_law_416 (by decide) ?_
  refine lv_iadd hx hb_ dL_law_417 ?_
  refine va_sld hx hb_ hX hbl hbA hS_ (sidx (jx := 1) e4_ hk hL (by decide)) dL_law_418 ?_
  refine lv_aload_n hx hb_ dL_law_419 rfl (lv_at hl 1 rfl) ?_
  refine lv_iload hx hb_ dL_law_420 (lv_at hl 5 rfl) ?_
  refine lv_iconst (v := 2) hx hb_ dL_law_422 (by decide) ?_
  refine lv_iadd hx hb_ dL_law_423 ?_
  refine va_sld hx hb_ hX hbl hbA hS_ (sidx (jx := 2) e4_ hk hL (by decide)) dL_law_424 ?_
  refine lv_aload_n hx hb_ dL_law_425 rfl (lv_at hl 1 rfl) ?_
  refine lv_iload hx hb_ dL_law_426 (lv_at hl 5 rfl) ?_
  refine lv_iconst (v := 3) hx hb_ dL_law_428 (by decide) ?_
  refine lv_iadd hx hb_ dL_law_429 ?_
  refine va_sld hx hb_ hX hbl hbA hS_ (sidx (jx := 3) e4_ hk hL (by decide)) dL_law_430 ?_
  refine lv_aload_n hx hb_ dL_law_431 rfl (lv_at hl 1 rfl) ?_
  refine lv_iload hx hb_ dL_law_432 (lv_at hl 5 rfl) ?_
  refine lv_iconst (v := 4) hx hb_ dL_law_434 (by decide) ?_
  refine lv_iadd hx hb_ dL_law_435 ?_
  refine va_sld hx hb_ hX hbl hbA hS_ (sidx (jx := 4) e4_ hk hL (by decide)) dL_law_436 ?_
  have hPc := hP.sub (ws' := wM cI y_ b_ S t_) [14, 15, 16, 17, 18, 19, 20, 21, 22, 23, 24, 25, 26, 27] rfl
  have hDc := hD.sub (ws' := wM cI y_ b_ S t_) [14, 15, 16, 17, 18, 19, 20, 21, 22, 23, 24, 25, 26, 27] (by decide) rfl
  have hFc := va_free (wc := wM cI y_ b_ S t_) hD hS_ hA [14, 15, 16, 17, 18, 19, 20, 21, 22, 23, 24, 25, 26, 27] rfl
  refine va_calli (va_runV (As := [.int (xs (i4_ + 1).toNatClampNeg), .int (xs (i4_ + 2).toNatClampNeg), .int (xs (i4_ + 3).toNatClampNeg), .int (xs (i4_ + 4).toNatClampNeg)]) (rest := []) ⟨hx, hb_, hml, hown, hts⟩ (c_X1_addCue l D cI y_ b_ S t_ H.size (xs (i4_ + 1).toNatClampNeg) (xs (i4_ + 2).toNatClampNeg) (xs (i4_ + 3).toNatClampNeg) (xs (i4_ + 4).toNatClampNeg) (10 + 24 * k_) hI_) (cwV 4 hts gL_law_X1_addCue rfl rfl rfl (by decide +kernel) ⟨Nat.le_of_ble_eq_true rfl, Nat.le_of_ble_eq_true rfl⟩) (pW_V (ci := 1) hPc (hK_.sub (tys' := tyM cI) [0] rfl) hDc rfl rfl) rfl rfl hl.1 rfl (lv_room (Nat.le_of_ble_eq_true rfl)) dL_law_437 ⟨by show _ ≤ 1073; omega, by show _ ≤ 8742; omega⟩) hS_ (fun q_ _ h_ => hFc q_ h_) hFc (fun r2_ u2_ t9 H1 locs ht9 hvm9 hw2 hB9 hz9 hk9 hS_ => ?_)
  obtain ⟨S2, t2_⟩ := u2_
  have hJ9 := va_join (wr := wX cI cZ x_ a_ S1 ++ [wO cJ ou f1_]) hP hD [14, 15, 16, 17, 18, 19, 20, 21, 22, 23, 24, 25, 26, 27] [0, 1, 2, 3, 4, 5, 6, 7, 8, 9, 10, 11, 12, 13, 28] rfl rfl (by decide) (by decide) hk9 hFc (atW_P hB9 ht9) hB9.2
  have hP : va_P D vwCl (wW cI cZ cJ x_ y_ ou a_ b_ S1 S2 t2_ f1_) H1 := hJ9.1.sub [0, 1, 2, 3, 4, 5, 6, 7, 8, 9, 10, 11, 12, 13, 15, 16, 17, 18, 19, 20, 21, 22, 23, 24, 25, 26, 27, 28, 14] rfl
  have hD : va_D (fun q_ : Nat => s_.heap.size ≤ q_) (wW cI cZ cJ x_ y_ ou a_ b_ S1 S2 t2_ f1_) := hJ9.2.sub [0, 1, 2, 3, 4, 5, 6, 7, 8, 9, 10, 11, 12, 13, 15, 16, 17, 18, 19, 20, 21, 22, 23, 24, 25, 26, 27, 28, 14] (by decide) rfl
  generalize H1 = H at hP hS_ ⊢
  obtain ⟨e1_, e23_⟩ := Prod.mk.inj (hw1.symm.trans hw2)
  obtain ⟨e2_, e3_⟩ := Prod.mk.inj e23_
  subst e1_
  subst e2_
  subst e3_
  have hI0 : Inv (10 + 24 * k_) (k_addCue S (xs (i4_ + 1).toNatClampNeg) (xs (i4_ + 2).toNatClampNeg) (xs (i4_ + 3).toNatClampNeg) (xs (i4_ + 4).toNatClampNeg)).2.2 := keep_addCue hI_ (xs (i4_ + 1).toNatClampNeg) (xs (i4_ + 2).toNatClampNeg) (xs (i4_ + 3).toNatClampNeg) (xs (i4_ + 4).toNatClampNeg)
  rw [hw1] at hI0
  have hI1 : Inv (10 + 24 * (k_ + 1)) S1 := Inv.mono hI0 (by omega)
  refine lv_istore (lv' := [(6, .int v1_), (5, .int r1_), (0, .ref b0), (1, .ref x_), (2, .ref y_), (3, .ref ou), (4, .int i4_)]) hx hb_ dL_law_440 hl (by decide) rfl (fun ls hl => ?_)
  refine lv_aload_n hx hb_ dL_law_442 rfl (lv_at hl 4 rfl) ?_
  have hPc := hP.sub (ws' := wM cI y_ b_ S1 r1_) [14, 15, 16, 17, 18, 19, 20, 21, 22, 23, 24, 25, 26, 27] rfl
  refine vp_callSi (W.runV (As := []) (rest := []) ⟨hx, hb_, hml, hown, hts⟩ (c_X1_thrown l D cI y_ b_ S1 r1_  ) (cwV 0 hts gL_law_X1_thrown rfl rfl rfl (by decide +kernel) ⟨Nat.le_of_ble_eq_true rfl, Nat.le_of_ble_eq_true rfl⟩) (pR_V (ci := 1) hPc (hK_.sub (tys' := tyM cI) [0] rfl) rfl rfl) rfl rfl hl.1 rfl (lv_room (Nat.le_of_ble_eq_true rfl)) dL_law_443 ⟨by show _ ≤ 1073; omega, by show _ ≤ 8742; omega⟩) (fun r3 h3 => ?_)
  replace h3 := h3.symm
  subst h3
  refine lv_iload hx hb_ dL_law_446 (lv_at hl 1 rfl) ?_
  refine lv_icmp_eq (tgt := 453) hx hb_ dL_law_448 (by decide) (fun c_448 => ?_) (fun c_448 => absurd rfl c_448)
  refine lv_iload hx hb_ dL_law_453 (lv_at hl 1 rfl) ?_
  refine lv_if_ne (tgt := 470) hx hb_ dL_law_455 (by decide) (fun c0_ => ?_) (fun c0_ => ?_)
  · skip
    refine lv_goto (tgt := 1161) hx hb_ dL_law_470 (by decide) ?_
    refine W.widen (k := 29 + k_ + 1) (n := 430 + 6 * k_ + 6) (by omega) (by omega) ?_
    exact kont S1 r1_ f1_ hI1 _ _ hP hD hS_ _ (lv_sub hl [2, 3, 4, 5, 6] rfl)
  · skip
    refine lv_aload_n hx hb_ dL_law_458 rfl (lv_at hl 5 rfl) ?_
    refine lv_iconst (v := 0) hx hb_ dL_law_459 (by decide) ?_
    refine va_lald (f := f1_) (n := 1) hx hb_ hK_ hP 28 2 rfl rfl vin01 dL_law_460 ?_
    refine lv_iload hx hb_ dL_law_461 (lv_at hl 0 rfl) ?_
    refine lv_i2l (v := v1_.toInt64) hx hb_ dL_law_463 rfl ?_
    refine W.lcmp hx hb_ dL_law_464 ?_
    refine lv_if_eq (tgt := 470) hx hb_ dL_law_465 (by decide) (fun _ => ?_) (fun z_ => absurd ((lg_cmp_eq _ _).mpr (ho c0_)) z_)
    refine lv_goto (tgt := 1161) hx hb_ dL_law_470 (by decide) ?_
    refine W.widen (k := 29 + k_ + 1) (n := 430 + 6 * k_ + 6) (by omega) (by omega) ?_
    exact kont S1 r1_ f1_ hI1 _ _ hP hD hS_ _ (lv_sub hl [2, 3, 4, 5, 6] rfl)
set_option maxHeartbeats 4000000 in
set_option maxRecDepth 100000 in
theorem law_case_6 {p_ : Program} {l : Launch} {e_ : Env} {s_ : State} {m_ : MethodId} {below : List Frame} {meth : Method} {c_ : Code} {D : va_G} {cI cZ cJ : ClassId} {b0 L : Nat} {xs : Nat → Int32} {x_ y_ ou : Nat} {a_ b_ : Nat → Nat} (hL : L ≤ 2560) (hfl : l.stackTraces = false) (C0_ : lw_At p_ s_ m_ meth c_ b0 L xs) (hG : xG (fun q_ => s_.heap.size ≤ q_) s_ s_.heap) (hN_ : xN s_) (hK_ : va_K D vwCl (tyL cI cZ cJ) s_) {k_ : Nat} {i4_ : Int32} (hk : 5 * k_ + 5 ≤ L) (e4_ : i4_ = nI (5 * k_)) {S : ST} {t_ : Int32} {fo : Nat → Int64} (hI_ : Inv (10 + 24 * k_) S) {H : Heap} {locs : List Loc} (hP : va_P D vwCl (wW cI cZ cJ x_ y_ ou a_ b_ S S t_ fo) H) (hD : va_D (fun q_ : Nat => s_.heap.size ≤ q_) (wW cI cZ cJ x_ y_ ou a_ b_ S S t_ fo)) (hS_ : va_S (fun q_ : Nat => s_.heap.size ≤ q_) s_.heap H locs) {ls : Array Slot} (hl : lv_has ls 7 [(0, .ref b0), (1, .ref x_), (2, .ref y_), (3, .ref ou), (4, .int i4_)]) (kont : ∀ (S' : ST) (t' : Int32) (f' : Nat → Int64), Inv (10 + 24 * (k_ + 1)) S' → ∀ (H : Heap) (locs : List Loc), va_P D vwCl (wW cI cZ cJ x_ y_ ou a_ b_ S' S' t' f') H → va_D (fun q_ : Nat => s_.heap.size ≤ q_) (wW cI cZ cJ x_ y_ ou a_ b_ S' S' t' f') → va_S (fun q_ : Nat => s_.heap.size ≤ q_) s_.heap H locs → ∀ ls : Array Slot, lv_has ls 7 [(0, .ref b0), (1, .ref x_), (2, .ref y_), (3, .ref ou), (4, .int i4_)] → W p_ l e_ room_1 s_ m_ #[Value.ref b0] below meth c_ H locs (29 + k_ + 1) (430 + 6 * k_ + 6) (lw_Z below #[Value.ref b0] s_) (F0 m_ 1161 ls [])) : W p_ l e_ room_1 s_ m_ #[Value.ref b0] below meth c_ H locs (29 + k_) (430 + 6 * k_) (lw_Z below #[Value.ref b0] s_) (F0 m_ 473 ls []) := by
  obtain ⟨hx, hb_, hr, hml, hown, hts, hX, hbl, hlocks, hgv⟩ := C0_
  have hts := fun w_ h_ => hts w_ (wsL_law_in w_ h_)
  have hown : s_.vm.findClass RL = some m_.cls := hown
  have hA : ∀ q_ : Nat, s_.heap.size ≤ q_ → (fun q_ : Nat => s_.heap.size ≤ q_) q_ := fun _ h_ => h_
  have hbA : ¬ (fun q_ : Nat => s_.heap.size ≤ q_) b0 := Nat.not_le.mpr hbl
  refine lv_aload_n hx hb_ dL_law_473 rfl (lv_at hl 1 rfl) ?_
  refine lv_aload_n hx hb_ dL_law_474 rfl (lv_at hl 0 rfl) ?_
  refine lv_iload hx hb_ dL_law_475 (lv_at hl 4 rfl) ?_
  refine lv_iconst (v := 1) hx hb_ dL_law_477 (by decide) ?_
  refine lv_iadd hx hb_ dL_law_478 ?_
  refine va_sld hx hb_ hX hbl hbA hS_ (sidx (jx := 1) e4_ hk hL (by decide)) dL_law_479 ?_
  refine lv_aload_n hx hb_ dL_law_480 rfl (lv_at hl 3 rfl) ?_
  have hPc := hP.sub (ws' := wX cI cZ x_ a_ S ++ [wO cJ ou fo]) [0, 1, 2, 3, 4, 5, 6, 7, 8, 9, 10, 11, 12, 13, 28] rfl
  have hDc := hD.sub (ws' := wX cI cZ x_ a_ S ++ [wO cJ ou fo]) [0, 1, 2, 3, 4, 5, 6, 7, 8, 9, 10, 11, 12, 13, 28] (by decide) rfl
  have hFc := va_free (wc := wX cI cZ x_ a_ S ++ [wO cJ ou fo]) hD hS_ hA [0, 1, 2, 3, 4, 5, 6, 7, 8, 9, 10, 11, 12, 13, 28] rfl
  have hGH : xG (fun q_ => s_.heap.size ≤ q_) s_ H := hG.kept (fun q_ h1 h2 => hS_.2.1 q_ h1 h2)
  refine va_calli (vx_runSW (As := [.ref x_, .int (xs (i4_ + 1).toNatClampNeg), .ref ou]) (rest := []) ⟨hx, hb_, hml, hown, hts⟩ (c_L_canCall l hfl D cI cZ cJ x_ ou a_ S fo H.size (xs (i4_ + 1).toNatClampNeg) (10 + 24 * k_) hI_) (vx_cwSW 3 hts gL_law_L_canCall rfl rfl rfl (by decide +kernel) ⟨Nat.le_of_ble_eq_true rfl, Nat.le_of_ble_eq_true rfl⟩) (pL_S (pW_S hPc hK_ hDc) hGH (fun _ h_ => Nat.le_trans hS_.1 h_) hN_) rfl rfl hl.1 rfl (lv_room (Nat.le_of_ble_eq_true rfl)) dL_law_481 ⟨by show _ ≤ 1073; omega, by show _ ≤ 8742; omega⟩) hS_ (fun q_ _ h_ => hFc q_ h_) hFc (fun r1_ u1_ t9 H1 locs ht9 hvm9 hw hB9 hz9 hk9 hS_ => ?_)
  obtain ⟨S1, f1_⟩ := u1_
  obtain ⟨v1_, hw1, ho⟩ := hw
  have hJ9 := va_join (wr := wM cI y_ b_ S t_) hP hD [0, 1, 2, 3, 4, 5, 6, 7, 8, 9, 10, 11, 12, 13, 28] [14, 15, 16, 17, 18, 19, 20, 21, 22, 23, 24, 25, 26, 27] rfl rfl (by decide) (by decide) hk9 hFc (atW_P hB9 ht9) hB9.2
  have hP : va_P D vwCl (wW cI cZ cJ x_ y_ ou a_ b_ S1 S t_ f1_) H1 := hJ9.1.sub [14, 15, 16, 17, 18, 19, 20, 21, 22, 23, 24, 25, 26, 27, 0, 1, 2, 3, 4, 5, 6, 7, 8, 9, 10, 11, 12, 13, 28] rfl
  have hD : va_D (fun q_ : Nat => s_.heap.size ≤ q_) (wW cI cZ cJ x_ y_ ou a_ b_ S1 S t_ f1_) := hJ9.2.sub [14, 15, 16, 17, 18, 19, 20, 21, 22, 23, 24, 25, 26, 27, 0, 1, 2, 3, 4, 5, 6, 7, 8, 9, 10, 11, 12, 13, 28] (by decide) rfl
  generalize H1 = H at hP hS_ ⊢
  refine lv_istore (lv' := [(5, .int r1_), (0, .ref b0), (1, .ref x_), (2, .ref y_), (3, .ref ou), (4, .int i4_)]) hx hb_ dL_law_484 hl (by decide) rfl (fun ls hl => ?_)
  refine lv_aload_n hx hb_ dL_law_486 rfl (lv_at hl 3 rfl) ?_
  refine lv_aload_n hx hb_ dL_law_487 rfl (lv_at hl 1 rfl) ?_
  refine lv_iload hx hb_ dL_law_488 (lv_at hl 5 rfl) ?_
  refine lv_iconst (v := 1) hx hb_ dL_law_490 (by decide) ?_
  refine lv_iadd hx hb_ dL_law_491 ?_
  refine va_sld hx hb_ hX hbl hbA hS_ (sidx (jx := 1) e4_ hk hL (by decide)) dL_law_492 ?_
  have hPc := hP.sub (ws' := wM cI y_ b_ S t_) [14, 15, 16, 17, 18, 19, 20, 21, 22, 23, 24, 25, 26, 27] rfl
  have hDc := hD.sub (ws' := wM cI y_ b_ S t_) [14, 15, 16, 17, 18, 19, 20, 21, 22, 23, 24, 25, 26, 27] (by decide) rfl
  have hFc := va_free (wc := wM cI y_ b_ S t_) hD hS_ hA [14, 15, 16, 17, 18, 19, 20, 21, 22, 23, 24, 25, 26, 27] rfl
  refine va_calli (va_runV (As := [.int (xs (i4_ + 1).toNatClampNeg)]) (rest := []) ⟨hx, hb_, hml, hown, hts⟩ (c_X1_canCall l D cI y_ b_ S t_ H.size (xs (i4_ + 1).toNatClampNeg) (10 + 24 * k_) hI_) (cwV 1 hts gL_law_X1_canCall rfl rfl rfl (by decide +kernel) ⟨Nat.le_of_ble_eq_true rfl, Nat.le_of_ble_eq_true rfl⟩) (pW_V (ci := 1) hPc (hK_.sub (tys' := tyM cI) [0] rfl) hDc rfl rfl) rfl rfl hl.1 rfl (lv_room (Nat.le_of_ble_eq_true rfl)) dL_law_493 ⟨by show _ ≤ 1073; omega, by show _ ≤ 8742; omega⟩) hS_ (fun q_ _ h_ => hFc q_ h_) hFc (fun r2_ u2_ t9 H1 locs ht9 hvm9 hw2 hB9 hz9 hk9 hS_ => ?_)
  obtain ⟨S2, t2_⟩ := u2_
  have hJ9 := va_join (wr := wX cI cZ x_ a_ S1 ++ [wO cJ ou f1_]) hP hD [14, 15, 16, 17, 18, 19, 20, 21, 22, 23, 24, 25, 26, 27] [0, 1, 2, 3, 4, 5, 6, 7, 8, 9, 10, 11, 12, 13, 28] rfl rfl (by decide) (by decide) hk9 hFc (atW_P hB9 ht9) hB9.2
  have hP : va_P D vwCl (wW cI cZ cJ x_ y_ ou a_ b_ S1 S2 t2_ f1_) H1 := hJ9.1.sub [0, 1, 2, 3, 4, 5, 6, 7, 8, 9, 10, 11, 12, 13, 15, 16, 17, 18, 19, 20, 21, 22, 23, 24, 25, 26, 27, 28, 14] rfl
  have hD : va_D (fun q_ : Nat => s_.heap.size ≤ q_) (wW cI cZ cJ x_ y_ ou a_ b_ S1 S2 t2_ f1_) := hJ9.2.sub [0, 1, 2, 3, 4, 5, 6, 7, 8, 9, 10, 11, 12, 13, 15, 16, 17, 18, 19, 20, 21, 22, 23, 24, 25, 26, 27, 28, 14] (by decide) rfl
  generalize H1 = H at hP hS_ ⊢
  obtain ⟨e1_, e23_⟩ := Prod.mk.inj (hw1.symm.trans hw2)
  obtain ⟨e2_, e3_⟩ := Prod.mk.inj e23_
  subst e1_
  subst e2_
  subst e3_
  have hI0 : Inv (10 + 24 * k_) (k_canCall S (xs (i4_ + 1).toNatClampNeg)).2.2 := cif_elim (fun z_ : KR => Inv (10 + 24 * k_) z_.2.2) (fun _ => hI_) (fun _ => hI_)
  rw [hw1] at hI0
  have hI1 : Inv (10 + 24 * (k_ + 1)) S1 := Inv.mono hI0 (by omega)
  refine lv_istore (lv' := [(6, .int v1_), (5, .int r1_), (0, .ref b0), (1, .ref x_), (2, .ref y_), (3, .ref ou), (4, .int i4_)]) hx hb_ dL_law_496 hl (by decide) rfl (fun ls hl => ?_)
  refine lv_aload_n hx hb_ dL_law_498 rfl (lv_at hl 4 rfl) ?_
  have hPc := hP.sub (ws' := wM cI y_ b_ S1 r1_) [14, 15, 16, 17, 18, 19, 20, 21, 22, 23, 24, 25, 26, 27] rfl
  refine vp_callSi (W.runV (As := []) (rest := []) ⟨hx, hb_, hml, hown, hts⟩ (c_X1_thrown l D cI y_ b_ S1 r1_  ) (cwV 0 hts gL_law_X1_thrown rfl rfl rfl (by decide +kernel) ⟨Nat.le_of_ble_eq_true rfl, Nat.le_of_ble_eq_true rfl⟩) (pR_V (ci := 1) hPc (hK_.sub (tys' := tyM cI) [0] rfl) rfl rfl) rfl rfl hl.1 rfl (lv_room (Nat.le_of_ble_eq_true rfl)) dL_law_499 ⟨by show _ ≤ 1073; omega, by show _ ≤ 8742; omega⟩) (fun r3 h3 => ?_)
  replace h3 := h3.symm
  subst h3
  refine lv_iload hx hb_ dL_law_502 (lv_at hl 1 rfl) ?_
  refine lv_icmp_eq (tgt := 509) hx hb_ dL_law_504 (by decide) (fun c_504 => ?_) (fun c_504 => absurd rfl c_504)
  refine lv_iload hx hb_ dL_law_509 (lv_at hl 1 rfl) ?_
  refine lv_if_ne (tgt := 533) hx hb_ dL_law_511 (by decide) (fun c0_ => ?_) (fun c0_ => ?_)
  · skip
    refine lv_goto (tgt := 1161) hx hb_ dL_law_533 (by decide) ?_
    refine W.widen (k := 29 + k_ + 1) (n := 430 + 6 * k_ + 6) (by omega) (by omega) ?_
    exact kont S1 r1_ f1_ hI1 _ _ hP hD hS_ _ (lv_sub hl [2, 3, 4, 5, 6] rfl)
  · skip
    refine lv_aload_n hx hb_ dL_law_514 rfl (lv_at hl 5 rfl) ?_
    refine lv_iconst (v := 0) hx hb_ dL_law_515 (by decide) ?_
    refine va_lald (f := f1_) (n := 1) hx hb_ hK_ hP 28 2 rfl rfl vin01 dL_law_516 ?_
    refine lv_iload hx hb_ dL_law_517 (lv_at hl 0 rfl) ?_
    refine lv_if_eq (tgt := 526) hx hb_ dL_law_519 (by decide) (fun cb => ?_) (fun cb => ?_)
    · skip
      refine lv_lconst (v := 0) hx hb_ dL_law_526 (by decide) ?_
      refine W.lcmp hx hb_ dL_law_527 ?_
      refine lv_if_eq (tgt := 533) hx hb_ dL_law_528 (by decide) (fun _ => ?_) (fun z_ => absurd ((lg_cmp_eq _ _).mpr ((ho c0_).trans (if_pos cb))) z_)
      refine lv_goto (tgt := 1161) hx hb_ dL_law_533 (by decide) ?_
      refine W.widen (k := 29 + k_ + 1) (n := 430 + 6 * k_ + 6) (by omega) (by omega) ?_
      exact kont S1 r1_ f1_ hI1 _ _ hP hD hS_ _ (lv_sub hl [2, 3, 4, 5, 6] rfl)
    · skip
      refine lv_lconst (v := 1) hx hb_ dL_law_522 (by decide) ?_
      refine lv_goto (tgt := 527) hx hb_ dL_law_523 (by decide) ?_
      refine W.lcmp hx hb_ dL_law_527 ?_
      refine lv_if_eq (tgt := 533) hx hb_ dL_law_528 (by decide) (fun _ => ?_) (fun z_ => absurd ((lg_cmp_eq _ _).mpr ((ho c0_).trans (if_neg cb))) z_)
      refine lv_goto (tgt := 1161) hx hb_ dL_law_533 (by decide) ?_
      refine W.widen (k := 29 + k_ + 1) (n := 430 + 6 * k_ + 6) (by omega) (by omega) ?_
      exact kont S1 r1_ f1_ hI1 _ _ hP hD hS_ _ (lv_sub hl [2, 3, 4, 5, 6] rfl)
set_option maxHeartbeats 4000000 in
set_option maxRecDepth 100000 in
theorem law_case_7 {p_ : Program} {l : Launch} {e_ : Env} {s_ : State} {m_ : MethodId} {below : List Frame} {meth : Method} {c_ : Code} {D : va_G} {cI cZ cJ : ClassId} {b0 L : Nat} {xs : Nat → Int32} {x_ y_ ou : Nat} {a_ b_ : Nat → Nat} (hL : L ≤ 2560) (hfl : l.stackTraces = false) (C0_ : lw_At p_ s_ m_ meth c_ b0 L xs) (hG : xG (fun q_ => s_.heap.size ≤ q_) s_ s_.heap) (hN_ : xN s_) (hK_ : va_K D vwCl (tyL cI cZ cJ) s_) {k_ : Nat} {i4_ : Int32} (hk : 5 * k_ + 5 ≤ L) (e4_ : i4_ = nI (5 * k_)) {S : ST} {t_ : Int32} {fo : Nat → Int64} (hI_ : Inv (10 + 24 * k_) S) {H : Heap} {locs : List Loc} (hP : va_P D vwCl (wW cI cZ cJ x_ y_ ou a_ b_ S S t_ fo) H) (hD : va_D (fun q_ : Nat => s_.heap.size ≤ q_) (wW cI cZ cJ x_ y_ ou a_ b_ S S t_ fo)) (hS_ : va_S (fun q_ : Nat => s_.heap.size ≤ q_) s_.heap H locs) {ls : Array Slot} (hl : lv_has ls 7 [(0, .ref b0), (1, .ref x_), (2, .ref y_), (3, .ref ou), (4, .int i4_)]) (kont : ∀ (S' : ST) (t' : Int32) (f' : Nat → Int64), Inv (10 + 24 * (k_ + 1)) S' → ∀ (H : Heap) (locs : List Loc), va_P D vwCl (wW cI cZ cJ x_ y_ ou a_ b_ S' S' t' f') H → va_D (fun q_ : Nat => s_.heap.size ≤ q_) (wW cI cZ cJ x_ y_ ou a_ b_ S' S' t' f') → va_S (fun q_ : Nat => s_.heap.size ≤ q_) s_.heap H locs → ∀ ls : Array Slot, lv_has ls 7 [(0, .ref b0), (1, .ref x_), (2, .ref y_), (3, .ref ou), (4, .int i4_)] → W p_ l e_ room_1 s_ m_ #[Value.ref b0] below meth c_ H locs (29 + k_ + 1) (430 + 6 * k_ + 6) (lw_Z below #[Value.ref b0] s_) (F0 m_ 1161 ls [])) : W p_ l e_ room_1 s_ m_ #[Value.ref b0] below meth c_ H locs (29 + k_) (430 + 6 * k_) (lw_Z below #[Value.ref b0] s_) (F0 m_ 536 ls []) := by
  obtain ⟨hx, hb_, hr, hml, hown, hts, hX, hbl, hlocks, hgv⟩ := C0_
  have hts := fun w_ h_ => hts w_ (wsL_law_in w_ h_)
  have hown : s_.vm.findClass RL = some m_.cls := hown
  have hA : ∀ q_ : Nat, s_.heap.size ≤ q_ → (fun q_ : Nat => s_.heap.size ≤ q_) q_ := fun _ h_ => h_
  have hbA : ¬ (fun q_ : Nat => s_.heap.size ≤ q_) b0 := Nat.not_le.mpr hbl
  refine lv_aload_n hx hb_ dL_law_536 rfl (lv_at hl 1 rfl) ?_
  refine lv_aload_n hx hb_ dL_law_537 rfl (lv_at hl 0 rfl) ?_
  refine lv_iload hx hb_ dL_law_538 (lv_at hl 4 rfl) ?_
  refine lv_iconst (v := 1) hx hb_ dL_law_540 (by decide) ?_
  refine lv_iadd hx hb_ dL_law_541 ?_
  refine va_sld hx hb_ hX hbl hbA hS_ (sidx (jx := 1) e4_ hk hL (by decide)) dL_law_542 ?_
  refine lv_aload_n hx hb_ dL_law_543 rfl (lv_at hl 3 rfl) ?_
  have hPc := hP.sub (ws' := wX cI cZ x_ a_ S ++ [wO cJ ou fo]) [0, 1, 2, 3, 4, 5, 6, 7, 8, 9, 10, 11, 12, 13, 28] rfl
  have hDc := hD.sub (ws' := wX cI cZ x_ a_ S ++ [wO cJ ou fo]) [0, 1, 2, 3, 4, 5, 6, 7, 8, 9, 10, 11, 12, 13, 28] (by decide) rfl
  have hFc := va_free (wc := wX cI cZ x_ a_ S ++ [wO cJ ou fo]) hD hS_ hA [0, 1, 2, 3, 4, 5, 6, 7, 8, 9, 10, 11, 12, 13, 28] rfl
  have hGH : xG (fun q_ => s_.heap.size ≤ q_) s_ H := hG.kept (fun q_ h1 h2 => hS_.2.1 q_ h1 h2)
  refine va_calli (vx_runSW (As := [.ref x_, .int (xs (i4_ + 1).toNatClampNeg), .ref ou]) (rest := []) ⟨hx, hb_, hml, hown, hts⟩ (c_L_call l hfl D cI cZ cJ x_ ou a_ S fo H.size (xs (i4_ + 1).toNatClampNeg) (10 + 24 * k_) hI_) (vx_cwSW 3 hts gL_law_L_call rfl rfl rfl (by decide +kernel) ⟨Nat.le_of_ble_eq_true rfl, Nat.le_of_ble_eq_true rfl⟩) (pL_S (pW_S hPc hK_ hDc) hGH (fun _ h_ => Nat.le_trans hS_.1 h_) hN_) rfl rfl hl.1 rfl (lv_room (Nat.le_of_ble_eq_true rfl)) dL_law_544 ⟨by show _ ≤ 1073; omega, by show _ ≤ 8742; omega⟩) hS_ (fun q_ _ h_ => hFc q_ h_) hFc (fun r1_ u1_ t9 H1 locs ht9 hvm9 hw hB9 hz9 hk9 hS_ => ?_)
  obtain ⟨S1, f1_⟩ := u1_
  obtain ⟨v1_, hw1, ho⟩ := hw
  have hJ9 := va_join (wr := wM cI y_ b_ S t_) hP hD [0, 1, 2, 3, 4, 5, 6, 7, 8, 9, 10, 11, 12, 13, 28] [14, 15, 16, 17, 18, 19, 20, 21, 22, 23, 24, 25, 26, 27] rfl rfl (by decide) (by decide) hk9 hFc (atW_P hB9 ht9) hB9.2
  have hP : va_P D vwCl (wW cI cZ cJ x_ y_ ou a_ b_ S1 S t_ f1_) H1 := hJ9.1.sub [14, 15, 16, 17, 18, 19, 20, 21, 22, 23, 24, 25, 26, 27, 0, 1, 2, 3, 4, 5, 6, 7, 8, 9, 10, 11, 12, 13, 28] rfl
  have hD : va_D (fun q_ : Nat => s_.heap.size ≤ q_) (wW cI cZ cJ x_ y_ ou a_ b_ S1 S t_ f1_) := hJ9.2.sub [14, 15, 16, 17, 18, 19, 20, 21, 22, 23, 24, 25, 26, 27, 0, 1, 2, 3, 4, 5, 6, 7, 8, 9, 10, 11, 12, 13, 28] (by decide) rfl
  generalize H1 = H at hP hS_ ⊢
  refine lv_istore (lv' := [(5, .int r1_), (0, .ref b0), (1, .ref x_), (2, .ref y_), (3, .ref ou), (4, .int i4_)]) hx hb_ dL_law_547 hl (by decide) rfl (fun ls hl => ?_)
  refine lv_aload_n hx hb_ dL_law_549 rfl (lv_at hl 3 rfl) ?_
  refine lv_aload_n hx hb_ dL_law_550 rfl (lv_at hl 1 rfl) ?_
  refine lv_iload hx hb_ dL_law_551 (lv_at hl 5 rfl) ?_
  refine lv_iconst (v := 1) hx hb_ dL_law_553 (by decide) ?_
  refine lv_iadd hx hb_ dL_law_554 ?_
  refine va_sld hx hb_ hX hbl hbA hS_ (sidx (jx := 1) e4_ hk hL (by decide)) dL_law_555 ?_
  have hPc := hP.sub (ws' := wM cI y_ b_ S t_) [14, 15, 16, 17, 18, 19, 20, 21, 22, 23, 24, 25, 26, 27] rfl
  have hDc := hD.sub (ws' := wM cI y_ b_ S t_) [14, 15, 16, 17, 18, 19, 20, 21, 22, 23, 24, 25, 26, 27] (by decide) rfl
  have hFc := va_free (wc := wM cI y_ b_ S t_) hD hS_ hA [14, 15, 16, 17, 18, 19, 20, 21, 22, 23, 24, 25, 26, 27] rfl
  refine va_calli (va_runV (As := [.int (xs (i4_ + 1).toNatClampNeg)]) (rest := []) ⟨hx, hb_, hml, hown, hts⟩ (c_X1_call l D cI y_ b_ S t_ H.size (xs (i4_ + 1).toNatClampNeg) (10 + 24 * k_) hI_) (cwV 1 hts gL_law_X1_call rfl rfl rfl (by decide +kernel) ⟨Nat.le_of_ble_eq_true rfl, Nat.le_of_ble_eq_true rfl⟩) (pW_V (ci := 1) hPc (hK_.sub (tys' := tyM cI) [0] rfl) hDc rfl rfl) rfl rfl hl.1 rfl (lv_room (Nat.le_of_ble_eq_true rfl)) dL_law_556 ⟨by show _ ≤ 1073; omega, by show _ ≤ 8742; omega⟩) hS_ (fun q_ _ h_ => hFc q_ h_) hFc (fun r2_ u2_ t9 H1 locs ht9 hvm9 hw2 hB9 hz9 hk9 hS_ => ?_)
  obtain ⟨S2, t2_⟩ := u2_
  have hJ9 := va_join (wr := wX cI cZ x_ a_ S1 ++ [wO cJ ou f1_]) hP hD [14, 15, 16, 17, 18, 19, 20, 21, 22, 23, 24, 25, 26, 27] [0, 1, 2, 3, 4, 5, 6, 7, 8, 9, 10, 11, 12, 13, 28] rfl rfl (by decide) (by decide) hk9 hFc (atW_P hB9 ht9) hB9.2
  have hP : va_P D vwCl (wW cI cZ cJ x_ y_ ou a_ b_ S1 S2 t2_ f1_) H1 := hJ9.1.sub [0, 1, 2, 3, 4, 5, 6, 7, 8, 9, 10, 11, 12, 13, 15, 16, 17, 18, 19, 20, 21, 22, 23, 24, 25, 26, 27, 28, 14] rfl
  have hD : va_D (fun q_ : Nat => s_.heap.size ≤ q_) (wW cI cZ cJ x_ y_ ou a_ b_ S1 S2 t2_ f1_) := hJ9.2.sub [0, 1, 2, 3, 4, 5, 6, 7, 8, 9, 10, 11, 12, 13, 15, 16, 17, 18, 19, 20, 21, 22, 23, 24, 25, 26, 27, 28, 14] (by decide) rfl
  generalize H1 = H at hP hS_ ⊢
  obtain ⟨e1_, e23_⟩ := Prod.mk.inj (hw1.symm.trans hw2)
  obtain ⟨e2_, e3_⟩ := Prod.mk.inj e23_
  subst e1_
  subst e2_
  subst e3_
  have hI0 : Inv (10 + 24 * k_) (k_call S (xs (i4_ + 1).toNatClampNeg)).2.2 := keep_call hI_ (xs (i4_ + 1).toNatClampNeg)
  rw [hw1] at hI0
  have hI1 : Inv (10 + 24 * (k_ + 1)) S1 := Inv.mono hI0 (by omega)
  refine lv_istore (lv' := [(6, .int v1_), (5, .int r1_), (0, .ref b0), (1, .ref x_), (2, .ref y_), (3, .ref ou), (4, .int i4_)]) hx hb_ dL_law_559 hl (by decide) rfl (fun ls hl => ?_)
  refine lv_aload_n hx hb_ dL_law_561 rfl (lv_at hl 4 rfl) ?_
  have hPc := hP.sub (ws' := wM cI y_ b_ S1 r1_) [14, 15, 16, 17, 18, 19, 20, 21, 22, 23, 24, 25, 26, 27] rfl
  refine vp_callSi (W.runV (As := []) (rest := []) ⟨hx, hb_, hml, hown, hts⟩ (c_X1_thrown l D cI y_ b_ S1 r1_  ) (cwV 0 hts gL_law_X1_thrown rfl rfl rfl (by decide +kernel) ⟨Nat.le_of_ble_eq_true rfl, Nat.le_of_ble_eq_true rfl⟩) (pR_V (ci := 1) hPc (hK_.sub (tys' := tyM cI) [0] rfl) rfl rfl) rfl rfl hl.1 rfl (lv_room (Nat.le_of_ble_eq_true rfl)) dL_law_562 ⟨by show _ ≤ 1073; omega, by show _ ≤ 8742; omega⟩) (fun r3 h3 => ?_)
  replace h3 := h3.symm
  subst h3
  refine lv_iload hx hb_ dL_law_565 (lv_at hl 1 rfl) ?_
  refine lv_icmp_eq (tgt := 572) hx hb_ dL_law_567 (by decide) (fun c_567 => ?_) (fun c_567 => absurd rfl c_567)
  refine lv_iload hx hb_ dL_law_572 (lv_at hl 1 rfl) ?_
  refine lv_if_ne (tgt := 589) hx hb_ dL_law_574 (by decide) (fun c0_ => ?_) (fun c0_ => ?_)
  · skip
    refine lv_goto (tgt := 1161) hx hb_ dL_law_589 (by decide) ?_
    refine W.widen (k := 29 + k_ + 1) (n := 430 + 6 * k_ + 6) (by omega) (by omega) ?_
    exact kont S1 r1_ f1_ hI1 _ _ hP hD hS_ _ (lv_sub hl [2, 3, 4, 5, 6] rfl)
  · skip
    refine lv_aload_n hx hb_ dL_law_577 rfl (lv_at hl 5 rfl) ?_
    refine lv_iconst (v := 0) hx hb_ dL_law_578 (by decide) ?_
    refine va_lald (f := f1_) (n := 1) hx hb_ hK_ hP 28 2 rfl rfl vin01 dL_law_579 ?_
    refine lv_iload hx hb_ dL_law_580 (lv_at hl 0 rfl) ?_
    refine lv_i2l (v := v1_.toInt64) hx hb_ dL_law_582 rfl ?_
    refine W.lcmp hx hb_ dL_law_583 ?_
    refine lv_if_eq (tgt := 589) hx hb_ dL_law_584 (by decide) (fun _ => ?_) (fun z_ => absurd ((lg_cmp_eq _ _).mpr (ho c0_)) z_)
    refine lv_goto (tgt := 1161) hx hb_ dL_law_589 (by decide) ?_
    refine W.widen (k := 29 + k_ + 1) (n := 430 + 6 * k_ + 6) (by omega) (by omega) ?_
    exact kont S1 r1_ f1_ hI1 _ _ hP hD hS_ _ (lv_sub hl [2, 3, 4, 5, 6] rfl)
