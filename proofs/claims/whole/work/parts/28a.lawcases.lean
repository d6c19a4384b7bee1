abbrev wW (cI cZ cJ : ClassId) (x_ y_ ou : Nat) (a_ b_ : Nat → Nat) (S1 S2 : ST) (t_ : Int32) (f_ : Nat → Int64) : va_W := wX cI cZ x_ a_ S1 ++ (wM cI y_ b_ S2 t_ ++ [wO cJ ou f_])
theorem sidx {i4_ : Int32} {k_ L jx : Nat} (e4_ : i4_ = nI (5 * k_)) (hk : 5 * k_ + 5 ≤ L) (hL : L ≤ 2560) (hj : jx < 5) : vp_in (i4_ + nI jx) L := by
  rw [e4_, nI_add]
  exact vp_in_nI (by omega) (by omega)
set_option maxHeartbeats 4000000 in
set_option maxRecDepth 100000 in
theorem law_case_0 {p_ : Program} {l : Launch} {e_ : Env} {s_ : State} {m_ : MethodId} {below : List Frame} {meth : Method} {c_ : Code} {D : va_G} {cI cZ cJ : ClassId} {b0 L : Nat} {xs : Nat → Int32} {x_ y_ ou : Nat} {a_ b_ : Nat → Nat} (hL : L ≤ 2560) (hfl : l.stackTraces = false) (C0_ : lw_At p_ s_ m_ meth c_ b0 L xs) (hG : xG (fun q_ => s_.heap.size ≤ q_) s_ s_.heap) (hN_ : xN s_) (hK_ : va_K D vwCl (tyL cI cZ cJ) s_) {k_ : Nat} {i4_ : Int32} (hk : 5 * k_ + 5 ≤ L) (e4_ : i4_ = nI (5 * k_)) {S : ST} {t_ : Int32} {fo : Nat → Int64} (hI_ : Inv (10 + 24 * k_) S) {H : Heap} {locs : List Loc} (hP : va_P D vwCl (wW cI cZ cJ x_ y_ ou a_ b_ S S t_ fo) H) (hD : va_D (fun q_ : Nat => s_.heap.size ≤ q_) (wW cI cZ cJ x_ y_ ou a_ b_ S S t_ fo)) (hS_ : va_S (fun q_ : Nat => s_.heap.size ≤ q_) s_.heap H locs) {ls : Array Slot} (hl : lv_has ls 7 [(0, .ref b0), (1, .ref x_), (2, .ref y_), (3, .ref ou), (4, .int i4_)]) (kont : ∀ (S' : ST) (t' : Int32) (f' : Nat → Int64), Inv (10 + 24 * (k_ + 1)) S' → ∀ (H : Heap) (locs : List Loc), va_P D vwCl (wW cI cZ cJ x_ y_ ou a_ b_ S' S' t' f') H → va_D (fun q_ : Nat => s_.heap.size ≤ q_) (wW cI cZ cJ x_ y_ ou a_ b_ S' S' t' f') → va_S (fun q_ : Nat => s_.heap.size ≤ q_) s_.heap H locs → ∀ ls : Array Slot, lv_has ls 7 [(0, .ref b0), (1, .ref x_), (2, .ref y_), (3, .ref ou), (4, .int i4_)] → W p_ l e_ room_1 s_ m_ #[Value.ref b0] below meth c_ H locs (29 + k_ + 1) (430 + 6 * k_ + 6) (lw_Z below #[Value.ref b0] s_) (F0 m_ 1161 ls [])) : W p_ l e_ room_1 s_ m_ #[Value.ref b0] below meth c_ H locs (29 + k_) (430 + 6 * k_) (lw_Z below #[Value.ref b0] s_) (F0 m_ 132 ls []) := by
  obtain ⟨hx, hb_, hr, hml, hown, hts, hX, hbl, hlocks, hgv⟩ := C0_
  have hts := fun w_ h_ => hts w_ (wsL_law_in w_ h_)
  have hown : s_.vm.findClass RL = some m_.cls := hown
  have hA : ∀ q_ : Nat, s_.heap.size ≤ q_ → (fun q_ : Nat => s_.heap.size ≤ q_) q_ := fun _ h_ => h_
  have hbA : ¬ (fun q_ : Nat => s_.heap.size ≤ q_) b0 := Nat.not_le.mpr hbl
  refine lv_aload_n hx hb_ dL_law_132 rfl (lv_at hl 1 rfl) ?_
  refine lv_aload_n hx hb_ dL_law_133 rfl (lv_at hl 0 rfl) ?_
  refine lv_iload hx hb_ dL_law_134 (lv_at hl 4 rfl) ?_
  refine lv_iconst (v := 1) hx hb_ dL_law_136 (by decide) ?_
  refine lv_iadd hx hb_ dL_law_137 ?_
  refine va_sld hx hb_ hX hbl hbA hS_ (sidx (jx := 1) e4_ hk hL (by decide)) dL_law_138 ?_
  refine lv_aload_n hx hb_ dL_law_139 rfl (lv_at hl 0 rfl) ?_
  refine lv_iload hx hb_ dL_law_140 (lv_at hl 4 rfl) ?_
  refine lv_iconst (v := 2) hx hb_ dL_law_142 (by decide) ?_
  refine lv_iadd hx hb_ dL_law_143 ?_
  refine va_sld hx hb_ hX hbl hbA hS_ (sidx (jx := 2) e4_ hk hL (by decide)) dL_law_144 ?_
  refine lv_aload_n hx hb_ dL_law_145 rfl (lv_at hl 3 rfl) ?_
  have hPc := hP.sub (ws' := wX cI cZ x_ a_ S ++ [wO cJ ou fo]) [0, 1, 2, 3, 4, 5, 6, 7, 8, 9, 10, 11, 12, 13, 28] rfl
  have hDc := hD.sub (ws' := wX cI cZ x_ a_ S ++ [wO cJ ou fo]) [0, 1, 2, 3, 4, 5, 6, 7, 8, 9, 10, 11, 12, 13, 28] (by decide) rfl
  have hFc := va_free (wc := wX cI cZ x_ a_ S ++ [wO cJ ou fo]) hD hS_ hA [0, 1, 2, 3, 4, 5, 6, 7, 8, 9, 10, 11, 12, 13, 28] rfl
  have hGH : xG (fun q_ => s_.heap.size ≤ q_) s_ H := hG.kept (fun q_ h1 h2 => hS_.2.1 q_ h1 h2)
  refine va_calli (vx_runSW (As := [.ref x_, .int (xs (i4_ + 1).toNatClampNeg), .int (xs (i4_ + 2).toNatClampNeg), .ref ou]) (rest := []) ⟨hx, hb_, hml, hown, hts⟩ (c_L_dress l hfl D cI cZ cJ x_ ou a_ S fo H.size (xs (i4_ + 1).toNatClampNeg) (xs (i4_ + 2).toNatClampNeg) ) (vx_cwSW 4 hts gL_law_L_dress rfl rfl rfl (by decide +kernel) ⟨Nat.le_of_ble_eq_true rfl, Nat.le_of_ble_eq_true rfl⟩) (pL_S (pW_S hPc hK_ hDc) hGH (fun _ h_ => Nat.le_trans hS_.1 h_) hN_) rfl rfl hl.1 rfl (lv_room (Nat.le_of_ble_eq_true rfl)) dL_law_146 ⟨by show _ ≤ 1073; omega, by show _ ≤ 8742; omega⟩) hS_ (fun q_ _ h_ => hFc q_ h_) hFc (fun r1_ u1_ t9 H1 locs ht9 hvm9 hw hB9 hz9 hk9 hS_ => ?_)
  obtain ⟨S1, f1_⟩ := u1_
  obtain ⟨v1_, hw1, ho⟩ := hw
  have hJ9 := va_join (wr := wM cI y_ b_ S t_) hP hD [0, 1, 2, 3, 4, 5, 6, 7, 8, 9, 10, 11, 12, 13, 28] [14, 15, 16, 17, 18, 19, 20, 21, 22, 23, 24, 25, 26, 27] rfl rfl (by decide) (by decide) hk9 hFc (atW_P hB9 ht9) hB9.2
  have hP : va_P D vwCl (wW cI cZ cJ x_ y_ ou a_ b_ S1 S t_ f1_) H1 := hJ9.1.sub [14, 15, 16, 17, 18, 19, 20, 21, 22, 23, 24, 25, 26, 27, 0, 1, 2, 3, 4, 5, 6, 7, 8, 9, 10, 11, 12, 13, 28] rfl
  have hD : va_D (fun q_ : Nat => s_.heap.size ≤ q_) (wW cI cZ cJ x_ y_ ou a_ b_ S1 S t_ f1_) := hJ9.2.sub [14, 15, 16, 17, 18, 19, 20, 21, 22, 23, 24, 25, 26, 27, 0, 1, 2, 3, 4, 5, 6, 7, 8, 9, 10, 11, 12, 13, 28] (by decide) rfl
  generalize H1 = H at hP hS_ ⊢
  refine lv_istore (lv' := [(5, .int r1_), (0, .ref b0), (1, .ref x_), (2, .ref y_), (3, .ref ou), (4, .int i4_)]) hx hb_ dL_law_149 hl (by decide) rfl (fun ls hl => ?_)
  refine lv_aload_n hx hb_ dL_law_151 rfl (lv_at hl 3 rfl) ?_
  refine lv_aload_n hx hb_ dL_law_152 rfl (lv_at hl 1 rfl) ?_
  refine lv_iload hx hb_ dL_law_153 (lv_at hl 5 rfl) ?_
  refine lv_iconst (v := 1) hx hb_ dL_law_155 (by decide) ?_
  refine lv_iadd hx hb_ dL_law_156 ?_
  refine va_sld hx hb_ hX hbl hbA hS_ (sidx (jx := 1) e4_ hk hL (by decide)) dL_law_157 ?_
  refine lv_aload_n hx hb_ dL_law_158 rfl (lv_at hl 1 rfl) ?_
  refine lv_iload hx hb_ dL_law_159 (lv_at hl 5 rfl) ?_
  refine lv_iconst (v := 2) hx hb_ dL_law_161 (by decide) ?_
  refine lv_iadd hx hb_ dL_law_162 ?_
  refine va_sld hx hb_ hX hbl hbA hS_ (sidx (jx := 2) e4_ hk hL (by decide)) dL_law_163 ?_
  have hPc := hP.sub (ws' := wM cI y_ b_ S t_) [14, 15, 16, 17, 18, 19, 20, 21, 22, 23, 24, 25, 26, 27] rfl
  have hDc := hD.sub (ws' := wM cI y_ b_ S t_) [14, 15, 16, 17, 18, 19, 20, 21, 22, 23, 24, 25, 26, 27] (by decide) rfl
  have hFc := va_free (wc := wM cI y_ b_ S t_) hD hS_ hA [14, 15, 16, 17, 18, 19, 20, 21, 22, 23, 24, 25, 26, 27] rfl
  refine va_calli (va_runV (As := [.int (xs (i4_ + 1).toNatClampNeg), .int (xs (i4_ + 2).toNatClampNeg)]) (rest := []) ⟨hx, hb_, hml, hown, hts⟩ (c_X1_dress l D cI y_ b_ S t_ H.size (xs (i4_ + 1).toNatClampNeg) (xs (i4_ + 2).toNatClampNeg) (10 + 24 * k_) hI_) (cwV 2 hts gL_law_X1_dress rfl rfl rfl (by decide +kernel) ⟨Nat.le_of_ble_eq_true rfl, Nat.le_of_ble_eq_true rfl⟩) (pW_V (ci := 1) hPc (hK_.sub (tys' := tyM cI) [0] rfl) hDc rfl rfl) rfl rfl hl.1 rfl (lv_room (Nat.le_of_ble_eq_true rfl)) dL_law_164 ⟨by show _ ≤ 1073; omega, by show _ ≤ 8742; omega⟩) hS_ (fun q_ _ h_ => hFc q_ h_) hFc (fun r2_ u2_ t9 H1 locs ht9 hvm9 hw2 hB9 hz9 hk9 hS_ => ?_)
  obtain ⟨S2, t2_⟩ := u2_
  have hJ9 := va_join (wr := wX cI cZ x_ a_ S1 ++ [wO cJ ou f1_]) hP hD [14, 15, 16, 17, 18, 19, 20, 21, 22, 23, 24, 25, 26, 27] [0, 1, 2, 3, 4, 5, 6, 7, 8, 9, 10, 11, 12, 13, 28] rfl rfl (by decide) (by decide) hk9 hFc (atW_P hB9 ht9) hB9.2
  have hP : va_P D vwCl (wW cI cZ cJ x_ y_ ou a_ b_ S1 S2 t2_ f1_) H1 := hJ9.1.sub [0, 1, 2, 3, 4, 5, 6, 7, 8, 9, 10, 11, 12, 13, 15, 16, 17, 18, 19, 20, 21, 22, 23, 24, 25, 26, 27, 28, 14] rfl
  have hD : va_D (fun q_ : Nat => s_.heap.size ≤ q_) (wW cI cZ cJ x_ y_ ou a_ b_ S1 S2 t2_ f1_) := hJ9.2.sub [0, 1, 2, 3, 4, 5, 6, 7, 8, 9, 10, 11, 12, 13, 15, 16, 17, 18, 19, 20, 21, 22, 23, 24, 25, 26, 27, 28, 14] (by decide) rfl
  generalize H1 = H at hP hS_ ⊢
  obtain ⟨e1_, e23_⟩ := Prod.mk.inj (hw1.symm.trans hw2)
  obtain ⟨e2_, e3_⟩ := Prod.mk.inj e23_
  subst e1_
  subst e2_
  subst e3_
  have hI0 : Inv (10 + 24 * k_) (k_dress S (xs (i4_ + 1).toNatClampNeg) (xs (i4_ + 2).toNatClampNeg)).2.2 := keep_dress hI_ (xs (i4_ + 1).toNatClampNeg) (xs (i4_ + 2).toNatClampNeg)
  rw [hw1] at hI0
  have hI1 : Inv (10 + 24 * (k_ + 1)) S1 := Inv.mono hI0 (by omega)
  refine lv_istore (lv' := [(6, .int v1_), (5, .int r1_), (0, .ref b0), (1, .ref x_), (2, .ref y_), (3, .ref ou), (4, .int i4_)]) hx hb_ dL_law_167 hl (by decide) rfl (fun ls hl => ?_)
  refine lv_aload_n hx hb_ dL_law_169 rfl (lv_at hl 4 rfl) ?_
  have hPc := hP.sub (ws' := wM cI y_ b_ S1 r1_) [14, 15, 16, 17, 18, 19, 20, 21, 22, 23, 24, 25, 26, 27] rfl
  refine vp_callSi (W.runV (As := []) (rest := []) ⟨hx, hb_, hml, hown, hts⟩ (c_X1_thrown l D cI y_ b_ S1 r1_  ) (cwV 0 hts gL_law_X1_thrown rfl rfl rfl (by decide +kernel) ⟨Nat.le_of_ble_eq_true rfl, Nat.le_of_ble_eq_true rfl⟩) (pR_V (ci := 1) hPc (hK_.sub (tys' := tyM cI) [0] rfl) rfl rfl) rfl rfl hl.1 rfl (lv_room (Nat.le_of_ble_eq_true rfl)) dL_law_170 ⟨by show _ ≤ 1073; omega, by show _ ≤ 8742; omega⟩) (fun r3 h3 => ?_)
  replace h3 := h3.symm
  subst h3
  refine lv_iload hx hb_ dL_law_173 (lv_at hl 1 rfl) ?_
  refine lv_icmp_eq (tgt := 180) hx hb_ dL_law_175 (by decide) (fun c_175 => ?_) (fun c_175 => absurd rfl c_175)
  refine lv_iload hx hb_ dL_law_180 (lv_at hl 1 rfl) ?_
  refine lv_if_ne (tgt := 197) hx hb_ dL_law_182 (by decide) (fun c0_ => ?_) (fun c0_ => ?_)
  · skip
    refine lv_goto (tgt := 1161) hx hb_ dL_law_197 (by decide) ?_
    refine W.widen (k := 29 + k_ + 1) (n := 430 + 6 * k_ + 6) (by omega) (by omega) ?_
    exact kont S1 r1_ f1_ hI1 _ _ hP hD hS_ _ (lv_sub hl [2, 3, 4, 5, 6] rfl)
  · skip
    refine lv_aload_n hx hb_ dL_law_185 rfl (lv_at hl 5 rfl) ?_
    refine lv_iconst (v := 0) hx hb_ dL_law_186 (by decide) ?_
    refine va_lald (f := f1_) (n := 1) hx hb_ hK_ hP 28 2 rfl rfl vin01 dL_law_187 ?_
    refine lv_iload hx hb_ dL_law_188 (lv_at hl 0 rfl) ?_
    refine lv_i2l (v := v1_.toInt64) hx hb_ dL_law_190 rfl ?_
    refine W.lcmp hx hb_ dL_law_191 ?_
    refine lv_if_eq (tgt := 197) hx hb_ dL_law_192 (by decide) (fun _ => ?_) (fun z_ => absurd ((lg_cmp_eq _ _).mpr (ho c0_)) z_)
    refine lv_goto (tgt := 1161) hx hb_ dL_law_197 (by decide) ?_
    refine W.widen (k := 29 + k_ + 1) (n := 430 + 6 * k_ + 6) (by omega) (by omega) ?_
    exact kont S1 r1_ f1_ hI1 _ _ hP hD hS_ _ (lv_sub hl [2, 3, 4, 5, 6] rfl)
set_option maxHeartbeats 4000000 in
set_option maxRecDepth 100000 in
theorem law_case_1 {p_ : Program} {l : Launch} {e_ : Env} {s_ : State} {m_ : MethodId} {below : List Frame} {meth : Method} {c_ : Code} {D : va_G} {cI cZ cJ : ClassId} {b0 L : Nat} {xs : Nat → Int32} {x_ y_ ou : Nat} {a_ b_ : Nat → Nat} (hL : L ≤ 2560) (hfl : l.stackTraces = false) (C0_ : lw_At p_ s_ m_ meth c_ b0 L xs) (hG : xG (fun q_ => s_.heap.size ≤ q_) s_ s_.heap) (hN_ : xN s_) (hK_ : va_K D vwCl (tyL cI cZ cJ) s_) {k_ : Nat} {i4_ : Int32} (hk : 5 * k_ + 5 ≤ L) (e4_ : i4_ = nI (5 * k_)) {S : ST} {t_ : Int32} {fo : Nat → Int64} (hI_ : Inv (10 + 24 * k_) S) {H : Heap} {locs : List Loc} (hP : va_P D vwCl (wW cI cZ cJ x_ y_ ou a_ b_ S S t_ fo) H) (hD : va_D (fun q_ : Nat => s_.heap.size ≤ q_) (wW cI cZ cJ x_ y_ ou a_ b_ S S t_ fo)) (hS_ : va_S (fun q_ : Nat => s_.heap.size ≤ q_) s_.heap H locs) {ls : Array Slot} (hl : lv_has ls 7 [(0, .ref b0), (1, .ref x_), (2, .ref y_), (3, .ref ou), (4, .int i4_)]) (kont : ∀ (S' : ST) (t' : Int32) (f' : Nat → Int64), Inv (10 + 24 * (k_ + 1)) S' → ∀ (H : Heap) (locs : List Loc), va_P D vwCl (wW cI cZ cJ x_ y_ ou a_ b_ S' S' t' f') H → va_D (fun q_ : Nat => s_.heap.size ≤ q_) (wW cI cZ cJ x_ y_ ou a_ b_ S' S' t' f') → va_S (fun q_ : Nat => s_.heap.size ≤ q_) s_.heap H locs → ∀ ls : Array Slot, lv_has ls 7 [(0, .ref b0), (1, .ref x_), (2, .ref y_), (3, .ref ou), (4, .int i4_)] → W p_ l e_ room_1 s_ m_ #[Value.ref b0] below meth c_ H locs (29 + k_ + 1) (430 + 6 * k_ + 6) (lw_Z below #[Value.ref b0] s_) (F0 m_ 1161 ls [])) : W p_ l e_ room_1 s_ m_ #[Value.ref b0] below meth c_ H locs (29 + k_) (430 + 6 * k_) (lw_Z below #[Value.ref b0] s_) (F0 m_ 200 ls []) := by
  obtain ⟨hx, hb_, hr, hml, hown, hts, hX, hbl, hlocks, hgv⟩ := C0_
  have hts := fun w_ h_ => hts w_ (wsL_law_in w_ h_)
  have hown : s_.vm.findClass RL = some m_.cls := hown
  have hA : ∀ q_ : Nat, s_.heap.size ≤ q_ → (fun q_ : Nat => s_.heap.size ≤ q_) q_ := fun _ h_ => h_
  have hbA : ¬ (fun q_ : Nat => s_.heap.size ≤ q_) b0 := Nat.not_le.mpr hbl
  refine lv_aload_n hx hb_ dL_law_200 rfl (lv_at hl 1 rfl) ?_
  refine lv_aload_n hx hb_ dL_law_201 rfl (lv_at hl 0 rfl) ?_
  refine lv_iload hx hb_ dL_law_202 (lv_at hl 4 rfl) ?_
  refine lv_iconst (v := 1) hx hb_ dL_law_204 (by decide) ?_
  refine lv_iadd hx hb_ dL_law_205 ?_
  refine va_sld hx hb_ hX hbl hbA hS_ (sidx (jx := 1) e4_ hk hL (by decide)) dL_law_206 ?_
  refine lv_aload_n hx hb_ dL_law_207 rfl (lv_at hl 3 rfl) ?_
  have hPc := hP.sub (ws' := wX cI cZ x_ a_ S ++ [wO cJ ou fo]) [0, 1, 2, 3, 4, 5, 6, 7, 8, 9, 10, 11, 12, 13, 28] rfl
  have hDc := hD.sub (ws' := wX cI cZ x_ a_ S ++ [wO cJ ou fo]) [0, 1, 2, 3, 4, 5, 6, 7, 8, 9, 10, 11, 12, 13, 28] (by decide) rfl
  have hFc := va_free (wc := wX cI cZ x_ a_ S ++ [wO cJ ou fo]) hD hS_ hA [0, 1, 2, 3, 4, 5, 6, 7, 8, 9, 10, 11, 12, 13, 28] rfl
  have hGH : xG (fun q_ => s_.heap.size ≤ q_) s_ H := hG.kept (fun q_ h1 h2 => hS_.2.1 q_ h1 h2)
  refine va_calli (vx_runSW (As := [.ref x_, .int (xs (i4_ + 1).toNatClampNeg), .ref ou]) (rest := []) ⟨hx, hb_, hml, hown, hts⟩ (c_L_repair l hfl D cI cZ cJ x_ ou a_ S fo H.size (xs (i4_ + 1).toNatClampNeg) ) (vx_cwSW 3 hts gL_law_L_repair rfl rfl rfl (by decide +kernel) ⟨Nat.le_of_ble_eq_true rfl, Nat.le_of_ble_eq_true rfl⟩) (pL_S (pW_S hPc hK_ hDc) hGH (fun _ h_ => Nat.le_trans hS_.1 h_) hN_) rfl rfl hl.1 rfl (lv_room (Nat.le_of_ble_eq_true rfl)) dL_law_208 ⟨by show _ ≤ 1073; omega, by show _ ≤ 8742; omega⟩) hS_ (fun q_ _ h_ => hFc q_ h_) hFc (fun r1_ u1_ t9 H1 locs ht9 hvm9 hw hB9 hz9 hk9 hS_ => ?_)
  obtain ⟨S1, f1_⟩ := u1_
  obtain ⟨v1_, hw1, ho⟩ := hw
  have hJ9 := va_join (wr := wM cI y_ b_ S t_) hP hD [0, 1, 2, 3, 4, 5, 6, 7, 8, 9, 10, 11, 12, 13, 28] [14, 15, 16, 17, 18, 19, 20, 21, 22, 23, 24, 25, 26, 27] rfl rfl (by decide) (by decide) hk9 hFc (atW_P hB9 ht9) hB9.2
  have hP : va_P D vwCl (wW cI cZ cJ x_ y_ ou a_ b_ S1 S t_ f1_) H1 := hJ9.1.sub [14, 15, 16, 17, 18, 19, 20, 21, 22, 23, 24, 25, 26, 27, 0, 1, 2, 3, 4, 5, 6, 7, 8, 9, 10, 11, 12, 13, 28] rfl
  have hD : va_D (fun q_ : Nat => s_.heap.size ≤ q_) (wW cI cZ cJ x_ y_ ou a_ b_ S1 S t_ f1_) := hJ9.2.sub [14, 15, 16, 17, 18, 19, 20, 21, 22, 23, 24, 25, 26, 27, 0, 1, 2, 3, 4, 5, 6, 7, 8, 9, 10, 11, 12, 13, 28] (by decide) rfl
  generalize H1 = H at hP hS_ ⊢
  refine lv_istore (lv' := [(5, .int r1_), (0, .ref b0), (1, .ref x_), (2, .ref y_), (3, .ref ou), (4, .int i4_)]) hx hb_ dL_law_211 hl (by decide) rfl (fun ls hl => ?_)
  refine lv_aload_n hx hb_ dL_law_213 rfl (lv_at hl 3 rfl) ?_
  refine lv_aload_n hx hb_ dL_law_214 rfl (lv_at hl 1 rfl) ?_
  refine lv_iload hx hb_ dL_law_215 (lv_at hl 5 rfl) ?_
  refine lv_iconst (v := 1) hx hb_ dL_law_217 (by decide) ?_
  refine lv_iadd hx hb_ dL_law_218 ?_
  refine va_sld hx hb_ hX hbl hbA hS_ (sidx (jx := 1) e4_ hk hL (by decide)) dL_law_219 ?_
  have hPc := hP.sub (ws' := wM cI y_ b_ S t_) [14, 15, 16, 17, 18, 19, 20, 21, 22, 23, 24, 25, 26, 27] rfl
  have hDc := hD.sub (ws' := wM cI y_ b_ S t_) [14, 15, 16, 17, 18, 19, 20, 21, 22, 23, 24, 25, 26, 27] (by decide) rfl
  have hFc := va_free (wc := wM cI y_ b_ S t_) hD hS_ hA [14, 15, 16, 17, 18, 19, 20, 21, 22, 23, 24, 25, 26, 27] rfl
  refine va_calli (va_runV (As := [.int (xs (i4_ + 1).toNatClampNeg)]) (rest := []) ⟨hx, hb_, hml, hown, hts⟩ (c_X1_repair l D cI y_ b_ S t_ H.size (xs (i4_ + 1).toNatClampNeg) (10 + 24 * k_) hI_) (cwV 1 hts gL_law_X1_repair rfl rfl rfl (by decide +kernel) ⟨Nat.le_of_ble_eq_true rfl, Nat.le_of_ble_eq_true rfl⟩) (pW_V (ci := 1) hPc (hK_.sub (tys' := tyM cI) [0] rfl) hDc rfl rfl) rfl rfl hl.1 rfl (lv_room (Nat.le_of_ble_eq_true rfl)) dL_law_220 ⟨by show _ ≤ 1073; omega, by show _ ≤ 8742; omega⟩) hS_ (fun q_ _ h_ => hFc q_ h_) hFc (fun r2_ u2_ t9 H1 locs ht9 hvm9 hw2 hB9 hz9 hk9 hS_ => ?_)
  obtain ⟨S2, t2_⟩ := u2_
  have hJ9 := va_join (wr := wX cI cZ x_ a_ S1 ++ [wO cJ ou f1_]) hP hD [14, 15, 16, 17, 18, 19, 20, 21, 22, 23, 24, 25, 26, 27] [0, 1, 2, 3, 4, 5, 6, 7, 8, 9, 10, 11, 12, 13, 28] rfl rfl (by decide) (by decide) hk9 hFc (atW_P hB9 ht9) hB9.2
  have hP : va_P D vwCl (wW cI cZ cJ x_ y_ ou a_ b_ S1 S2 t2_ f1_) H1 := hJ9.1.sub [0, 1, 2, 3, 4, 5, 6, 7, 8, 9, 10, 11, 12, 13, 15, 16, 17, 18, 19, 20, 21, 22, 23, 24, 25, 26, 27, 28, 14] rfl
  have hD : va_D (fun q_ : Nat => s_.heap.size ≤ q_) (wW cI cZ cJ x_ y_ ou a_ b_ S1 S2 t2_ f1_) := hJ9.2.sub [0, 1, 2, 3, 4, 5, 6, 7, 8, 9, 10, 11, 12, 13, 15, 16, 17, 18, 19, 20, 21, 22, 23, 24, 25, 26, 27, 28, 14] (by decide) rfl
  generalize H1 = H at hP hS_ ⊢
  obtain ⟨e1_, e23_⟩ := Prod.mk.inj (hw1.symm.trans hw2)
  obtain ⟨e2_, e3_⟩ := Prod.mk.inj e23_
  subst e1_
  subst e2_
  subst e3_
  have hI0 : Inv (10 + 24 * k_) (k_repair S (xs (i4_ + 1).toNatClampNeg)).2.2 := keep_repair hI_ (xs (i4_ + 1).toNatClampNeg)
  rw [hw1] at hI0
  have hI1 : Inv (10 + 24 * (k_ + 1)) S1 := Inv.mono hI0 (by omega)
  refine lv_istore (lv' := [(6, .int v1_), (5, .int r1_), (0, .ref b0), (1, .ref x_), (2, .ref y_), (3, .ref ou), (4, .int i4_)]) hx hb_ dL_law_223 hl (by decide) rfl (fun ls hl => ?_)
  refine lv_aload_n hx hb_ dL_law_225 rfl (lv_at hl 4 rfl) ?_
  have hPc := hP.sub (ws' := wM cI y_ b_ S1 r1_) [14, 15, 16, 17, 18, 19, 20, 21, 22, 23, 24, 25, 26, 27] rfl
  refine vp_callSi (W.runV (As := []) (rest := []) ⟨hx, hb_, hml, hown, hts⟩ (c_X1_thrown l D cI y_ b_ S1 r1_  ) (cwV 0 hts gL_law_X1_thrown rfl rfl rfl (by decide +kernel) ⟨Nat.le_of_ble_eq_true rfl, Nat.le_of_ble_eq_true rfl⟩) (pR_V (ci := 1) hPc (hK_.sub (tys' := tyM cI) [0] rfl) rfl rfl) rfl rfl hl.1 rfl (lv_room (Nat.le_of_ble_eq_true rfl)) dL_law_226 ⟨by show _ ≤ 1073; omega, by show _ ≤ 8742; omega⟩) (fun r3 h3 => ?_)
  replace h3 := h3.symm
  subst h3
  refine lv_iload hx hb_ dL_law_229 (lv_at hl 1 rfl) ?_
  refine lv_icmp_eq (tgt := 236) hx hb_ dL_law_231 (by decide) (fun c_231 => ?_) (fun c_231 => absurd rfl c_231)
  refine lv_iload hx hb_ dL_law_236 (lv_at hl 1 rfl) ?_
  refine lv_if_ne (tgt := 253) hx hb_ dL_law_238 (by decide) (fun c0_ => ?_) (fun c0_ => ?_)
  · skip
    refine lv_goto (tgt := 1161) hx hb_ dL_law_253 (by decide) ?_
    refine W.widen (k := 29 + k_ + 1) (n := 430 + 6 * k_ + 6) (by omega) (by omega) ?_
    exact kont S1 r1_ f1_ hI1 _ _ hP hD hS_ _ (lv_sub hl [2, 3, 4, 5, 6] rfl)
  · skip
    refine lv_aload_n hx hb_ dL_law_241 rfl (lv_at hl 5 rfl) ?_
    refine lv_iconst (v := 0) hx hb_ dL_law_242 (by decide) ?_
    refine va_lald (f := f1_) (n := 1) hx hb_ hK_ hP 28 2 rfl rfl vin01 dL_law_243 ?_
    refine lv_iload hx hb_ dL_law_244 (lv_at hl 0 rfl) ?_
    refine lv_i2l (v := v1_.toInt64) hx hb_ dL_law_246 rfl ?_
    refine W.lcmp hx hb_ dL_law_247 ?_
    refine lv_if_eq (tgt := 253) hx hb_ dL_law_248 (by decide) (fun _ => ?_) (fun z_ => absurd ((lg_cmp_eq _ _).mpr (ho c0_)) z_)
    refine lv_goto (tgt := 1161) hx hb_ dL_law_253 (by decide) ?_
    refine W.widen (k := 29 + k_ + 1) (n := 430 + 6 * k_ + 6) (by omega) (by omega) ?_
    exact kont S1 r1_ f1_ hI1 _ _ hP hD hS_ _ (lv_sub hl [2, 3, 4, 5, 6] rfl)
set_option maxHeartbeats 4000000 in
set_option maxRecDepth 100000 in
theorem law_case_2 {p_ : Program} {l : Launch} {e_ : Env} {s_ : State} {m_ : MethodId} {below : List Frame} {meth : Method} {c_ : Code} {D : va_G} {cI cZ cJ : ClassId} {b0 L : Nat} {xs : Nat → Int32} {x_ y_ ou : Nat} {a_ b_ : Nat → Nat} (hL : L ≤ 2560) (hfl : l.stackTraces = false) (C0_ : lw_At p_ s_ m_ meth c_ b0 L xs) (hG : xG (fun q_ => s_.heap.size ≤ q_) s_ s_.heap) (hN_ : xN s_) (hK_ : va_K D vwCl (tyL cI cZ cJ) s_) {k_ : Nat} {i4_ : Int32} (hk : 5 * k_ + 5 ≤ L) (e4_ : i4_ = nI (5 * k_)) {S : ST} {t_ : Int32} {fo : Nat → Int64} (hI_ : Inv (10 + 24 * k_) S) {H : Heap} {locs : List Loc} (hP : va_P D vwCl (wW cI cZ cJ x_ y_ ou a_ b_ S S t_ fo) H) (hD : va_D (fun q_ : Nat => s_.heap.size ≤ q_) (wW cI cZ cJ x_ y_ ou a_ b_ S S t_ fo)) (hS_ : va_S (fun q_ : Nat => s_.heap.size ≤ q_) s_.heap H locs) {ls : Array Slot} (hl : lv_has ls 7 [(0, .ref b0), (1, .ref x_), (2, .ref y_), (3, .ref ou), (4, .int i4_)]) (kont : ∀ (S' : ST) (t' : Int32) (f' : Nat → Int64), Inv (10 + 24 * (k_ + 1)) S' → ∀ (H : Heap) (locs : List Loc), va_P D vwCl (wW cI cZ cJ x_ y_ ou a_ b_ S' S' t' f') H → va_D (fun q_ : Nat => s_.heap.size ≤ q_) (wW cI cZ cJ x_ y_ ou a_ b_ S' S' t' f') → va_S (fun q_ : Nat => s_.heap.size ≤ q_) s_.heap H locs → ∀ ls : Array Slot, lv_has ls 7 [(0, .ref b0), (1, .ref x_), (2, .ref y_), (3, .ref ou), (4, .int i4_)] → W p_ l e_ room_1 s_ m_ #[Value.ref b0] below meth c_ H locs (29 + k_ + 1) (430 + 6 * k_ + 6) (lw_Z below #[Value.ref b0] s_) (F0 m_ 1161 ls [])) : W p_ l e_ room_1 s_ m_ #[Value.ref b0] below meth c_ H locs (29 + k_) (430 + 6 * k_) (lw_Z below #[Value.ref b0] s_) (F0 m_ 256 ls []) := by
  obtain ⟨hx, hb_, hr, hml, hown, hts, hX, hbl, hlocks, hgv⟩ := C0_
  have hts := fun w_ h_ => hts w_ (wsL_law_in w_ h_)
  have hown : s_.vm.findClass RL = some m_.cls := hown
  have hA : ∀ q_ : Nat, s_.heap.size ≤ q_ → (fun q_ : Nat => s_.heap.size ≤ q_) q_ := fun _ h_ => h_
  have hbA : ¬ (fun q_ : Nat => s_.heap.size ≤ q_) b0 := Nat.not_le.mpr hbl
  refine lv_aload_n hx hb_ dL_law_256 rfl (lv_at hl 1 rfl) ?_
  refine lv_aload_n hx hb_ dL_law_257 rfl (lv_at hl 0 rfl) ?_
  refine lv_iload hx hb_ dL_law_258 (lv_at hl 4 rfl) ?_
  refine lv_iconst (v := 1) hx hb_ dL_law_260 (by decide) ?_
  refine lv_iadd hx hb_ dL_law_261 ?_
  refine va_sld hx hb_ hX hbl hbA hS_ (sidx (jx := 1) e4_ hk hL (by decide)) dL_law_262 ?_
  refine lv_aload_n hx hb_ dL_law_263 rfl (lv_at hl 3 rfl) ?_
  have hPc := hP.sub (ws' := wX cI cZ x_ a_ S ++ [wO cJ ou fo]) [0, 1, 2, 3, 4, 5, 6, 7, 8, 9, 10, 11, 12, 13, 28] rfl
  have hDc := hD.sub (ws' := wX cI cZ x_ a_ S ++ [wO cJ ou fo]) [0, 1, 2, 3, 4, 5, 6, 7, 8, 9, 10, 11, 12, 13, 28] (by decide) rfl
  have hFc := va_free (wc := wX cI cZ x_ a_ S ++ [wO cJ ou fo]) hD hS_ hA [0, 1, 2, 3, 4, 5, 6, 7, 8, 9, 10, 11, 12, 13, 28] rfl
  have hGH : xG (fun q_ => s_.heap.size ≤ q_) s_ H := hG.kept (fun q_ h1 h2 => hS_.2.1 q_ h1 h2)
  refine va_calli (vx_runSW (As := [.ref x_, .int (xs (i4_ + 1).toNatClampNeg), .ref ou]) (rest := []) ⟨hx, hb_, hml, hown, hts⟩ (c_L_costumeOf l hfl D cI cZ cJ x_ ou a_ S fo H.size (xs (i4_ + 1).toNatClampNeg) ) (vx_cwSW 3 hts gL_law_L_costumeOf rfl rfl rfl (by decide +kernel) ⟨Nat.le_of_ble_eq_true rfl, Nat.le_of_ble_eq_true rfl⟩) (pL_S (pW_S hPc hK_ hDc) hGH (fun _ h_ => Nat.le_trans hS_.1 h_) hN_) rfl rfl hl.1 rfl (lv_room (Nat.le_of_ble_eq_true rfl)) dL_law_264 ⟨by show _ ≤ 1073; omega, by show _ ≤ 8742; omega⟩) hS_ (fun q_ _ h_ => hFc q_ h_) hFc (fun r1_ u1_ t9 H1 locs ht9 hvm9 hw hB9 hz9 hk9 hS_ => ?_)
  obtain ⟨S1, f1_⟩ := u1_
  obtain ⟨v1_, hw1, ho⟩ := hw
  have hJ9 := va_join (wr := wM cI y_ b_ S t_) hP hD [0, 1, 2, 3, 4, 5, 6, 7, 8, 9, 10, 11, 12, 13, 28] [14, 15, 16, 17, 18, 19, 20, 21, 22, 23, 24, 25, 26, 27] rfl rfl (by decide) (by decide) hk9 hFc (atW_P hB9 ht9) hB9.2
  have hP : va_P D vwCl (wW cI cZ cJ x_ y_ ou a_ b_ S1 S t_ f1_) H1 := hJ9.1.sub [14, 15, 16, 17, 18, 19, 20, 21, 22, 23, 24, 25, 26, 27, 0, 1, 2, 3, 4, 5, 6, 7, 8, 9, 10, 11, 12, 13, 28] rfl
  have hD : va_D (fun q_ : Nat => s_.heap.size ≤ q_) (wW cI cZ cJ x_ y_ ou a_ b_ S1 S t_ f1_) := hJ9.2.sub [14, 15, 16, 17, 18, 19, 20, 21, 22, 23, 24, 25, 26, 27, 0, 1, 2, 3, 4, 5, 6, 7, 8, 9, 10, 11, 12, 13, 28] (by decide) rfl
  generalize H1 = H at hP hS_ ⊢
  refine lv_istore (lv' := [(5, .int r1_), (0, .ref b0), (1, .ref x_), (2, .ref y_), (3, .ref ou), (4, .int i4_)]) hx hb_ dL_law_267 hl (by decide) rfl (fun ls hl => ?_)
  refine lv_aload_n hx hb_ dL_law_269 rfl (lv_at hl 3 rfl) ?_
  refine lv_aload_n hx hb_ dL_law_270 rfl (lv_at hl 1 rfl) ?_
  refine lv_iload hx hb_ dL_law_271 (lv_at hl 5 rfl) ?_
  refine lv_iconst (v := 1) hx hb_ dL_law_273 (by decide) ?_
  refine lv_iadd hx hb_ dL_law_274 ?_
  refine va_sld hx hb_ hX hbl hbA hS_ (sidx (jx := 1) e4_ hk hL (by decide)) dL_law_275 ?_
  have hPc := hP.sub (ws' := wM cI y_ b_ S t_) [14, 15, 16, 17, 18, 19, 20, 21, 22, 23, 24, 25, 26, 27] rfl
  have hDc := hD.sub (ws' := wM cI y_ b_ S t_) [14, 15, 16, 17, 18, 19, 20, 21, 22, 23, 24, 25, 26, 27] (by decide) rfl
  have hFc := va_free (wc := wM cI y_ b_ S t_) hD hS_ hA [14, 15, 16, 17, 18, 19, 20, 21, 22, 23, 24, 25, 26, 27] rfl
  refine va_calli (va_runV (As := [.int (xs (i4_ + 1).toNatClampNeg)]) (rest := []) ⟨hx, hb_, hml, hown, hts⟩ (c_X1_costumeOf l D cI y_ b_ S t_ H.size (xs (i4_ + 1).toNatClampNeg) ) (cwV 1 hts gL_law_X1_costumeOf rfl rfl rfl (by decide +kernel) ⟨Nat.le_of_ble_eq_true rfl, Nat.le_of_ble_eq_true rfl⟩) (pW_V (ci := 1) hPc (hK_.sub (tys' := tyM cI) [0] rfl) hDc rfl rfl) rfl rfl hl.1 rfl (lv_room (Nat.le_of_ble_eq_true rfl)) dL_law_276 ⟨by show _ ≤ 1073; omega, by show _ ≤ 8742; omega⟩) hS_ (fun q_ _ h_ => hFc q_ h_) hFc (fun r2_ u2_ t9 H1 locs ht9 hvm9 hw2 hB9 hz9 hk9 hS_ => ?_)
  obtain ⟨S2, t2_⟩ := u2_
  have hJ9 := va_join (wr := wX cI cZ x_ a_ S1 ++ [wO cJ ou f1_]) hP hD [14, 15, 16, 17, 18, 19, 20, 21, 22, 23, 24, 25, 26, 27] [0, 1, 2, 3, 4, 5, 6, 7, 8, 9, 10, 11, 12, 13, 28] rfl rfl (by decide) (by decide) hk9 hFc (atW_P hB9 ht9) hB9.2
  have hP : va_P D vwCl (wW cI cZ cJ x_ y_ ou a_ b_ S1 S2 t2_ f1_) H1 := hJ9.1.sub [0, 1, 2, 3, 4, 5, 6, 7, 8, 9, 10, 11, 12, 13, 15, 16, 17, 18, 19, 20, 21, 22, 23, 24, 25, 26, 27, 28, 14] rfl
  have hD : va_D (fun q_ : Nat => s_.heap.size ≤ q_) (wW cI cZ cJ x_ y_ ou a_ b_ S1 S2 t2_ f1_) := hJ9.2.sub [0, 1, 2, 3, 4, 5, 6, 7, 8, 9, 10, 11, 12, 13, 15, 16, 17, 18, 19, 20, 21, 22, 23, 24, 25, 26, 27, 28, 14] (by decide) rfl
  generalize H1 = H at hP hS_ ⊢
  obtain ⟨e1_, e23_⟩ := Prod.mk.inj (hw1.symm.trans hw2)
  obtain ⟨e2_, e3_⟩ := Prod.mk.inj e23_
  subst e1_
  subst e2_
  subst e3_
  have hI0 : Inv (10 + 24 * k_) (k_costumeOf S (xs (i4_ + 1).toNatClampNeg)).2.2 := cif_elim (fun z_ : KR => Inv (10 + 24 * k_) z_.2.2) (fun _ => hI_) (fun _ => hI_)
  rw [hw1] at hI0
  have hI1 : Inv (10 + 24 * (k_ + 1)) S1 := Inv.mono hI0 (by omega)
  refine lv_istore (lv' := [(6, .int v1_), (5, .int r1_), (0, .ref b0), (1, .ref x_), (2, .ref y_), (3, .ref ou), (4, .int i4_)]) hx hb_ dL_law_279 hl (by decide) rfl (fun ls hl => ?_)
  refine lv_aload_n hx hb_ dL_law_281 rfl (lv_at hl 4 rfl) ?_
  have hPc := hP.sub (ws' := wM cI y_ b_ S1 r1_) [14, 15, 16, 17, 18, 19, 20, 21, 22, 23, 24, 25, 26, 27] rfl
  refine vp_callSi (W.runV (As := []) (rest := []) ⟨hx, hb_, hml, hown, hts⟩ (c_X1_thrown l D cI y_ b_ S1 r1_  ) (cwV 0 hts gL_law_X1_thrown rfl rfl rfl (by decide +kernel) ⟨Nat.le_of_ble_eq_true rfl, Nat.le_of_ble_eq_true rfl⟩) (pR_V (ci := 1) hPc (hK_.sub (tys' := tyM cI) [0] rfl) rfl rfl) rfl rfl hl.1 rfl (lv_room (Nat.le_of_ble_eq_true rfl)) dL_law_282 ⟨by show _ ≤ 1073; omega, by show _ ≤ 8742; omega⟩) (fun r3 h3 => ?_)
  replace h3 := h3.symm
  subst h3
  refine lv_iload hx hb_ dL_law_285 (lv_at hl 1 rfl) ?_
  refine lv_icmp_eq (tgt := 292) hx hb_ dL_law_287 (by decide) (fun c_287 => ?_) (fun c_287 => absurd rfl c_287)
  refine lv_iload hx hb_ dL_law_292 (lv_at hl 1 rfl) ?_
  refine lv_if_ne (tgt := 309) hx hb_ dL_law_294 (by decide) (fun c0_ => ?_) (fun c0_ => ?_)
  · skip
    refine lv_goto (tgt := 1161) hx hb_ dL_law_309 (by decide) ?_
    refine W.widen (k := 29 + k_ + 1) (n := 430 + 6 * k_ + 6) (by omega) (by omega) ?_
    exact kont S1 r1_ f1_ hI1 _ _ hP hD hS_ _ (lv_sub hl [2, 3, 4, 5, 6] rfl)
  · skip
    refine lv_aload_n hx hb_ dL_law_297 rfl (lv_at hl 5 rfl) ?_
    refine lv_iconst (v := 0) hx hb_ dL_law_298 (by decide) ?_
    refine va_lald (f := f1_) (n := 1) hx hb_ hK_ hP 28 2 rfl rfl vin01 dL_law_299 ?_
    refine lv_iload hx hb_ dL_law_300 (lv_at hl 0 rfl) ?_
    refine lv_i2l (v := v1_.toInt64) hx hb_ dL_law_302 rfl ?_
    refine W.lcmp hx hb_ dL_law_303 ?_
    refine lv_if_eq (tgt := 309) hx hb_ dL_law_304 (by decide) (fun _ => ?_) (fun z_ => absurd ((lg_cmp_eq _ _).mpr (ho c0_)) z_)
    refine lv_goto (tgt := 1161) hx hb_ dL_law_309 (by decide) ?_
    refine W.widen (k := 29 + k_ + 1) (n := 430 + 6 * k_ + 6) (by omega) (by omega) ?_
    exact kont S1 r1_ f1_ hI1 _ _ hP hD hS_ _ (lv_sub hl [2, 3, 4, 5, 6] rfl)
set_option maxHeartbeats 4000000 in
set_option maxRecDepth 100000 in
theorem law_case_3 {p_ : Program} {l : Launch} {e_ : Env} {s_ : State} {m_ : MethodId} {below : List Frame} {meth : Method} {c_ : Code} {D : va_G} {cI cZ cJ : ClassId} {b0 L : Nat} {xs : Nat → Int32} {x_ y_ ou : Nat} {a_ b_ : Nat → Nat} (hL : L ≤ 2560) (hfl : l.stackTraces = false) (C0_ : lw_At p_ s_ m_ meth c_ b0 L xs) (hG : xG (fun q_ => s_.heap.size ≤ q_) s_ s_.heap) (hN_ : xN s_) (hK_ : va_K D vwCl (tyL cI cZ cJ) s_) {k_ : Nat} {i4_ : Int32} (hk : 5 * k_ + 5 ≤ L) (e4_ : i4_ = nI (5 * k_)) {S : ST} {t_ : Int32} {fo : Nat → Int64} (hI_ : Inv (10 + 24 * k_) S) {H : Heap} {locs : List Loc} (hP : va_P D vwCl (wW cI cZ cJ x_ y_ ou a_ b_ S S t_ fo) H) (hD : va_D (fun q_ : Nat => s_.heap.size ≤ q_) (wW cI cZ cJ x_ y_ ou a_ b_ S S t_ fo)) (hS_ : va_S (fun q_ : Nat => s_.heap.size ≤ q_) s_.heap H locs) {ls : Array Slot} (hl : lv_has ls 7 [(0, .ref b0), (1, .ref x_), (2, .ref y_), (3, .ref ou), (4, .int i4_)]) (kont : ∀ (S' : ST) (t' : Int32) (f' : Nat → Int64), Inv (10 + 24 * (k_ + 1)) S' → ∀ (H : Heap) (locs : List Loc), va_P D vwCl (wW cI cZ cJ x_ y_ ou a_ b_ S' S' t' f') H → va_D (fun q_ : Nat => s_.heap.size ≤ q_) (wW cI cZ cJ x_ y_ ou a_ b_ S' S' t' f') → va_S (fun q_ : Nat => s_.heap.size ≤ q_) s_.heap H locs → ∀ ls : Array Slot, lv_has ls 7 [(0, .ref b0), (1, .ref x_), (2, .ref y_), (3, .ref ou), (4, .int i4_)] → W p_ l e_ room_1 s_ m_ #[Value.ref b0] below meth c_ H locs (29 + k_ + 1) (430 + 6 * k_ + 6) (lw_Z below #[Value.ref b0] s_) (F0 m_ 1161 ls [])) : W p_ l e_ room_1 s_ m_ #[Value.ref b0] below meth c_ H locs (29 + k_) (430 + 6 * k_) (lw_Z below #[Value.ref b0] s_) (F0 m_ 312 ls []) := by
  obtain ⟨hx, hb_, hr, hml, hown, hts, hX, hbl, hlocks, hgv⟩ := C0_
  have hts := fun w_ h_ => hts w_ (wsL_law_in w_ h_)
  have hown : s_.vm.findClass RL = some m_.cls := hown
  have hA : ∀ q_ : Nat, s_.heap.size ≤ q_ → (fun q_ : Nat => s_.heap.size ≤ q_) q_ := fun _ h_ => h_
  have hbA : ¬ (fun q_ : Nat => s_.heap.size ≤ q_) b0 := Nat.not_le.mpr hbl
  refine lv_aload_n hx hb_ dL_law_312 rfl (lv_at hl 1 rfl) ?_
  refine lv_aload_n hx hb_ dL_law_313 rfl (lv_at hl 0 rfl) ?_
  refine lv_iload hx hb_ dL_law_314 (lv_at hl 4 rfl) ?_
  refine lv_iconst (v := 1) hx hb_ dL_law_316 (by decide) ?_
  refine lv_iadd hx hb_ dL_law_317 ?_
  refine va_sld hx hb_ hX hbl hbA hS_ (sidx (jx := 1) e4_ hk hL (by decide)) dL_law_318 ?_
  refine lv_aload_n hx hb_ dL_law_319 rfl (lv_at hl 3 rfl) ?_
  have hPc := hP.sub (ws' := wX cI cZ x_ a_ S ++ [wO cJ ou fo]) [0, 1, 2, 3, 4, 5, 6, 7, 8, 9, 10, 11, 12, 13, 28] rfl
  have hDc := hD.sub (ws' := wX cI cZ x_ a_ S ++ [wO cJ ou fo]) [0, 1, 2, 3, 4, 5, 6, 7, 8, 9, 10, 11, 12, 13, 28] (by decide) rfl
  have hFc := va_free (wc := wX cI cZ x_ a_ S ++ [wO cJ ou fo]) hD hS_ hA [0, 1, 2, 3, 4, 5, 6, 7, 8, 9, 10, 11, 12, 13, 28] rfl
  have hGH : xG (fun q_ => s_.heap.size ≤ q_) s_ H := hG.kept (fun q_ h1 h2 => hS_.2.1 q_ h1 h2)
  refine va_calli (vx_runSW (As := [.ref x_, .int (xs (i4_ + 1).toNatClampNeg), .ref ou]) (rest := []) ⟨hx, hb_, hml, hown, hts⟩ (c_L_wear l hfl D cI cZ cJ x_ ou a_ S fo H.size (xs (i4_ + 1).toNatClampNeg) ) (vx_cwSW 3 hts gL_law_L_wear rfl rfl rfl (by decide +kernel) ⟨Nat.le_of_ble_eq_true rfl, Nat.le_of_ble_eq_true rfl⟩) (pL_S (pW_S hPc hK_ hDc) hGH (fun _ h_ => Nat.le_trans hS_.1 h_) hN_) rfl rfl hl.1 rfl (lv_room (Nat.le_of_ble_eq_true rfl)) dL_law_320 ⟨by show _ ≤ 1073; omega, by show _ ≤ 8742; omega⟩) hS_ (fun q_ _ h_ => hFc q_ h_) hFc (fun r1_ u1_ t9 H1 locs ht9 hvm9 hw hB9 hz9 hk9 hS_ => ?_)
  obtain ⟨S1, f1_⟩ := u1_
  obtain ⟨v1_, hw1, ho⟩ := hw
  have hJ9 := va_join (wr := wM cI y_ b_ S t_) hP hD [0, 1, 2, 3, 4, 5, 6, 7, 8, 9, 10, 11, 12, 13, 28] [14, 15, 16, 17, 18, 19, 20, 21, 22, 23, 24, 25, 26, 27] rfl rfl (by decide) (by decide) hk9 hFc (atW_P hB9 ht9) hB9.2
  have hP : va_P D vwCl (wW cI cZ cJ x_ y_ ou a_ b_ S1 S t_ f1_) H1 := hJ9.1.sub [14, 15, 16, 17, 18, 19, 20, 21, 22, 23, 24, 25, 26, 27, 0, 1, 2, 3, 4, 5, 6, 7, 8, 9, 10, 11, 12, 13, 28] rfl
  have hD : va_D (fun q_ : Nat => s_.heap.size ≤ q_) (wW cI cZ cJ x_ y_ ou a_ b_ S1 S t_ f1_) := hJ9.2.sub [14, 15, 16, 17, 18, 19, 20, 21, 22, 23, 24, 25, 26, 27, 0, 1, 2, 3, 4, 5, 6, 7, 8, 9, 10, 11, 12, 13, 28] (by decide) rfl
  generalize H1 = H at hP hS_ ⊢
  refine lv_istore (lv' := [(5, .int r1_), (0, .ref b0), (1, .ref x_), (2, .ref y_), (3, .ref ou), (4, .int i4_)]) hx hb_ dL_law_323 hl (by decide) rfl (fun ls hl => ?_)
  refine lv_aload_n hx hb_ dL_law_325 rfl (lv_at hl 3 rfl) ?_
  refine lv_aload_n hx hb_ dL_law_326 rfl (lv_at hl 1 rfl) ?_
  refine lv_iload hx hb_ dL_law_327 (lv_at hl 5 rfl) ?_
  refine lv_iconst (v := 1) hx hb_ dL_law_329 (by decide) ?_
  refine lv_iadd hx hb_ dL_law_330 ?_
  refine va_sld hx hb_ hX hbl hbA hS_ (sidx (jx := 1) e4_ hk hL (by decide)) dL_law_331 ?_
  have hPc := hP.sub (ws' := wM cI y_ b_ S t_) [14, 15, 16, 17, 18, 19, 20, 21, 22, 23, 24, 25, 26, 27] rfl
  have hDc := hD.sub (ws' := wM cI y_ b_ S t_) [14, 15, 16, 17, 18, 19, 20, 21, 22, 23, 24, 25, 26, 27] (by decide) rfl
  have hFc := va_free (wc := wM cI y_ b_ S t_) hD hS_ hA [14, 15, 16, 17, 18, 19, 20, 21, 22, 23, 24, 25, 26, 27] rfl
  refine va_calli (va_runV (As := [.int (xs (i4_ + 1).toNatClampNeg)]) (rest := []) ⟨hx, hb_, hml, hown, hts⟩ (c_X1_wear l D cI y_ b_ S t_ H.size (xs (i4_ + 1).toNatClampNeg) ) (cwV 1 hts gL_law_X1_wear rfl rfl rfl (by decide +kernel) ⟨Nat.le_of_ble_eq_true rfl, Nat.le_of_ble_eq_true rfl⟩) (pW_V (ci := 1) hPc (hK_.sub (tys' := tyM cI) [0] rfl) hDc rfl rfl) rfl rfl hl.1 rfl (lv_room (Nat.le_of_ble_eq_true rfl)) dL_law_332 ⟨by show _ ≤ 1073; omega, by show _ ≤ 8742; omega⟩) hS_ (fun q_ _ h_ => hFc q_ h_) hFc (fun r2_ u2_ t9 H1 locs ht9 hvm9 hw2 hB9 hz9 hk9 hS_ => ?_)
  obtain ⟨S2, t2_⟩ := u2_
  have hJ9 := va_join (wr := wX cI cZ x_ a_ S1 ++ [wO cJ ou f1_]) hP hD [14, 15, 16, 17, 18, 19, 20, 21, 22, 23, 24, 25, 26, 27] [0, 1, 2, 3, 4, 5, 6, 7, 8, 9, 10, 11, 12, 13, 28] rfl rfl (by decide) (by decide) hk9 hFc (atW_P hB9 ht9) hB9.2
  have hP : va_P D vwCl (wW cI cZ cJ x_ y_ ou a_ b_ S1 S2 t2_ f1_) H1 := hJ9.1.sub [0, 1, 2, 3, 4, 5, 6, 7, 8, 9, 10, 11, 12, 13, 15, 16, 17, 18, 19, 20, 21, 22, 23, 24, 25, 26, 27, 28, 14] rfl
  have hD : va_D (fun q_ : Nat => s_.heap.size ≤ q_) (wW cI cZ cJ x_ y_ ou a_ b_ S1 S2 t2_ f1_) := hJ9.2.sub [0, 1, 2, 3, 4, 5, 6, 7, 8, 9, 10, 11, 12, 13, 15, 16, 17, 18, 19, 20, 21, 22, 23, 24, 25, 26, 27, 28, 14] (by decide) rfl
  generalize H1 = H at hP hS_ ⊢
  obtain ⟨e1_, e23_⟩ := Prod.mk.inj (hw1.symm.trans hw2)
  obtain ⟨e2_, e3_⟩ := Prod.mk.inj e23_
  subst e1_
  subst e2_
  subst e3_
  have hI0 : Inv (10 + 24 * k_) (k_wear S (xs (i4_ + 1).toNatClampNeg)).2.2 := cif_elim (fun z_ : KR => Inv (10 + 24 * k_) z_.2.2) (fun _ => hI_) (fun _ => hI_)
  rw [hw1] at hI0
  have hI1 : Inv (10 + 24 * (k_ + 1)) S1 := Inv.mono hI0 (by omega)
  refine lv_istore (lv' := [(6, .int v1_), (5, .int r1_), (0, .ref b0), (1, .ref x_), (2, .ref y_), (3, .ref ou), (4, .int i4_)]) hx hb_ dL_law_335 hl (by decide) rfl (fun ls hl => ?_)
  refine lv_aload_n hx hb_ dL_law_337 rfl (lv_at hl 4 rfl) ?_
  have hPc := hP.sub (ws' := wM cI y_ b_ S1 r1_) [14, 15, 16, 17, 18, 19, 20, 21, 22, 23, 24, 25, 26, 27] rfl
  refine vp_callSi (W.runV (As := []) (rest := []) ⟨hx, hb_, hml, hown, hts⟩ (c_X1_thrown l D cI y_ b_ S1 r1_  ) (cwV 0 hts gL_law_X1_thrown rfl rfl rfl (by decide +kernel) ⟨Nat.le_of_ble_eq_true rfl, Nat.le_of_ble_eq_true rfl⟩) (pR_V (ci := 1) hPc (hK_.sub (tys' := tyM cI) [0] rfl) rfl rfl) rfl rfl hl.1 rfl (lv_room (Nat.le_of_ble_eq_true rfl)) dL_law_338 ⟨by show _ ≤ 1073; omega, by show _ ≤ 8742; omega⟩) (fun r3 h3 => ?_)
  replace h3 := h3.symm
  subst h3
  refine lv_iload hx hb_ dL_law_341 (lv_at hl 1 rfl) ?_
  refine lv_icmp_eq (tgt := 348) hx hb_ dL_law_343 (by decide) (fun c_343 => ?_) (fun c_343 => absurd rfl c_343)
  refine lv_iload hx hb_ dL_law_348 (lv_at hl 1 rfl) ?_
  refine lv_if_ne (tgt := 365) hx hb_ dL_law_350 (by decide) (fun c0_ => ?_) (fun c0_ => ?_)
  · skip
    refine lv_goto (tgt := 1161) hx hb_ dL_law_365 (by decide) ?_
    refine W.widen (k := 29 + k_ + 1) (n := 430 + 6 * k_ + 6) (by omega) (by omega) ?_
    exact kont S1 r1_ f1_ hI1 _ _ hP hD hS_ _ (lv_sub hl [2, 3, 4, 5, 6] rfl)
  · skip
    refine lv_aload_n hx hb_ dL_law_353 rfl (lv_at hl 5 rfl) ?_
    refine lv_iconst (v := 0) hx hb_ dL_law_354 (by decide) ?_
    refine va_lald (f := f1_) (n := 1) hx hb_ hK_ hP 28 2 rfl rfl vin01 dL_law_355 ?_
    refine lv_iload hx hb_ dL_law_356 (lv_at hl 0 rfl) ?_
    refine lv_i2l (v := v1_.toInt64) hx hb_ dL_law_358 rfl ?_
    refine W.lcmp hx hb_ dL_law_359 ?_
    refine lv_if_eq (tgt := 365) hx hb_ dL_law_360 (by decide) (fun _ => ?_) (fun z_ => absurd ((lg_cmp_eq _ _).mpr (ho c0_)) z_)
    refine lv_goto (tgt := 1161) hx hb_ dL_law_365 (by decide) ?_
    refine W.widen (k := 29 + k_ + 1) (n := 430 + 6 * k_ + 6) (by omega) (by omega) ?_
    exact kont S1 r1_ f1_ hI1 _ _ hP hD hS_ _ (lv_sub hl [2, 3, 4, 5, 6] rfl)
