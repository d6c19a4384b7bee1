abbrev wW (cI cZ cJ : ClassId) (x_ y_ ou : Nat) (a_ b_ : Nat → Nat) (S1 S2 : ST) (t_ : Int32) (f_ : Nat → Int64) : va_W := wX cI cZ x_ a_ S1 ++ (wM cI y_ b_ S2 t_ ++ [wO cJ ou f_])
theorem sidx {i4_ : Int32} {k_ L j_ : Nat} (e4_ : i4_ = nI (5 * k_)) (hk : 5 * k_ + 5 ≤ L) (hL : L ≤ 2560) (hj : j_ < 5) : vp_in (i4_ + nI j_) L := by
  rw [e4_, nI_add]
  exact vp_in_nI (by omega) (by omega)
set_option maxHeartbeats 4000000 in
set_option maxRecDepth 100000 in
theorem law_case_0 {p_ : Program} {l : Launch} {e : Env} {s_ : State} {m_ : MethodId} {below : List Frame} {meth : Method} {c_ : Code} {D : va_G} {cI cZ cJ : ClassId} {b0 L : Nat} {xs : Nat → Int32} {x_ y_ ou : Nat} {a_ b_ : Nat → Nat} (hL : L ≤ 2560) (hfl : l.stackTraces = false) (C0_ : lw_At p_ s_ m_ meth c_ b0 L xs) (hG : xG (fun q_ => s_.heap.size ≤ q_) s_ s_.heap) (hN_ : xN s_) (hK_ : va_K D vwCl (tyL cI cZ cJ) s_) {k_ : Nat} {i4_ : Int32} (hk : 5 * k_ + 5 ≤ L) (e4_ : i4_ = nI (5 * k_)) {S : ST} {t_ : Int32} {fo : Nat → Int64} (hI_ : Inv (10 + 24 * k_) S) {H : Heap} {locs : List Loc} (hP : va_P D vwCl (wW cI cZ cJ x_ y_ ou a_ b_ S S t_ fo) H) (hD : va_D (fun q_ : Nat => s_.heap.size ≤ q_) (wW cI cZ cJ x_ y_ ou a_ b_ S S t_ fo)) (hS_ : va_S (fun q_ : Nat => s_.heap.size ≤ q_) s_.heap H locs) {ls : Array Slot} (hl : lv_has ls 7 [(0, .ref b0), (1, .ref x_), (2, .ref y_), (3, .ref ou), (4, .int i4_)]) (kont : ∀ (S' : ST) (t' : Int32) (f' : Nat → Int64), Inv (10 + 24 * (k_ + 1)) S' → ∀ (H : Heap) (locs : List Loc), va_P D vwCl (wW cI cZ cJ x_ y_ ou a_ b_ S' S' t' f') H → va_D (fun q_ : Nat => s_.heap.size ≤ q_) (wW cI cZ cJ x_ y_ ou a_ b_ S' S' t' f') → va_S (fun q_ : Nat => s_.heap.size ≤ q_) s_.heap H locs → ∀ ls : Array Slot, lv_has ls 7 [(0, .ref b0), (1, .ref x_), (2, .ref y_), (3, .ref ou), (4, .int i4_)] → W p_ l e room_1 s_ m_ #[Value.ref b0] below meth c_ H locs (29 + k_ + 1) (430 + 6 * k_ + 6) (lw_Z below #[Value.ref b0] s_) (F0 m_ 1161 ls [])) : W p_ l e room_1 s_ m_ #[Value.ref b0] below meth c_ H locs (29 + k_) (430 + 6 * k_) (lw_Z below #[Value.ref b0] s_) (F0 m_ 132 ls []) := by
  obtain ⟨hx, hb_, hr, hml, hown, hts, hX, hbl, hlocks, hgv⟩ := C0_
  have hts := fun w_ h_ => hts w_ (wsL_law_in w_ h_)
  have hown : s_.vm.findClass RL = some m_.cls := hown
  have hA : ∀ q_ : Nat, s_.heap.size ≤ q_ → (fun q_ : Nat => s_.heap.size ≤ q_) q_ := fun _ h_ => h_
  have hbA : ¬ (fun q_ : Nat => s_.heap.size ≤ q_) b0 := Nat.not_le.mpr hbl
  refine lv_aload_n hx hb_ dL_law_132 rfl (lv_at hl 1 rfl) ?_
  refine lv_aload_n hx hb_ dL_law_133 rfl (lv_at hl 0 rfl) ?_
  refine lv_iload hx hb_ dL_law_134 (lv_at hl 4 rfl) ?_
  refine lv_iconst (v := 1) hx hb_ dL_law_136 (by decide) ?_
  refine lv_iadd hx hb_ dL_law_137 ?_
  refine va_sld hx hb_ hX hbl hbA hS_ (sidx (j := 1) e4_ hk hL (by decide)) dL_law_138 ?_
  refine lv_aload_n hx hb_ dL_law_139 rfl (lv_at hl 0 rfl) ?_
  refine lv_iload hx hb_ dL_law_140 (lv_at hl 4 rfl) ?_
  refine lv_iconst (v := 2) hx hb_ dL_law_142 (by decide) ?_
  refine lv_iadd hx hb_ dL_law_143 ?_
  refine va_sld hx hb_ hX hbl hbA hS_ (sidx (j := 2) e4_ hk hL (by decide)) dL_law_144 ?_
  refine lv_aload_n hx hb_ dL_law_145 rfl (lv_at hl 3 rfl) ?_
  have hPc := hP.sub (ws' := wX cI cZ x_ a_ S ++ [wO cJ ou fo]) [0, 1, 2, 3, 4, 5, 6, 7, 8, 9, 10, 11, 12, 13, 28] rfl
  have hDc := hD.sub (ws' := wX cI cZ x_ a_ S ++ [wO cJ ou fo]) [0, 1, 2, 3, 4, 5, 6, 7, 8, 9, 10, 11, 12, 13, 28] (by decide) rfl
  have hFc := va_free (wc := wX cI cZ x_ a_ S ++ [wO cJ ou fo]) hD hS_ hA [0, 1, 2, 3, 4, 5, 6, 7, 8, 9, 10, 11, 12, 13, 28] rfl
  have hGH : xG (fun q_ => s_.heap.size ≤ q_) s_ H := hG.kept (fun q_ h1 h2 => hS_.2.1 q_ h1 h2)
  refine va_calli (vx_runSW (As := [.ref x_, .int (xs (i4_ + 1).toNatClampNeg), .int (xs (i4_ + 2).toNatClampNeg), .ref ou]) (rest := []) ⟨hx, hb_, hml, hown, hts⟩ (c_L_dress l hfl D cI cZ cJ x_ ou a_ S fo H.size (xs (i4_ + 1).toNatClampNeg) (xs (i4_ + 2).toNatClampNeg) ) (vx_cwSW 4 hts gL_law_L_dress rfl rfl rfl (by decide +kernel) ⟨Nat.le_of_ble_eq_true rfl, Nat.le_of_ble_eq_true rfl⟩) (pL_S (pW_S hPc hK_ hDc) hGH (fun _ h_ => Nat.le_trans hS_.1 h_) hN_) rfl rfl hl.1 rfl (lv_room (Nat.le_of_ble_eq_true rfl)) dL_law_146 ⟨by show _ ≤ 1073; omega, by show _ ≤ 8742; omega⟩) hS_ (fun q_ _ h_ => hFc q_ h_) hFc (fun r1 u1 t9 H1 locs ht9 hvm9 hw hB9 hz9 hk9 hS_ => ?_)
  obtain ⟨S1, f1⟩ := u1
  obtain ⟨v1, hw1, ho⟩ := hw
  have hJ9 := va_join (wr := wM cI y_ b_ S t_) hP hD [0, 1, 2, 3, 4, 5, 6, 7, 8, 9, 10, 11, 12, 13, 28] [14, 15, 16, 17, 18, 19, 20, 21, 22, 23, 24, 25, 26, 27] rfl rfl (by decide) (by decide) hk9 hFc (atW_P hB9 ht9) hB9.2
  have hP : va_P D vwCl (wW cI cZ cJ x_ y_ ou a_ b_ S1 S t_ f1) H1 := hJ9.1.sub [14, 15, 16, 17, 18, 19, 20, 21, 22, 23, 24, 25, 26, 27, 0, 1, 2, 3, 4, 5, 6, 7, 8, 9, 10, 11, 12, 13, 28] rfl
  have hD : va_D (fun q_ : Nat => s_.heap.size ≤ q_) (wW cI cZ cJ x_ y_ ou a_ b_ S1 S t_ f1) := hJ9.2.sub [14, 15, 16, 17, 18, 19, 20, 21, 22, 23, 24, 25, 26, 27, 0, 1, 2, 3, 4, 5, 6, 7, 8, 9, 10, 11, 12, 13, 28] (by decide) rfl
  generalize H1 = H at hP hS_ ⊢
  refine lv_istore (lv' := [(5, .int r1), (0, .ref b0), (1, .ref x_), (2, .ref y_), (3, .ref ou), (4, .int i4_)]) hx hb_ dL_law_149 hl (by decide) rfl (fun ls hl => ?_)
  refine lv_aload_n hx hb_ dL_law_151 rfl (lv_at hl 3 rfl) ?_
  refine lv_aload_n hx hb_ dL_law_152 rfl (lv_at hl 1 rfl) ?_
  refine lv_iload hx hb_ dL_law_153 (lv_at hl 5 rfl) ?_
  refine lv_iconst (v := 1) hx hb_ dL_law_155 (by decide) ?_
  refine lv_iadd hx hb_ dL_law_156 ?_
  refine va_sld hx hb_ hX hbl hbA hS_ (sidx (j := 1) e4_ hk hL (by decide)) dL_law_157 ?_
  refine lv_aload_n hx hb_ dL_law_158 rfl (lv_at hl 1 rfl) ?_
  refine lv_iload hx hb_ dL_law_159 (lv_at hl 5 rfl) ?_
  refine lv_iconst (v := 2) hx hb_ dL_law_161 (by decide) ?_
  refine lv_iadd hx hb_ dL_law_162 ?_
  refine va_sld hx hb_ hX hbl hbA hS_ (sidx (j := 2) e4_ hk hL (by decide)) dL_law_163 ?_
  have hPc := hP.sub (ws' := wM cI y_ b_ S t_) [14, 15, 16, 17, 18, 19, 20, 21, 22, 23, 24, 25, 26, 27] rfl
  have hDc := hD.sub (ws' := wM cI y_ b_ S t_) [14, 15, 16, 17, 18, 19, 20, 21, 22, 23, 24, 25, 26, 27] (by decide) rfl
  have hFc := va_free (wc := wM cI y_ b_ S t_) hD hS_ hA [14, 15, 16, 17, 18, 19, 20, 21, 22, 23, 24, 25, 26, 27] rfl
  refine va_calli (va_runV (As := [.int (xs (i4_ + 1).toNatClampNeg), .int (xs (i4_ + 2).toNatClampNeg)]) (rest := []) ⟨hx, hb_, hml, hown, hts⟩ (c_X1_dress l D cI y_ b_ S t_ H.size (xs (i4_ + 1).toNatClampNeg) (xs (i4_ + 2).toNatClampNeg) (10 + 24 * k_) hI_) (cwV 2 hts gL_law_X1_dress rfl rfl rfl (by decide +kernel) ⟨Nat.le_of_ble_eq_true rfl, Nat.le_of_ble_eq_true rfl⟩) (pW_V (ci := 1) hPc (hK_.sub (tys' := tyM cI) [0] rfl) hDc rfl rfl) rfl rfl hl.1 rfl (lv_room (Nat.le_of_ble_eq_true rfl)) dL_law_164 ⟨by show _ ≤ 1073; omega, by show _ ≤ 8742; omega⟩) hS_ (fun q_ _ h_ => hFc q_ h_) hFc (fun r2 u2 t9 H1 locs ht9 hvm9 hw2 hB9 hz9 hk9 hS_ => ?_)
  obtain ⟨S2, t2⟩ := u2
  have hJ9 := va_join (wr := wX cI cZ x_ a_ S1 ++ [wO cJ ou f1]) hP hD [14, 15, 16, 17, 18, 19, 20, 21, 22, 23, 24, 25, 26, 27] [0, 1, 2, 3, 4, 5, 6, 7, 8, 9, 10, 11, 12, 13, 28] rfl rfl (by decide) (by decide) hk9 hFc (atW_P hB9 ht9) hB9.2
  have hP : va_P D vwCl (wW cI cZ cJ x_ y_ ou a_ b_ S1 S2 t2 f1) H1 := hJ9.1.sub [0, 1, 2, 3, 4, 5, 6, 7, 8, 9, 10, 11, 12, 13, 15, 16, 17, 18, 19, 20, 21, 22, 23, 24, 25, 26, 27, 28, 14] rfl
  have hD : va_D (fun q_ : Nat => s_.heap.size ≤ q_) (wW cI cZ cJ x_ y_ ou a_ b_ S1 S2 t2 f1) := hJ9.2.sub [0, 1, 2, 3, 4, 5, 6, 7, 8, 9, 10, 11, 12, 13, 15, 16, 17, 18, 19, 20, 21, 22, 23, 24, 25, 26, 27, 28, 14] (by decide) rfl
  generalize H1 = H at hP hS_ ⊢
  obtain ⟨e1_, e23_⟩ := Prod.mk.inj (hw1.symm.trans hw2)
  obtain ⟨e2_, e3_⟩ := Prod.mk.inj e23_
  subst e1_
  subst e2_
  subst e3_
  have hI0 : Inv (10 + 24 * k_) (k_dress S (xs (i4_ + 1).toNatClampNeg) (xs (i4_ + 2).toNatClampNeg)).2.2 := keep_dress hI_ (xs (i4_ + 1).toNatClampNeg) (xs (i4_ + 2).toNatClampNeg)
  rw [hw1] at hI0
  have hI1 : Inv (10 + 24 * (k_ + 1)) S1 := Inv.mono hI0 (by omega)
  refine lv_istore (lv' := [(6, .int v1), (5, .int r1), (0, .ref b0), (1, .ref x_), (2, .ref y_), (3, .ref ou), (4, .int i4_)]) hx hb_ dL_law_167 hl (by decide) rfl (fun ls hl => ?_)
  refine lv_aload_n hx hb_ dL_law_169 rfl (lv_at hl 4 rfl) ?_
  have hPc := hP.sub (ws' := wM cI y_ b_ S1 r1) [14, 15, 16, 17, 18, 19, 20, 21, 22, 23, 24, 25, 26, 27] rfl
  refine vp_callSi (W.runV (As := []) (rest := []) ⟨hx, hb_, hml, hown, hts⟩ (c_X1_thrown l D cI y_ b_ S1 r1  ) (cwV 0 hts gL_law_X1_thrown rfl rfl rfl (by decide +kernel) ⟨Nat.le_of_ble_eq_true rfl, Nat.le_of_ble_eq_true rfl⟩) (pR_V (ci := 1) hPc (hK_.sub (tys' := tyM cI) [0] rfl) rfl rfl) rfl rfl hl.1 rfl (lv_room (Nat.le_of_ble_eq_true rfl)) dL_law_170 ⟨by show _ ≤ 1073; omega, by show _ ≤ 8742; omega⟩) (fun r3 h3 => ?_)
  subst h3
  refine lv_iload hx hb_ dL_law_173 (lv_at hl 1 rfl) ?_
  refine lv_icmp_eq (tgt := 180) hx hb_ dL_law_175 (by decide) (fun c_175 => ?_) (fun c_175 => absurd rfl c_175)
  refine lv_iload hx hb_ dL_law_180 (lv_at hl 1 rfl) ?_
  refine lv_if_ne (tgt := 197) hx hb_ dL_law_182 (by decide) (fun c0 => ?_) (fun c0 => ?_)
  · skip
    refine lv_goto (tgt := 1161) hx hb_ dL_law_197 (by decide) ?_
    refine W.widen (k := 29 + k_ + 1) (n := 430 + 6 * k_ + 6) (by omega) (by omega) ?_
    exact kont S1 r1 f1 hI1 _ _ hP hD hS_ _ (lv_sub hl [2, 3, 4, 5, 6] rfl)
  · skip
    refine lv_aload_n hx hb_ dL_law_185 rfl (lv_at hl 5 rfl) ?_
    refine lv_iconst (v := 0) hx hb_ dL_law_186 (by decide) ?_
    refine va_lald (f := f1) (n := 1) hx hb_ hK_ hP 28 2 rfl rfl vin01 dL_law_187 ?_
    refine lv_iload hx hb_ dL_law_188 (lv_at hl 0 rfl) ?_
    refine lv_i2l (v := v1.toInt64) hx hb_ dL_law_190 rfl ?_
    refine W.lcmp hx hb_ dL_law_191 ?_
    refine lv_if_eq (tgt := 197) hx hb_ dL_law_192 (by decide) (fun _ => ?_) (fun z_ => absurd ((lg_cmp_eq _ _).mpr (ho c0)) z_)
    refine lv_goto (tgt := 1161) hx hb_ dL_law_197 (by decide) ?_
    refine W.widen (k := 29 + k_ + 1) (n := 430 + 6 * k_ + 6) (by omega) (by omega) ?_
    exact kont S1 r1 f1 hI1 _ _ hP hD hS_ _ (lv_sub hl [2, 3, 4, 5, 6] rfl)
set_option maxHeartbeats 4000000 in
set_option maxRecDepth 100000 in
theorem law_case_1 {p_ : Program} {l : Launch} {e : Env} {s_ : State} {m_ : MethodId} {below : List Frame} {meth : Method} {c_ : Code} {D : va_G} {cI cZ cJ : ClassId} {b0 L : Nat} {xs : Nat → Int32} {x_ y_ ou : Nat} {a_ b_ : Nat → Nat} (hL : L ≤ 2560) (hfl : l.stackTraces = false) (C0_ : lw_At p_ s_ m_ meth c_ b0 L xs) (hG : xG (fun q_ => s_.heap.size ≤ q_) s_ s_.heap) (hN_ : xN s_) (hK_ : va_K D vwCl (tyL cI cZ cJ) s_) {k_ : Nat} {i4_ : Int32} (hk : 5 * k_ + 5 ≤ L) (e4_ : i4_ = nI (5 * k_)) {S : ST} {t_ : Int32} {fo : Nat → Int64} (hI_ : Inv (10 + 24 * k_) S) {H : Heap} {locs : List Loc} (hP : va_P D vwCl (wW cI cZ cJ x_ y_ ou a_ b_ S S t_ fo) H) (hD : va_D (fun q_ : Nat => s_.heap.size ≤ q_) (wW cI cZ cJ x_ y_ ou a_ b_ S S t_ fo)) (hS_ : va_S (fun q_ : Nat => s_.heap.size ≤ q_) s_.heap H locs) {ls : Array Slot} (hl : lv_has ls 7 [(0, .ref b0), (1, .ref x_), (2, .ref y_), (3, .ref ou), (4, .int i4_)]) (kont : ∀ (S' : ST) (t' : Int32) (f' : Nat → Int64), Inv (10 + 24 * (k_ + 1)) S' → ∀ (H : Heap) (locs : List Loc), va_P D vwCl (wW cI cZ cJ x_ y_ ou a_ b_ S' S' t' f') H → va_D (fun q_ : Nat => s_.heap.size ≤ q_) (wW cI cZ cJ x_ y_ ou a_ b_ S' S' t' f') → va_S (fun q_ : Nat => s_.heap.size ≤ q_) s_.heap H locs → ∀ ls : Array Slot, lv_has ls 7 [(0, .ref b0), (1, .ref x_), (2, .ref y_), (3, .ref ou), (4, .int i4_)] → W p_ l e room_1 s_ m_ #[Value.ref b0] below meth c_ H locs (29 + k_ + 1) (430 + 6 * k_ + 6) (lw_Z below #[Value.ref b0] s_) (F0 m_ 1161 ls [])) : W p_ l e room_1 s_ m_ #[Value.ref b0] below meth c_ H locs (29 + k_) (430 + 6 * k_) (lw_Z below #[Value.ref b0] s_) (F0 m_ 200 ls []) := by
  obtain ⟨hx, hb_, hr, hml, hown, hts, hX, hbl, hlocks, hgv⟩ := C0_
  have hts := fun w_ h_ => hts w_ (wsL_law_in w_ h_)
  have hown : s_.vm.findClass RL = some m_.cls := hown
  have hA : ∀ q_ : Nat, s_.heap.size ≤ q_ → (fun q_ : Nat => s_.heap.size ≤ q_) q_ := fun _ h_ => h_
  have hbA : ¬ (fun q_ : Nat => s_.heap.size ≤ q_) b0 := Nat.not_le.mpr hbl
  refine lv_aload_n hx hb_ dL_law_200 rfl (lv_at hl 1 rfl) ?_
  refine lv_aload_n hx hb_ dL_law_201 rfl (lv_at hl 0 rfl) ?_
  refine lv_iload hx hb_ dL_law_202 (lv_at hl 4 rfl) ?_
  refine lv_iconst (v := 1) hx hb_ dL_law_204 (by decide) ?_
  refine lv_iadd hx hb_ dL_law_205 ?_
  refine va_sld hx hb_ hX hbl hbA hS_ (sidx (j := 1) e4_ hk hL (by decide)) dL_law_206 ?_
  refine lv_aload_n hx hb_ dL_law_207 rfl (lv_at hl 3 rfl) ?_
  have hPc := hP.sub (ws' := wX cI cZ x_ a_ S ++ [wO cJ ou fo]) [0, 1, 2, 3, 4, 5, 6, 7, 8, 9, 10, 11, 12, 13, 28] rfl
  have hDc := hD.sub (ws' := wX cI cZ x_ a_ S ++ [wO cJ ou fo]) [0, 1, 2, 3, 4, 5, 6, 7, 8, 9, 10, 11, 12, 13, 28] (by decide) rfl
  have hFc := va_free (wc := wX cI cZ x_ a_ S ++ [wO cJ ou fo]) hD hS_ hA [0, 1, 2, 3, 4, 5, 6, 7, 8, 9, 10, 11, 12, 13, 28] rfl
  have hGH : xG (fun q_ => s_.heap.size ≤ q_) s_ H := hG.kept (fun q_ h1 h2 => hS_.2.1 q_ h1 h2)
  refine va_calli (vx_runSW (As := [.ref x_, .int (xs (i4_ + 1).toNatClampNeg), .ref ou]) (rest := []) ⟨hx, hb_, hml, hown, hts⟩ (c_L_repair l hfl D cI cZ cJ x_ ou a_ S fo H.size (xs (i4_ + 1).toNatClampNeg) ) (vx_cwSW 3 hts gL_law_L_repair rfl rfl rfl (by decide +kernel) ⟨Nat.le_of_ble_eq_true rfl, Nat.le_of_ble_eq_true rfl⟩) (pL_S (pW_S hPc hK_ hDc) hGH (fun _ h_ => Nat.le_trans hS_.1 h_) hN_) rfl rfl hl.1 rfl (lv_room (Nat.le_of_ble_eq_true rfl)) dL_law_208 ⟨by show _ ≤ 1073; omega, by show _ ≤ 8742; omega⟩) hS_ (fun q_ _ h_ => hFc q_ h_) hFc (fun r1 u1 t9 H1 locs ht9 hvm9 hw hB9 hz9 hk9 hS_ => ?_)
  obtain ⟨S1, f1⟩ := u1
  obtain ⟨v1, hw1, ho⟩ := hw
  have hJ9 := va_join (wr := wM cI y_ b_ S t_) hP hD [0, 1, 2, 3, 4, 5, 6, 7, 8, 9, 10, 11, 12, 13, 28] [14, 15, 16, 17, 18, 19, 20, 21, 22, 23, 24, 25, 26, 27] rfl rfl (by decide) (by decide) hk9 hFc (atW_P hB9 ht9) hB9.2
  have hP : va_P D vwCl (wW cI cZ cJ x_ y_ ou a_ b_ S1 S t_ f1) H1 := hJ9.1.sub [14, 15, 16, 17, 18, 19, 20, 21, 22, 23, 24, 25, 26, 27, 0, 1, 2, 3, 4, 5, 6, 7, 8, 9, 10, 11, 12, 13, 28] rfl
  have hD : va_D (fun q_ : Nat => s_.heap.size ≤ q_) (wW cI cZ cJ x_ y_ ou a_ b_ S1 S t_ f1) := hJ9.2.sub [14, 15, 16, 17, 18, 19, 20, 21, 22, 23, 24, 25, 26, 27, 0, 1, 2, 3, 4, 5, 6, 7, 8, 9, 10, 11, 12, 13, 28] (by decide) rfl
  generalize H1 = H at hP hS_ ⊢
  refine lv_istore (lv' := [(5, .int r1), (0, .ref b0), (1, .ref x_), (2, .ref y_), (3, .ref ou), (4, .int i4_)]) hx hb_ dL_law_211 hl (by decide) rfl (fun ls hl => ?_)
  refine lv_aload_n hx hb_ dL_law_213 rfl (lv_at hl 3 rfl) ?_
  refine lv_aload_n hx hb_ dL_law_214 rfl (lv_at hl 1 rfl) ?_
  refine lv_iload hx hb_ dL_law_215 (lv_at hl 5 rfl) ?_
  refine lv_iconst (v := 1) hx hb_ dL_law_217 (by decide) ?_
  refine lv_iadd hx hb_ dL_law_218 ?_
  refine va_sld hx hb_ hX hbl hbA hS_ (sidx (j := 1) e4_ hk hL (by decide)) dL_law_219 ?_
  have hPc := hP.sub (ws' := wM cI y_ b_ S t_) [14, 15, 16, 17, 18, 19, 20, 21, 22, 23, 24, 25, 26, 27] rfl
  have hDc := hD.sub (ws' := wM cI y_ b_ S t_) [14, 15, 16, 17, 18, 19, 20, 21, 22, 23, 24, 25, 26, 27] (by decide) rfl
  have hFc := va_free (wc := wM cI y_ b_ S t_) hD hS_ hA [14, 15, 16, 17, 18, 19, 20, 21, 22, 23, 24, 25, 26, 27] rfl
  refine va_calli (va_runV (As := [.int (xs (i4_ + 1).toNatClampNeg)]) (rest := []) ⟨hx, hb_, hml, hown, hts⟩ (c_X1_repair l D cI y_ b_ S t_ H.size (xs (i4_ + 1).toNatClampNeg) (10 + 24 * k_) hI_) (cwV 1 hts gL_law_X1_repair rfl rfl rfl (by decide +kernel) ⟨Nat.le_of_ble_eq_true rfl, Nat.le_of_ble_eq_true rfl⟩) (pW_V (ci := 1) hPc (hK_.sub (tys' := tyM cI) [0] rfl) hDc rfl rfl) rfl rfl hl.1 rfl (lv_room (Nat.le_of_ble_eq_true rfl)) dL_law_220 ⟨by show _ ≤ 1073; omega, by show _ ≤ 8742; omega⟩) hS_ (fun q_ _ h_ => hFc q_ h_) hFc (fun r2 u2 t9 H1 locs ht9 hvm9 hw2 hB9 hz9 hk9 hS_ => ?_)
  obtain ⟨S2, t2⟩ := u2
  have hJ9 := va_join (wr := wX cI cZ x_ a_ S1 ++ [wO cJ ou f1]) hP hD [14, 15, 16, 17, 18, 19, 20, 21, 22, 23, 24, 25, 26, 27] [0, 1, 2, 3, 4, 5, 6, 7, 8, 9, 10, 11, 12, 13, 28] rfl rfl (by decide) (by decide) hk9 hFc (atW_P hB9 ht9) hB9.2
  have hP : va_P D vwCl (wW cI cZ cJ x_ y_ ou a_ b_ S1 S2 t2 f1) H1 := hJ9.1.sub [0, 1, 2, 3, 4, 5, 6, 7, 8, 9, 10, 11, 12, 13, 15, 16, 17, 18, 19, 20, 21, 22, 23, 24, 25, 26, 27, 28, 14] rfl
  have hD : va_D (fun q_ : Nat => s_.heap.size ≤ q_) (wW cI cZ cJ x_ y_ ou a_ b_ S1 S2 t2 f1) := hJ9.2.sub [0, 1, 2, 3, 4, 5, 6, 7, 8, 9, 10, 11, 12, 13, 15, 16, 17, 18, 19, 20, 21, 22, 23, 24, 25, 26, 27, 28, 14] (by decide) rfl
  generalize H1 = H at hP hS_ ⊢
  obtain ⟨e1_, e23_⟩ := Prod.mk.inj (hw1.symm.trans hw2)
  obtain ⟨e2_, e3_⟩ := Prod.mk.inj e23_
  subst e1_
  subst e2_
  subst e3_
  have hI0 : Inv (10 + 24 * k_) (k_repair S (xs (i4_ + 1).toNatClampNeg)).2.2 := keep_repair hI_ (xs (i4_ + 1).toNatClampNeg)
  rw [hw1] at hI0
  have hI1 : Inv (10 + 24 * (k_ + 1)) S1 := Inv.mono hI0 (by omega)
  refine lv_istore (lv' := [(6, .int v1), (5, .int r1), (0, .ref b0), (1, .ref x_), (2, .ref y_), (3, .ref ou), (4, .int i4_)]) hx hb_ dL_law_223 hl (by decide) rfl (fun ls hl => ?_)
  refine lv_aload_n hx hb_ dL_law_225 rfl (lv_at hl 4 rfl) ?_
  have hPc := hP.sub (ws' := wM cI y_ b_ S1 r1) [14, 15, 16, 17, 18, 19, 20, 21, 22, 23, 24, 25, 26, 27] rfl
  refine vp_callSi (W.runV (As := []) (rest := []) ⟨hx, hb_, hml, hown, hts⟩ (c_X1_thrown l D cI y_ b_ S1 r1  ) (cwV 0 hts gL_law_X1_thrown rfl rfl rfl (by decide +kernel) ⟨Nat.le_of_ble_eq_true rfl, Nat.le_of_ble_eq_true rfl⟩) (pR_V (ci := 1) hPc (hK_.sub (tys' := tyM cI) [0] rfl) rfl rfl) rfl rfl hl.1 rfl (lv_room (Nat.le_of_ble_eq_true rfl)) dL_law_226 ⟨by show _ ≤ 1073; omega, by show _ ≤ 8742; omega⟩) (fun r3 h3 => ?_)
  subst h3
  refine lv_iload hx hb_ dL_law_229 (lv_at hl 1 rfl) ?_
  refine lv_icmp_eq (tgt := 236) hx hb_ dL_law_231 (by decide) (fun c_231 => ?_) (fun c_231 => absurd rfl c_231)
  refine lv_iload hx hb_ dL_law_236 (lv_at hl 1 rfl) ?_
  refine lv_if_ne (tgt := 253) hx hb_ dL_law_238 (by decide) (fun c0 => ?_) (fun c0 => ?_)
  · skip
    refine lv_goto (tgt := 1161) hx hb_ dL_law_253 (by decide) ?_
    refine W.widen (k := 29 + k_ + 1) (n := 430 + 6 * k_ + 6) (by omega) (by omega) ?_
    exact kont S1 r1 f1 hI1 _ _ hP hD hS_ _ (lv_sub hl [2, 3, 4, 5, 6] rfl)
  · skip
    refine lv_aload_n hx hb_ dL_law_241 rfl (lv_at hl 5 rfl) ?_
    refine lv_iconst (v := 0) hx hb_ dL_law_242 (by decide) ?_
    refine va_lald (f := f1) (n := 1) hx hb_ hK_ hP 28 2 rfl rfl vin01 dL_law_243 ?_
    refine lv_iload hx hb_ dL_law_244 (lv_at hl 0 rfl) ?_
    refine lv_i2l (v := v1.toInt64) hx hb_ dL_law_246 rfl ?_
    refine W.lcmp hx hb_ dL_law_247 ?_
    refine lv_if_eq (tgt := 253) hx hb_ dL_law_248 (by decide) (fun _ => ?_) (fun z_ => absurd ((lg_cmp_eq _ _).mpr (ho c0)) z_)
    refine lv_goto (tgt := 1161) hx hb_ dL_law_253 (by decide) ?_
    refine W.widen (k := 29 + k_ + 1) (n := 430 + 6 * k_ + 6) (by omega) (by omega) ?_
    exact kont S1 r1 f1 hI1 _ _ hP hD hS_ _ (lv_sub hl [2, 3, 4, 5, 6] rfl)
set_option maxHeartbeats 4000000 in
set_option maxRecDepth 100000 in
theorem law_case_2 {p_ : Program} {l : Launch} {e : Env} {s_ : State} {m_ : MethodId} {below : List Frame} {meth : Method} {c_ : Code} {D : va_G} {cI cZ cJ : ClassId} {b0 L : Nat} {xs : Nat → Int32} {x_ y_ ou : Nat} {a_ b_ : Nat → Nat} (hL : L ≤ 2560) (hfl : l.stackTraces = false) (C0_ : lw_At p_ s_ m_ meth c_ b0 L xs) (hG : xG (fun q_ => s_.heap.size ≤ q_) s_ s_.heap) (hN_ : xN s_) (hK_ : va_K D vwCl (tyL cI cZ cJ) s_) {k_ : Nat} {i4_ : Int32} (hk : 5 * k_ + 5 ≤ L) (e4_ : i4_ = nI (5 * k_)) {S : ST} {t_ : Int32} {fo : Nat → Int64} (hI_ : Inv (10 + 24 * k_) S) {H : Heap} {locs : List Loc} (hP : va_P D vwCl (wW cI cZ cJ x_ y_ ou a_ b_ S S t_ fo) H) (hD : va_D (fun q_ : Nat => s_.heap.size ≤ q_) (wW cI cZ cJ x_ y_ ou a_ b_ S S t_ fo)) (hS_ : va_S (fun q_ : Nat => s_.heap.size ≤ q_) s_.heap H locs) {ls : Array Slot} (hl : lv_has ls 7 [(0, .ref b0), (1, .ref x_), (2, .ref y_), (3, .ref ou), (4, .int i4_)]) (kont : ∀ (S' : ST) (t' : Int32) (f' : Nat → Int64), Inv (10 + 24 * (k_ + 1)) S' → ∀ (H : Heap) (locs : List Loc), va_P D vwCl (wW cI cZ cJ x_ y_ ou a_ b_ S' S' t' f') H → va_D (fun q_ : Nat => s_.heap.size ≤ q_) (wW cI cZ cJ x_ y_ ou a_ b_ S' S' t' f') → va_S (fun q_ : Nat => s_.heap.size ≤ q_) s_.heap H locs → ∀ ls : Array Slot, lv_has ls 7 [(0, .ref b0), (1, .ref x_), (2, .ref y_), (3, .ref ou), (4, .int i4_)] → W p_ l e room_1 s_ m_ #[Value.ref b0] below meth c_ H locs (29 + k_ + 1) (430 + 6 * k_ + 6) (lw_Z below #[Value.ref b0] s_) (F0 m_ 1161 ls [])) : W p_ l e room_1 s_ m_ #[Value.ref b0] below meth c_ H locs (29 + k_) (430 + 6 * k_) (lw_Z below #[Value.ref b0] s_) (F0 m_ 256 ls []) := by
  obtain ⟨hx, hb_, hr, hml, hown, hts, hX, hbl, hlocks, hgv⟩ := C0_
  have hts := fun w_ h_ => hts w_ (wsL_law_in w_ h_)
  have hown : s_.vm.findClass RL = some m_.cls := hown
  have hA : ∀ q_ : Nat, s_.heap.size ≤ q_ → (fun q_ : Nat => s_.heap.size ≤ q_) q_ := fun _ h_ => h_
  have hbA : ¬ (fun q_ : Nat => s_.heap.size ≤ q_) b0 := Nat.not_le.mpr hbl
  refine lv_aload_n hx hb_ dL_law_256 rfl (lv_at hl 1 rfl) ?_
  refine lv_aload_n hx hb_ dL_law_257 rfl (lv_at hl 0 rfl) ?_
  refine lv_iload hx hb_ dL_law_258 (lv_at hl 4 rfl) ?_
  refine lv_iconst (v := 1) hx hb_ dL_law_260 (by decide) ?_
  refine lv_iadd hx hb_ dL_law_261 ?_
  refine va_sld hx hb_ hX hbl hbA hS_ (sidx (j := 1) e4_ hk hL (by decide)) dL_law_262 ?_
  refine lv_aload_n hx hb_ dL_law_263 rfl (lv_at hl 3 rfl) ?_
  have hPc := hP.sub (ws' := wX cI cZ x_ a_ S ++ [wO cJ ou fo]) [0, 1, 2, 3, 4, 5, 6, 7, 8, 9, 10, 11, 12, 13, 28] rfl
  have hDc := hD.sub (ws' := wX cI cZ x_ a_ S ++ [wO cJ ou fo]) [0, 1, 2, 3, 4, 5, 6, 7, 8, 9, 10, 11, 12, 13, 28] (by decide) rfl
  have hFc := va_free (wc := wX cI cZ x_ a_ S ++ [wO cJ ou fo]) hD hS_ hA [0, 1, 2, 3, 4, 5, 6, 7, 8, 9, 10, 11, 12, 13, 28] rfl
  have hGH : xG (fun q_ => s_.heap.size ≤ q_) s_ H := hG.kept (fun q_ h1 h2 => hS_.2.1 q_ h1 h2)
  refine va_calli (vx_runSW (As := [.ref x_, .int (xs (i4_ + 1).toNatClampNeg), .ref ou]) (rest := []) ⟨hx, hb_, hml, hown, hts⟩ (c_L_costumeOf l hfl D cI cZ cJ x_ ou a_ S fo H.size (xs (i4_ + 1).toNatClampNeg) ) (vx_cwSW 3 hts gL_law_L_costumeOf rfl rfl rfl (by decide +kernel) ⟨Nat.le_of_ble_eq_true rfl, Nat.le_of_ble_eq_true rfl⟩) (pL_S (pW_S hPc hK_ hDc) hGH (fun _ h_ => Nat.le_trans hS_.1 h_) hN_) rfl rfl hl.1 rfl (lv_room (Nat.le_of_ble_eq_true rfl)) dL_law_264 ⟨by show _ ≤ 1073; omega, by show _ ≤ 8742; omega⟩) hS_ (fun q_ _ h_ => hFc q_ h_) hFc (fun r1 u1 t9 H1 locs ht9 hvm9 hw hB9 hz9 hk9 hS_ => ?_)
  obtain ⟨S1, f1⟩ := u1
  obtain ⟨v1, hw1, ho⟩ := hw
  have hJ9 := va_join (wr := wM cI y_ b_ S t_) hP hD [0, 1, 2, 3, 4, 5, 6, 7, 8, 9, 10, 11, 12, 13, 28] [14, 15, 16, 17, 18, 19, 20, 21, 22, 23, 24, 25, 26, 27] rfl rfl (by decide) (by decide) hk9 hFc (atW_P hB9 ht9) hB9.2
  have hP : va_P D vwCl (wW cI cZ cJ x_ y_ ou a_ b_ S1 S t_ f1) H1 := hJ9.1.sub [14, 15, 16, 17, 18, 19, 20, 21, 22, 23, 24, 25, 26, 27, 0, 1, 2, 3, 4, 5, 6, 7, 8, 9, 10, 11, 12, 13, 28] rfl
  have hD : va_D (fun q_ : Nat => s_.heap.size ≤ q_) (wW cI cZ cJ x_ y_ ou a_ b_ S1 S t_ f1) := hJ9.2.sub [14, 15, 16, 17, 18, 19, 20, 21, 22, 23, 24, 25, 26, 27, 0, 1, 2, 3, 4, 5, 6, 7, 8, 9, 10, 11, 12, 13, 28] (by decide) rfl
  generalize H1 = H at hP hS_ ⊢
  refine lv_istore (lv' := [(5, .int r1), (0, .ref b0), (1, .ref x_), (2, .ref y_), (3, .ref ou), (4, .int i4_)]) hx hb_ dL_law_267 hl (by decide) rfl (fun ls hl => ?_)
  refine lv_aload_n hx hb_ dL_law_269 rfl (lv_at hl 3 rfl) ?_
  refine lv_aload_n hx hb_ dL_law_270 rfl (lv_at hl 1 rfl) ?_
  refine lv_iload hx hb_ dL_law_271 (lv_at hl 5 rfl) ?_
  refine lv_iconst (v := 1) hx hb_ dL_law_273 (by decide) ?_
  refine lv_iadd hx hb_ dL_law_274 ?_
  refine va_sld hx hb_ hX hbl hbA hS_ (sidx (j := 1) e4_ hk hL (by decide)) dL_law_275 ?_
  have hPc := hP.sub (ws' := wM cI y_ b_ S t_) [14, 15, 16, 17, 18, 19, 20, 21, 22, 23, 24, 25, 26, 27] rfl
  have hDc := hD.sub (ws' := wM cI y_ b_ S t_) [14, 15, 16, 17, 18, 19, 20, 21, 22, 23, 24, 25, 26, 27] (by decide) rfl
  have hFc := va_free (wc := wM cI y_ b_ S t_) hD hS_ hA [14, 15, 16, 17, 18, 19, 20, 21, 22, 23, 24, 25, 26, 27] rfl
  refine va_calli (va_runV (As := [.int (xs (i4_ + 1).toNatClampNeg)]) (rest := []) ⟨hx, hb_, hml, hown, hts⟩ (c_X1_costumeOf l D cI y_ b_ S t_ H.size (xs (i4_ + 1).toNatClampNeg) ) (cwV 1 hts gL_law_X1_costumeOf rfl rfl rfl (by decide +kernel) ⟨Nat.le_of_ble_eq_true rfl, Nat.le_of_ble_eq_true rfl⟩) (pW_V (ci := 1) hPc (hK_.sub (tys' := tyM cI) [0] rfl) hDc rfl rfl) rfl rfl hl.1 rfl (lv_room (Nat.le_of_ble_eq_true rfl)) dL_law_276 ⟨by show _ ≤ 1073; omega, by show _ ≤ 8742; omega⟩) hS_ (fun q_ _ h_ => hFc q_ h_) hFc (fun r2 u2 t9 H1 locs ht9 hvm9 hw2 hB9 hz9 hk9 hS_ => ?_)
  obtain ⟨S2, t2⟩ := u2
  have hJ9 := va_join (wr := wX cI cZ x_ a_ S1 ++ [wO cJ ou f1]) hP hD [14, 15, 16, 17, 18, 19, 20, 21, 22, 23, 24, 25, 26, 27] [0, 1, 2, 3, 4, 5, 6, 7, 8, 9, 10, 11, 12, 13, 28] rfl rfl (by decide) (by decide) hk9 hFc (atW_P hB9 ht9) hB9.2
  have hP : va_P D vwCl (wW cI cZ cJ x_ y_ ou a_ b_ S1 S2 t2 f1) H1 := hJ9.1.sub [0, 1, 2, 3, 4, 5, 6, 7, 8, 9, 10, 11, 12, 13, 15, 16, 17, 18, 19, 20, 21, 22, 23, 24, 25, 26, 27, 28, 14] rfl
  have hD : va_D (fun q_ : Nat => s_.heap.size ≤ q_) (wW cI cZ cJ x_ y_ ou a_ b_ S1 S2 t2 f1) := hJ9.2.sub [0, 1, 2, 3, 4, 5, 6, 7, 8, 9, 10, 11, 12, 13, 15, 16, 17, 18, 19, 20, 21, 22, 23, 24, 25, 26, 27, 28, 14] (by decide) rfl
  generalize H1 = H at hP hS_ ⊢
  obtain ⟨e1_, e23_⟩ := Prod.mk.inj (hw1.symm.trans hw2)
  obtain ⟨e2_, e3_⟩ := Prod.mk.inj e23_
  subst e1_
  subst e2_
  subst e3_
  have hI0 : Inv (10 + 24 * k_) (k_costumeOf S (xs (i4_ + 1).toNatClampNeg)).2.2 := cif_elim (fun z_ : KR => Inv (10 + 24 * k_) z_.2.2) (fun _ => hI_) (fun _ => hI_)
  rw [hw1] at hI0
  have hI1 : Inv (10 + 24 * (k_ + 1)) S1 := Inv.mono hI0 (by omega)
  refine lv_istore (lv' := [(6, .int v1), (5, .int r1), (0, .ref b0), (1, .ref x_), (2, .ref y_), (3, .ref ou), (4, .int i4_)]) hx hb_ dL_law_279 hl (by decide) rfl (fun ls hl => ?_)
  refine lv_aload_n hx hb_ dL_law_281 rfl (lv_at hl 4 rfl) ?_
  have hPc := hP.sub (ws' := wM cI y_ b_ S1 r1) [14, 15, 16, 17, 18, 19, 20, 21, 22, 23, 24, 25, 26, 27] rfl
  refine vp_callSi (W.runV (As := []) (rest := []) ⟨hx, hb_, hml, hown, hts⟩ (c_X1_thrown l D cI y_ b_ S1 r1  ) (cwV 0 hts gL_law_X1_thrown rfl rfl rfl (by decide +kernel) ⟨Nat.le_of_ble_eq_true rfl, Nat.le_of_ble_eq_true rfl⟩) (pR_V (ci := 1) hPc (hK_.sub (tys' := tyM cI) [0] rfl) rfl rfl) rfl rfl hl.1 rfl (lv_room (Nat.le_of_ble_eq_true rfl)) dL_law_282 ⟨by show _ ≤ 1073; omega, by show _ ≤ 8742; omega⟩) (fun r3 h3 => ?_)
  subst h3
  refine lv_iload hx hb_ dL_law_285 (lv_at hl 1 rfl) ?_
  refine lv_icmp_eq (tgt := 292) hx hb_ dL_law_287 (by decide) (fun c_287 => ?_) (fun c_287 => absurd rfl c_287)
  refine lv_iload hx hb_ dL_law_292 (lv_at hl 1 rfl) ?_
  refine lv_if_ne (tgt := 309) hx hb_ dL_law_294 (by decide) (fun c0 => ?_) (fun c0 => ?_)
  · skip
    refine lv_goto (tgt := 1161) hx hb_ dL_law_309 (by decide) ?_
    refine W.widen (k := 29 + k_ + 1) (n := 430 + 6 * k_ + 6) (by omega) (by omega) ?_
    exact kont S1 r1 f1 hI1 _ _ hP hD hS_ _ (lv_sub hl [2, 3, 4, 5, 6] rfl)
  · skip
    refine lv_aload_n hx hb_ dL_law_297 rfl (lv_at hl 5 rfl) ?_
    refine lv_iconst (v := 0) hx hb_ dL_law_298 (by decide) ?_
    refine va_lald (f := f1) (n := 1) hx hb_ hK_ hP 28 2 rfl rfl vin01 dL_law_299 ?_
    refine lv_iload hx hb_ dL_law_300 (lv_at hl 0 rfl) ?_
    refine lv_i2l (v := v1.toInt64) hx hb_ dL_law_302 rfl ?_
    refine W.lcmp hx hb_ dL_law_303 ?_
    refine lv_if_eq (tgt := 309) hx hb_ dL_law_304 (by decide) (fun _ => ?_) (fun z_ => absurd ((lg_cmp_eq _ _).mpr (ho c0)) z_)
    refine lv_goto (tgt := 1161) hx hb_ dL_law_309 (by decide) ?_
    refine W.widen (k := 29 + k_ + 1) (n := 430 + 6 * k_ + 6) (by omega) (by omega) ?_
    exact kont S1 r1 f1 hI1 _ _ hP hD hS_ _ (lv_sub hl [2, 3, 4, 5, 6] rfl)
set_option maxHeartbeats 4000000 in
set_option maxRecDepth 100000 in
theorem law_case_3 {p_ : Program} {l : Launch} {e : Env} {s_ : State} {m_ : MethodId} {below : List Frame} {meth : Method} {c_ : Code} {D : va_G} {cI cZ cJ : ClassId} {b0 L : Nat} {xs : Nat → Int32} {x_ y_ ou : Nat} {a_ b_ : Nat → Nat} (hL : L ≤ 2560) (hfl : l.stackTraces = false) (C0_ : lw_At p_ s_ m_ meth c_ b0 L xs) (hG : xG (fun q_ => s_.heap.size ≤ q_) s_ s_.heap) (hN_ : xN s_) (hK_ : va_K D vwCl (tyL cI cZ cJ) s_) {k_ : Nat} {i4_ : Int32} (hk : 5 * k_ + 5 ≤ L) (e4_ : i4_ = nI (5 * k_)) {S : ST} {t_ : Int32} {fo : Nat → Int64} (hI_ : Inv (10 + 24 * k_) S) {H : Heap} {locs : List Loc} (hP : va_P D vwCl (wW cI cZ cJ x_ y_ ou a_ b_ S S t_ fo) H) (hD : va_D (fun q_ : Nat => s_.heap.size ≤ q_) (wW cI cZ cJ x_ y_ ou a_ b_ S S t_ fo)) (hS_ : va_S (fun q_ : Nat => s_.heap.size ≤ q_) s_.heap H locs) {ls : Array Slot} (hl : lv_has ls 7 [(0, .ref b0), (1, .ref x_), (2, .ref y_), (3, .ref ou), (4, .int i4_)]) (kont : ∀ (S' : ST) (t' : Int32) (f' : Nat → Int64), Inv (10 + 24 * (k_ + 1)) S' → ∀ (H : Heap) (locs : List Loc), va_P D vwCl (wW cI cZ cJ x_ y_ ou a_ b_ S' S' t' f') H → va_D (fun q_ : Nat => s_.heap.size ≤ q_) (wW cI cZ cJ x_ y_ ou a_ b_ S' S' t' f') → va_S (fun q_ : Nat => s_.heap.size ≤ q_) s_.heap H locs → ∀ ls : Array Slot, lv_has ls 7 [(0, .ref b0), (1, .ref x_), (2, .ref y_), (3, .ref ou), (4, .int i4_)] → W p_ l e room_1 s_ m_ #[Value.ref b0] below meth c_ H locs (29 + k_ + 1) (430 + 6 * k_ + 6) (lw_Z below #[Value.ref b0] s_) (F0 m_ 1161 ls [])) : W p_ l e room_1 s_ m_ #[Value.ref b0] below meth c_ H locs (29 + k_) (430 + 6 * k_) (lw_Z below #[Value.ref b0] s_) (F0 m_ 312 ls []) := by
  obtain ⟨hx, hb_, hr, hml, hown, hts, hX, hbl, hlocks, hgv⟩ := C0_
  have hts := fun w_ h_ => hts w_ (wsL_law_in w_ h_)
  have hown : s_.vm.findClass RL = some m_.cls := hown
  have hA : ∀ q_ : Nat, s_.heap.size ≤ q_ → (fun q_ : Nat => s_.heap.size ≤ q_) q_ := fun _ h_ => h_
  have hbA : ¬ (fun q_ : Nat => s_.heap.size ≤ q_) b0 := Nat.not_le.mpr hbl
  refine lv_aload_n hx hb_ dL_law_312 rfl (lv_at hl 1 rfl) ?_
  refine lv_aload_n hx hb_ dL_law_313 rfl (lv_at hl 0 rfl) ?_
  refine lv_iload hx hb_ dL_law_314 (lv_at hl 4 rfl) ?_
  refine lv_iconst (v := 1) hx hb_ dL_law_316 (by decide) ?_
  refine lv_iadd hx hb_ dL_law_317 ?_
  refine va_sld hx hb_ hX hbl hbA hS_ (sidx (j := 1) e4_ hk hL (by decide)) dL_law_318 ?_
  refine lv_aload_n hx hb_ dL_law_319 rfl (lv_at hl 3 rfl) ?_
  have hPc := hP.sub (ws' := wX cI cZ x_ a_ S ++ [wO cJ ou fo]) [0, 1, 2, 3, 4, 5, 6, 7, 8, 9, 10, 11, 12, 13, 28] rfl
  have hDc := hD.sub (ws' := wX cI cZ x_ a_ S ++ [wO cJ ou fo]) [0, 1, 2, 3, 4, 5, 6, 7, 8, 9, 10, 11, 12, 13, 28] (by decide) rfl
  have hFc := va_free (wc := wX cI cZ x_ a_ S ++ [wO cJ ou fo]) hD hS_ hA [0, 1, 2, 3, 4, 5, 6, 7, 8, 9, 10, 11, 12, 13, 28] rfl
  have hGH : xG (fun q_ => s_.heap.size ≤ q_) s_ H := hG.kept (fun q_ h1 h2 => hS_.2.1 q_ h1 h2)
  refine va_calli (vx_runSW (As := [.ref x_, .int (xs (i4_ + 1).toNatClampNeg), .ref ou]) (rest := []) ⟨hx, hb_, hml, hown, hts⟩ (c_L_wear l hfl D cI cZ cJ x_ ou a_ S fo H.size (xs (i4_ + 1).toNatClampNeg) ) (vx_cwSW 3 hts gL_law_L_wear rfl rfl rfl (by decide +kernel) ⟨Nat.le_of_ble_eq_true rfl, Nat.le_of_ble_eq_true rfl⟩) (pL_S (pW_S hPc hK_ hDc) hGH (fun _ h_ => Nat.le_trans hS_.1 h_) hN_) rfl rfl hl.1 rfl (lv_room (Nat.le_of_ble_eq_true rfl)) dL_law_320 ⟨by show _ ≤ 1073; omega, by show _ ≤ 8742; omega⟩) hS_ (fun q_ _ h_ => hFc q_ h_) hFc (fun r1 u1 t9 H1 locs ht9 hvm9 hw hB9 hz9 hk9 hS_ => ?_)
  obtain ⟨S1, f1⟩ := u1
  obtain ⟨v1, hw1, ho⟩ := hw
  have hJ9 := va_join (wr := wM cI y_ b_ S t_) hP hD [0, 1, 2, 3, 4, 5, 6, 7, 8, 9, 10, 11, 12, 13, 28] [14, 15, 16, 17, 18, 19, 20, 21, 22, 23, 24, 25, 26, 27] rfl rfl (by decide) (by decide) hk9 hFc (atW_P hB9 ht9) hB9.2
  have hP : va_P D vwCl (wW cI cZ cJ x_ y_ ou a_ b_ S1 S t_ f1) H1 := hJ9.1.sub [14, 15, 16, 17, 18, 19, 20, 21, 22, 23, 24, 25, 26, 27, 0, 1, 2, 3, 4, 5, 6, 7, 8, 9, 10, 11, 12, 13, 28] rfl
  have hD : va_D (fun q_ : Nat => s_.heap.size ≤ q_) (wW cI cZ cJ x_ y_ ou a_ b_ S1 S t_ f1) := hJ9.2.sub [14, 15, 16, 17, 18, 19, 20, 21, 22, 23, 24, 25, 26, 27, 0, 1, 2, 3, 4, 5, 6, 7, 8, 9, 10, 11, 12, 13, 28] (by decide) rfl
  generalize H1 = H at hP hS_ ⊢
  refine lv_istore (lv' := [(5, .int r1), (0, .ref b0), (1, .ref x_), (2, .ref y_), (3, .ref ou), (4, .int i4_)]) hx hb_ dL_law_323 hl (by decide) rfl (fun ls hl => ?_)
  refine lv_aload_n hx hb_ dL_law_325 rfl (lv_at hl 3 rfl) ?_
  refine lv_aload_n hx hb_ dL_law_326 rfl (lv_at hl 1 rfl) ?_
  refine lv_iload hx hb_ dL_law_327 (lv_at hl 5 rfl) ?_
  refine lv_iconst (v := 1) hx hb_ dL_law_329 (by decide) ?_
  refine lv_iadd hx hb_ dL_law_330 ?_
  refine va_sld hx hb_ hX hbl hbA hS_ (sidx (j := 1) e4_ hk hL (by decide)) dL_law_331 ?_
  have hPc := hP.sub (ws' := wM cI y_ b_ S t_) [14, 15, 16, 17, 18, 19, 20, 21, 22, 23, 24, 25, 26, 27] rfl
  have hDc := hD.sub (ws' := wM cI y_ b_ S t_) [14, 15, 16, 17, 18, 19, 20, 21, 22, 23, 24, 25, 26, 27] (by decide) rfl
  have hFc := va_free (wc := wM cI y_ b_ S t_) hD hS_ hA [14, 15, 16, 17, 18, 19, 20, 21, 22, 23, 24, 25, 26, 27] rfl
  refine va_calli (va_runV (As := [.int (xs (i4_ + 1).toNatClampNeg)]) (rest := []) ⟨hx, hb_, hml, hown, hts⟩ (c_X1_wear l D cI y_ b_ S t_ H.size (xs (i4_ + 1).toNatClampNeg) ) (cwV 1 hts gL_law_X1_wear rfl rfl rfl (by decide +kernel) ⟨Nat.le_of_ble_eq_true rfl, Nat.le_of_ble_eq_true rfl⟩) (pW_V (ci := 1) hPc (hK_.sub (tys' := tyM cI) [0] rfl) hDc rfl rfl) rfl rfl hl.1 rfl (lv_room (Nat.le_of_ble_eq_true rfl)) dL_law_332 ⟨by show _ ≤ 1073; omega, by show _ ≤ 8742; omega⟩) hS_ (fun q_ _ h_ => hFc q_ h_) hFc (fun r2 u2 t9 H1 locs ht9 hvm9 hw2 hB9 hz9 hk9 hS_ => ?_)
  obtain ⟨S2, t2⟩ := u2
  have hJ9 := va_join (wr := wX cI cZ x_ a_ S1 ++ [wO cJ ou f1]) hP hD [14, 15, 16, 17, 18, 19, 20, 21, 22, 23, 24, 25, 26, 27] [0, 1, 2, 3, 4, 5, 6, 7, 8, 9, 10, 11, 12, 13, 28] rfl rfl (by decide) (by decide) hk9 hFc (atW_P hB9 ht9) hB9.2
  have hP : va_P D vwCl (wW cI cZ cJ x_ y_ ou a_ b_ S1 S2 t2 f1) H1 := hJ9.1.sub [0, 1, 2, 3, 4, 5, 6, 7, 8, 9, 10, 11, 12, 13, 15, 16, 17, 18, 19, 20, 21, 22, 23, 24, 25, 26, 27, 28, 14] rfl
  have hD : va_D (fun q_ : Nat => s_.heap.size ≤ q_) (wW cI cZ cJ x_ y_ ou a_ b_ S1 S2 t2 f1) := hJ9.2.sub [0, 1, 2, 3, 4, 5, 6, 7, 8, 9, 10, 11, 12, 13, 15, 16, 17, 18, 19, 20, 21, 22, 23, 24, 25, 26, 27, 28, 14] (by decide) rfl
  generalize H1 = H at hP hS_ ⊢
  obtain ⟨e1_, e23_⟩ := Prod.mk.inj (hw1.symm.trans hw2)
  obtain ⟨e2_, e3_⟩ := Prod.mk.inj e23_
  subst e1_
  subst e2_
  subst e3_
  have hI0 : Inv (10 + 24 * k_) (k_wear S (xs (i4_ + 1).toNatClampNeg)).2.2 := cif_elim (fun z_ : KR => Inv (10 + 24 * k_) z_.2.2) (fun _ => hI_) (fun _ => hI_)
  rw [hw1] at hI0
  have hI1 : Inv (10 + 24 * (k_ + 1)) S1 := Inv.mono hI0 (by omega)
  refine lv_istore (lv' := [(6, .int v1), (5, .int r1), (0, .ref b0), (1, .ref x_), (2, .ref y_), (3, .ref ou), (4, .int i4_)]) hx hb_ dL_law_335 hl (by decide) rfl (fun ls hl => ?_)
  refine lv_aload_n hx hb_ dL_law_337 rfl (lv_at hl 4 rfl) ?_
  have hPc := hP.sub (ws' := wM cI y_ b_ S1 r1) [14, 15, 16, 17, 18, 19, 20, 21, 22, 23, 24, 25, 26, 27] rfl
  refine vp_callSi (W.runV (As := []) (rest := []) ⟨hx, hb_, hml, hown, hts⟩ (c_X1_thrown l D cI y_ b_ S1 r1  ) (cwV 0 hts gL_law_X1_thrown rfl rfl rfl (by decide +kernel) ⟨Nat.le_of_ble_eq_true rfl, Nat.le_of_ble_eq_true rfl⟩) (pR_V (ci := 1) hPc (hK_.sub (tys' := tyM cI) [0] rfl) rfl rfl) rfl rfl hl.1 rfl (lv_room (Nat.le_of_ble_eq_true rfl)) dL_law_338 ⟨by show _ ≤ 1073; omega, by show _ ≤ 8742; omega⟩) (fun r3 h3 => ?_)
  subst h3
  refine lv_iload hx hb_ dL_law_341 (lv_at hl 1 rfl) ?_
  refine lv_icmp_eq (tgt := 348) hx hb_ dL_law_343 (by decide) (fun c_343 => ?_) (fun c_343 => absurd rfl c_343)
  refine lv_iload hx hb_ dL_law_348 (lv_at hl 1 rfl) ?_
  refine lv_if_ne (tgt := 365) hx hb_ dL_law_350 (by decide) (fun c0 => ?_) (fun c0 => ?_)
  · skip
    refine lv_goto (tgt := 1161) hx hb_ dL_law_365 (by decide) ?_
    refine W.widen (k := 29 + k_ + 1) (n := 430 + 6 * k_ + 6) (by omega) (by omega) ?_
    exact kont S1 r1 f1 hI1 _ _ hP hD hS_ _ (lv_sub hl [2, 3, 4, 5, 6] rfl)
  · skip
    refine lv_aload_n hx hb_ dL_law_353 rfl (lv_at hl 5 rfl) ?_
    refine lv_iconst (v := 0) hx hb_ dL_law_354 (by decide) ?_
    refine va_lald (f := f1) (n := 1) hx hb_ hK_ hP 28 2 rfl rfl vin01 dL_law_355 ?_
    refine lv_iload hx hb_ dL_law_356 (lv_at hl 0 rfl) ?_
    refine lv_i2l (v := v1.toInt64) hx hb_ dL_law_358 rfl ?_
    refine W.lcmp hx hb_ dL_law_359 ?_
    refine lv_if_eq (tgt := 365) hx hb_ dL_law_360 (by decide) (fun _ => ?_) (fun z_ => absurd ((lg_cmp_eq _ _).mpr (ho c0)) z_)
    refine lv_goto (tgt := 1161) hx hb_ dL_law_365 (by decide) ?_
    refine W.widen (k := 29 + k_ + 1) (n := 430 + 6 * k_ + 6) (by omega) (by omega) ?_
    exact kont S1 r1 f1 hI1 _ _ hP hD hS_ _ (lv_sub hl [2, 3, 4, 5, 6] rfl)
set_option maxHeartbeats 4000000 in
set_option maxRecDepth 100000 in
theorem law_case_4 {p_ : Program} {l : Launch} {e : Env} {s_ : State} {m_ : MethodId} {below : List Frame} {meth : Method} {c_ : Code} {D : va_G} {cI cZ cJ : ClassId} {b0 L : Nat} {xs : Nat → Int32} {x_ y_ ou : Nat} {a_ b_ : Nat → Nat} (hL : L ≤ 2560) (hfl : l.stackTraces = false) (C0_ : lw_At p_ s_ m_ meth c_ b0 L xs) (hG : xG (fun q_ => s_.heap.size ≤ q_) s_ s_.heap) (hN_ : xN s_) (hK_ : va_K D vwCl (tyL cI cZ cJ) s_) {k_ : Nat} {i4_ : Int32} (hk : 5 * k_ + 5 ≤ L) (e4_ : i4_ = nI (5 * k_)) {S : ST} {t_ : Int32} {fo : Nat → Int64} (hI_ : Inv (10 + 24 * k_) S) {H : Heap} {locs : List Loc} (hP : va_P D vwCl (wW cI cZ cJ x_ y_ ou a_ b_ S S t_ fo) H) (hD : va_D (fun q_ : Nat => s_.heap.size ≤ q_) (wW cI cZ cJ x_ y_ ou a_ b_ S S t_ fo)) (hS_ : va_S (fun q_ : Nat => s_.heap.size ≤ q_) s_.heap H locs) {ls : Array Slot} (hl : lv_has ls 7 [(0, .ref b0), (1, .ref x_), (2, .ref y_), (3, .ref ou), (4, .int i4_)]) (kont : ∀ (S' : ST) (t' : Int32) (f' : Nat → Int64), Inv (10 + 24 * (k_ + 1)) S' → ∀ (H : Heap) (locs : List Loc), va_P D vwCl (wW cI cZ cJ x_ y_ ou a_ b_ S' S' t' f') H → va_D (fun q_ : Nat => s_.heap.size ≤ q_) (wW cI cZ cJ x_ y_ ou a_ b_ S' S' t' f') → va_S (fun q_ : Nat => s_.heap.size ≤ q_) s_.heap H locs → ∀ ls : Array Slot, lv_has ls 7 [(0, .ref b0), (1, .ref x_), (2, .ref y_), (3, .ref ou), (4, .int i4_)] → W p_ l e room_1 s_ m_ #[Value.ref b0] below meth c_ H locs (29 + k_ + 1) (430 + 6 * k_ + 6) (lw_Z below #[Value.ref b0] s_) (F0 m_ 1161 ls [])) : W p_ l e room_1 s_ m_ #[Value.ref b0] below meth c_ H locs (29 + k_) (430 + 6 * k_) (lw_Z below #[Value.ref b0] s_) (F0 m_ 368 ls []) := by
  obtain ⟨hx, hb_, hr, hml, hown, hts, hX, hbl, hlocks, hgv⟩ := C0_
  have hts := fun w_ h_ => hts w_ (wsL_law_in w_ h_)
  have hown : s_.vm.findClass RL = some m_.cls := hown
  have hA : ∀ q_ : Nat, s_.heap.size ≤ q_ → (fun q_ : Nat => s_.heap.size ≤ q_) q_ := fun _ h_ => h_
  have hbA : ¬ (fun q_ : Nat => s_.heap.size ≤ q_) b0 := Nat.not_le.mpr hbl
  refine lv_aload_n hx hb_ dL_law_368 rfl (lv_at hl 1 rfl) ?_
  have hPc := hP.sub (ws' := wX cI cZ x_ a_ S) [0, 1, 2, 3, 4, 5, 6, 7, 8, 9, 10, 11, 12, 13] rfl
  refine vp_callSi (W.runV (As := []) (rest := []) ⟨hx, hb_, hml, hown, hts⟩ (c_X0_purse l D cI cZ x_ a_ S  ) (cwV 0 hts gL_law_X0_purse rfl rfl rfl (by decide +kernel) ⟨Nat.le_of_ble_eq_true rfl, Nat.le_of_ble_eq_true rfl⟩) (pR_V (ci := 0) hPc (hK_.sub (tys' := tyX cI cZ) [0, 1] rfl) rfl rfl) rfl rfl hl.1 rfl (lv_room (Nat.le_of_ble_eq_true rfl)) dL_law_369 ⟨by show _ ≤ 1073; omega, by show _ ≤ 8742; omega⟩) (fun r3 h3 => ?_)
  subst h3
  refine lv_aload_n hx hb_ dL_law_372 rfl (lv_at hl 2 rfl) ?_
  have hPc := hP.sub (ws' := wM cI y_ b_ S t_) [14, 15, 16, 17, 18, 19, 20, 21, 22, 23, 24, 25, 26, 27] rfl
  have hDc := hD.sub (ws' := wM cI y_ b_ S t_) [14, 15, 16, 17, 18, 19, 20, 21, 22, 23, 24, 25, 26, 27] (by decide) rfl
  have hFc := va_free (wc := wM cI y_ b_ S t_) hD hS_ hA [14, 15, 16, 17, 18, 19, 20, 21, 22, 23, 24, 25, 26, 27] rfl
  refine va_calli (va_runV (As := []) (rest := [.int (S 14 0)]) ⟨hx, hb_, hml, hown, hts⟩ (c_X1_purse l D cI y_ b_ S t_ H.size  ) (cwV 0 hts gL_law_X1_purse rfl rfl rfl (by decide +kernel) ⟨Nat.le_of_ble_eq_true rfl, Nat.le_of_ble_eq_true rfl⟩) (pW_V (ci := 1) hPc (hK_.sub (tys' := tyM cI) [0] rfl) hDc rfl rfl) rfl rfl hl.1 rfl (lv_room (Nat.le_of_ble_eq_true rfl)) dL_law_373 ⟨by show _ ≤ 1073; omega, by show _ ≤ 8742; omega⟩) hS_ (fun q_ _ h_ => hFc q_ h_) hFc (fun r2 u2 t9 H1 locs ht9 hvm9 hw2 hB9 hz9 hk9 hS_ => ?_)
  obtain ⟨S2, t2⟩ := u2
  have hJ9 := va_join (wr := wX cI cZ x_ a_ S ++ [wO cJ ou fo]) hP hD [14, 15, 16, 17, 18, 19, 20, 21, 22, 23, 24, 25, 26, 27] [0, 1, 2, 3, 4, 5, 6, 7, 8, 9, 10, 11, 12, 13, 28] rfl rfl (by decide) (by decide) hk9 hFc (atW_P hB9 ht9) hB9.2
  have hP : va_P D vwCl (wW cI cZ cJ x_ y_ ou a_ b_ S S2 t2 fo) H1 := hJ9.1.sub [0, 1, 2, 3, 4, 5, 6, 7, 8, 9, 10, 11, 12, 13, 15, 16, 17, 18, 19, 20, 21, 22, 23, 24, 25, 26, 27, 28, 14] rfl
  have hD : va_D (fun q_ : Nat => s_.heap.size ≤ q_) (wW cI cZ cJ x_ y_ ou a_ b_ S S2 t2 fo) := hJ9.2.sub [0, 1, 2, 3, 4, 5, 6, 7, 8, 9, 10, 11, 12, 13, 15, 16, 17, 18, 19, 20, 21, 22, 23, 24, 25, 26, 27, 28, 14] (by decide) rfl
  generalize H1 = H at hP hS_ ⊢
  obtain ⟨e1_, e2_⟩ := hw2
  obtain ⟨e3_, e4b⟩ := Prod.mk.inj e2_
  subst e1_
  subst e3_
  subst e4b
  have hI1 : Inv (10 + 24 * (k_ + 1)) S := hI_.mono (by omega)
  refine lv_icmp_eq (tgt := 1161) hx hb_ dL_law_376 (by decide) (fun c_376 => ?_) (fun c_376 => absurd rfl c_376)
  refine W.widen (k := 29 + k_ + 1) (n := 430 + 6 * k_ + 6) (by omega) (by omega) ?_
  exact kont S 0 fo hI1 _ _ hP hD hS_ _ (lv_sub hl [0, 1, 2, 3, 4] rfl)
set_option maxHeartbeats 4000000 in
set_option maxRecDepth 100000 in
theorem law_case_5 {p_ : Program} {l : Launch} {e : Env} {s_ : State} {m_ : MethodId} {below : List Frame} {meth : Method} {c_ : Code} {D : va_G} {cI cZ cJ : ClassId} {b0 L : Nat} {xs : Nat → Int32} {x_ y_ ou : Nat} {a_ b_ : Nat → Nat} (hL : L ≤ 2560) (hfl : l.stackTraces = false) (C0_ : lw_At p_ s_ m_ meth c_ b0 L xs) (hG : xG (fun q_ => s_.heap.size ≤ q_) s_ s_.heap) (hN_ : xN s_) (hK_ : va_K D vwCl (tyL cI cZ cJ) s_) {k_ : Nat} {i4_ : Int32} (hk : 5 * k_ + 5 ≤ L) (e4_ : i4_ = nI (5 * k_)) {S : ST} {t_ : Int32} {fo : Nat → Int64} (hI_ : Inv (10 + 24 * k_) S) {H : Heap} {locs : List Loc} (hP : va_P D vwCl (wW cI cZ cJ x_ y_ ou a_ b_ S S t_ fo) H) (hD : va_D (fun q_ : Nat => s_.heap.size ≤ q_) (wW cI cZ cJ x_ y_ ou a_ b_ S S t_ fo)) (hS_ : va_S (fun q_ : Nat => s_.heap.size ≤ q_) s_.heap H locs) {ls : Array Slot} (hl : lv_has ls 7 [(0, .ref b0), (1, .ref x_), (2, .ref y_), (3, .ref ou), (4, .int i4_)]) (kont : ∀ (S' : ST) (t' : Int32) (f' : Nat → Int64), Inv (10 + 24 * (k_ + 1)) S' → ∀ (H : Heap) (locs : List Loc), va_P D vwCl (wW cI cZ cJ x_ y_ ou a_ b_ S' S' t' f') H → va_D (fun q_ : Nat => s_.heap.size ≤ q_) (wW cI cZ cJ x_ y_ ou a_ b_ S' S' t' f') → va_S (fun q_ : Nat => s_.heap.size ≤ q_) s_.heap H locs → ∀ ls : Array Slot, lv_has ls 7 [(0, .ref b0), (1, .ref x_), (2, .ref y_), (3, .ref ou), (4, .int i4_)] → W p_ l e room_1 s_ m_ #[Value.ref b0] below meth c_ H locs (29 + k_ + 1) (430 + 6 * k_ + 6) (lw_Z below #[Value.ref b0] s_) (F0 m_ 1161 ls [])) : W p_ l e room_1 s_ m_ #[Value.ref b0] below meth c_ H locs (29 + k_) (430 + 6 * k_) (lw_Z below #[Value.ref b0] s_) (F0 m_ 381 ls []) := by
  obtain ⟨hx, hb_, hr, hml, hown, hts, hX, hbl, hlocks, hgv⟩ := C0_
  have hts := fun w_ h_ => hts w_ (wsL_law_in w_ h_)
  have hown : s_.vm.findClass RL = some m_.cls := hown
  have hA : ∀ q_ : Nat, s_.heap.size ≤ q_ → (fun q_ : Nat => s_.heap.size ≤ q_) q_ := fun _ h_ => h_
  have hbA : ¬ (fun q_ : Nat => s_.heap.size ≤ q_) b0 := Nat.not_le.mpr hbl
  refine lv_aload_n hx hb_ dL_law_381 rfl (lv_at hl 1 rfl) ?_
  refine lv_aload_n hx hb_ dL_law_382 rfl (lv_at hl 0 rfl) ?_
  refine lv_iload hx hb_ dL_law_383 (lv_at hl 4 rfl) ?_
  refine lv_iconst (v := 1) hx hb_ dL_law_385 (by decide) ?_
  refine lv_iadd hx hb_ dL_law_386 ?_
  refine va_sld hx hb_ hX hbl hbA hS_ (sidx (j := 1) e4_ hk hL (by decide)) dL_law_387 ?_
  refine lv_aload_n hx hb_ dL_law_388 rfl (lv_at hl 0 rfl) ?_
  refine lv_iload hx hb_ dL_law_389 (lv_at hl 4 rfl) ?_
  refine lv_iconst (v := 2) hx hb_ dL_law_391 (by decide) ?_
  refine lv_iadd hx hb_ dL_law_392 ?_
  refine va_sld hx hb_ hX hbl hbA hS_ (sidx (j := 2) e4_ hk hL (by decide)) dL_law_393 ?_
  refine lv_aload_n hx hb_ dL_law_394 rfl (lv_at hl 0 rfl) ?_
  refine lv_iload hx hb_ dL_law_395 (lv_at hl 4 rfl) ?_
  refine lv_iconst (v := 3) hx hb_ dL_law_397 (by decide) ?_
  refine lv_iadd hx hb_ dL_law_398 ?_
  refine va_sld hx hb_ hX hbl hbA hS_ (sidx (j := 3) e4_ hk hL (by decide)) dL_law_399 ?_
  refine lv_aload_n hx hb_ dL_law_400 rfl (lv_at hl 0 rfl) ?_
  refine lv_iload hx hb_ dL_law_401 (lv_at hl 4 rfl) ?_
  refine lv_iconst (v := 4) hx hb_ dL_law_403 (by decide) ?_
  refine lv_iadd hx hb_ dL_law_404 ?_
  refine va_sld hx hb_ hX hbl hbA hS_ (sidx (j := 4) e4_ hk hL (by decide)) dL_law_405 ?_
  refine lv_aload_n hx hb_ dL_law_406 rfl (lv_at hl 3 rfl) ?_
  have hPc := hP.sub (ws' := wX cI cZ x_ a_ S ++ [wO cJ ou fo]) [0, 1, 2, 3, 4, 5, 6, 7, 8, 9, 10, 11, 12, 13, 28] rfl
  have hDc := hD.sub (ws' := wX cI cZ x_ a_ S ++ [wO cJ ou fo]) [0, 1, 2, 3, 4, 5, 6, 7, 8, 9, 10, 11, 12, 13, 28] (by decide) rfl
  have hFc := va_free (wc := wX cI cZ x_ a_ S ++ [wO cJ ou fo]) hD hS_ hA [0, 1, 2, 3, 4, 5, 6, 7, 8, 9, 10, 11, 12, 13, 28] rfl
  have hGH : xG (fun q_ => s_.heap.size ≤ q_) s_ H := hG.kept (fun q_ h1 h2 => hS_.2.1 q_ h1 h2)
  refine va_calli (vx_runSW (As := [.ref x_, .int (xs (i4_ + 1).toNatClampNeg), .int (xs (i4_ + 2).toNatClampNeg), .int (xs (i4_ + 3).toNatClampNeg), .int (xs (i4_ + 4).toNatClampNeg), .ref ou]) (rest := []) ⟨hx, hb_, hml, hown, hts⟩ (c_L_addCue l hfl D cI cZ cJ x_ ou a_ S fo H.size (xs (i4_ + 1).toNatClampNeg) (xs (i4_ + 2).toNatClampNeg) (xs (i4_ + 3).toNatClampNeg) (xs (i4_ + 4).toNatClampNeg) (10 + 24 * k_) hI_) (vx_cwSW 6 hts gL_law_L_addCue rfl rfl rfl (by decide +kernel) ⟨Nat.le_of_ble_eq_true rfl, Nat.le_of_ble_eq_true rfl⟩) (pL_S (pW_S hPc hK_ hDc) hGH (fun _ h_ => Nat.le_trans hS_.1 h_) hN_) rfl rfl hl.1 rfl (lv_room (Nat.le_of_ble_eq_true rfl)) dL_law_407 ⟨by show _ ≤ 1073; omega, by show _ ≤ 8742; omega⟩) hS_ (fun q_ _ h_ => hFc q_ h_) hFc (fun r1 u1 t9 H1 locs ht9 hvm9 hw hB9 hz9 hk9 hS_ => ?_)
  obtain ⟨S1, f1⟩ := u1
  obtain ⟨v1, hw1, ho⟩ := hw
  have hJ9 := va_join (wr := wM cI y_ b_ S t_) hP hD [0, 1, 2, 3, 4, 5, 6, 7, 8, 9, 10, 11, 12, 13, 28] [14, 15, 16, 17, 18, 19, 20, 21, 22, 23, 24, 25, 26, 27] rfl rfl (by decide) (by decide) hk9 hFc (atW_P hB9 ht9) hB9.2
  have hP : va_P D vwCl (wW cI cZ cJ x_ y_ ou a_ b_ S1 S t_ f1) H1 := hJ9.1.sub [14, 15, 16, 17, 18, 19, 20, 21, 22, 23, 24, 25, 26, 27, 0, 1, 2, 3, 4, 5, 6, 7, 8, 9, 10, 11, 12, 13, 28] rfl
  have hD : va_D (fun q_ : Nat => s_.heap.size ≤ q_) (wW cI cZ cJ x_ y_ ou a_ b_ S1 S t_ f1) := hJ9.2.sub [14, 15, 16, 17, 18, 19, 20, 21, 22, 23, 24, 25, 26, 27, 0, 1, 2, 3, 4, 5, 6, 7, 8, 9, 10, 11, 12, 13, 28] (by decide) rfl
  generalize H1 = H at hP hS_ ⊢
  refine lv_istore (lv' := [(5, .int r1), (0, .ref b0), (1, .ref x_), (2, .ref y_), (3, .ref ou), (4, .int i4_)]) hx hb_ dL_law_410 hl (by decide) rfl (fun ls hl => ?_)
  refine lv_aload_n hx hb_ dL_law_412 rfl (lv_at hl 3 rfl) ?_
  refine lv_aload_n hx hb_ dL_law_413 rfl (lv_at hl 1 rfl) ?_
  refine lv_iload hx hb_ dL_law_414 (lv_at hl 5 rfl) ?_
  refine lv_iconst (v := 1) hx hb_ dL_law_416 (by decide) ?_
  refine lv_iadd hx hb_ dL_law_417 ?_
  refine va_sld hx hb_ hX hbl hbA hS_ (sidx (j := 1) e4_ hk hL (by decide)) dL_law_418 ?_
  refine lv_aload_n hx hb_ dL_law_419 rfl (lv_at hl 1 rfl) ?_
  refine lv_iload hx hb_ dL_law_420 (lv_at hl 5 rfl) ?_
  refine lv_iconst (v := 2) hx hb_ dL_law_422 (by decide) ?_
  refine lv_iadd hx hb_ dL_law_423 ?_
  refine va_sld hx hb_ hX hbl hbA hS_ (sidx (j := 2) e4_ hk hL (by decide)) dL_law_424 ?_
  refine lv_aload_n hx hb_ dL_law_425 rfl (lv_at hl 1 rfl) ?_
  refine lv_iload hx hb_ dL_law_426 (lv_at hl 5 rfl) ?_
  refine lv_iconst (v := 3) hx hb_ dL_law_428 (by decide) ?_
  refine lv_iadd hx hb_ dL_law_429 ?_
  refine va_sld hx hb_ hX hbl hbA hS_ (sidx (j := 3) e4_ hk hL (by decide)) dL_law_430 ?_
  refine lv_aload_n hx hb_ dL_law_431 rfl (lv_at hl 1 rfl) ?_
  refine lv_iload hx hb_ dL_law_432 (lv_at hl 5 rfl) ?_
  refine lv_iconst (v := 4) hx hb_ dL_law_434 (by decide) ?_
  refine lv_iadd hx hb_ dL_law_435 ?_
  refine va_sld hx hb_ hX hbl hbA hS_ (sidx (j := 4) e4_ hk hL (by decide)) dL_law_436 ?_
  have hPc := hP.sub (ws' := wM cI y_ b_ S t_) [14, 15, 16, 17, 18, 19, 20, 21, 22, 23, 24, 25, 26, 27] rfl
  have hDc := hD.sub (ws' := wM cI y_ b_ S t_) [14, 15, 16, 17, 18, 19, 20, 21, 22, 23, 24, 25, 26, 27] (by decide) rfl
  have hFc := va_free (wc := wM cI y_ b_ S t_) hD hS_ hA [14, 15, 16, 17, 18, 19, 20, 21, 22, 23, 24, 25, 26, 27] rfl
  refine va_calli (va_runV (As := [.int (xs (i4_ + 1).toNatClampNeg), .int (xs (i4_ + 2).toNatClampNeg), .int (xs (i4_ + 3).toNatClampNeg), .int (xs (i4_ + 4).toNatClampNeg)]) (rest := []) ⟨hx, hb_, hml, hown, hts⟩ (c_X1_addCue l D cI y_ b_ S t_ H.size (xs (i4_ + 1).toNatClampNeg) (xs (i4_ + 2).toNatClampNeg) (xs (i4_ + 3).toNatClampNeg) (xs (i4_ + 4).toNatClampNeg) (10 + 24 * k_) hI_) (cwV 4 hts gL_law_X1_addCue rfl rfl rfl (by decide +kernel) ⟨Nat.le_of_ble_eq_true rfl, Nat.le_of_ble_eq_true rfl⟩) (pW_V (ci := 1) hPc (hK_.sub (tys' := tyM cI) [0] rfl) hDc rfl rfl) rfl rfl hl.1 rfl (lv_room (Nat.le_of_ble_eq_true rfl)) dL_law_437 ⟨by show _ ≤ 1073; omega, by show _ ≤ 8742; omega⟩) hS_ (fun q_ _ h_ => hFc q_ h_) hFc (fun r2 u2 t9 H1 locs ht9 hvm9 hw2 hB9 hz9 hk9 hS_ => ?_)
  obtain ⟨S2, t2⟩ := u2
  have hJ9 := va_join (wr := wX cI cZ x_ a_ S1 ++ [wO cJ ou f1]) hP hD [14, 15, 16, 17, 18, 19, 20, 21, 22, 23, 24, 25, 26, 27] [0, 1, 2, 3, 4, 5, 6, 7, 8, 9, 10, 11, 12, 13, 28] rfl rfl (by decide) (by decide) hk9 hFc (atW_P hB9 ht9) hB9.2
  have hP : va_P D vwCl (wW cI cZ cJ x_ y_ ou a_ b_ S1 S2 t2 f1) H1 := hJ9.1.sub [0, 1, 2, 3, 4, 5, 6, 7, 8, 9, 10, 11, 12, 13, 15, 16, 17, 18, 19, 20, 21, 22, 23, 24, 25, 26, 27, 28, 14] rfl
  have hD : va_D (fun q_ : Nat => s_.heap.size ≤ q_) (wW cI cZ cJ x_ y_ ou a_ b_ S1 S2 t2 f1) := hJ9.2.sub [0, 1, 2, 3, 4, 5, 6, 7, 8, 9, 10, 11, 12, 13, 15, 16, 17, 18, 19, 20, 21, 22, 23, 24, 25, 26, 27, 28, 14] (by decide) rfl
  generalize H1 = H at hP hS_ ⊢
  obtain ⟨e1_, e23_⟩ := Prod.mk.inj (hw1.symm.trans hw2)
  obtain ⟨e2_, e3_⟩ := Prod.mk.inj e23_
  subst e1_
  subst e2_
  subst e3_
  have hI0 : Inv (10 + 24 * k_) (k_addCue S (xs (i4_ + 1).toNatClampNeg) (xs (i4_ + 2).toNatClampNeg) (xs (i4_ + 3).toNatClampNeg) (xs (i4_ + 4).toNatClampNeg)).2.2 := keep_addCue hI_ (xs (i4_ + 1).toNatClampNeg) (xs (i4_ + 2).toNatClampNeg) (xs (i4_ + 3).toNatClampNeg) (xs (i4_ + 4).toNatClampNeg)
  rw [hw1] at hI0
  have hI1 : Inv (10 + 24 * (k_ + 1)) S1 := Inv.mono hI0 (by omega)
  refine lv_istore (lv' := [(6, .int v1), (5, .int r1), (0, .ref b0), (1, .ref x_), (2, .ref y_), (3, .ref ou), (4, .int i4_)]) hx hb_ dL_law_440 hl (by decide) rfl (fun ls hl => ?_)
  refine lv_aload_n hx hb_ dL_law_442 rfl (lv_at hl 4 rfl) ?_
  have hPc := hP.sub (ws' := wM cI y_ b_ S1 r1) [14, 15, 16, 17, 18, 19, 20, 21, 22, 23, 24, 25, 26, 27] rfl
  refine vp_callSi (W.runV (As := []) (rest := []) ⟨hx, hb_, hml, hown, hts⟩ (c_X1_thrown l D cI y_ b_ S1 r1  ) (cwV 0 hts gL_law_X1_thrown rfl rfl rfl (by decide +kernel) ⟨Nat.le_of_ble_eq_true rfl, Nat.le_of_ble_eq_true rfl⟩) (pR_V (ci := 1) hPc (hK_.sub (tys' := tyM cI) [0] rfl) rfl rfl) rfl rfl hl.1 rfl (lv_room (Nat.le_of_ble_eq_true rfl)) dL_law_443 ⟨by show _ ≤ 1073; omega, by show _ ≤ 8742; omega⟩) (fun r3 h3 => ?_)
  subst h3
  refine lv_iload hx hb_ dL_law_446 (lv_at hl 1 rfl) ?_
  refine lv_icmp_eq (tgt := 453) hx hb_ dL_law_448 (by decide) (fun c_448 => ?_) (fun c_448 => absurd rfl c_448)
  refine lv_iload hx hb_ dL_law_453 (lv_at hl 1 rfl) ?_
  refine lv_if_ne (tgt := 470) hx hb_ dL_law_455 (by decide) (fun c0 => ?_) (fun c0 => ?_)
  · skip
    refine lv_goto (tgt := 1161) hx hb_ dL_law_470 (by decide) ?_
    refine W.widen (k := 29 + k_ + 1) (n := 430 + 6 * k_ + 6) (by omega) (by omega) ?_
    exact kont S1 r1 f1 hI1 _ _ hP hD hS_ _ (lv_sub hl [2, 3, 4, 5, 6] rfl)
  · skip
    refine lv_aload_n hx hb_ dL_law_458 rfl (lv_at hl 5 rfl) ?_
    refine lv_iconst (v := 0) hx hb_ dL_law_459 (by decide) ?_
    refine va_lald (f := f1) (n := 1) hx hb_ hK_ hP 28 2 rfl rfl vin01 dL_law_460 ?_
    refine lv_iload hx hb_ dL_law_461 (lv_at hl 0 rfl) ?_
    refine lv_i2l (v := v1.toInt64) hx hb_ dL_law_463 rfl ?_
    refine W.lcmp hx hb_ dL_law_464 ?_
    refine lv_if_eq (tgt := 470) hx hb_ dL_law_465 (by decide) (fun _ => ?_) (fun z_ => absurd ((lg_cmp_eq _ _).mpr (ho c0)) z_)
    refine lv_goto (tgt := 1161) hx hb_ dL_law_470 (by decide) ?_
    refine W.widen (k := 29 + k_ + 1) (n := 430 + 6 * k_ + 6) (by omega) (by omega) ?_
    exact kont S1 r1 f1 hI1 _ _ hP hD hS_ _ (lv_sub hl [2, 3, 4, 5, 6] rfl)
set_option maxHeartbeats 4000000 in
set_option maxRecDepth 100000 in
theorem law_case_6 {p_ : Program} {l : Launch} {e : Env} {s_ : State} {m_ : MethodId} {below : List Frame} {meth : Method} {c_ : Code} {D : va_G} {cI cZ cJ : ClassId} {b0 L : Nat} {xs : Nat → Int32} {x_ y_ ou : Nat} {a_ b_ : Nat → Nat} (hL : L ≤ 2560) (hfl : l.stackTraces = false) (C0_ : lw_At p_ s_ m_ meth c_ b0 L xs) (hG : xG (fun q_ => s_.heap.size ≤ q_) s_ s_.heap) (hN_ : xN s_) (hK_ : va_K D vwCl (tyL cI cZ cJ) s_) {k_ : Nat} {i4_ : Int32} (hk : 5 * k_ + 5 ≤ L) (e4_ : i4_ = nI (5 * k_)) {S : ST} {t_ : Int32} {fo : Nat → Int64} (hI_ : Inv (10 + 24 * k_) S) {H : Heap} {locs : List Loc} (hP : va_P D vwCl (wW cI cZ cJ x_ y_ ou a_ b_ S S t_ fo) H) (hD : va_D (fun q_ : Nat => s_.heap.size ≤ q_) (wW cI cZ cJ x_ y_ ou a_ b_ S S t_ fo)) (hS_ : va_S (fun q_ : Nat => s_.heap.size ≤ q_) s_.heap H locs) {ls : Array Slot} (hl : lv_has ls 7 [(0, .ref b0), (1, .ref x_), (2, .ref y_), (3, .ref ou), (4, .int i4_)]) (kont : ∀ (S' : ST) (t' : Int32) (f' : Nat → Int64), Inv (10 + 24 * (k_ + 1)) S' → ∀ (H : Heap) (locs : List Loc), va_P D vwCl (wW cI cZ cJ x_ y_ ou a_ b_ S' S' t' f') H → va_D (fun q_ : Nat => s_.heap.size ≤ q_) (wW cI cZ cJ x_ y_ ou a_ b_ S' S' t' f') → va_S (fun q_ : Nat => s_.heap.size ≤ q_) s_.heap H locs → ∀ ls : Array Slot, lv_has ls 7 [(0, .ref b0), (1, .ref x_), (2, .ref y_), (3, .ref ou), (4, .int i4_)] → W p_ l e room_1 s_ m_ #[Value.ref b0] below meth c_ H locs (29 + k_ + 1) (430 + 6 * k_ + 6) (lw_Z below #[Value.ref b0] s_) (F0 m_ 1161 ls [])) : W p_ l e room_1 s_ m_ #[Value.ref b0] below meth c_ H locs (29 + k_) (430 + 6 * k_) (lw_Z below #[Value.ref b0] s_) (F0 m_ 473 ls []) := by
  obtain ⟨hx, hb_, hr, hml, hown, hts, hX, hbl, hlocks, hgv⟩ := C0_
  have hts := fun w_ h_ => hts w_ (wsL_law_in w_ h_)
  have hown : s_.vm.findClass RL = some m_.cls := hown
  have hA : ∀ q_ : Nat, s_.heap.size ≤ q_ → (fun q_ : Nat => s_.heap.size ≤ q_) q_ := fun _ h_ => h_
  have hbA : ¬ (fun q_ : Nat => s_.heap.size ≤ q_) b0 := Nat.not_le.mpr hbl
  refine lv_aload_n hx hb_ dL_law_473 rfl (lv_at hl 1 rfl) ?_
  refine lv_aload_n hx hb_ dL_law_474 rfl (lv_at hl 0 rfl) ?_
  refine lv_iload hx hb_ dL_law_475 (lv_at hl 4 rfl) ?_
  refine lv_iconst (v := 1) hx hb_ dL_law_477 (by decide) ?_
  refine lv_iadd hx hb_ dL_law_478 ?_
  refine va_sld hx hb_ hX hbl hbA hS_ (sidx (j := 1) e4_ hk hL (by decide)) dL_law_479 ?_
  refine lv_aload_n hx hb_ dL_law_480 rfl (lv_at hl 3 rfl) ?_
  have hPc := hP.sub (ws' := wX cI cZ x_ a_ S ++ [wO cJ ou fo]) [0, 1, 2, 3, 4, 5, 6, 7, 8, 9, 10, 11, 12, 13, 28] rfl
  have hDc := hD.sub (ws' := wX cI cZ x_ a_ S ++ [wO cJ ou fo]) [0, 1, 2, 3, 4, 5, 6, 7, 8, 9, 10, 11, 12, 13, 28] (by decide) rfl
  have hFc := va_free (wc := wX cI cZ x_ a_ S ++ [wO cJ ou fo]) hD hS_ hA [0, 1, 2, 3, 4, 5, 6, 7, 8, 9, 10, 11, 12, 13, 28] rfl
  have hGH : xG (fun q_ => s_.heap.size ≤ q_) s_ H := hG.kept (fun q_ h1 h2 => hS_.2.1 q_ h1 h2)
  refine va_calli (vx_runSW (As := [.ref x_, .int (xs (i4_ + 1).toNatClampNeg), .ref ou]) (rest := []) ⟨hx, hb_, hml, hown, hts⟩ (c_L_canCall l hfl D cI cZ cJ x_ ou a_ S fo H.size (xs (i4_ + 1).toNatClampNeg) (10 + 24 * k_) hI_) (vx_cwSW 3 hts gL_law_L_canCall rfl rfl rfl (by decide +kernel) ⟨Nat.le_of_ble_eq_true rfl, Nat.le_of_ble_eq_true rfl⟩) (pL_S (pW_S hPc hK_ hDc) hGH (fun _ h_ => Nat.le_trans hS_.1 h_) hN_) rfl rfl hl.1 rfl (lv_room (Nat.le_of_ble_eq_true rfl)) dL_law_481 ⟨by show _ ≤ 1073; omega, by show _ ≤ 8742; omega⟩) hS_ (fun q_ _ h_ => hFc q_ h_) hFc (fun r1 u1 t9 H1 locs ht9 hvm9 hw hB9 hz9 hk9 hS_ => ?_)
  obtain ⟨S1, f1⟩ := u1
  obtain ⟨v1, hw1, ho⟩ := hw
  have hJ9 := va_join (wr := wM cI y_ b_ S t_) hP hD [0, 1, 2, 3, 4, 5, 6, 7, 8, 9, 10, 11, 12, 13, 28] [14, 15, 16, 17, 18, 19, 20, 21, 22, 23, 24, 25, 26, 27] rfl rfl (by decide) (by decide) hk9 hFc (atW_P hB9 ht9) hB9.2
  have hP : va_P D vwCl (wW cI cZ cJ x_ y_ ou a_ b_ S1 S t_ f1) H1 := hJ9.1.sub [14, 15, 16, 17, 18, 19, 20, 21, 22, 23, 24, 25, 26, 27, 0, 1, 2, 3, 4, 5, 6, 7, 8, 9, 10, 11, 12, 13, 28] rfl
  have hD : va_D (fun q_ : Nat => s_.heap.size ≤ q_) (wW cI cZ cJ x_ y_ ou a_ b_ S1 S t_ f1) := hJ9.2.sub [14, 15, 16, 17, 18, 19, 20, 21, 22, 23, 24, 25, 26, 27, 0, 1, 2, 3, 4, 5, 6, 7, 8, 9, 10, 11, 12, 13, 28] (by decide) rfl
  generalize H1 = H at hP hS_ ⊢
  refine lv_istore (lv' := [(5, .int r1), (0, .ref b0), (1, .ref x_), (2, .ref y_), (3, .ref ou), (4, .int i4_)]) hx hb_ dL_law_484 hl (by decide) rfl (fun ls hl => ?_)
  refine lv_aload_n hx hb_ dL_law_486 rfl (lv_at hl 3 rfl) ?_
  refine lv_aload_n hx hb_ dL_law_487 rfl (lv_at hl 1 rfl) ?_
  refine lv_iload hx hb_ dL_law_488 (lv_at hl 5 rfl) ?_
  refine lv_iconst (v := 1) hx hb_ dL_law_490 (by decide) ?_
  refine lv_iadd hx hb_ dL_law_491 ?_
  refine va_sld hx hb_ hX hbl hbA hS_ (sidx (j := 1) e4_ hk hL (by decide)) dL_law_492 ?_
  have hPc := hP.sub (ws' := wM cI y_ b_ S t_) [14, 15, 16, 17, 18, 19, 20, 21, 22, 23, 24, 25, 26, 27] rfl
  have hDc := hD.sub (ws' := wM cI y_ b_ S t_) [14, 15, 16, 17, 18, 19, 20, 21, 22, 23, 24, 25, 26, 27] (by decide) rfl
  have hFc := va_free (wc := wM cI y_ b_ S t_) hD hS_ hA [14, 15, 16, 17, 18, 19, 20, 21, 22, 23, 24, 25, 26, 27] rfl
  refine va_calli (va_runV (As := [.int (xs (i4_ + 1).toNatClampNeg)]) (rest := []) ⟨hx, hb_, hml, hown, hts⟩ (c_X1_canCall l D cI y_ b_ S t_ H.size (xs (i4_ + 1).toNatClampNeg) (10 + 24 * k_) hI_) (cwV 1 hts gL_law_X1_canCall rfl rfl rfl (by decide +kernel) ⟨Nat.le_of_ble_eq_true rfl, Nat.le_of_ble_eq_true rfl⟩) (pW_V (ci := 1) hPc (hK_.sub (tys' := tyM cI) [0] rfl) hDc rfl rfl) rfl rfl hl.1 rfl (lv_room (Nat.le_of_ble_eq_true rfl)) dL_law_493 ⟨by show _ ≤ 1073; omega, by show _ ≤ 8742; omega⟩) hS_ (fun q_ _ h_ => hFc q_ h_) hFc (fun r2 u2 t9 H1 locs ht9 hvm9 hw2 hB9 hz9 hk9 hS_ => ?_)
  obtain ⟨S2, t2⟩ := u2
  have hJ9 := va_join (wr := wX cI cZ x_ a_ S1 ++ [wO cJ ou f1]) hP hD [14, 15, 16, 17, 18, 19, 20, 21, 22, 23, 24, 25, 26, 27] [0, 1, 2, 3, 4, 5, 6, 7, 8, 9, 10, 11, 12, 13, 28] rfl rfl (by decide) (by decide) hk9 hFc (atW_P hB9 ht9) hB9.2
  have hP : va_P D vwCl (wW cI cZ cJ x_ y_ ou a_ b_ S1 S2 t2 f1) H1 := hJ9.1.sub [0, 1, 2, 3, 4, 5, 6, 7, 8, 9, 10, 11, 12, 13, 15, 16, 17, 18, 19, 20, 21, 22, 23, 24, 25, 26, 27, 28, 14] rfl
  have hD : va_D (fun q_ : Nat => s_.heap.size ≤ q_) (wW cI cZ cJ x_ y_ ou a_ b_ S1 S2 t2 f1) := hJ9.2.sub [0, 1, 2, 3, 4, 5, 6, 7, 8, 9, 10, 11, 12, 13, 15, 16, 17, 18, 19, 20, 21, 22, 23, 24, 25, 26, 27, 28, 14] (by decide) rfl
  generalize H1 = H at hP hS_ ⊢
  obtain ⟨e1_, e23_⟩ := Prod.mk.inj (hw1.symm.trans hw2)
  obtain ⟨e2_, e3_⟩ := Prod.mk.inj e23_
  subst e1_
  subst e2_
  subst e3_
  have hI0 : Inv (10 + 24 * k_) (k_canCall S (xs (i4_ + 1).toNatClampNeg)).2.2 := cif_elim (fun z_ : KR => Inv (10 + 24 * k_) z_.2.2) (fun _ => hI_) (fun _ => hI_)
  rw [hw1] at hI0
  have hI1 : Inv (10 + 24 * (k_ + 1)) S1 := Inv.mono hI0 (by omega)
  refine lv_istore (lv' := [(6, .int v1), (5, .int r1), (0, .ref b0), (1, .ref x_), (2, .ref y_), (3, .ref ou), (4, .int i4_)]) hx hb_ dL_law_496 hl (by decide) rfl (fun ls hl => ?_)
  refine lv_aload_n hx hb_ dL_law_498 rfl (lv_at hl 4 rfl) ?_
  have hPc := hP.sub (ws' := wM cI y_ b_ S1 r1) [14, 15, 16, 17, 18, 19, 20, 21, 22, 23, 24, 25, 26, 27] rfl
  refine vp_callSi (W.runV (As := []) (rest := []) ⟨hx, hb_, hml, hown, hts⟩ (c_X1_thrown l D cI y_ b_ S1 r1  ) (cwV 0 hts gL_law_X1_thrown rfl rfl rfl (by decide +kernel) ⟨Nat.le_of_ble_eq_true rfl, Nat.le_of_ble_eq_true rfl⟩) (pR_V (ci := 1) hPc (hK_.sub (tys' := tyM cI) [0] rfl) rfl rfl) rfl rfl hl.1 rfl (lv_room (Nat.le_of_ble_eq_true rfl)) dL_law_499 ⟨by show _ ≤ 1073; omega, by show _ ≤ 8742; omega⟩) (fun r3 h3 => ?_)
  subst h3
  refine lv_iload hx hb_ dL_law_502 (lv_at hl 1 rfl) ?_
  refine lv_icmp_eq (tgt := 509) hx hb_ dL_law_504 (by decide) (fun c_504 => ?_) (fun c_504 => absurd rfl c_504)
  refine lv_iload hx hb_ dL_law_509 (lv_at hl 1 rfl) ?_
  refine lv_if_ne (tgt := 533) hx hb_ dL_law_511 (by decide) (fun c0 => ?_) (fun c0 => ?_)
  · skip
    refine lv_goto (tgt := 1161) hx hb_ dL_law_533 (by decide) ?_
    refine W.widen (k := 29 + k_ + 1) (n := 430 + 6 * k_ + 6) (by omega) (by omega) ?_
    exact kont S1 r1 f1 hI1 _ _ hP hD hS_ _ (lv_sub hl [2, 3, 4, 5, 6] rfl)
  · skip
    refine lv_aload_n hx hb_ dL_law_514 rfl (lv_at hl 5 rfl) ?_
    refine lv_iconst (v := 0) hx hb_ dL_law_515 (by decide) ?_
    refine va_lald (f := f1) (n := 1) hx hb_ hK_ hP 28 2 rfl rfl vin01 dL_law_516 ?_
    refine lv_iload hx hb_ dL_law_517 (lv_at hl 0 rfl) ?_
    refine lv_if_eq (tgt := 526) hx hb_ dL_law_519 (by decide) (fun cb => ?_) (fun cb => ?_)
    · skip
      refine lv_lconst (v := 0) hx hb_ dL_law_526 (by decide) ?_
      refine W.lcmp hx hb_ dL_law_527 ?_
      refine lv_if_eq (tgt := 533) hx hb_ dL_law_528 (by decide) (fun _ => ?_) (fun z_ => absurd ((lg_cmp_eq _ _).mpr ((ho c0).trans (if_pos cb))) z_)
      refine lv_goto (tgt := 1161) hx hb_ dL_law_533 (by decide) ?_
      refine W.widen (k := 29 + k_ + 1) (n := 430 + 6 * k_ + 6) (by omega) (by omega) ?_
      exact kont S1 r1 f1 hI1 _ _ hP hD hS_ _ (lv_sub hl [2, 3, 4, 5, 6] rfl)
    · skip
      refine lv_lconst (v := 1) hx hb_ dL_law_522 (by decide) ?_
      refine lv_goto (tgt := 527) hx hb_ dL_law_523 (by decide) ?_
      refine W.lcmp hx hb_ dL_law_527 ?_
      refine lv_if_eq (tgt := 533) hx hb_ dL_law_528 (by decide) (fun _ => ?_) (fun z_ => absurd ((lg_cmp_eq _ _).mpr ((ho c0).trans (if_neg cb))) z_)
      refine lv_goto (tgt := 1161) hx hb_ dL_law_533 (by decide) ?_
      refine W.widen (k := 29 + k_ + 1) (n := 430 + 6 * k_ + 6) (by omega) (by omega) ?_
      exact kont S1 r1 f1 hI1 _ _ hP hD hS_ _ (lv_sub hl [2, 3, 4, 5, 6] rfl)
set_option maxHeartbeats 4000000 in
set_option maxRecDepth 100000 in
theorem law_case_7 {p_ : Program} {l : Launch} {e : Env} {s_ : State} {m_ : MethodId} {below : List Frame} {meth : Method} {c_ : Code} {D : va_G} {cI cZ cJ : ClassId} {b0 L : Nat} {xs : Nat → Int32} {x_ y_ ou : Nat} {a_ b_ : Nat → Nat} (hL : L ≤ 2560) (hfl : l.stackTraces = false) (C0_ : lw_At p_ s_ m_ meth c_ b0 L xs) (hG : xG (fun q_ => s_.heap.size ≤ q_) s_ s_.heap) (hN_ : xN s_) (hK_ : va_K D vwCl (tyL cI cZ cJ) s_) {k_ : Nat} {i4_ : Int32} (hk : 5 * k_ + 5 ≤ L) (e4_ : i4_ = nI (5 * k_)) {S : ST} {t_ : Int32} {fo : Nat → Int64} (hI_ : Inv (10 + 24 * k_) S) {H : Heap} {locs : List Loc} (hP : va_P D vwCl (wW cI cZ cJ x_ y_ ou a_ b_ S S t_ fo) H) (hD : va_D (fun q_ : Nat => s_.heap.size ≤ q_) (wW cI cZ cJ x_ y_ ou a_ b_ S S t_ fo)) (hS_ : va_S (fun q_ : Nat => s_.heap.size ≤ q_) s_.heap H locs) {ls : Array Slot} (hl : lv_has ls 7 [(0, .ref b0), (1, .ref x_), (2, .ref y_), (3, .ref ou), (4, .int i4_)]) (kont : ∀ (S' : ST) (t' : Int32) (f' : Nat → Int64), Inv (10 + 24 * (k_ + 1)) S' → ∀ (H : Heap) (locs : List Loc), va_P D vwCl (wW cI cZ cJ x_ y_ ou a_ b_ S' S' t' f') H → va_D (fun q_ : Nat => s_.heap.size ≤ q_) (wW cI cZ cJ x_ y_ ou a_ b_ S' S' t' f') → va_S (fun q_ : Nat => s_.heap.size ≤ q_) s_.heap H locs → ∀ ls : Array Slot, lv_has ls 7 [(0, .ref b0), (1, .ref x_), (2, .ref y_), (3, .ref ou), (4, .int i4_)] → W p_ l e room_1 s_ m_ #[Value.ref b0] below meth c_ H locs (29 + k_ + 1) (430 + 6 * k_ + 6) (lw_Z below #[Value.ref b0] s_) (F0 m_ 1161 ls [])) : W p_ l e room_1 s_ m_ #[Value.ref b0] below meth c_ H locs (29 + k_) (430 + 6 * k_) (lw_Z below #[Value.ref b0] s_) (F0 m_ 536 ls []) := by
  obtain ⟨hx, hb_, hr, hml, hown, hts, hX, hbl, hlocks, hgv⟩ := C0_
  have hts := fun w_ h_ => hts w_ (wsL_law_in w_ h_)
  have hown : s_.vm.findClass RL = some m_.cls := hown
  have hA : ∀ q_ : Nat, s_.heap.size ≤ q_ → (fun q_ : Nat => s_.heap.size ≤ q_) q_ := fun _ h_ => h_
  have hbA : ¬ (fun q_ : Nat => s_.heap.size ≤ q_) b0 := Nat.not_le.mpr hbl
  refine lv_aload_n hx hb_ dL_law_536 rfl (lv_at hl 1 rfl) ?_
  refine lv_aload_n hx hb_ dL_law_537 rfl (lv_at hl 0 rfl) ?_
  refine lv_iload hx hb_ dL_law_538 (lv_at hl 4 rfl) ?_
  refine lv_iconst (v := 1) hx hb_ dL_law_540 (by decide) ?_
  refine lv_iadd hx hb_ dL_law_541 ?_
  refine va_sld hx hb_ hX hbl hbA hS_ (sidx (j := 1) e4_ hk hL (by decide)) dL_law_542 ?_
  refine lv_aload_n hx hb_ dL_law_543 rfl (lv_at hl 3 rfl) ?_
  have hPc := hP.sub (ws' := wX cI cZ x_ a_ S ++ [wO cJ ou fo]) [0, 1, 2, 3, 4, 5, 6, 7, 8, 9, 10, 11, 12, 13, 28] rfl
  have hDc := hD.sub (ws' := wX cI cZ x_ a_ S ++ [wO cJ ou fo]) [0, 1, 2, 3, 4, 5, 6, 7, 8, 9, 10, 11, 12, 13, 28] (by decide) rfl
  have hFc := va_free (wc := wX cI cZ x_ a_ S ++ [wO cJ ou fo]) hD hS_ hA [0, 1, 2, 3, 4, 5, 6, 7, 8, 9, 10, 11, 12, 13, 28] rfl
  have hGH : xG (fun q_ => s_.heap.size ≤ q_) s_ H := hG.kept (fun q_ h1 h2 => hS_.2.1 q_ h1 h2)
  refine va_calli (vx_runSW (As := [.ref x_, .int (xs (i4_ + 1).toNatClampNeg), .ref ou]) (rest := []) ⟨hx, hb_, hml, hown, hts⟩ (c_L_call l hfl D cI cZ cJ x_ ou a_ S fo H.size (xs (i4_ + 1).toNatClampNeg) (10 + 24 * k_) hI_) (vx_cwSW 3 hts gL_law_L_call rfl rfl rfl (by decide +kernel) ⟨Nat.le_of_ble_eq_true rfl, Nat.le_of_ble_eq_true rfl⟩) (pL_S (pW_S hPc hK_ hDc) hGH (fun _ h_ => Nat.le_trans hS_.1 h_) hN_) rfl rfl hl.1 rfl (lv_room (Nat.le_of_ble_eq_true rfl)) dL_law_544 ⟨by show _ ≤ 1073; omega, by show _ ≤ 8742; omega⟩) hS_ (fun q_ _ h_ => hFc q_ h_) hFc (fun r1 u1 t9 H1 locs ht9 hvm9 hw hB9 hz9 hk9 hS_ => ?_)
  obtain ⟨S1, f1⟩ := u1
  obtain ⟨v1, hw1, ho⟩ := hw
  have hJ9 := va_join (wr := wM cI y_ b_ S t_) hP hD [0, 1, 2, 3, 4, 5, 6, 7, 8, 9, 10, 11, 12, 13, 28] [14, 15, 16, 17, 18, 19, 20, 21, 22, 23, 24, 25, 26, 27] rfl rfl (by decide) (by decide) hk9 hFc (atW_P hB9 ht9) hB9.2
  have hP : va_P D vwCl (wW cI cZ cJ x_ y_ ou a_ b_ S1 S t_ f1) H1 := hJ9.1.sub [14, 15, 16, 17, 18, 19, 20, 21, 22, 23, 24, 25, 26, 27, 0, 1, 2, 3, 4, 5, 6, 7, 8, 9, 10, 11, 12, 13, 28] rfl
  have hD : va_D (fun q_ : Nat => s_.heap.size ≤ q_) (wW cI cZ cJ x_ y_ ou a_ b_ S1 S t_ f1) := hJ9.2.sub [14, 15, 16, 17, 18, 19, 20, 21, 22, 23, 24, 25, 26, 27, 0, 1, 2, 3, 4, 5, 6, 7, 8, 9, 10, 11, 12, 13, 28] (by decide) rfl
  generalize H1 = H at hP hS_ ⊢
  refine lv_istore (lv' := [(5, .int r1), (0, .ref b0), (1, .ref x_), (2, .ref y_), (3, .ref ou), (4, .int i4_)]) hx hb_ dL_law_547 hl (by decide) rfl (fun ls hl => ?_)
  refine lv_aload_n hx hb_ dL_law_549 rfl (lv_at hl 3 rfl) ?_
  refine lv_aload_n hx hb_ dL_law_550 rfl (lv_at hl 1 rfl) ?_
  refine lv_iload hx hb_ dL_law_551 (lv_at hl 5 rfl) ?_
  refine lv_iconst (v := 1) hx hb_ dL_law_553 (by decide) ?_
  refine lv_iadd hx hb_ dL_law_554 ?_
  refine va_sld hx hb_ hX hbl hbA hS_ (sidx (j := 1) e4_ hk hL (by decide)) dL_law_555 ?_
  have hPc := hP.sub (ws' := wM cI y_ b_ S t_) [14, 15, 16, 17, 18, 19, 20, 21, 22, 23, 24, 25, 26, 27] rfl
  have hDc := hD.sub (ws' := wM cI y_ b_ S t_) [14, 15, 16, 17, 18, 19, 20, 21, 22, 23, 24, 25, 26, 27] (by decide) rfl
  have hFc := va_free (wc := wM cI y_ b_ S t_) hD hS_ hA [14, 15, 16, 17, 18, 19, 20, 21, 22, 23, 24, 25, 26, 27] rfl
  refine va_calli (va_runV (As := [.int (xs (i4_ + 1).toNatClampNeg)]) (rest := []) ⟨hx, hb_, hml, hown, hts⟩ (c_X1_call l D cI y_ b_ S t_ H.size (xs (i4_ + 1).toNatClampNeg) (10 + 24 * k_) hI_) (cwV 1 hts gL_law_X1_call rfl rfl rfl (by decide +kernel) ⟨Nat.le_of_ble_eq_true rfl, Nat.le_of_ble_eq_true rfl⟩) (pW_V (ci := 1) hPc (hK_.sub (tys' := tyM cI) [0] rfl) hDc rfl rfl) rfl rfl hl.1 rfl (lv_room (Nat.le_of_ble_eq_true rfl)) dL_law_556 ⟨by show _ ≤ 1073; omega, by show _ ≤ 8742; omega⟩) hS_ (fun q_ _ h_ => hFc q_ h_) hFc (fun r2 u2 t9 H1 locs ht9 hvm9 hw2 hB9 hz9 hk9 hS_ => ?_)
  obtain ⟨S2, t2⟩ := u2
  have hJ9 := va_join (wr := wX cI cZ x_ a_ S1 ++ [wO cJ ou f1]) hP hD [14, 15, 16, 17, 18, 19, 20, 21, 22, 23, 24, 25, 26, 27] [0, 1, 2, 3, 4, 5, 6, 7, 8, 9, 10, 11, 12, 13, 28] rfl rfl (by decide) (by decide) hk9 hFc (atW_P hB9 ht9) hB9.2
  have hP : va_P D vwCl (wW cI cZ cJ x_ y_ ou a_ b_ S1 S2 t2 f1) H1 := hJ9.1.sub [0, 1, 2, 3, 4, 5, 6, 7, 8, 9, 10, 11, 12, 13, 15, 16, 17, 18, 19, 20, 21, 22, 23, 24, 25, 26, 27, 28, 14] rfl
  have hD : va_D (fun q_ : Nat => s_.heap.size ≤ q_) (wW cI cZ cJ x_ y_ ou a_ b_ S1 S2 t2 f1) := hJ9.2.sub [0, 1, 2, 3, 4, 5, 6, 7, 8, 9, 10, 11, 12, 13, 15, 16, 17, 18, 19, 20, 21, 22, 23, 24, 25, 26, 27, 28, 14] (by decide) rfl
  generalize H1 = H at hP hS_ ⊢
  obtain ⟨e1_, e23_⟩ := Prod.mk.inj (hw1.symm.trans hw2)
  obtain ⟨e2_, e3_⟩ := Prod.mk.inj e23_
  subst e1_
  subst e2_
  subst e3_
  have hI0 : Inv (10 + 24 * k_) (k_call S (xs (i4_ + 1).toNatClampNeg)).2.2 := keep_call hI_ (xs (i4_ + 1).toNatClampNeg)
  rw [hw1] at hI0
  have hI1 : Inv (10 + 24 * (k_ + 1)) S1 := Inv.mono hI0 (by omega)
  refine lv_istore (lv' := [(6, .int v1), (5, .int r1), (0, .ref b0), (1, .ref x_), (2, .ref y_), (3, .ref ou), (4, .int i4_)]) hx hb_ dL_law_559 hl (by decide) rfl (fun ls hl => ?_)
  refine lv_aload_n hx hb_ dL_law_561 rfl (lv_at hl 4 rfl) ?_
  have hPc := hP.sub (ws' := wM cI y_ b_ S1 r1) [14, 15, 16, 17, 18, 19, 20, 21, 22, 23, 24, 25, 26, 27] rfl
  refine vp_callSi (W.runV (As := []) (rest := []) ⟨hx, hb_, hml, hown, hts⟩ (c_X1_thrown l D cI y_ b_ S1 r1  ) (cwV 0 hts gL_law_X1_thrown rfl rfl rfl (by decide +kernel) ⟨Nat.le_of_ble_eq_true rfl, Nat.le_of_ble_eq_true rfl⟩) (pR_V (ci := 1) hPc (hK_.sub (tys' := tyM cI) [0] rfl) rfl rfl) rfl rfl hl.1 rfl (lv_room (Nat.le_of_ble_eq_true rfl)) dL_law_562 ⟨by show _ ≤ 1073; omega, by show _ ≤ 8742; omega⟩) (fun r3 h3 => ?_)
  subst h3
  refine lv_iload hx hb_ dL_law_565 (lv_at hl 1 rfl) ?_
  refine lv_icmp_eq (tgt := 572) hx hb_ dL_law_567 (by decide) (fun c_567 => ?_) (fun c_567 => absurd rfl c_567)
  refine lv_iload hx hb_ dL_law_572 (lv_at hl 1 rfl) ?_
  refine lv_if_ne (tgt := 589) hx hb_ dL_law_574 (by decide) (fun c0 => ?_) (fun c0 => ?_)
  · skip
    refine lv_goto (tgt := 1161) hx hb_ dL_law_589 (by decide) ?_
    refine W.widen (k := 29 + k_ + 1) (n := 430 + 6 * k_ + 6) (by omega) (by omega) ?_
    exact kont S1 r1 f1 hI1 _ _ hP hD hS_ _ (lv_sub hl [2, 3, 4, 5, 6] rfl)
  · skip
    refine lv_aload_n hx hb_ dL_law_577 rfl (lv_at hl 5 rfl) ?_
    refine lv_iconst (v := 0) hx hb_ dL_law_578 (by decide) ?_
    refine va_lald (f := f1) (n := 1) hx hb_ hK_ hP 28 2 rfl rfl vin01 dL_law_579 ?_
    refine lv_iload hx hb_ dL_law_580 (lv_at hl 0 rfl) ?_
    refine lv_i2l (v := v1.toInt64) hx hb_ dL_law_582 rfl ?_
    refine W.lcmp hx hb_ dL_law_583 ?_
    refine lv_if_eq (tgt := 589) hx hb_ dL_law_584 (by decide) (fun _ => ?_) (fun z_ => absurd ((lg_cmp_eq _ _).mpr (ho c0)) z_)
    refine lv_goto (tgt := 1161) hx hb_ dL_law_589 (by decide) ?_
    refine W.widen (k := 29 + k_ + 1) (n := 430 + 6 * k_ + 6) (by omega) (by omega) ?_
    exact kont S1 r1 f1 hI1 _ _ hP hD hS_ _ (lv_sub hl [2, 3, 4, 5, 6] rfl)
set_option maxHeartbeats 4000000 in
set_option maxRecDepth 100000 in
theorem law_case_8 {p_ : Program} {l : Launch} {e : Env} {s_ : State} {m_ : MethodId} {below : List Frame} {meth : Method} {c_ : Code} {D : va_G} {cI cZ cJ : ClassId} {b0 L : Nat} {xs : Nat → Int32} {x_ y_ ou : Nat} {a_ b_ : Nat → Nat} (hL : L ≤ 2560) (hfl : l.stackTraces = false) (C0_ : lw_At p_ s_ m_ meth c_ b0 L xs) (hG : xG (fun q_ => s_.heap.size ≤ q_) s_ s_.heap) (hN_ : xN s_) (hK_ : va_K D vwCl (tyL cI cZ cJ) s_) {k_ : Nat} {i4_ : Int32} (hk : 5 * k_ + 5 ≤ L) (e4_ : i4_ = nI (5 * k_)) {S : ST} {t_ : Int32} {fo : Nat → Int64} (hI_ : Inv (10 + 24 * k_) S) {H : Heap} {locs : List Loc} (hP : va_P D vwCl (wW cI cZ cJ x_ y_ ou a_ b_ S S t_ fo) H) (hD : va_D (fun q_ : Nat => s_.heap.size ≤ q_) (wW cI cZ cJ x_ y_ ou a_ b_ S S t_ fo)) (hS_ : va_S (fun q_ : Nat => s_.heap.size ≤ q_) s_.heap H locs) {ls : Array Slot} (hl : lv_has ls 7 [(0, .ref b0), (1, .ref x_), (2, .ref y_), (3, .ref ou), (4, .int i4_)]) (kont : ∀ (S' : ST) (t' : Int32) (f' : Nat → Int64), Inv (10 + 24 * (k_ + 1)) S' → ∀ (H : Heap) (locs : List Loc), va_P D vwCl (wW cI cZ cJ x_ y_ ou a_ b_ S' S' t' f') H → va_D (fun q_ : Nat => s_.heap.size ≤ q_) (wW cI cZ cJ x_ y_ ou a_ b_ S' S' t' f') → va_S (fun q_ : Nat => s_.heap.size ≤ q_) s_.heap H locs → ∀ ls : Array Slot, lv_has ls 7 [(0, .ref b0), (1, .ref x_), (2, .ref y_), (3, .ref ou), (4, .int i4_)] → W p_ l e room_1 s_ m_ #[Value.ref b0] below meth c_ H locs (29 + k_ + 1) (430 + 6 * k_ + 6) (lw_Z below #[Value.ref b0] s_) (F0 m_ 1161 ls [])) : W p_ l e room_1 s_ m_ #[Value.ref b0] below meth c_ H locs (29 + k_) (430 + 6 * k_) (lw_Z below #[Value.ref b0] s_) (F0 m_ 592 ls []) := by
  obtain ⟨hx, hb_, hr, hml, hown, hts, hX, hbl, hlocks, hgv⟩ := C0_
  have hts := fun w_ h_ => hts w_ (wsL_law_in w_ h_)
  have hown : s_.vm.findClass RL = some m_.cls := hown
  have hA : ∀ q_ : Nat, s_.heap.size ≤ q_ → (fun q_ : Nat => s_.heap.size ≤ q_) q_ := fun _ h_ => h_
  have hbA : ¬ (fun q_ : Nat => s_.heap.size ≤ q_) b0 := Nat.not_le.mpr hbl
  refine lv_aload_n hx hb_ dL_law_592 rfl (lv_at hl 1 rfl) ?_
  have hPc := hP.sub (ws' := wX cI cZ x_ a_ S) [0, 1, 2, 3, 4, 5, 6, 7, 8, 9, 10, 11, 12, 13] rfl
  have hDc := hD.sub (ws' := wX cI cZ x_ a_ S) [0, 1, 2, 3, 4, 5, 6, 7, 8, 9, 10, 11, 12, 13] (by decide) rfl
  have hFc := va_free (wc := wX cI cZ x_ a_ S) hD hS_ hA [0, 1, 2, 3, 4, 5, 6, 7, 8, 9, 10, 11, 12, 13] rfl
  refine va_calli (va_runV (As := []) (rest := []) ⟨hx, hb_, hml, hown, hts⟩ (c_X0_run l D cI cZ x_ a_ S H.size  (10 + 24 * k_) hI_) (cwV 0 hts gL_law_X0_run rfl rfl rfl (by decide +kernel) ⟨Nat.le_of_ble_eq_true rfl, Nat.le_of_ble_eq_true rfl⟩) (pW_V (ci := 0) hPc (hK_.sub (tys' := tyX cI cZ) [0, 1] rfl) hDc rfl rfl) rfl rfl hl.1 rfl (lv_room (Nat.le_of_ble_eq_true rfl)) dL_law_593 ⟨by show _ ≤ 1073; omega, by show _ ≤ 8742; omega⟩) hS_ (fun q_ _ h_ => hFc q_ h_) hFc (fun r1 u2 t9 H1 locs ht9 hvm9 hw2 hB9 hz9 hk9 hS_ => ?_)
  have hw1 := hw2
  have hJ9 := va_join (wr := wM cI y_ b_ S t_ ++ [wO cJ ou fo]) hP hD [0, 1, 2, 3, 4, 5, 6, 7, 8, 9, 10, 11, 12, 13] [14, 15, 16, 17, 18, 19, 20, 21, 22, 23, 24, 25, 26, 27, 28] rfl rfl (by decide) (by decide) hk9 hFc (atW_P hB9 ht9) hB9.2
  have hP : va_P D vwCl (wW cI cZ cJ x_ y_ ou a_ b_ u2 S t_ fo) H1 := hJ9.1.sub [15, 16, 17, 18, 19, 20, 21, 22, 23, 24, 25, 26, 27, 28, 0, 1, 2, 3, 4, 5, 6, 7, 8, 9, 10, 11, 12, 13, 14] rfl
  have hD : va_D (fun q_ : Nat => s_.heap.size ≤ q_) (wW cI cZ cJ x_ y_ ou a_ b_ u2 S t_ fo) := hJ9.2.sub [15, 16, 17, 18, 19, 20, 21, 22, 23, 24, 25, 26, 27, 28, 0, 1, 2, 3, 4, 5, 6, 7, 8, 9, 10, 11, 12, 13, 14] (by decide) rfl
  generalize H1 = H at hP hS_ ⊢
  obtain ⟨S1, eS1⟩ : ∃ z_ : ST, z_ = u2 := ⟨_, rfl⟩
  rw [← eS1] at hP hD hw1
  refine lv_aload_n hx hb_ dL_law_596 rfl (lv_at hl 2 rfl) ?_
  have hPc := hP.sub (ws' := wM cI y_ b_ S t_) [14, 15, 16, 17, 18, 19, 20, 21, 22, 23, 24, 25, 26, 27] rfl
  have hDc := hD.sub (ws' := wM cI y_ b_ S t_) [14, 15, 16, 17, 18, 19, 20, 21, 22, 23, 24, 25, 26, 27] (by decide) rfl
  have hFc := va_free (wc := wM cI y_ b_ S t_) hD hS_ hA [14, 15, 16, 17, 18, 19, 20, 21, 22, 23, 24, 25, 26, 27] rfl
  refine va_calli (va_runV (As := []) (rest := [.int r1]) ⟨hx, hb_, hml, hown, hts⟩ (c_X1_run l D cI y_ b_ S t_ H.size  (10 + 24 * k_) hI_) (cwV 0 hts gL_law_X1_run rfl rfl rfl (by decide +kernel) ⟨Nat.le_of_ble_eq_true rfl, Nat.le_of_ble_eq_true rfl⟩) (pW_V (ci := 1) hPc (hK_.sub (tys' := tyM cI) [0] rfl) hDc rfl rfl) rfl rfl hl.1 rfl (lv_room (Nat.le_of_ble_eq_true rfl)) dL_law_597 ⟨by show _ ≤ 1073; omega, by show _ ≤ 8742; omega⟩) hS_ (fun q_ _ h_ => hFc q_ h_) hFc (fun r2 u2 t9 H1 locs ht9 hvm9 hw2 hB9 hz9 hk9 hS_ => ?_)
  obtain ⟨S2, t2⟩ := u2
  have hJ9 := va_join (wr := wX cI cZ x_ a_ S1 ++ [wO cJ ou fo]) hP hD [14, 15, 16, 17, 18, 19, 20, 21, 22, 23, 24, 25, 26, 27] [0, 1, 2, 3, 4, 5, 6, 7, 8, 9, 10, 11, 12, 13, 28] rfl rfl (by decide) (by decide) hk9 hFc (atW_P hB9 ht9) hB9.2
  have hP : va_P D vwCl (wW cI cZ cJ x_ y_ ou a_ b_ S1 S2 t2 fo) H1 := hJ9.1.sub [0, 1, 2, 3, 4, 5, 6, 7, 8, 9, 10, 11, 12, 13, 15, 16, 17, 18, 19, 20, 21, 22, 23, 24, 25, 26, 27, 28, 14] rfl
  have hD : va_D (fun q_ : Nat => s_.heap.size ≤ q_) (wW cI cZ cJ x_ y_ ou a_ b_ S1 S2 t2 fo) := hJ9.2.sub [0, 1, 2, 3, 4, 5, 6, 7, 8, 9, 10, 11, 12, 13, 15, 16, 17, 18, 19, 20, 21, 22, 23, 24, 25, 26, 27, 28, 14] (by decide) rfl
  generalize H1 = H at hP hS_ ⊢
  obtain ⟨e1_, e23_⟩ := Prod.mk.inj (hw1.symm.trans hw2)
  obtain ⟨e2_, e3_⟩ := Prod.mk.inj e23_
  subst e1_
  subst e2_
  subst e3_
  have hI0 : Inv (10 + 24 * k_) (k_run S).2.2 := keep_run hI_
  rw [hw1] at hI0
  have hI1 : Inv (10 + 24 * (k_ + 1)) S1 := Inv.mono hI0 (by omega)
  refine lv_icmp_eq (tgt := 1161) hx hb_ dL_law_600 (by decide) (fun c_600 => ?_) (fun c_600 => absurd rfl c_600)
  refine W.widen (k := 29 + k_ + 1) (n := 430 + 6 * k_ + 6) (by omega) (by omega) ?_
  exact kont S1 0 fo hI1 _ _ hP hD hS_ _ (lv_sub hl [0, 1, 2, 3, 4] rfl)
set_option maxHeartbeats 4000000 in
set_option maxRecDepth 100000 in
theorem law_case_9 {p_ : Program} {l : Launch} {e : Env} {s_ : State} {m_ : MethodId} {below : List Frame} {meth : Method} {c_ : Code} {D : va_G} {cI cZ cJ : ClassId} {b0 L : Nat} {xs : Nat → Int32} {x_ y_ ou : Nat} {a_ b_ : Nat → Nat} (hL : L ≤ 2560) (hfl : l.stackTraces = false) (C0_ : lw_At p_ s_ m_ meth c_ b0 L xs) (hG : xG (fun q_ => s_.heap.size ≤ q_) s_ s_.heap) (hN_ : xN s_) (hK_ : va_K D vwCl (tyL cI cZ cJ) s_) {k_ : Nat} {i4_ : Int32} (hk : 5 * k_ + 5 ≤ L) (e4_ : i4_ = nI (5 * k_)) {S : ST} {t_ : Int32} {fo : Nat → Int64} (hI_ : Inv (10 + 24 * k_) S) {H : Heap} {locs : List Loc} (hP : va_P D vwCl (wW cI cZ cJ x_ y_ ou a_ b_ S S t_ fo) H) (hD : va_D (fun q_ : Nat => s_.heap.size ≤ q_) (wW cI cZ cJ x_ y_ ou a_ b_ S S t_ fo)) (hS_ : va_S (fun q_ : Nat => s_.heap.size ≤ q_) s_.heap H locs) {ls : Array Slot} (hl : lv_has ls 7 [(0, .ref b0), (1, .ref x_), (2, .ref y_), (3, .ref ou), (4, .int i4_)]) (kont : ∀ (S' : ST) (t' : Int32) (f' : Nat → Int64), Inv (10 + 24 * (k_ + 1)) S' → ∀ (H : Heap) (locs : List Loc), va_P D vwCl (wW cI cZ cJ x_ y_ ou a_ b_ S' S' t' f') H → va_D (fun q_ : Nat => s_.heap.size ≤ q_) (wW cI cZ cJ x_ y_ ou a_ b_ S' S' t' f') → va_S (fun q_ : Nat => s_.heap.size ≤ q_) s_.heap H locs → ∀ ls : Array Slot, lv_has ls 7 [(0, .ref b0), (1, .ref x_), (2, .ref y_), (3, .ref ou), (4, .int i4_)] → W p_ l e room_1 s_ m_ #[Value.ref b0] below meth c_ H locs (29 + k_ + 1) (430 + 6 * k_ + 6) (lw_Z below #[Value.ref b0] s_) (F0 m_ 1161 ls [])) : W p_ l e room_1 s_ m_ #[Value.ref b0] below meth c_ H locs (29 + k_) (430 + 6 * k_) (lw_Z below #[Value.ref b0] s_) (F0 m_ 605 ls []) := by
  obtain ⟨hx, hb_, hr, hml, hown, hts, hX, hbl, hlocks, hgv⟩ := C0_
  have hts := fun w_ h_ => hts w_ (wsL_law_in w_ h_)
  have hown : s_.vm.findClass RL = some m_.cls := hown
  have hA : ∀ q_ : Nat, s_.heap.size ≤ q_ → (fun q_ : Nat => s_.heap.size ≤ q_) q_ := fun _ h_ => h_
  have hbA : ¬ (fun q_ : Nat => s_.heap.size ≤ q_) b0 := Nat.not_le.mpr hbl
  refine lv_aload_n hx hb_ dL_law_605 rfl (lv_at hl 1 rfl) ?_
  refine lv_aload_n hx hb_ dL_law_606 rfl (lv_at hl 0 rfl) ?_
  refine lv_iload hx hb_ dL_law_607 (lv_at hl 4 rfl) ?_
  refine lv_iconst (v := 1) hx hb_ dL_law_609 (by decide) ?_
  refine lv_iadd hx hb_ dL_law_610 ?_
  refine va_sld hx hb_ hX hbl hbA hS_ (sidx (j := 1) e4_ hk hL (by decide)) dL_law_611 ?_
  refine lv_aload_n hx hb_ dL_law_612 rfl (lv_at hl 3 rfl) ?_
  have hPc := hP.sub (ws' := wX cI cZ x_ a_ S ++ [wO cJ ou fo]) [0, 1, 2, 3, 4, 5, 6, 7, 8, 9, 10, 11, 12, 13, 28] rfl
  have hDc := hD.sub (ws' := wX cI cZ x_ a_ S ++ [wO cJ ou fo]) [0, 1, 2, 3, 4, 5, 6, 7, 8, 9, 10, 11, 12, 13, 28] (by decide) rfl
  have hFc := va_free (wc := wX cI cZ x_ a_ S ++ [wO cJ ou fo]) hD hS_ hA [0, 1, 2, 3, 4, 5, 6, 7, 8, 9, 10, 11, 12, 13, 28] rfl
  have hGH : xG (fun q_ => s_.heap.size ≤ q_) s_ H := hG.kept (fun q_ h1 h2 => hS_.2.1 q_ h1 h2)
  refine va_calli (vx_runSW (As := [.ref x_, .int (xs (i4_ + 1).toNatClampNeg), .ref ou]) (rest := []) ⟨hx, hb_, hml, hown, hts⟩ (c_L_miss l hfl D cI cZ cJ x_ ou a_ S fo H.size (xs (i4_ + 1).toNatClampNeg) (10 + 24 * k_) hI_) (vx_cwSW 3 hts gL_law_L_miss rfl rfl rfl (by decide +kernel) ⟨Nat.le_of_ble_eq_true rfl, Nat.le_of_ble_eq_true rfl⟩) (pL_S (pW_S hPc hK_ hDc) hGH (fun _ h_ => Nat.le_trans hS_.1 h_) hN_) rfl rfl hl.1 rfl (lv_room (Nat.le_of_ble_eq_true rfl)) dL_law_613 ⟨by show _ ≤ 1073; omega, by show _ ≤ 8742; omega⟩) hS_ (fun q_ _ h_ => hFc q_ h_) hFc (fun r1 u1 t9 H1 locs ht9 hvm9 hw hB9 hz9 hk9 hS_ => ?_)
  obtain ⟨S1, f1⟩ := u1
  obtain ⟨v1, hw1, ho⟩ := hw
  have hJ9 := va_join (wr := wM cI y_ b_ S t_) hP hD [0, 1, 2, 3, 4, 5, 6, 7, 8, 9, 10, 11, 12, 13, 28] [14, 15, 16, 17, 18, 19, 20, 21, 22, 23, 24, 25, 26, 27] rfl rfl (by decide) (by decide) hk9 hFc (atW_P hB9 ht9) hB9.2
  have hP : va_P D vwCl (wW cI cZ cJ x_ y_ ou a_ b_ S1 S t_ f1) H1 := hJ9.1.sub [14, 15, 16, 17, 18, 19, 20, 21, 22, 23, 24, 25, 26, 27, 0, 1, 2, 3, 4, 5, 6, 7, 8, 9, 10, 11, 12, 13, 28] rfl
  have hD : va_D (fun q_ : Nat => s_.heap.size ≤ q_) (wW cI cZ cJ x_ y_ ou a_ b_ S1 S t_ f1) := hJ9.2.sub [14, 15, 16, 17, 18, 19, 20, 21, 22, 23, 24, 25, 26, 27, 0, 1, 2, 3, 4, 5, 6, 7, 8, 9, 10, 11, 12, 13, 28] (by decide) rfl
  generalize H1 = H at hP hS_ ⊢
  refine lv_istore (lv' := [(5, .int r1), (0, .ref b0), (1, .ref x_), (2, .ref y_), (3, .ref ou), (4, .int i4_)]) hx hb_ dL_law_616 hl (by decide) rfl (fun ls hl => ?_)
  refine lv_aload_n hx hb_ dL_law_618 rfl (lv_at hl 3 rfl) ?_
  refine lv_aload_n hx hb_ dL_law_619 rfl (lv_at hl 1 rfl) ?_
  refine lv_iload hx hb_ dL_law_620 (lv_at hl 5 rfl) ?_
  refine lv_iconst (v := 1) hx hb_ dL_law_622 (by decide) ?_
  refine lv_iadd hx hb_ dL_law_623 ?_
  refine va_sld hx hb_ hX hbl hbA hS_ (sidx (j := 1) e4_ hk hL (by decide)) dL_law_624 ?_
  have hPc := hP.sub (ws' := wM cI y_ b_ S t_) [14, 15, 16, 17, 18, 19, 20, 21, 22, 23, 24, 25, 26, 27] rfl
  have hDc := hD.sub (ws' := wM cI y_ b_ S t_) [14, 15, 16, 17, 18, 19, 20, 21, 22, 23, 24, 25, 26, 27] (by decide) rfl
  have hFc := va_free (wc := wM cI y_ b_ S t_) hD hS_ hA [14, 15, 16, 17, 18, 19, 20, 21, 22, 23, 24, 25, 26, 27] rfl
  refine va_calli (va_runV (As := [.int (xs (i4_ + 1).toNatClampNeg)]) (rest := []) ⟨hx, hb_, hml, hown, hts⟩ (c_X1_miss l D cI y_ b_ S t_ H.size (xs (i4_ + 1).toNatClampNeg) (10 + 24 * k_) hI_) (cwV 1 hts gL_law_X1_miss rfl rfl rfl (by decide +kernel) ⟨Nat.le_of_ble_eq_true rfl, Nat.le_of_ble_eq_true rfl⟩) (pW_V (ci := 1) hPc (hK_.sub (tys' := tyM cI) [0] rfl) hDc rfl rfl) rfl rfl hl.1 rfl (lv_room (Nat.le_of_ble_eq_true rfl)) dL_law_625 ⟨by show _ ≤ 1073; omega, by show _ ≤ 8742; omega⟩) hS_ (fun q_ _ h_ => hFc q_ h_) hFc (fun r2 u2 t9 H1 locs ht9 hvm9 hw2 hB9 hz9 hk9 hS_ => ?_)
  obtain ⟨S2, t2⟩ := u2
  have hJ9 := va_join (wr := wX cI cZ x_ a_ S1 ++ [wO cJ ou f1]) hP hD [14, 15, 16, 17, 18, 19, 20, 21, 22, 23, 24, 25, 26, 27] [0, 1, 2, 3, 4, 5, 6, 7, 8, 9, 10, 11, 12, 13, 28] rfl rfl (by decide) (by decide) hk9 hFc (atW_P hB9 ht9) hB9.2
  have hP : va_P D vwCl (wW cI cZ cJ x_ y_ ou a_ b_ S1 S2 t2 f1) H1 := hJ9.1.sub [0, 1, 2, 3, 4, 5, 6, 7, 8, 9, 10, 11, 12, 13, 15, 16, 17, 18, 19, 20, 21, 22, 23, 24, 25, 26, 27, 28, 14] rfl
  have hD : va_D (fun q_ : Nat => s_.heap.size ≤ q_) (wW cI cZ cJ x_ y_ ou a_ b_ S1 S2 t2 f1) := hJ9.2.sub [0, 1, 2, 3, 4, 5, 6, 7, 8, 9, 10, 11, 12, 13, 15, 16, 17, 18, 19, 20, 21, 22, 23, 24, 25, 26, 27, 28, 14] (by decide) rfl
  generalize H1 = H at hP hS_ ⊢
  obtain ⟨e1_, e23_⟩ := Prod.mk.inj (hw1.symm.trans hw2)
  obtain ⟨e2_, e3_⟩ := Prod.mk.inj e23_
  subst e1_
  subst e2_
  subst e3_
  have hI0 : Inv (10 + 24 * k_) (k_miss S (xs (i4_ + 1).toNatClampNeg)).2.2 := keep_miss hI_ (xs (i4_ + 1).toNatClampNeg)
  rw [hw1] at hI0
  have hI1 : Inv (10 + 24 * (k_ + 1)) S1 := Inv.mono hI0 (by omega)
  refine lv_istore (lv' := [(6, .int v1), (5, .int r1), (0, .ref b0), (1, .ref x_), (2, .ref y_), (3, .ref ou), (4, .int i4_)]) hx hb_ dL_law_628 hl (by decide) rfl (fun ls hl => ?_)
  refine lv_aload_n hx hb_ dL_law_630 rfl (lv_at hl 4 rfl) ?_
  have hPc := hP.sub (ws' := wM cI y_ b_ S1 r1) [14, 15, 16, 17, 18, 19, 20, 21, 22, 23, 24, 25, 26, 27] rfl
  refine vp_callSi (W.runV (As := []) (rest := []) ⟨hx, hb_, hml, hown, hts⟩ (c_X1_thrown l D cI y_ b_ S1 r1  ) (cwV 0 hts gL_law_X1_thrown rfl rfl rfl (by decide +kernel) ⟨Nat.le_of_ble_eq_true rfl, Nat.le_of_ble_eq_true rfl⟩) (pR_V (ci := 1) hPc (hK_.sub (tys' := tyM cI) [0] rfl) rfl rfl) rfl rfl hl.1 rfl (lv_room (Nat.le_of_ble_eq_true rfl)) dL_law_631 ⟨by show _ ≤ 1073; omega, by show _ ≤ 8742; omega⟩) (fun r3 h3 => ?_)
  subst h3
  refine lv_iload hx hb_ dL_law_634 (lv_at hl 1 rfl) ?_
  refine lv_icmp_eq (tgt := 641) hx hb_ dL_law_636 (by decide) (fun c_636 => ?_) (fun c_636 => absurd rfl c_636)
  refine lv_iload hx hb_ dL_law_641 (lv_at hl 1 rfl) ?_
  refine lv_if_ne (tgt := 658) hx hb_ dL_law_643 (by decide) (fun c0 => ?_) (fun c0 => ?_)
  · skip
    refine lv_goto (tgt := 1161) hx hb_ dL_law_658 (by decide) ?_
    refine W.widen (k := 29 + k_ + 1) (n := 430 + 6 * k_ + 6) (by omega) (by omega) ?_
    exact kont S1 r1 f1 hI1 _ _ hP hD hS_ _ (lv_sub hl [2, 3, 4, 5, 6] rfl)
  · skip
    refine lv_aload_n hx hb_ dL_law_646 rfl (lv_at hl 5 rfl) ?_
    refine lv_iconst (v := 0) hx hb_ dL_law_647 (by decide) ?_
    refine va_lald (f := f1) (n := 1) hx hb_ hK_ hP 28 2 rfl rfl vin01 dL_law_648 ?_
    refine lv_iload hx hb_ dL_law_649 (lv_at hl 0 rfl) ?_
    refine lv_i2l (v := v1.toInt64) hx hb_ dL_law_651 rfl ?_
    refine W.lcmp hx hb_ dL_law_652 ?_
    refine lv_if_eq (tgt := 658) hx hb_ dL_law_653 (by decide) (fun _ => ?_) (fun z_ => absurd ((lg_cmp_eq _ _).mpr (ho c0)) z_)
    refine lv_goto (tgt := 1161) hx hb_ dL_law_658 (by decide) ?_
    refine W.widen (k := 29 + k_ + 1) (n := 430 + 6 * k_ + 6) (by omega) (by omega) ?_
    exact kont S1 r1 f1 hI1 _ _ hP hD hS_ _ (lv_sub hl [2, 3, 4, 5, 6] rfl)
set_option maxHeartbeats 4000000 in
set_option maxRecDepth 100000 in
theorem law_case_10 {p_ : Program} {l : Launch} {e : Env} {s_ : State} {m_ : MethodId} {below : List Frame} {meth : Method} {c_ : Code} {D : va_G} {cI cZ cJ : ClassId} {b0 L : Nat} {xs : Nat → Int32} {x_ y_ ou : Nat} {a_ b_ : Nat → Nat} (hL : L ≤ 2560) (hfl : l.stackTraces = false) (C0_ : lw_At p_ s_ m_ meth c_ b0 L xs) (hG : xG (fun q_ => s_.heap.size ≤ q_) s_ s_.heap) (hN_ : xN s_) (hK_ : va_K D vwCl (tyL cI cZ cJ) s_) {k_ : Nat} {i4_ : Int32} (hk : 5 * k_ + 5 ≤ L) (e4_ : i4_ = nI (5 * k_)) {S : ST} {t_ : Int32} {fo : Nat → Int64} (hI_ : Inv (10 + 24 * k_) S) {H : Heap} {locs : List Loc} (hP : va_P D vwCl (wW cI cZ cJ x_ y_ ou a_ b_ S S t_ fo) H) (hD : va_D (fun q_ : Nat => s_.heap.size ≤ q_) (wW cI cZ cJ x_ y_ ou a_ b_ S S t_ fo)) (hS_ : va_S (fun q_ : Nat => s_.heap.size ≤ q_) s_.heap H locs) {ls : Array Slot} (hl : lv_has ls 7 [(0, .ref b0), (1, .ref x_), (2, .ref y_), (3, .ref ou), (4, .int i4_)]) (kont : ∀ (S' : ST) (t' : Int32) (f' : Nat → Int64), Inv (10 + 24 * (k_ + 1)) S' → ∀ (H : Heap) (locs : List Loc), va_P D vwCl (wW cI cZ cJ x_ y_ ou a_ b_ S' S' t' f') H → va_D (fun q_ : Nat => s_.heap.size ≤ q_) (wW cI cZ cJ x_ y_ ou a_ b_ S' S' t' f') → va_S (fun q_ : Nat => s_.heap.size ≤ q_) s_.heap H locs → ∀ ls : Array Slot, lv_has ls 7 [(0, .ref b0), (1, .ref x_), (2, .ref y_), (3, .ref ou), (4, .int i4_)] → W p_ l e room_1 s_ m_ #[Value.ref b0] below meth c_ H locs (29 + k_ + 1) (430 + 6 * k_ + 6) (lw_Z below #[Value.ref b0] s_) (F0 m_ 1161 ls [])) : W p_ l e room_1 s_ m_ #[Value.ref b0] below meth c_ H locs (29 + k_) (430 + 6 * k_) (lw_Z below #[Value.ref b0] s_) (F0 m_ 661 ls []) := by
  obtain ⟨hx, hb_, hr, hml, hown, hts, hX, hbl, hlocks, hgv⟩ := C0_
  have hts := fun w_ h_ => hts w_ (wsL_law_in w_ h_)
  have hown : s_.vm.findClass RL = some m_.cls := hown
  have hA : ∀ q_ : Nat, s_.heap.size ≤ q_ → (fun q_ : Nat => s_.heap.size ≤ q_) q_ := fun _ h_ => h_
  have hbA : ¬ (fun q_ : Nat => s_.heap.size ≤ q_) b0 := Nat.not_le.mpr hbl
  refine lv_aload_n hx hb_ dL_law_661 rfl (lv_at hl 1 rfl) ?_
  refine lv_aload_n hx hb_ dL_law_662 rfl (lv_at hl 0 rfl) ?_
  refine lv_iload hx hb_ dL_law_663 (lv_at hl 4 rfl) ?_
  refine lv_iconst (v := 1) hx hb_ dL_law_665 (by decide) ?_
  refine lv_iadd hx hb_ dL_law_666 ?_
  refine va_sld hx hb_ hX hbl hbA hS_ (sidx (j := 1) e4_ hk hL (by decide)) dL_law_667 ?_
  refine lv_aload_n hx hb_ dL_law_668 rfl (lv_at hl 3 rfl) ?_
  have hPc := hP.sub (ws' := wX cI cZ x_ a_ S ++ [wO cJ ou fo]) [0, 1, 2, 3, 4, 5, 6, 7, 8, 9, 10, 11, 12, 13, 28] rfl
  have hDc := hD.sub (ws' := wX cI cZ x_ a_ S ++ [wO cJ ou fo]) [0, 1, 2, 3, 4, 5, 6, 7, 8, 9, 10, 11, 12, 13, 28] (by decide) rfl
  have hFc := va_free (wc := wX cI cZ x_ a_ S ++ [wO cJ ou fo]) hD hS_ hA [0, 1, 2, 3, 4, 5, 6, 7, 8, 9, 10, 11, 12, 13, 28] rfl
  have hGH : xG (fun q_ => s_.heap.size ≤ q_) s_ H := hG.kept (fun q_ h1 h2 => hS_.2.1 q_ h1 h2)
  refine va_calli (vx_runSW (As := [.ref x_, .int (xs (i4_ + 1).toNatClampNeg), .ref ou]) (rest := []) ⟨hx, hb_, hml, hown, hts⟩ (c_L_stateOf l hfl D cI cZ cJ x_ ou a_ S fo H.size (xs (i4_ + 1).toNatClampNeg) (10 + 24 * k_) hI_) (vx_cwSW 3 hts gL_law_L_stateOf rfl rfl rfl (by decide +kernel) ⟨Nat.le_of_ble_eq_true rfl, Nat.le_of_ble_eq_true rfl⟩) (pL_S (pW_S hPc hK_ hDc) hGH (fun _ h_ => Nat.le_trans hS_.1 h_) hN_) rfl rfl hl.1 rfl (lv_room (Nat.le_of_ble_eq_true rfl)) dL_law_669 ⟨by show _ ≤ 1073; omega, by show _ ≤ 8742; omega⟩) hS_ (fun q_ _ h_ => hFc q_ h_) hFc (fun r1 u1 t9 H1 locs ht9 hvm9 hw hB9 hz9 hk9 hS_ => ?_)
  obtain ⟨S1, f1⟩ := u1
  obtain ⟨v1, hw1, ho⟩ := hw
  have hJ9 := va_join (wr := wM cI y_ b_ S t_) hP hD [0, 1, 2, 3, 4, 5, 6, 7, 8, 9, 10, 11, 12, 13, 28] [14, 15, 16, 17, 18, 19, 20, 21, 22, 23, 24, 25, 26, 27] rfl rfl (by decide) (by decide) hk9 hFc (atW_P hB9 ht9) hB9.2
  have hP : va_P D vwCl (wW cI cZ cJ x_ y_ ou a_ b_ S1 S t_ f1) H1 := hJ9.1.sub [14, 15, 16, 17, 18, 19, 20, 21, 22, 23, 24, 25, 26, 27, 0, 1, 2, 3, 4, 5, 6, 7, 8, 9, 10, 11, 12, 13, 28] rfl
  have hD : va_D (fun q_ : Nat => s_.heap.size ≤ q_) (wW cI cZ cJ x_ y_ ou a_ b_ S1 S t_ f1) := hJ9.2.sub [14, 15, 16, 17, 18, 19, 20, 21, 22, 23, 24, 25, 26, 27, 0, 1, 2, 3, 4, 5, 6, 7, 8, 9, 10, 11, 12, 13, 28] (by decide) rfl
  generalize H1 = H at hP hS_ ⊢
  refine lv_istore (lv' := [(5, .int r1), (0, .ref b0), (1, .ref x_), (2, .ref y_), (3, .ref ou), (4, .int i4_)]) hx hb_ dL_law_672 hl (by decide) rfl (fun ls hl => ?_)
  refine lv_aload_n hx hb_ dL_law_674 rfl (lv_at hl 3 rfl) ?_
  refine lv_aload_n hx hb_ dL_law_675 rfl (lv_at hl 1 rfl) ?_
  refine lv_iload hx hb_ dL_law_676 (lv_at hl 5 rfl) ?_
  refine lv_iconst (v := 1) hx hb_ dL_law_678 (by decide) ?_
  refine lv_iadd hx hb_ dL_law_679 ?_
  refine va_sld hx hb_ hX hbl hbA hS_ (sidx (j := 1) e4_ hk hL (by decide)) dL_law_680 ?_
  have hPc := hP.sub (ws' := wM cI y_ b_ S t_) [14, 15, 16, 17, 18, 19, 20, 21, 22, 23, 24, 25, 26, 27] rfl
  have hDc := hD.sub (ws' := wM cI y_ b_ S t_) [14, 15, 16, 17, 18, 19, 20, 21, 22, 23, 24, 25, 26, 27] (by decide) rfl
  have hFc := va_free (wc := wM cI y_ b_ S t_) hD hS_ hA [14, 15, 16, 17, 18, 19, 20, 21, 22, 23, 24, 25, 26, 27] rfl
  refine va_calli (va_runV (As := [.int (xs (i4_ + 1).toNatClampNeg)]) (rest := []) ⟨hx, hb_, hml, hown, hts⟩ (c_X1_stateOf l D cI y_ b_ S t_ H.size (xs (i4_ + 1).toNatClampNeg) (10 + 24 * k_) hI_) (cwV 1 hts gL_law_X1_stateOf rfl rfl rfl (by decide +kernel) ⟨Nat.le_of_ble_eq_true rfl, Nat.le_of_ble_eq_true rfl⟩) (pW_V (ci := 1) hPc (hK_.sub (tys' := tyM cI) [0] rfl) hDc rfl rfl) rfl rfl hl.1 rfl (lv_room (Nat.le_of_ble_eq_true rfl)) dL_law_681 ⟨by show _ ≤ 1073; omega, by show _ ≤ 8742; omega⟩) hS_ (fun q_ _ h_ => hFc q_ h_) hFc (fun r2 u2 t9 H1 locs ht9 hvm9 hw2 hB9 hz9 hk9 hS_ => ?_)
  obtain ⟨S2, t2⟩ := u2
  have hJ9 := va_join (wr := wX cI cZ x_ a_ S1 ++ [wO cJ ou f1]) hP hD [14, 15, 16, 17, 18, 19, 20, 21, 22, 23, 24, 25, 26, 27] [0, 1, 2, 3, 4, 5, 6, 7, 8, 9, 10, 11, 12, 13, 28] rfl rfl (by decide) (by decide) hk9 hFc (atW_P hB9 ht9) hB9.2
  have hP : va_P D vwCl (wW cI cZ cJ x_ y_ ou a_ b_ S1 S2 t2 f1) H1 := hJ9.1.sub [0, 1, 2, 3, 4, 5, 6, 7, 8, 9, 10, 11, 12, 13, 15, 16, 17, 18, 19, 20, 21, 22, 23, 24, 25, 26, 27, 28, 14] rfl
  have hD : va_D (fun q_ : Nat => s_.heap.size ≤ q_) (wW cI cZ cJ x_ y_ ou a_ b_ S1 S2 t2 f1) := hJ9.2.sub [0, 1, 2, 3, 4, 5, 6, 7, 8, 9, 10, 11, 12, 13, 15, 16, 17, 18, 19, 20, 21, 22, 23, 24, 25, 26, 27, 28, 14] (by decide) rfl
  generalize H1 = H at hP hS_ ⊢
  obtain ⟨e1_, e23_⟩ := Prod.mk.inj (hw1.symm.trans hw2)
  obtain ⟨e2_, e3_⟩ := Prod.mk.inj e23_
  subst e1_
  subst e2_
  subst e3_
  have hI0 : Inv (10 + 24 * k_) (k_stateOf S (xs (i4_ + 1).toNatClampNeg)).2.2 := cif_elim (fun z_ : KR => Inv (10 + 24 * k_) z_.2.2) (fun _ => hI_) (fun _ => hI_)
  rw [hw1] at hI0
  have hI1 : Inv (10 + 24 * (k_ + 1)) S1 := Inv.mono hI0 (by omega)
  refine lv_istore (lv' := [(6, .int v1), (5, .int r1), (0, .ref b0), (1, .ref x_), (2, .ref y_), (3, .ref ou), (4, .int i4_)]) hx hb_ dL_law_684 hl (by decide) rfl (fun ls hl => ?_)
  refine lv_aload_n hx hb_ dL_law_686 rfl (lv_at hl 4 rfl) ?_
  have hPc := hP.sub (ws' := wM cI y_ b_ S1 r1) [14, 15, 16, 17, 18, 19, 20, 21, 22, 23, 24, 25, 26, 27] rfl
  refine vp_callSi (W.runV (As := []) (rest := []) ⟨hx, hb_, hml, hown, hts⟩ (c_X1_thrown l D cI y_ b_ S1 r1  ) (cwV 0 hts gL_law_X1_thrown rfl rfl rfl (by decide +kernel) ⟨Nat.le_of_ble_eq_true rfl, Nat.le_of_ble_eq_true rfl⟩) (pR_V (ci := 1) hPc (hK_.sub (tys' := tyM cI) [0] rfl) rfl rfl) rfl rfl hl.1 rfl (lv_room (Nat.le_of_ble_eq_true rfl)) dL_law_687 ⟨by show _ ≤ 1073; omega, by show _ ≤ 8742; omega⟩) (fun r3 h3 => ?_)
  subst h3
  refine lv_iload hx hb_ dL_law_690 (lv_at hl 1 rfl) ?_
  refine lv_icmp_eq (tgt := 697) hx hb_ dL_law_692 (by decide) (fun c_692 => ?_) (fun c_692 => absurd rfl c_692)
  refine lv_iload hx hb_ dL_law_697 (lv_at hl 1 rfl) ?_
  refine lv_if_ne (tgt := 714) hx hb_ dL_law_699 (by decide) (fun c0 => ?_) (fun c0 => ?_)
  · skip
    refine lv_goto (tgt := 1161) hx hb_ dL_law_714 (by decide) ?_
    refine W.widen (k := 29 + k_ + 1) (n := 430 + 6 * k_ + 6) (by omega) (by omega) ?_
    exact kont S1 r1 f1 hI1 _ _ hP hD hS_ _ (lv_sub hl [2, 3, 4, 5, 6] rfl)
  · skip
    refine lv_aload_n hx hb_ dL_law_702 rfl (lv_at hl 5 rfl) ?_
    refine lv_iconst (v := 0) hx hb_ dL_law_703 (by decide) ?_
    refine va_lald (f := f1) (n := 1) hx hb_ hK_ hP 28 2 rfl rfl vin01 dL_law_704 ?_
    refine lv_iload hx hb_ dL_law_705 (lv_at hl 0 rfl) ?_
    refine lv_i2l (v := v1.toInt64) hx hb_ dL_law_707 rfl ?_
    refine W.lcmp hx hb_ dL_law_708 ?_
    refine lv_if_eq (tgt := 714) hx hb_ dL_law_709 (by decide) (fun _ => ?_) (fun z_ => absurd ((lg_cmp_eq _ _).mpr (ho c0)) z_)
    refine lv_goto (tgt := 1161) hx hb_ dL_law_714 (by decide) ?_
    refine W.widen (k := 29 + k_ + 1) (n := 430 + 6 * k_ + 6) (by omega) (by omega) ?_
    exact kont S1 r1 f1 hI1 _ _ hP hD hS_ _ (lv_sub hl [2, 3, 4, 5, 6] rfl)
set_option maxHeartbeats 4000000 in
set_option maxRecDepth 100000 in
theorem law_case_11 {p_ : Program} {l : Launch} {e : Env} {s_ : State} {m_ : MethodId} {below : List Frame} {meth : Method} {c_ : Code} {D : va_G} {cI cZ cJ : ClassId} {b0 L : Nat} {xs : Nat → Int32} {x_ y_ ou : Nat} {a_ b_ : Nat → Nat} (hL : L ≤ 2560) (hfl : l.stackTraces = false) (C0_ : lw_At p_ s_ m_ meth c_ b0 L xs) (hG : xG (fun q_ => s_.heap.size ≤ q_) s_ s_.heap) (hN_ : xN s_) (hK_ : va_K D vwCl (tyL cI cZ cJ) s_) {k_ : Nat} {i4_ : Int32} (hk : 5 * k_ + 5 ≤ L) (e4_ : i4_ = nI (5 * k_)) {S : ST} {t_ : Int32} {fo : Nat → Int64} (hI_ : Inv (10 + 24 * k_) S) {H : Heap} {locs : List Loc} (hP : va_P D vwCl (wW cI cZ cJ x_ y_ ou a_ b_ S S t_ fo) H) (hD : va_D (fun q_ : Nat => s_.heap.size ≤ q_) (wW cI cZ cJ x_ y_ ou a_ b_ S S t_ fo)) (hS_ : va_S (fun q_ : Nat => s_.heap.size ≤ q_) s_.heap H locs) {ls : Array Slot} (hl : lv_has ls 7 [(0, .ref b0), (1, .ref x_), (2, .ref y_), (3, .ref ou), (4, .int i4_)]) (kont : ∀ (S' : ST) (t' : Int32) (f' : Nat → Int64), Inv (10 + 24 * (k_ + 1)) S' → ∀ (H : Heap) (locs : List Loc), va_P D vwCl (wW cI cZ cJ x_ y_ ou a_ b_ S' S' t' f') H → va_D (fun q_ : Nat => s_.heap.size ≤ q_) (wW cI cZ cJ x_ y_ ou a_ b_ S' S' t' f') → va_S (fun q_ : Nat => s_.heap.size ≤ q_) s_.heap H locs → ∀ ls : Array Slot, lv_has ls 7 [(0, .ref b0), (1, .ref x_), (2, .ref y_), (3, .ref ou), (4, .int i4_)] → W p_ l e room_1 s_ m_ #[Value.ref b0] below meth c_ H locs (29 + k_ + 1) (430 + 6 * k_ + 6) (lw_Z below #[Value.ref b0] s_) (F0 m_ 1161 ls [])) : W p_ l e room_1 s_ m_ #[Value.ref b0] below meth c_ H locs (29 + k_) (430 + 6 * k_) (lw_Z below #[Value.ref b0] s_) (F0 m_ 717 ls []) := by
  obtain ⟨hx, hb_, hr, hml, hown, hts, hX, hbl, hlocks, hgv⟩ := C0_
  have hts := fun w_ h_ => hts w_ (wsL_law_in w_ h_)
  have hown : s_.vm.findClass RL = some m_.cls := hown
  have hA : ∀ q_ : Nat, s_.heap.size ≤ q_ → (fun q_ : Nat => s_.heap.size ≤ q_) q_ := fun _ h_ => h_
  have hbA : ¬ (fun q_ : Nat => s_.heap.size ≤ q_) b0 := Nat.not_le.mpr hbl
  refine lv_aload_n hx hb_ dL_law_717 rfl (lv_at hl 1 rfl) ?_
  have hPc := hP.sub (ws' := wX cI cZ x_ a_ S) [0, 1, 2, 3, 4, 5, 6, 7, 8, 9, 10, 11, 12, 13] rfl
  refine vp_callSi (W.runV (As := []) (rest := []) ⟨hx, hb_, hml, hown, hts⟩ (c_X0_cues l D cI cZ x_ a_ S  ) (cwV 0 hts gL_law_X0_cues rfl rfl rfl (by decide +kernel) ⟨Nat.le_of_ble_eq_true rfl, Nat.le_of_ble_eq_true rfl⟩) (pR_V (ci := 0) hPc (hK_.sub (tys' := tyX cI cZ) [0, 1] rfl) rfl rfl) rfl rfl hl.1 rfl (lv_room (Nat.le_of_ble_eq_true rfl)) dL_law_718 ⟨by show _ ≤ 1073; omega, by show _ ≤ 8742; omega⟩) (fun r3 h3 => ?_)
  subst h3
  refine lv_aload_n hx hb_ dL_law_721 rfl (lv_at hl 2 rfl) ?_
  have hPc := hP.sub (ws' := wM cI y_ b_ S t_) [14, 15, 16, 17, 18, 19, 20, 21, 22, 23, 24, 25, 26, 27] rfl
  have hDc := hD.sub (ws' := wM cI y_ b_ S t_) [14, 15, 16, 17, 18, 19, 20, 21, 22, 23, 24, 25, 26, 27] (by decide) rfl
  have hFc := va_free (wc := wM cI y_ b_ S t_) hD hS_ hA [14, 15, 16, 17, 18, 19, 20, 21, 22, 23, 24, 25, 26, 27] rfl
  refine va_calli (va_runV (As := []) (rest := [.int (S 10 0)]) ⟨hx, hb_, hml, hown, hts⟩ (c_X1_cues l D cI y_ b_ S t_ H.size  ) (cwV 0 hts gL_law_X1_cues rfl rfl rfl (by decide +kernel) ⟨Nat.le_of_ble_eq_true rfl, Nat.le_of_ble_eq_true rfl⟩) (pW_V (ci := 1) hPc (hK_.sub (tys' := tyM cI) [0] rfl) hDc rfl rfl) rfl rfl hl.1 rfl (lv_room (Nat.le_of_ble_eq_true rfl)) dL_law_722 ⟨by show _ ≤ 1073; omega, by show _ ≤ 8742; omega⟩) hS_ (fun q_ _ h_ => hFc q_ h_) hFc (fun r2 u2 t9 H1 locs ht9 hvm9 hw2 hB9 hz9 hk9 hS_ => ?_)
  obtain ⟨S2, t2⟩ := u2
  have hJ9 := va_join (wr := wX cI cZ x_ a_ S ++ [wO cJ ou fo]) hP hD [14, 15, 16, 17, 18, 19, 20, 21, 22, 23, 24, 25, 26, 27] [0, 1, 2, 3, 4, 5, 6, 7, 8, 9, 10, 11, 12, 13, 28] rfl rfl (by decide) (by decide) hk9 hFc (atW_P hB9 ht9) hB9.2
  have hP : va_P D vwCl (wW cI cZ cJ x_ y_ ou a_ b_ S S2 t2 fo) H1 := hJ9.1.sub [0, 1, 2, 3, 4, 5, 6, 7, 8, 9, 10, 11, 12, 13, 15, 16, 17, 18, 19, 20, 21, 22, 23, 24, 25, 26, 27, 28, 14] rfl
  have hD : va_D (fun q_ : Nat => s_.heap.size ≤ q_) (wW cI cZ cJ x_ y_ ou a_ b_ S S2 t2 fo) := hJ9.2.sub [0, 1, 2, 3, 4, 5, 6, 7, 8, 9, 10, 11, 12, 13, 15, 16, 17, 18, 19, 20, 21, 22, 23, 24, 25, 26, 27, 28, 14] (by decide) rfl
  generalize H1 = H at hP hS_ ⊢
  obtain ⟨e1_, e2_⟩ := hw2
  obtain ⟨e3_, e4b⟩ := Prod.mk.inj e2_
  subst e1_
  subst e3_
  subst e4b
  have hI1 : Inv (10 + 24 * (k_ + 1)) S := hI_.mono (by omega)
  refine lv_icmp_eq (tgt := 1161) hx hb_ dL_law_725 (by decide) (fun c_725 => ?_) (fun c_725 => absurd rfl c_725)
  refine W.widen (k := 29 + k_ + 1) (n := 430 + 6 * k_ + 6) (by omega) (by omega) ?_
  exact kont S 0 fo hI1 _ _ hP hD hS_ _ (lv_sub hl [0, 1, 2, 3, 4] rfl)
set_option maxHeartbeats 4000000 in
set_option maxRecDepth 100000 in
theorem law_case_12 {p_ : Program} {l : Launch} {e : Env} {s_ : State} {m_ : MethodId} {below : List Frame} {meth : Method} {c_ : Code} {D : va_G} {cI cZ cJ : ClassId} {b0 L : Nat} {xs : Nat → Int32} {x_ y_ ou : Nat} {a_ b_ : Nat → Nat} (hL : L ≤ 2560) (hfl : l.stackTraces = false) (C0_ : lw_At p_ s_ m_ meth c_ b0 L xs) (hG : xG (fun q_ => s_.heap.size ≤ q_) s_ s_.heap) (hN_ : xN s_) (hK_ : va_K D vwCl (tyL cI cZ cJ) s_) {k_ : Nat} {i4_ : Int32} (hk : 5 * k_ + 5 ≤ L) (e4_ : i4_ = nI (5 * k_)) {S : ST} {t_ : Int32} {fo : Nat → Int64} (hI_ : Inv (10 + 24 * k_) S) {H : Heap} {locs : List Loc} (hP : va_P D vwCl (wW cI cZ cJ x_ y_ ou a_ b_ S S t_ fo) H) (hD : va_D (fun q_ : Nat => s_.heap.size ≤ q_) (wW cI cZ cJ x_ y_ ou a_ b_ S S t_ fo)) (hS_ : va_S (fun q_ : Nat => s_.heap.size ≤ q_) s_.heap H locs) {ls : Array Slot} (hl : lv_has ls 7 [(0, .ref b0), (1, .ref x_), (2, .ref y_), (3, .ref ou), (4, .int i4_)]) (kont : ∀ (S' : ST) (t' : Int32) (f' : Nat → Int64), Inv (10 + 24 * (k_ + 1)) S' → ∀ (H : Heap) (locs : List Loc), va_P D vwCl (wW cI cZ cJ x_ y_ ou a_ b_ S' S' t' f') H → va_D (fun q_ : Nat => s_.heap.size ≤ q_) (wW cI cZ cJ x_ y_ ou a_ b_ S' S' t' f') → va_S (fun q_ : Nat => s_.heap.size ≤ q_) s_.heap H locs → ∀ ls : Array Slot, lv_has ls 7 [(0, .ref b0), (1, .ref x_), (2, .ref y_), (3, .ref ou), (4, .int i4_)] → W p_ l e room_1 s_ m_ #[Value.ref b0] below meth c_ H locs (29 + k_ + 1) (430 + 6 * k_ + 6) (lw_Z below #[Value.ref b0] s_) (F0 m_ 1161 ls [])) : W p_ l e room_1 s_ m_ #[Value.ref b0] below meth c_ H locs (29 + k_) (430 + 6 * k_) (lw_Z below #[Value.ref b0] s_) (F0 m_ 730 ls []) := by
  obtain ⟨hx, hb_, hr, hml, hown, hts, hX, hbl, hlocks, hgv⟩ := C0_
  have hts := fun w_ h_ => hts w_ (wsL_law_in w_ h_)
  have hown : s_.vm.findClass RL = some m_.cls := hown
  have hA : ∀ q_ : Nat, s_.heap.size ≤ q_ → (fun q_ : Nat => s_.heap.size ≤ q_) q_ := fun _ h_ => h_
  have hbA : ¬ (fun q_ : Nat => s_.heap.size ≤ q_) b0 := Nat.not_le.mpr hbl
  refine lv_aload_n hx hb_ dL_law_730 rfl (lv_at hl 1 rfl) ?_
  refine lv_aload_n hx hb_ dL_law_731 rfl (lv_at hl 0 rfl) ?_
  refine lv_iload hx hb_ dL_law_732 (lv_at hl 4 rfl) ?_
  refine lv_iconst (v := 1) hx hb_ dL_law_734 (by decide) ?_
  refine lv_iadd hx hb_ dL_law_735 ?_
  refine va_sld hx hb_ hX hbl hbA hS_ (sidx (j := 1) e4_ hk hL (by decide)) dL_law_736 ?_
  refine lv_aload_n hx hb_ dL_law_737 rfl (lv_at hl 3 rfl) ?_
  have hPc := hP.sub (ws' := wX cI cZ x_ a_ S ++ [wO cJ ou fo]) [0, 1, 2, 3, 4, 5, 6, 7, 8, 9, 10, 11, 12, 13, 28] rfl
  have hDc := hD.sub (ws' := wX cI cZ x_ a_ S ++ [wO cJ ou fo]) [0, 1, 2, 3, 4, 5, 6, 7, 8, 9, 10, 11, 12, 13, 28] (by decide) rfl
  have hFc := va_free (wc := wX cI cZ x_ a_ S ++ [wO cJ ou fo]) hD hS_ hA [0, 1, 2, 3, 4, 5, 6, 7, 8, 9, 10, 11, 12, 13, 28] rfl
  have hGH : xG (fun q_ => s_.heap.size ≤ q_) s_ H := hG.kept (fun q_ h1 h2 => hS_.2.1 q_ h1 h2)
  refine va_calli (vx_runSW (As := [.ref x_, .int (xs (i4_ + 1).toNatClampNeg), .ref ou]) (rest := []) ⟨hx, hb_, hml, hown, hts⟩ (c_L_maskOf l hfl D cI cZ cJ x_ ou a_ S fo H.size (xs (i4_ + 1).toNatClampNeg) ) (vx_cwSW 3 hts gL_law_L_maskOf rfl rfl rfl (by decide +kernel) ⟨Nat.le_of_ble_eq_true rfl, Nat.le_of_ble_eq_true rfl⟩) (pL_S (pW_S hPc hK_ hDc) hGH (fun _ h_ => Nat.le_trans hS_.1 h_) hN_) rfl rfl hl.1 rfl (lv_room (Nat.le_of_ble_eq_true rfl)) dL_law_738 ⟨by show _ ≤ 1073; omega, by show _ ≤ 8742; omega⟩) hS_ (fun q_ _ h_ => hFc q_ h_) hFc (fun r1 u1 t9 H1 locs ht9 hvm9 hw hB9 hz9 hk9 hS_ => ?_)
  obtain ⟨S1, f1⟩ := u1
  obtain ⟨v1, hw1, ho⟩ := hw
  have hJ9 := va_join (wr := wM cI y_ b_ S t_) hP hD [0, 1, 2, 3, 4, 5, 6, 7, 8, 9, 10, 11, 12, 13, 28] [14, 15, 16, 17, 18, 19, 20, 21, 22, 23, 24, 25, 26, 27] rfl rfl (by decide) (by decide) hk9 hFc (atW_P hB9 ht9) hB9.2
  have hP : va_P D vwCl (wW cI cZ cJ x_ y_ ou a_ b_ S1 S t_ f1) H1 := hJ9.1.sub [14, 15, 16, 17, 18, 19, 20, 21, 22, 23, 24, 25, 26, 27, 0, 1, 2, 3, 4, 5, 6, 7, 8, 9, 10, 11, 12, 13, 28] rfl
  have hD : va_D (fun q_ : Nat => s_.heap.size ≤ q_) (wW cI cZ cJ x_ y_ ou a_ b_ S1 S t_ f1) := hJ9.2.sub [14, 15, 16, 17, 18, 19, 20, 21, 22, 23, 24, 25, 26, 27, 0, 1, 2, 3, 4, 5, 6, 7, 8, 9, 10, 11, 12, 13, 28] (by decide) rfl
  generalize H1 = H at hP hS_ ⊢
  refine lv_istore (lv' := [(5, .int r1), (0, .ref b0), (1, .ref x_), (2, .ref y_), (3, .ref ou), (4, .int i4_)]) hx hb_ dL_law_741 hl (by decide) rfl (fun ls hl => ?_)
  refine lv_aload_n hx hb_ dL_law_743 rfl (lv_at hl 3 rfl) ?_
  refine lv_aload_n hx hb_ dL_law_744 rfl (lv_at hl 1 rfl) ?_
  refine lv_iload hx hb_ dL_law_745 (lv_at hl 5 rfl) ?_
  refine lv_iconst (v := 1) hx hb_ dL_law_747 (by decide) ?_
  refine lv_iadd hx hb_ dL_law_748 ?_
  refine va_sld hx hb_ hX hbl hbA hS_ (sidx (j := 1) e4_ hk hL (by decide)) dL_law_749 ?_
  have hPc := hP.sub (ws' := wM cI y_ b_ S t_) [14, 15, 16, 17, 18, 19, 20, 21, 22, 23, 24, 25, 26, 27] rfl
  have hDc := hD.sub (ws' := wM cI y_ b_ S t_) [14, 15, 16, 17, 18, 19, 20, 21, 22, 23, 24, 25, 26, 27] (by decide) rfl
  have hFc := va_free (wc := wM cI y_ b_ S t_) hD hS_ hA [14, 15, 16, 17, 18, 19, 20, 21, 22, 23, 24, 25, 26, 27] rfl
  refine va_calli (va_runV (As := [.int (xs (i4_ + 1).toNatClampNeg)]) (rest := []) ⟨hx, hb_, hml, hown, hts⟩ (c_X1_maskOf l D cI y_ b_ S t_ H.size (xs (i4_ + 1).toNatClampNeg) ) (cwV 1 hts gL_law_X1_maskOf rfl rfl rfl (by decide +kernel) ⟨Nat.le_of_ble_eq_true rfl, Nat.le_of_ble_eq_true rfl⟩) (pW_V (ci := 1) hPc (hK_.sub (tys' := tyM cI) [0] rfl) hDc rfl rfl) rfl rfl hl.1 rfl (lv_room (Nat.le_of_ble_eq_true rfl)) dL_law_750 ⟨by show _ ≤ 1073; omega, by show _ ≤ 8742; omega⟩) hS_ (fun q_ _ h_ => hFc q_ h_) hFc (fun r2 u2 t9 H1 locs ht9 hvm9 hw2 hB9 hz9 hk9 hS_ => ?_)
  obtain ⟨S2, t2⟩ := u2
  have hJ9 := va_join (wr := wX cI cZ x_ a_ S1 ++ [wO cJ ou f1]) hP hD [14, 15, 16, 17, 18, 19, 20, 21, 22, 23, 24, 25, 26, 27] [0, 1, 2, 3, 4, 5, 6, 7, 8, 9, 10, 11, 12, 13, 28] rfl rfl (by decide) (by decide) hk9 hFc (atW_P hB9 ht9) hB9.2
  have hP : va_P D vwCl (wW cI cZ cJ x_ y_ ou a_ b_ S1 S2 t2 f1) H1 := hJ9.1.sub [0, 1, 2, 3, 4, 5, 6, 7, 8, 9, 10, 11, 12, 13, 15, 16, 17, 18, 19, 20, 21, 22, 23, 24, 25, 26, 27, 28, 14] rfl
  have hD : va_D (fun q_ : Nat => s_.heap.size ≤ q_) (wW cI cZ cJ x_ y_ ou a_ b_ S1 S2 t2 f1) := hJ9.2.sub [0, 1, 2, 3, 4, 5, 6, 7, 8, 9, 10, 11, 12, 13, 15, 16, 17, 18, 19, 20, 21, 22, 23, 24, 25, 26, 27, 28, 14] (by decide) rfl
  generalize H1 = H at hP hS_ ⊢
  obtain ⟨e1_, e23_⟩ := Prod.mk.inj (hw1.symm.trans hw2)
  obtain ⟨e2_, e3_⟩ := Prod.mk.inj e23_
  subst e1_
  subst e2_
  subst e3_
  have hI0 : Inv (10 + 24 * k_) (k_maskOf S (xs (i4_ + 1).toNatClampNeg)).2.2 := cif_elim (fun z_ : KR => Inv (10 + 24 * k_) z_.2.2) (fun _ => hI_) (fun _ => hI_)
  rw [hw1] at hI0
  have hI1 : Inv (10 + 24 * (k_ + 1)) S1 := Inv.mono hI0 (by omega)
  refine lv_istore (lv' := [(6, .int v1), (5, .int r1), (0, .ref b0), (1, .ref x_), (2, .ref y_), (3, .ref ou), (4, .int i4_)]) hx hb_ dL_law_753 hl (by decide) rfl (fun ls hl => ?_)
  refine lv_aload_n hx hb_ dL_law_755 rfl (lv_at hl 4 rfl) ?_
  have hPc := hP.sub (ws' := wM cI y_ b_ S1 r1) [14, 15, 16, 17, 18, 19, 20, 21, 22, 23, 24, 25, 26, 27] rfl
  refine vp_callSi (W.runV (As := []) (rest := []) ⟨hx, hb_, hml, hown, hts⟩ (c_X1_thrown l D cI y_ b_ S1 r1  ) (cwV 0 hts gL_law_X1_thrown rfl rfl rfl (by decide +kernel) ⟨Nat.le_of_ble_eq_true rfl, Nat.le_of_ble_eq_true rfl⟩) (pR_V (ci := 1) hPc (hK_.sub (tys' := tyM cI) [0] rfl) rfl rfl) rfl rfl hl.1 rfl (lv_room (Nat.le_of_ble_eq_true rfl)) dL_law_756 ⟨by show _ ≤ 1073; omega, by show _ ≤ 8742; omega⟩) (fun r3 h3 => ?_)
  subst h3
  refine lv_iload hx hb_ dL_law_759 (lv_at hl 1 rfl) ?_
  refine lv_icmp_eq (tgt := 766) hx hb_ dL_law_761 (by decide) (fun c_761 => ?_) (fun c_761 => absurd rfl c_761)
  refine lv_iload hx hb_ dL_law_766 (lv_at hl 1 rfl) ?_
  refine lv_if_ne (tgt := 783) hx hb_ dL_law_768 (by decide) (fun c0 => ?_) (fun c0 => ?_)
  · skip
    refine lv_goto (tgt := 1161) hx hb_ dL_law_783 (by decide) ?_
    refine W.widen (k := 29 + k_ + 1) (n := 430 + 6 * k_ + 6) (by omega) (by omega) ?_
    exact kont S1 r1 f1 hI1 _ _ hP hD hS_ _ (lv_sub hl [2, 3, 4, 5, 6] rfl)
  · skip
    refine lv_aload_n hx hb_ dL_law_771 rfl (lv_at hl 5 rfl) ?_
    refine lv_iconst (v := 0) hx hb_ dL_law_772 (by decide) ?_
    refine va_lald (f := f1) (n := 1) hx hb_ hK_ hP 28 2 rfl rfl vin01 dL_law_773 ?_
    refine lv_iload hx hb_ dL_law_774 (lv_at hl 0 rfl) ?_
    refine lv_i2l (v := v1.toInt64) hx hb_ dL_law_776 rfl ?_
    refine W.lcmp hx hb_ dL_law_777 ?_
    refine lv_if_eq (tgt := 783) hx hb_ dL_law_778 (by decide) (fun _ => ?_) (fun z_ => absurd ((lg_cmp_eq _ _).mpr (ho c0)) z_)
    refine lv_goto (tgt := 1161) hx hb_ dL_law_783 (by decide) ?_
    refine W.widen (k := 29 + k_ + 1) (n := 430 + 6 * k_ + 6) (by omega) (by omega) ?_
    exact kont S1 r1 f1 hI1 _ _ hP hD hS_ _ (lv_sub hl [2, 3, 4, 5, 6] rfl)
set_option maxHeartbeats 4000000 in
set_option maxRecDepth 100000 in
theorem law_case_13 {p_ : Program} {l : Launch} {e : Env} {s_ : State} {m_ : MethodId} {below : List Frame} {meth : Method} {c_ : Code} {D : va_G} {cI cZ cJ : ClassId} {b0 L : Nat} {xs : Nat → Int32} {x_ y_ ou : Nat} {a_ b_ : Nat → Nat} (hL : L ≤ 2560) (hfl : l.stackTraces = false) (C0_ : lw_At p_ s_ m_ meth c_ b0 L xs) (hG : xG (fun q_ => s_.heap.size ≤ q_) s_ s_.heap) (hN_ : xN s_) (hK_ : va_K D vwCl (tyL cI cZ cJ) s_) {k_ : Nat} {i4_ : Int32} (hk : 5 * k_ + 5 ≤ L) (e4_ : i4_ = nI (5 * k_)) {S : ST} {t_ : Int32} {fo : Nat → Int64} (hI_ : Inv (10 + 24 * k_) S) {H : Heap} {locs : List Loc} (hP : va_P D vwCl (wW cI cZ cJ x_ y_ ou a_ b_ S S t_ fo) H) (hD : va_D (fun q_ : Nat => s_.heap.size ≤ q_) (wW cI cZ cJ x_ y_ ou a_ b_ S S t_ fo)) (hS_ : va_S (fun q_ : Nat => s_.heap.size ≤ q_) s_.heap H locs) {ls : Array Slot} (hl : lv_has ls 7 [(0, .ref b0), (1, .ref x_), (2, .ref y_), (3, .ref ou), (4, .int i4_)]) (kont : ∀ (S' : ST) (t' : Int32) (f' : Nat → Int64), Inv (10 + 24 * (k_ + 1)) S' → ∀ (H : Heap) (locs : List Loc), va_P D vwCl (wW cI cZ cJ x_ y_ ou a_ b_ S' S' t' f') H → va_D (fun q_ : Nat => s_.heap.size ≤ q_) (wW cI cZ cJ x_ y_ ou a_ b_ S' S' t' f') → va_S (fun q_ : Nat => s_.heap.size ≤ q_) s_.heap H locs → ∀ ls : Array Slot, lv_has ls 7 [(0, .ref b0), (1, .ref x_), (2, .ref y_), (3, .ref ou), (4, .int i4_)] → W p_ l e room_1 s_ m_ #[Value.ref b0] below meth c_ H locs (29 + k_ + 1) (430 + 6 * k_ + 6) (lw_Z below #[Value.ref b0] s_) (F0 m_ 1161 ls [])) : W p_ l e room_1 s_ m_ #[Value.ref b0] below meth c_ H locs (29 + k_) (430 + 6 * k_) (lw_Z below #[Value.ref b0] s_) (F0 m_ 786 ls []) := by
  obtain ⟨hx, hb_, hr, hml, hown, hts, hX, hbl, hlocks, hgv⟩ := C0_
  have hts := fun w_ h_ => hts w_ (wsL_law_in w_ h_)
  have hown : s_.vm.findClass RL = some m_.cls := hown
  have hA : ∀ q_ : Nat, s_.heap.size ≤ q_ → (fun q_ : Nat => s_.heap.size ≤ q_) q_ := fun _ h_ => h_
  have hbA : ¬ (fun q_ : Nat => s_.heap.size ≤ q_) b0 := Nat.not_le.mpr hbl
  refine lv_aload_n hx hb_ dL_law_786 rfl (lv_at hl 1 rfl) ?_
  refine lv_aload_n hx hb_ dL_law_787 rfl (lv_at hl 0 rfl) ?_
  refine lv_iload hx hb_ dL_law_788 (lv_at hl 4 rfl) ?_
  refine lv_iconst (v := 1) hx hb_ dL_law_790 (by decide) ?_
  refine lv_iadd hx hb_ dL_law_791 ?_
  refine va_sld hx hb_ hX hbl hbA hS_ (sidx (j := 1) e4_ hk hL (by decide)) dL_law_792 ?_
  refine lv_aload_n hx hb_ dL_law_793 rfl (lv_at hl 3 rfl) ?_
  have hPc := hP.sub (ws' := wX cI cZ x_ a_ S ++ [wO cJ ou fo]) [0, 1, 2, 3, 4, 5, 6, 7, 8, 9, 10, 11, 12, 13, 28] rfl
  have hDc := hD.sub (ws' := wX cI cZ x_ a_ S ++ [wO cJ ou fo]) [0, 1, 2, 3, 4, 5, 6, 7, 8, 9, 10, 11, 12, 13, 28] (by decide) rfl
  have hFc := va_free (wc := wX cI cZ x_ a_ S ++ [wO cJ ou fo]) hD hS_ hA [0, 1, 2, 3, 4, 5, 6, 7, 8, 9, 10, 11, 12, 13, 28] rfl
  have hGH : xG (fun q_ => s_.heap.size ≤ q_) s_ H := hG.kept (fun q_ h1 h2 => hS_.2.1 q_ h1 h2)
  refine va_calli (vx_runSW (As := [.ref x_, .int (xs (i4_ + 1).toNatClampNeg), .ref ou]) (rest := []) ⟨hx, hb_, hml, hown, hts⟩ (c_L_maskByCues l hfl D cI cZ cJ x_ ou a_ S fo H.size (xs (i4_ + 1).toNatClampNeg) (10 + 24 * k_) hI_) (vx_cwSW 3 hts gL_law_L_maskByCues rfl rfl rfl (by decide +kernel) ⟨Nat.le_of_ble_eq_true rfl, Nat.le_of_ble_eq_true rfl⟩) (pL_S (pW_S hPc hK_ hDc) hGH (fun _ h_ => Nat.le_trans hS_.1 h_) hN_) rfl rfl hl.1 rfl (lv_room (Nat.le_of_ble_eq_true rfl)) dL_law_794 ⟨by show _ ≤ 1073; omega, by show _ ≤ 8742; omega⟩) hS_ (fun q_ _ h_ => hFc q_ h_) hFc (fun r1 u1 t9 H1 locs ht9 hvm9 hw hB9 hz9 hk9 hS_ => ?_)
  obtain ⟨S1, f1⟩ := u1
  obtain ⟨v1, hw1, ho⟩ := hw
  have hJ9 := va_join (wr := wM cI y_ b_ S t_) hP hD [0, 1, 2, 3, 4, 5, 6, 7, 8, 9, 10, 11, 12, 13, 28] [14, 15, 16, 17, 18, 19, 20, 21, 22, 23, 24, 25, 26, 27] rfl rfl (by decide) (by decide) hk9 hFc (atW_P hB9 ht9) hB9.2
  have hP : va_P D vwCl (wW cI cZ cJ x_ y_ ou a_ b_ S1 S t_ f1) H1 := hJ9.1.sub [14, 15, 16, 17, 18, 19, 20, 21, 22, 23, 24, 25, 26, 27, 0, 1, 2, 3, 4, 5, 6, 7, 8, 9, 10, 11, 12, 13, 28] rfl
  have hD : va_D (fun q_ : Nat => s_.heap.size ≤ q_) (wW cI cZ cJ x_ y_ ou a_ b_ S1 S t_ f1) := hJ9.2.sub [14, 15, 16, 17, 18, 19, 20, 21, 22, 23, 24, 25, 26, 27, 0, 1, 2, 3, 4, 5, 6, 7, 8, 9, 10, 11, 12, 13, 28] (by decide) rfl
  generalize H1 = H at hP hS_ ⊢
  refine lv_istore (lv' := [(5, .int r1), (0, .ref b0), (1, .ref x_), (2, .ref y_), (3, .ref ou), (4, .int i4_)]) hx hb_ dL_law_797 hl (by decide) rfl (fun ls hl => ?_)
  refine lv_aload_n hx hb_ dL_law_799 rfl (lv_at hl 3 rfl) ?_
  refine lv_aload_n hx hb_ dL_law_800 rfl (lv_at hl 1 rfl) ?_
  refine lv_iload hx hb_ dL_law_801 (lv_at hl 5 rfl) ?_
  refine lv_iconst (v := 1) hx hb_ dL_law_803 (by decide) ?_
  refine lv_iadd hx hb_ dL_law_804 ?_
  refine va_sld hx hb_ hX hbl hbA hS_ (sidx (j := 1) e4_ hk hL (by decide)) dL_law_805 ?_
  have hPc := hP.sub (ws' := wM cI y_ b_ S t_) [14, 15, 16, 17, 18, 19, 20, 21, 22, 23, 24, 25, 26, 27] rfl
  have hDc := hD.sub (ws' := wM cI y_ b_ S t_) [14, 15, 16, 17, 18, 19, 20, 21, 22, 23, 24, 25, 26, 27] (by decide) rfl
  have hFc := va_free (wc := wM cI y_ b_ S t_) hD hS_ hA [14, 15, 16, 17, 18, 19, 20, 21, 22, 23, 24, 25, 26, 27] rfl
  refine va_calli (va_runV (As := [.int (xs (i4_ + 1).toNatClampNeg)]) (rest := []) ⟨hx, hb_, hml, hown, hts⟩ (c_X1_maskByCues l D cI y_ b_ S t_ H.size (xs (i4_ + 1).toNatClampNeg) (10 + 24 * k_) hI_) (cwV 1 hts gL_law_X1_maskByCues rfl rfl rfl (by decide +kernel) ⟨Nat.le_of_ble_eq_true rfl, Nat.le_of_ble_eq_true rfl⟩) (pW_V (ci := 1) hPc (hK_.sub (tys' := tyM cI) [0] rfl) hDc rfl rfl) rfl rfl hl.1 rfl (lv_room (Nat.le_of_ble_eq_true rfl)) dL_law_806 ⟨by show _ ≤ 1073; omega, by show _ ≤ 8742; omega⟩) hS_ (fun q_ _ h_ => hFc q_ h_) hFc (fun r2 u2 t9 H1 locs ht9 hvm9 hw2 hB9 hz9 hk9 hS_ => ?_)
  obtain ⟨S2, t2⟩ := u2
  have hJ9 := va_join (wr := wX cI cZ x_ a_ S1 ++ [wO cJ ou f1]) hP hD [14, 15, 16, 17, 18, 19, 20, 21, 22, 23, 24, 25, 26, 27] [0, 1, 2, 3, 4, 5, 6, 7, 8, 9, 10, 11, 12, 13, 28] rfl rfl (by decide) (by decide) hk9 hFc (atW_P hB9 ht9) hB9.2
  have hP : va_P D vwCl (wW cI cZ cJ x_ y_ ou a_ b_ S1 S2 t2 f1) H1 := hJ9.1.sub [0, 1, 2, 3, 4, 5, 6, 7, 8, 9, 10, 11, 12, 13, 15, 16, 17, 18, 19, 20, 21, 22, 23, 24, 25, 26, 27, 28, 14] rfl
  have hD : va_D (fun q_ : Nat => s_.heap.size ≤ q_) (wW cI cZ cJ x_ y_ ou a_ b_ S1 S2 t2 f1) := hJ9.2.sub [0, 1, 2, 3, 4, 5, 6, 7, 8, 9, 10, 11, 12, 13, 15, 16, 17, 18, 19, 20, 21, 22, 23, 24, 25, 26, 27, 28, 14] (by decide) rfl
  generalize H1 = H at hP hS_ ⊢
  obtain ⟨e1_, e23_⟩ := Prod.mk.inj (hw1.symm.trans hw2)
  obtain ⟨e2_, e3_⟩ := Prod.mk.inj e23_
  subst e1_
  subst e2_
  subst e3_
  have hI0 : Inv (10 + 24 * k_) (k_maskByCues S (xs (i4_ + 1).toNatClampNeg)).2.2 := keep_maskByCues hI_ (xs (i4_ + 1).toNatClampNeg)
  rw [hw1] at hI0
  have hI1 : Inv (10 + 24 * (k_ + 1)) S1 := Inv.mono hI0 (by omega)
  refine lv_istore (lv' := [(6, .int v1), (5, .int r1), (0, .ref b0), (1, .ref x_), (2, .ref y_), (3, .ref ou), (4, .int i4_)]) hx hb_ dL_law_809 hl (by decide) rfl (fun ls hl => ?_)
  refine lv_aload_n hx hb_ dL_law_811 rfl (lv_at hl 4 rfl) ?_
  have hPc := hP.sub (ws' := wM cI y_ b_ S1 r1) [14, 15, 16, 17, 18, 19, 20, 21, 22, 23, 24, 25, 26, 27] rfl
  refine vp_callSi (W.runV (As := []) (rest := []) ⟨hx, hb_, hml, hown, hts⟩ (c_X1_thrown l D cI y_ b_ S1 r1  ) (cwV 0 hts gL_law_X1_thrown rfl rfl rfl (by decide +kernel) ⟨Nat.le_of_ble_eq_true rfl, Nat.le_of_ble_eq_true rfl⟩) (pR_V (ci := 1) hPc (hK_.sub (tys' := tyM cI) [0] rfl) rfl rfl) rfl rfl hl.1 rfl (lv_room (Nat.le_of_ble_eq_true rfl)) dL_law_812 ⟨by show _ ≤ 1073; omega, by show _ ≤ 8742; omega⟩) (fun r3 h3 => ?_)
  subst h3
  refine lv_iload hx hb_ dL_law_815 (lv_at hl 1 rfl) ?_
  refine lv_icmp_eq (tgt := 822) hx hb_ dL_law_817 (by decide) (fun c_817 => ?_) (fun c_817 => absurd rfl c_817)
  refine lv_iload hx hb_ dL_law_822 (lv_at hl 1 rfl) ?_
  refine lv_if_ne (tgt := 839) hx hb_ dL_law_824 (by decide) (fun c0 => ?_) (fun c0 => ?_)
  · skip
    refine lv_goto (tgt := 1161) hx hb_ dL_law_839 (by decide) ?_
    refine W.widen (k := 29 + k_ + 1) (n := 430 + 6 * k_ + 6) (by omega) (by omega) ?_
    exact kont S1 r1 f1 hI1 _ _ hP hD hS_ _ (lv_sub hl [2, 3, 4, 5, 6] rfl)
  · skip
    refine lv_aload_n hx hb_ dL_law_827 rfl (lv_at hl 5 rfl) ?_
    refine lv_iconst (v := 0) hx hb_ dL_law_828 (by decide) ?_
    refine va_lald (f := f1) (n := 1) hx hb_ hK_ hP 28 2 rfl rfl vin01 dL_law_829 ?_
    refine lv_iload hx hb_ dL_law_830 (lv_at hl 0 rfl) ?_
    refine lv_i2l (v := v1.toInt64) hx hb_ dL_law_832 rfl ?_
    refine W.lcmp hx hb_ dL_law_833 ?_
    refine lv_if_eq (tgt := 839) hx hb_ dL_law_834 (by decide) (fun _ => ?_) (fun z_ => absurd ((lg_cmp_eq _ _).mpr (ho c0)) z_)
    refine lv_goto (tgt := 1161) hx hb_ dL_law_839 (by decide) ?_
    refine W.widen (k := 29 + k_ + 1) (n := 430 + 6 * k_ + 6) (by omega) (by omega) ?_
    exact kont S1 r1 f1 hI1 _ _ hP hD hS_ _ (lv_sub hl [2, 3, 4, 5, 6] rfl)
set_option maxHeartbeats 4000000 in
set_option maxRecDepth 100000 in
theorem law_case_14 {p_ : Program} {l : Launch} {e : Env} {s_ : State} {m_ : MethodId} {below : List Frame} {meth : Method} {c_ : Code} {D : va_G} {cI cZ cJ : ClassId} {b0 L : Nat} {xs : Nat → Int32} {x_ y_ ou : Nat} {a_ b_ : Nat → Nat} (hL : L ≤ 2560) (hfl : l.stackTraces = false) (C0_ : lw_At p_ s_ m_ meth c_ b0 L xs) (hG : xG (fun q_ => s_.heap.size ≤ q_) s_ s_.heap) (hN_ : xN s_) (hK_ : va_K D vwCl (tyL cI cZ cJ) s_) {k_ : Nat} {i4_ : Int32} (hk : 5 * k_ + 5 ≤ L) (e4_ : i4_ = nI (5 * k_)) {S : ST} {t_ : Int32} {fo : Nat → Int64} (hI_ : Inv (10 + 24 * k_) S) {H : Heap} {locs : List Loc} (hP : va_P D vwCl (wW cI cZ cJ x_ y_ ou a_ b_ S S t_ fo) H) (hD : va_D (fun q_ : Nat => s_.heap.size ≤ q_) (wW cI cZ cJ x_ y_ ou a_ b_ S S t_ fo)) (hS_ : va_S (fun q_ : Nat => s_.heap.size ≤ q_) s_.heap H locs) {ls : Array Slot} (hl : lv_has ls 7 [(0, .ref b0), (1, .ref x_), (2, .ref y_), (3, .ref ou), (4, .int i4_)]) (kont : ∀ (S' : ST) (t' : Int32) (f' : Nat → Int64), Inv (10 + 24 * (k_ + 1)) S' → ∀ (H : Heap) (locs : List Loc), va_P D vwCl (wW cI cZ cJ x_ y_ ou a_ b_ S' S' t' f') H → va_D (fun q_ : Nat => s_.heap.size ≤ q_) (wW cI cZ cJ x_ y_ ou a_ b_ S' S' t' f') → va_S (fun q_ : Nat => s_.heap.size ≤ q_) s_.heap H locs → ∀ ls : Array Slot, lv_has ls 7 [(0, .ref b0), (1, .ref x_), (2, .ref y_), (3, .ref ou), (4, .int i4_)] → W p_ l e room_1 s_ m_ #[Value.ref b0] below meth c_ H locs (29 + k_ + 1) (430 + 6 * k_ + 6) (lw_Z below #[Value.ref b0] s_) (F0 m_ 1161 ls [])) : W p_ l e room_1 s_ m_ #[Value.ref b0] below meth c_ H locs (29 + k_) (430 + 6 * k_) (lw_Z below #[Value.ref b0] s_) (F0 m_ 842 ls []) := by
  obtain ⟨hx, hb_, hr, hml, hown, hts, hX, hbl, hlocks, hgv⟩ := C0_
  have hts := fun w_ h_ => hts w_ (wsL_law_in w_ h_)
  have hown : s_.vm.findClass RL = some m_.cls := hown
  have hA : ∀ q_ : Nat, s_.heap.size ≤ q_ → (fun q_ : Nat => s_.heap.size ≤ q_) q_ := fun _ h_ => h_
  have hbA : ¬ (fun q_ : Nat => s_.heap.size ≤ q_) b0 := Nat.not_le.mpr hbl
  refine lv_aload_n hx hb_ dL_law_842 rfl (lv_at hl 1 rfl) ?_
  refine lv_aload_n hx hb_ dL_law_843 rfl (lv_at hl 0 rfl) ?_
  refine lv_iload hx hb_ dL_law_844 (lv_at hl 4 rfl) ?_
  refine lv_iconst (v := 1) hx hb_ dL_law_846 (by decide) ?_
  refine lv_iadd hx hb_ dL_law_847 ?_
  refine va_sld hx hb_ hX hbl hbA hS_ (sidx (j := 1) e4_ hk hL (by decide)) dL_law_848 ?_
  refine lv_aload_n hx hb_ dL_law_849 rfl (lv_at hl 3 rfl) ?_
  have hPc := hP.sub (ws' := wX cI cZ x_ a_ S ++ [wO cJ ou fo]) [0, 1, 2, 3, 4, 5, 6, 7, 8, 9, 10, 11, 12, 13, 28] rfl
  have hDc := hD.sub (ws' := wX cI cZ x_ a_ S ++ [wO cJ ou fo]) [0, 1, 2, 3, 4, 5, 6, 7, 8, 9, 10, 11, 12, 13, 28] (by decide) rfl
  have hFc := va_free (wc := wX cI cZ x_ a_ S ++ [wO cJ ou fo]) hD hS_ hA [0, 1, 2, 3, 4, 5, 6, 7, 8, 9, 10, 11, 12, 13, 28] rfl
  have hGH : xG (fun q_ => s_.heap.size ≤ q_) s_ H := hG.kept (fun q_ h1 h2 => hS_.2.1 q_ h1 h2)
  refine va_calli (vx_runSW (As := [.ref x_, .int (xs (i4_ + 1).toNatClampNeg), .ref ou]) (rest := []) ⟨hx, hb_, hml, hown, hts⟩ (c_L_wearerOf l hfl D cI cZ cJ x_ ou a_ S fo H.size (xs (i4_ + 1).toNatClampNeg) ) (vx_cwSW 3 hts gL_law_L_wearerOf rfl rfl rfl (by decide +kernel) ⟨Nat.le_of_ble_eq_true rfl, Nat.le_of_ble_eq_true rfl⟩) (pL_S (pW_S hPc hK_ hDc) hGH (fun _ h_ => Nat.le_trans hS_.1 h_) hN_) rfl rfl hl.1 rfl (lv_room (Nat.le_of_ble_eq_true rfl)) dL_law_850 ⟨by show _ ≤ 1073; omega, by show _ ≤ 8742; omega⟩) hS_ (fun q_ _ h_ => hFc q_ h_) hFc (fun r1 u1 t9 H1 locs ht9 hvm9 hw hB9 hz9 hk9 hS_ => ?_)
  obtain ⟨S1, f1⟩ := u1
  obtain ⟨v1, hw1, ho⟩ := hw
  have hJ9 := va_join (wr := wM cI y_ b_ S t_) hP hD [0, 1, 2, 3, 4, 5, 6, 7, 8, 9, 10, 11, 12, 13, 28] [14, 15, 16, 17, 18, 19, 20, 21, 22, 23, 24, 25, 26, 27] rfl rfl (by decide) (by decide) hk9 hFc (atW_P hB9 ht9) hB9.2
  have hP : va_P D vwCl (wW cI cZ cJ x_ y_ ou a_ b_ S1 S t_ f1) H1 := hJ9.1.sub [14, 15, 16, 17, 18, 19, 20, 21, 22, 23, 24, 25, 26, 27, 0, 1, 2, 3, 4, 5, 6, 7, 8, 9, 10, 11, 12, 13, 28] rfl
  have hD : va_D (fun q_ : Nat => s_.heap.size ≤ q_) (wW cI cZ cJ x_ y_ ou a_ b_ S1 S t_ f1) := hJ9.2.sub [14, 15, 16, 17, 18, 19, 20, 21, 22, 23, 24, 25, 26, 27, 0, 1, 2, 3, 4, 5, 6, 7, 8, 9, 10, 11, 12, 13, 28] (by decide) rfl
  generalize H1 = H at hP hS_ ⊢
  refine lv_istore (lv' := [(5, .int r1), (0, .ref b0), (1, .ref x_), (2, .ref y_), (3, .ref ou), (4, .int i4_)]) hx hb_ dL_law_853 hl (by decide) rfl (fun ls hl => ?_)
  refine lv_aload_n hx hb_ dL_law_855 rfl (lv_at hl 3 rfl) ?_
  refine lv_aload_n hx hb_ dL_law_856 rfl (lv_at hl 1 rfl) ?_
  refine lv_iload hx hb_ dL_law_857 (lv_at hl 5 rfl) ?_
  refine lv_iconst (v := 1) hx hb_ dL_law_859 (by decide) ?_
  refine lv_iadd hx hb_ dL_law_860 ?_
  refine va_sld hx hb_ hX hbl hbA hS_ (sidx (j := 1) e4_ hk hL (by decide)) dL_law_861 ?_
  have hPc := hP.sub (ws' := wM cI y_ b_ S t_) [14, 15, 16, 17, 18, 19, 20, 21, 22, 23, 24, 25, 26, 27] rfl
  have hDc := hD.sub (ws' := wM cI y_ b_ S t_) [14, 15, 16, 17, 18, 19, 20, 21, 22, 23, 24, 25, 26, 27] (by decide) rfl
  have hFc := va_free (wc := wM cI y_ b_ S t_) hD hS_ hA [14, 15, 16, 17, 18, 19, 20, 21, 22, 23, 24, 25, 26, 27] rfl
  refine va_calli (va_runV (As := [.int (xs (i4_ + 1).toNatClampNeg)]) (rest := []) ⟨hx, hb_, hml, hown, hts⟩ (c_X1_wearerOf l D cI y_ b_ S t_ H.size (xs (i4_ + 1).toNatClampNeg) (10 + 24 * k_) hI_) (cwV 1 hts gL_law_X1_wearerOf rfl rfl rfl (by decide +kernel) ⟨Nat.le_of_ble_eq_true rfl, Nat.le_of_ble_eq_true rfl⟩) (pW_V (ci := 1) hPc (hK_.sub (tys' := tyM cI) [0] rfl) hDc rfl rfl) rfl rfl hl.1 rfl (lv_room (Nat.le_of_ble_eq_true rfl)) dL_law_862 ⟨by show _ ≤ 1073; omega, by show _ ≤ 8742; omega⟩) hS_ (fun q_ _ h_ => hFc q_ h_) hFc (fun r2 u2 t9 H1 locs ht9 hvm9 hw2 hB9 hz9 hk9 hS_ => ?_)
  obtain ⟨S2, t2⟩ := u2
  have hJ9 := va_join (wr := wX cI cZ x_ a_ S1 ++ [wO cJ ou f1]) hP hD [14, 15, 16, 17, 18, 19, 20, 21, 22, 23, 24, 25, 26, 27] [0, 1, 2, 3, 4, 5, 6, 7, 8, 9, 10, 11, 12, 13, 28] rfl rfl (by decide) (by decide) hk9 hFc (atW_P hB9 ht9) hB9.2
  have hP : va_P D vwCl (wW cI cZ cJ x_ y_ ou a_ b_ S1 S2 t2 f1) H1 := hJ9.1.sub [0, 1, 2, 3, 4, 5, 6, 7, 8, 9, 10, 11, 12, 13, 15, 16, 17, 18, 19, 20, 21, 22, 23, 24, 25, 26, 27, 28, 14] rfl
  have hD : va_D (fun q_ : Nat => s_.heap.size ≤ q_) (wW cI cZ cJ x_ y_ ou a_ b_ S1 S2 t2 f1) := hJ9.2.sub [0, 1, 2, 3, 4, 5, 6, 7, 8, 9, 10, 11, 12, 13, 15, 16, 17, 18, 19, 20, 21, 22, 23, 24, 25, 26, 27, 28, 14] (by decide) rfl
  generalize H1 = H at hP hS_ ⊢
  obtain ⟨e1_, e23_⟩ := Prod.mk.inj (hw1.symm.trans hw2)
  obtain ⟨e2_, e3_⟩ := Prod.mk.inj e23_
  subst e1_
  subst e2_
  subst e3_
  have hI0 : Inv (10 + 24 * k_) (k_wearerOf S (xs (i4_ + 1).toNatClampNeg)).2.2 := cif_elim (fun z_ : KR => Inv (10 + 24 * k_) z_.2.2) (fun _ => hI_) (fun _ => hI_)
  rw [hw1] at hI0
  have hI1 : Inv (10 + 24 * (k_ + 1)) S1 := Inv.mono hI0 (by omega)
  refine lv_istore (lv' := [(6, .int v1), (5, .int r1), (0, .ref b0), (1, .ref x_), (2, .ref y_), (3, .ref ou), (4, .int i4_)]) hx hb_ dL_law_865 hl (by decide) rfl (fun ls hl => ?_)
  refine lv_aload_n hx hb_ dL_law_867 rfl (lv_at hl 4 rfl) ?_
  have hPc := hP.sub (ws' := wM cI y_ b_ S1 r1) [14, 15, 16, 17, 18, 19, 20, 21, 22, 23, 24, 25, 26, 27] rfl
  refine vp_callSi (W.runV (As := []) (rest := []) ⟨hx, hb_, hml, hown, hts⟩ (c_X1_thrown l D cI y_ b_ S1 r1  ) (cwV 0 hts gL_law_X1_thrown rfl rfl rfl (by decide +kernel) ⟨Nat.le_of_ble_eq_true rfl, Nat.le_of_ble_eq_true rfl⟩) (pR_V (ci := 1) hPc (hK_.sub (tys' := tyM cI) [0] rfl) rfl rfl) rfl rfl hl.1 rfl (lv_room (Nat.le_of_ble_eq_true rfl)) dL_law_868 ⟨by show _ ≤ 1073; omega, by show _ ≤ 8742; omega⟩) (fun r3 h3 => ?_)
  subst h3
  refine lv_iload hx hb_ dL_law_871 (lv_at hl 1 rfl) ?_
  refine lv_icmp_eq (tgt := 878) hx hb_ dL_law_873 (by decide) (fun c_873 => ?_) (fun c_873 => absurd rfl c_873)
  refine lv_iload hx hb_ dL_law_878 (lv_at hl 1 rfl) ?_
  refine lv_if_ne (tgt := 895) hx hb_ dL_law_880 (by decide) (fun c0 => ?_) (fun c0 => ?_)
  · skip
    refine lv_goto (tgt := 1161) hx hb_ dL_law_895 (by decide) ?_
    refine W.widen (k := 29 + k_ + 1) (n := 430 + 6 * k_ + 6) (by omega) (by omega) ?_
    exact kont S1 r1 f1 hI1 _ _ hP hD hS_ _ (lv_sub hl [2, 3, 4, 5, 6] rfl)
  · skip
    refine lv_aload_n hx hb_ dL_law_883 rfl (lv_at hl 5 rfl) ?_
    refine lv_iconst (v := 0) hx hb_ dL_law_884 (by decide) ?_
    refine va_lald (f := f1) (n := 1) hx hb_ hK_ hP 28 2 rfl rfl vin01 dL_law_885 ?_
    refine lv_iload hx hb_ dL_law_886 (lv_at hl 0 rfl) ?_
    refine lv_i2l (v := v1.toInt64) hx hb_ dL_law_888 rfl ?_
    refine W.lcmp hx hb_ dL_law_889 ?_
    refine lv_if_eq (tgt := 895) hx hb_ dL_law_890 (by decide) (fun _ => ?_) (fun z_ => absurd ((lg_cmp_eq _ _).mpr (ho c0)) z_)
    refine lv_goto (tgt := 1161) hx hb_ dL_law_895 (by decide) ?_
    refine W.widen (k := 29 + k_ + 1) (n := 430 + 6 * k_ + 6) (by omega) (by omega) ?_
    exact kont S1 r1 f1 hI1 _ _ hP hD hS_ _ (lv_sub hl [2, 3, 4, 5, 6] rfl)
set_option maxHeartbeats 4000000 in
set_option maxRecDepth 100000 in
theorem law_case_15 {p_ : Program} {l : Launch} {e : Env} {s_ : State} {m_ : MethodId} {below : List Frame} {meth : Method} {c_ : Code} {D : va_G} {cI cZ cJ : ClassId} {b0 L : Nat} {xs : Nat → Int32} {x_ y_ ou : Nat} {a_ b_ : Nat → Nat} (hL : L ≤ 2560) (hfl : l.stackTraces = false) (C0_ : lw_At p_ s_ m_ meth c_ b0 L xs) (hG : xG (fun q_ => s_.heap.size ≤ q_) s_ s_.heap) (hN_ : xN s_) (hK_ : va_K D vwCl (tyL cI cZ cJ) s_) {k_ : Nat} {i4_ : Int32} (hk : 5 * k_ + 5 ≤ L) (e4_ : i4_ = nI (5 * k_)) {S : ST} {t_ : Int32} {fo : Nat → Int64} (hI_ : Inv (10 + 24 * k_) S) {H : Heap} {locs : List Loc} (hP : va_P D vwCl (wW cI cZ cJ x_ y_ ou a_ b_ S S t_ fo) H) (hD : va_D (fun q_ : Nat => s_.heap.size ≤ q_) (wW cI cZ cJ x_ y_ ou a_ b_ S S t_ fo)) (hS_ : va_S (fun q_ : Nat => s_.heap.size ≤ q_) s_.heap H locs) {ls : Array Slot} (hl : lv_has ls 7 [(0, .ref b0), (1, .ref x_), (2, .ref y_), (3, .ref ou), (4, .int i4_)]) (kont : ∀ (S' : ST) (t' : Int32) (f' : Nat → Int64), Inv (10 + 24 * (k_ + 1)) S' → ∀ (H : Heap) (locs : List Loc), va_P D vwCl (wW cI cZ cJ x_ y_ ou a_ b_ S' S' t' f') H → va_D (fun q_ : Nat => s_.heap.size ≤ q_) (wW cI cZ cJ x_ y_ ou a_ b_ S' S' t' f') → va_S (fun q_ : Nat => s_.heap.size ≤ q_) s_.heap H locs → ∀ ls : Array Slot, lv_has ls 7 [(0, .ref b0), (1, .ref x_), (2, .ref y_), (3, .ref ou), (4, .int i4_)] → W p_ l e room_1 s_ m_ #[Value.ref b0] below meth c_ H locs (29 + k_ + 1) (430 + 6 * k_ + 6) (lw_Z below #[Value.ref b0] s_) (F0 m_ 1161 ls [])) : W p_ l e room_1 s_ m_ #[Value.ref b0] below meth c_ H locs (29 + k_) (430 + 6 * k_) (lw_Z below #[Value.ref b0] s_) (F0 m_ 898 ls []) := by
  obtain ⟨hx, hb_, hr, hml, hown, hts, hX, hbl, hlocks, hgv⟩ := C0_
  have hts := fun w_ h_ => hts w_ (wsL_law_in w_ h_)
  have hown : s_.vm.findClass RL = some m_.cls := hown
  have hA : ∀ q_ : Nat, s_.heap.size ≤ q_ → (fun q_ : Nat => s_.heap.size ≤ q_) q_ := fun _ h_ => h_
  have hbA : ¬ (fun q_ : Nat => s_.heap.size ≤ q_) b0 := Nat.not_le.mpr hbl
  refine lv_aload_n hx hb_ dL_law_898 rfl (lv_at hl 1 rfl) ?_
  refine lv_aload_n hx hb_ dL_law_899 rfl (lv_at hl 0 rfl) ?_
  refine lv_iload hx hb_ dL_law_900 (lv_at hl 4 rfl) ?_
  refine lv_iconst (v := 1) hx hb_ dL_law_902 (by decide) ?_
  refine lv_iadd hx hb_ dL_law_903 ?_
  refine va_sld hx hb_ hX hbl hbA hS_ (sidx (j := 1) e4_ hk hL (by decide)) dL_law_904 ?_
  refine lv_aload_n hx hb_ dL_law_905 rfl (lv_at hl 3 rfl) ?_
  have hPc := hP.sub (ws' := wX cI cZ x_ a_ S ++ [wO cJ ou fo]) [0, 1, 2, 3, 4, 5, 6, 7, 8, 9, 10, 11, 12, 13, 28] rfl
  have hDc := hD.sub (ws' := wX cI cZ x_ a_ S ++ [wO cJ ou fo]) [0, 1, 2, 3, 4, 5, 6, 7, 8, 9, 10, 11, 12, 13, 28] (by decide) rfl
  have hFc := va_free (wc := wX cI cZ x_ a_ S ++ [wO cJ ou fo]) hD hS_ hA [0, 1, 2, 3, 4, 5, 6, 7, 8, 9, 10, 11, 12, 13, 28] rfl
  have hGH : xG (fun q_ => s_.heap.size ≤ q_) s_ H := hG.kept (fun q_ h1 h2 => hS_.2.1 q_ h1 h2)
  refine va_calli (vx_runSW (As := [.ref x_, .int (xs (i4_ + 1).toNatClampNeg), .ref ou]) (rest := []) ⟨hx, hb_, hml, hown, hts⟩ (c_L_isOn l hfl D cI cZ cJ x_ ou a_ S fo H.size (xs (i4_ + 1).toNatClampNeg) (10 + 24 * k_) hI_) (vx_cwSW 3 hts gL_law_L_isOn rfl rfl rfl (by decide +kernel) ⟨Nat.le_of_ble_eq_true rfl, Nat.le_of_ble_eq_true rfl⟩) (pL_S (pW_S hPc hK_ hDc) hGH (fun _ h_ => Nat.le_trans hS_.1 h_) hN_) rfl rfl hl.1 rfl (lv_room (Nat.le_of_ble_eq_true rfl)) dL_law_906 ⟨by show _ ≤ 1073; omega, by show _ ≤ 8742; omega⟩) hS_ (fun q_ _ h_ => hFc q_ h_) hFc (fun r1 u1 t9 H1 locs ht9 hvm9 hw hB9 hz9 hk9 hS_ => ?_)
  obtain ⟨S1, f1⟩ := u1
  obtain ⟨v1, hw1, ho⟩ := hw
  have hJ9 := va_join (wr := wM cI y_ b_ S t_) hP hD [0, 1, 2, 3, 4, 5, 6, 7, 8, 9, 10, 11, 12, 13, 28] [14, 15, 16, 17, 18, 19, 20, 21, 22, 23, 24, 25, 26, 27] rfl rfl (by decide) (by decide) hk9 hFc (atW_P hB9 ht9) hB9.2
  have hP : va_P D vwCl (wW cI cZ cJ x_ y_ ou a_ b_ S1 S t_ f1) H1 := hJ9.1.sub [14, 15, 16, 17, 18, 19, 20, 21, 22, 23, 24, 25, 26, 27, 0, 1, 2, 3, 4, 5, 6, 7, 8, 9, 10, 11, 12, 13, 28] rfl
  have hD : va_D (fun q_ : Nat => s_.heap.size ≤ q_) (wW cI cZ cJ x_ y_ ou a_ b_ S1 S t_ f1) := hJ9.2.sub [14, 15, 16, 17, 18, 19, 20, 21, 22, 23, 24, 25, 26, 27, 0, 1, 2, 3, 4, 5, 6, 7, 8, 9, 10, 11, 12, 13, 28] (by decide) rfl
  generalize H1 = H at hP hS_ ⊢
  refine lv_istore (lv' := [(5, .int r1), (0, .ref b0), (1, .ref x_), (2, .ref y_), (3, .ref ou), (4, .int i4_)]) hx hb_ dL_law_909 hl (by decide) rfl (fun ls hl => ?_)
  refine lv_aload_n hx hb_ dL_law_911 rfl (lv_at hl 3 rfl) ?_
  refine lv_aload_n hx hb_ dL_law_912 rfl (lv_at hl 1 rfl) ?_
  refine lv_iload hx hb_ dL_law_913 (lv_at hl 5 rfl) ?_
  refine lv_iconst (v := 1) hx hb_ dL_law_915 (by decide) ?_
  refine lv_iadd hx hb_ dL_law_916 ?_
  refine va_sld hx hb_ hX hbl hbA hS_ (sidx (j := 1) e4_ hk hL (by decide)) dL_law_917 ?_
  have hPc := hP.sub (ws' := wM cI y_ b_ S t_) [14, 15, 16, 17, 18, 19, 20, 21, 22, 23, 24, 25, 26, 27] rfl
  have hDc := hD.sub (ws' := wM cI y_ b_ S t_) [14, 15, 16, 17, 18, 19, 20, 21, 22, 23, 24, 25, 26, 27] (by decide) rfl
  have hFc := va_free (wc := wM cI y_ b_ S t_) hD hS_ hA [14, 15, 16, 17, 18, 19, 20, 21, 22, 23, 24, 25, 26, 27] rfl
  refine va_calli (va_runV (As := [.int (xs (i4_ + 1).toNatClampNeg)]) (rest := []) ⟨hx, hb_, hml, hown, hts⟩ (c_X1_isOn l D cI y_ b_ S t_ H.size (xs (i4_ + 1).toNatClampNeg) (10 + 24 * k_) hI_) (cwV 1 hts gL_law_X1_isOn rfl rfl rfl (by decide +kernel) ⟨Nat.le_of_ble_eq_true rfl, Nat.le_of_ble_eq_true rfl⟩) (pW_V (ci := 1) hPc (hK_.sub (tys' := tyM cI) [0] rfl) hDc rfl rfl) rfl rfl hl.1 rfl (lv_room (Nat.le_of_ble_eq_true rfl)) dL_law_918 ⟨by show _ ≤ 1073; omega, by show _ ≤ 8742; omega⟩) hS_ (fun q_ _ h_ => hFc q_ h_) hFc (fun r2 u2 t9 H1 locs ht9 hvm9 hw2 hB9 hz9 hk9 hS_ => ?_)
  obtain ⟨S2, t2⟩ := u2
  have hJ9 := va_join (wr := wX cI cZ x_ a_ S1 ++ [wO cJ ou f1]) hP hD [14, 15, 16, 17, 18, 19, 20, 21, 22, 23, 24, 25, 26, 27] [0, 1, 2, 3, 4, 5, 6, 7, 8, 9, 10, 11, 12, 13, 28] rfl rfl (by decide) (by decide) hk9 hFc (atW_P hB9 ht9) hB9.2
  have hP : va_P D vwCl (wW cI cZ cJ x_ y_ ou a_ b_ S1 S2 t2 f1) H1 := hJ9.1.sub [0, 1, 2, 3, 4, 5, 6, 7, 8, 9, 10, 11, 12, 13, 15, 16, 17, 18, 19, 20, 21, 22, 23, 24, 25, 26, 27, 28, 14] rfl
  have hD : va_D (fun q_ : Nat => s_.heap.size ≤ q_) (wW cI cZ cJ x_ y_ ou a_ b_ S1 S2 t2 f1) := hJ9.2.sub [0, 1, 2, 3, 4, 5, 6, 7, 8, 9, 10, 11, 12, 13, 15, 16, 17, 18, 19, 20, 21, 22, 23, 24, 25, 26, 27, 28, 14] (by decide) rfl
  generalize H1 = H at hP hS_ ⊢
  obtain ⟨e1_, e23_⟩ := Prod.mk.inj (hw1.symm.trans hw2)
  obtain ⟨e2_, e3_⟩ := Prod.mk.inj e23_
  subst e1_
  subst e2_
  subst e3_
  have hI0 : Inv (10 + 24 * k_) (k_isOn S (xs (i4_ + 1).toNatClampNeg)).2.2 := cif_elim (fun z_ : KR => Inv (10 + 24 * k_) z_.2.2) (fun _ => hI_) (fun _ => hI_)
  rw [hw1] at hI0
  have hI1 : Inv (10 + 24 * (k_ + 1)) S1 := Inv.mono hI0 (by omega)
  refine lv_istore (lv' := [(6, .int v1), (5, .int r1), (0, .ref b0), (1, .ref x_), (2, .ref y_), (3, .ref ou), (4, .int i4_)]) hx hb_ dL_law_921 hl (by decide) rfl (fun ls hl => ?_)
  refine lv_aload_n hx hb_ dL_law_923 rfl (lv_at hl 4 rfl) ?_
  have hPc := hP.sub (ws' := wM cI y_ b_ S1 r1) [14, 15, 16, 17, 18, 19, 20, 21, 22, 23, 24, 25, 26, 27] rfl
  refine vp_callSi (W.runV (As := []) (rest := []) ⟨hx, hb_, hml, hown, hts⟩ (c_X1_thrown l D cI y_ b_ S1 r1  ) (cwV 0 hts gL_law_X1_thrown rfl rfl rfl (by decide +kernel) ⟨Nat.le_of_ble_eq_true rfl, Nat.le_of_ble_eq_true rfl⟩) (pR_V (ci := 1) hPc (hK_.sub (tys' := tyM cI) [0] rfl) rfl rfl) rfl rfl hl.1 rfl (lv_room (Nat.le_of_ble_eq_true rfl)) dL_law_924 ⟨by show _ ≤ 1073; omega, by show _ ≤ 8742; omega⟩) (fun r3 h3 => ?_)
  subst h3
  refine lv_iload hx hb_ dL_law_927 (lv_at hl 1 rfl) ?_
  refine lv_icmp_eq (tgt := 934) hx hb_ dL_law_929 (by decide) (fun c_929 => ?_) (fun c_929 => absurd rfl c_929)
  refine lv_iload hx hb_ dL_law_934 (lv_at hl 1 rfl) ?_
  refine lv_if_ne (tgt := 958) hx hb_ dL_law_936 (by decide) (fun c0 => ?_) (fun c0 => ?_)
  · skip
    refine lv_goto (tgt := 1161) hx hb_ dL_law_958 (by decide) ?_
    refine W.widen (k := 29 + k_ + 1) (n := 430 + 6 * k_ + 6) (by omega) (by omega) ?_
    exact kont S1 r1 f1 hI1 _ _ hP hD hS_ _ (lv_sub hl [2, 3, 4, 5, 6] rfl)
  · skip
    refine lv_aload_n hx hb_ dL_law_939 rfl (lv_at hl 5 rfl) ?_
    refine lv_iconst (v := 0) hx hb_ dL_law_940 (by decide) ?_
    refine va_lald (f := f1) (n := 1) hx hb_ hK_ hP 28 2 rfl rfl vin01 dL_law_941 ?_
    refine lv_iload hx hb_ dL_law_942 (lv_at hl 0 rfl) ?_
    refine lv_if_eq (tgt := 951) hx hb_ dL_law_944 (by decide) (fun cb => ?_) (fun cb => ?_)
    · skip
      refine lv_lconst (v := 0) hx hb_ dL_law_951 (by decide) ?_
      refine W.lcmp hx hb_ dL_law_952 ?_
      refine lv_if_eq (tgt := 958) hx hb_ dL_law_953 (by decide) (fun _ => ?_) (fun z_ => absurd ((lg_cmp_eq _ _).mpr ((ho c0).trans (if_pos cb))) z_)
      refine lv_goto (tgt := 1161) hx hb_ dL_law_958 (by decide) ?_
      refine W.widen (k := 29 + k_ + 1) (n := 430 + 6 * k_ + 6) (by omega) (by omega) ?_
      exact kont S1 r1 f1 hI1 _ _ hP hD hS_ _ (lv_sub hl [2, 3, 4, 5, 6] rfl)
    · skip
      refine lv_lconst (v := 1) hx hb_ dL_law_947 (by decide) ?_
      refine lv_goto (tgt := 952) hx hb_ dL_law_948 (by decide) ?_
      refine W.lcmp hx hb_ dL_law_952 ?_
      refine lv_if_eq (tgt := 958) hx hb_ dL_law_953 (by decide) (fun _ => ?_) (fun z_ => absurd ((lg_cmp_eq _ _).mpr ((ho c0).trans (if_neg cb))) z_)
      refine lv_goto (tgt := 1161) hx hb_ dL_law_958 (by decide) ?_
      refine W.widen (k := 29 + k_ + 1) (n := 430 + 6 * k_ + 6) (by omega) (by omega) ?_
      exact kont S1 r1 f1 hI1 _ _ hP hD hS_ _ (lv_sub hl [2, 3, 4, 5, 6] rfl)
set_option maxHeartbeats 4000000 in
set_option maxRecDepth 100000 in
theorem law_case_16 {p_ : Program} {l : Launch} {e : Env} {s_ : State} {m_ : MethodId} {below : List Frame} {meth : Method} {c_ : Code} {D : va_G} {cI cZ cJ : ClassId} {b0 L : Nat} {xs : Nat → Int32} {x_ y_ ou : Nat} {a_ b_ : Nat → Nat} (hL : L ≤ 2560) (hfl : l.stackTraces = false) (C0_ : lw_At p_ s_ m_ meth c_ b0 L xs) (hG : xG (fun q_ => s_.heap.size ≤ q_) s_ s_.heap) (hN_ : xN s_) (hK_ : va_K D vwCl (tyL cI cZ cJ) s_) {k_ : Nat} {i4_ : Int32} (hk : 5 * k_ + 5 ≤ L) (e4_ : i4_ = nI (5 * k_)) {S : ST} {t_ : Int32} {fo : Nat → Int64} (hI_ : Inv (10 + 24 * k_) S) {H : Heap} {locs : List Loc} (hP : va_P D vwCl (wW cI cZ cJ x_ y_ ou a_ b_ S S t_ fo) H) (hD : va_D (fun q_ : Nat => s_.heap.size ≤ q_) (wW cI cZ cJ x_ y_ ou a_ b_ S S t_ fo)) (hS_ : va_S (fun q_ : Nat => s_.heap.size ≤ q_) s_.heap H locs) {ls : Array Slot} (hl : lv_has ls 7 [(0, .ref b0), (1, .ref x_), (2, .ref y_), (3, .ref ou), (4, .int i4_)]) (kont : ∀ (S' : ST) (t' : Int32) (f' : Nat → Int64), Inv (10 + 24 * (k_ + 1)) S' → ∀ (H : Heap) (locs : List Loc), va_P D vwCl (wW cI cZ cJ x_ y_ ou a_ b_ S' S' t' f') H → va_D (fun q_ : Nat => s_.heap.size ≤ q_) (wW cI cZ cJ x_ y_ ou a_ b_ S' S' t' f') → va_S (fun q_ : Nat => s_.heap.size ≤ q_) s_.heap H locs → ∀ ls : Array Slot, lv_has ls 7 [(0, .ref b0), (1, .ref x_), (2, .ref y_), (3, .ref ou), (4, .int i4_)] → W p_ l e room_1 s_ m_ #[Value.ref b0] below meth c_ H locs (29 + k_ + 1) (430 + 6 * k_ + 6) (lw_Z below #[Value.ref b0] s_) (F0 m_ 1161 ls [])) : W p_ l e room_1 s_ m_ #[Value.ref b0] below meth c_ H locs (29 + k_) (430 + 6 * k_) (lw_Z below #[Value.ref b0] s_) (F0 m_ 961 ls []) := by
  obtain ⟨hx, hb_, hr, hml, hown, hts, hX, hbl, hlocks, hgv⟩ := C0_
  have hts := fun w_ h_ => hts w_ (wsL_law_in w_ h_)
  have hown : s_.vm.findClass RL = some m_.cls := hown
  have hA : ∀ q_ : Nat, s_.heap.size ≤ q_ → (fun q_ : Nat => s_.heap.size ≤ q_) q_ := fun _ h_ => h_
  have hbA : ¬ (fun q_ : Nat => s_.heap.size ≤ q_) b0 := Nat.not_le.mpr hbl
  refine lv_aload_n hx hb_ dL_law_961 rfl (lv_at hl 1 rfl) ?_
  refine lv_aload_n hx hb_ dL_law_962 rfl (lv_at hl 0 rfl) ?_
  refine lv_iload hx hb_ dL_law_963 (lv_at hl 4 rfl) ?_
  refine lv_iconst (v := 1) hx hb_ dL_law_965 (by decide) ?_
  refine lv_iadd hx hb_ dL_law_966 ?_
  refine va_sld hx hb_ hX hbl hbA hS_ (sidx (j := 1) e4_ hk hL (by decide)) dL_law_967 ?_
  refine lv_aload_n hx hb_ dL_law_968 rfl (lv_at hl 0 rfl) ?_
  refine lv_iload hx hb_ dL_law_969 (lv_at hl 4 rfl) ?_
  refine lv_iconst (v := 2) hx hb_ dL_law_971 (by decide) ?_
  refine lv_iadd hx hb_ dL_law_972 ?_
  refine va_sld hx hb_ hX hbl hbA hS_ (sidx (j := 2) e4_ hk hL (by decide)) dL_law_973 ?_
  refine lv_aload_n hx hb_ dL_law_974 rfl (lv_at hl 0 rfl) ?_
  refine lv_iload hx hb_ dL_law_975 (lv_at hl 4 rfl) ?_
  refine lv_iconst (v := 3) hx hb_ dL_law_977 (by decide) ?_
  refine lv_iadd hx hb_ dL_law_978 ?_
  refine va_sld hx hb_ hX hbl hbA hS_ (sidx (j := 3) e4_ hk hL (by decide)) dL_law_979 ?_
  refine lv_aload_n hx hb_ dL_law_980 rfl (lv_at hl 3 rfl) ?_
  have hPc := hP.sub (ws' := wX cI cZ x_ a_ S ++ [wO cJ ou fo]) [0, 1, 2, 3, 4, 5, 6, 7, 8, 9, 10, 11, 12, 13, 28] rfl
  have hDc := hD.sub (ws' := wX cI cZ x_ a_ S ++ [wO cJ ou fo]) [0, 1, 2, 3, 4, 5, 6, 7, 8, 9, 10, 11, 12, 13, 28] (by decide) rfl
  have hFc := va_free (wc := wX cI cZ x_ a_ S ++ [wO cJ ou fo]) hD hS_ hA [0, 1, 2, 3, 4, 5, 6, 7, 8, 9, 10, 11, 12, 13, 28] rfl
  have hGH : xG (fun q_ => s_.heap.size ≤ q_) s_ H := hG.kept (fun q_ h1 h2 => hS_.2.1 q_ h1 h2)
  refine va_calli (vx_runSW (As := [.ref x_, .int (xs (i4_ + 1).toNatClampNeg), .int (xs (i4_ + 2).toNatClampNeg), .int (xs (i4_ + 3).toNatClampNeg), .ref ou]) (rest := []) ⟨hx, hb_, hml, hown, hts⟩ (c_L_guess l hfl D cI cZ cJ x_ ou a_ S fo H.size (xs (i4_ + 1).toNatClampNeg) (xs (i4_ + 2).toNatClampNeg) (xs (i4_ + 3).toNatClampNeg) ) (vx_cwSW 5 hts gL_law_L_guess rfl rfl rfl (by decide +kernel) ⟨Nat.le_of_ble_eq_true rfl, Nat.le_of_ble_eq_true rfl⟩) (pL_S (pW_S hPc hK_ hDc) hGH (fun _ h_ => Nat.le_trans hS_.1 h_) hN_) rfl rfl hl.1 rfl (lv_room (Nat.le_of_ble_eq_true rfl)) dL_law_981 ⟨by show _ ≤ 1073; omega, by show _ ≤ 8742; omega⟩) hS_ (fun q_ _ h_ => hFc q_ h_) hFc (fun r1 u1 t9 H1 locs ht9 hvm9 hw hB9 hz9 hk9 hS_ => ?_)
  obtain ⟨S1, f1⟩ := u1
  obtain ⟨v1, hw1, ho⟩ := hw
  have hJ9 := va_join (wr := wM cI y_ b_ S t_) hP hD [0, 1, 2, 3, 4, 5, 6, 7, 8, 9, 10, 11, 12, 13, 28] [14, 15, 16, 17, 18, 19, 20, 21, 22, 23, 24, 25, 26, 27] rfl rfl (by decide) (by decide) hk9 hFc (atW_P hB9 ht9) hB9.2
  have hP : va_P D vwCl (wW cI cZ cJ x_ y_ ou a_ b_ S1 S t_ f1) H1 := hJ9.1.sub [14, 15, 16, 17, 18, 19, 20, 21, 22, 23, 24, 25, 26, 27, 0, 1, 2, 3, 4, 5, 6, 7, 8, 9, 10, 11, 12, 13, 28] rfl
  have hD : va_D (fun q_ : Nat => s_.heap.size ≤ q_) (wW cI cZ cJ x_ y_ ou a_ b_ S1 S t_ f1) := hJ9.2.sub [14, 15, 16, 17, 18, 19, 20, 21, 22, 23, 24, 25, 26, 27, 0, 1, 2, 3, 4, 5, 6, 7, 8, 9, 10, 11, 12, 13, 28] (by decide) rfl
  generalize H1 = H at hP hS_ ⊢
  refine lv_istore (lv' := [(5, .int r1), (0, .ref b0), (1, .ref x_), (2, .ref y_), (3, .ref ou), (4, .int i4_)]) hx hb_ dL_law_984 hl (by decide) rfl (fun ls hl => ?_)
  refine lv_aload_n hx hb_ dL_law_986 rfl (lv_at hl 3 rfl) ?_
  refine lv_aload_n hx hb_ dL_law_987 rfl (lv_at hl 1 rfl) ?_
  refine lv_iload hx hb_ dL_law_988 (lv_at hl 5 rfl) ?_
  refine lv_iconst (v := 1) hx hb_ dL_law_990 (by decide) ?_
  refine lv_iadd hx hb_ dL_law_991 ?_
  refine va_sld hx hb_ hX hbl hbA hS_ (sidx (j := 1) e4_ hk hL (by decide)) dL_law_992 ?_
  refine lv_aload_n hx hb_ dL_law_993 rfl (lv_at hl 1 rfl) ?_
  refine lv_iload hx hb_ dL_law_994 (lv_at hl 5 rfl) ?_
  refine lv_iconst (v := 2) hx hb_ dL_law_996 (by decide) ?_
  refine lv_iadd hx hb_ dL_law_997 ?_
  refine va_sld hx hb_ hX hbl hbA hS_ (sidx (j := 2) e4_ hk hL (by decide)) dL_law_998 ?_
  refine lv_aload_n hx hb_ dL_law_999 rfl (lv_at hl 1 rfl) ?_
  refine lv_iload hx hb_ dL_law_1000 (lv_at hl 5 rfl) ?_
  refine lv_iconst (v := 3) hx hb_ dL_law_1002 (by decide) ?_
  refine lv_iadd hx hb_ dL_law_1003 ?_
  refine va_sld hx hb_ hX hbl hbA hS_ (sidx (j := 3) e4_ hk hL (by decide)) dL_law_1004 ?_
  have hPc := hP.sub (ws' := wM cI y_ b_ S t_) [14, 15, 16, 17, 18, 19, 20, 21, 22, 23, 24, 25, 26, 27] rfl
  have hDc := hD.sub (ws' := wM cI y_ b_ S t_) [14, 15, 16, 17, 18, 19, 20, 21, 22, 23, 24, 25, 26, 27] (by decide) rfl
  have hFc := va_free (wc := wM cI y_ b_ S t_) hD hS_ hA [14, 15, 16, 17, 18, 19, 20, 21, 22, 23, 24, 25, 26, 27] rfl
  refine va_calli (va_runV (As := [.int (xs (i4_ + 1).toNatClampNeg), .int (xs (i4_ + 2).toNatClampNeg), .int (xs (i4_ + 3).toNatClampNeg)]) (rest := []) ⟨hx, hb_, hml, hown, hts⟩ (c_X1_guess l D cI y_ b_ S t_ H.size (xs (i4_ + 1).toNatClampNeg) (xs (i4_ + 2).toNatClampNeg) (xs (i4_ + 3).toNatClampNeg) (10 + 24 * k_) hI_) (cwV 3 hts gL_law_X1_guess rfl rfl rfl (by decide +kernel) ⟨Nat.le_of_ble_eq_true rfl, Nat.le_of_ble_eq_true rfl⟩) (pW_V (ci := 1) hPc (hK_.sub (tys' := tyM cI) [0] rfl) hDc rfl rfl) rfl rfl hl.1 rfl (lv_room (Nat.le_of_ble_eq_true rfl)) dL_law_1005 ⟨by show _ ≤ 1073; omega, by show _ ≤ 8742; omega⟩) hS_ (fun q_ _ h_ => hFc q_ h_) hFc (fun r2 u2 t9 H1 locs ht9 hvm9 hw2 hB9 hz9 hk9 hS_ => ?_)
  obtain ⟨S2, t2⟩ := u2
  have hJ9 := va_join (wr := wX cI cZ x_ a_ S1 ++ [wO cJ ou f1]) hP hD [14, 15, 16, 17, 18, 19, 20, 21, 22, 23, 24, 25, 26, 27] [0, 1, 2, 3, 4, 5, 6, 7, 8, 9, 10, 11, 12, 13, 28] rfl rfl (by decide) (by decide) hk9 hFc (atW_P hB9 ht9) hB9.2
  have hP : va_P D vwCl (wW cI cZ cJ x_ y_ ou a_ b_ S1 S2 t2 f1) H1 := hJ9.1.sub [0, 1, 2, 3, 4, 5, 6, 7, 8, 9, 10, 11, 12, 13, 15, 16, 17, 18, 19, 20, 21, 22, 23, 24, 25, 26, 27, 28, 14] rfl
  have hD : va_D (fun q_ : Nat => s_.heap.size ≤ q_) (wW cI cZ cJ x_ y_ ou a_ b_ S1 S2 t2 f1) := hJ9.2.sub [0, 1, 2, 3, 4, 5, 6, 7, 8, 9, 10, 11, 12, 13, 15, 16, 17, 18, 19, 20, 21, 22, 23, 24, 25, 26, 27, 28, 14] (by decide) rfl
  generalize H1 = H at hP hS_ ⊢
  obtain ⟨e1_, e23_⟩ := Prod.mk.inj (hw1.symm.trans hw2)
  obtain ⟨e2_, e3_⟩ := Prod.mk.inj e23_
  subst e1_
  subst e2_
  subst e3_
  have hI0 : Inv (10 + 24 * k_) (k_guess S (xs (i4_ + 1).toNatClampNeg) (xs (i4_ + 2).toNatClampNeg) (xs (i4_ + 3).toNatClampNeg)).2.2 := keep_guess hI_ (xs (i4_ + 1).toNatClampNeg) (xs (i4_ + 2).toNatClampNeg) (xs (i4_ + 3).toNatClampNeg)
  rw [hw1] at hI0
  have hI1 : Inv (10 + 24 * (k_ + 1)) S1 := Inv.mono hI0 (by omega)
  refine lv_istore (lv' := [(6, .int v1), (5, .int r1), (0, .ref b0), (1, .ref x_), (2, .ref y_), (3, .ref ou), (4, .int i4_)]) hx hb_ dL_law_1008 hl (by decide) rfl (fun ls hl => ?_)
  refine lv_aload_n hx hb_ dL_law_1010 rfl (lv_at hl 4 rfl) ?_
  have hPc := hP.sub (ws' := wM cI y_ b_ S1 r1) [14, 15, 16, 17, 18, 19, 20, 21, 22, 23, 24, 25, 26, 27] rfl
  refine vp_callSi (W.runV (As := []) (rest := []) ⟨hx, hb_, hml, hown, hts⟩ (c_X1_thrown l D cI y_ b_ S1 r1  ) (cwV 0 hts gL_law_X1_thrown rfl rfl rfl (by decide +kernel) ⟨Nat.le_of_ble_eq_true rfl, Nat.le_of_ble_eq_true rfl⟩) (pR_V (ci := 1) hPc (hK_.sub (tys' := tyM cI) [0] rfl) rfl rfl) rfl rfl hl.1 rfl (lv_room (Nat.le_of_ble_eq_true rfl)) dL_law_1011 ⟨by show _ ≤ 1073; omega, by show _ ≤ 8742; omega⟩) (fun r3 h3 => ?_)
  subst h3
  refine lv_iload hx hb_ dL_law_1014 (lv_at hl 1 rfl) ?_
  refine lv_icmp_eq (tgt := 1021) hx hb_ dL_law_1016 (by decide) (fun c_1016 => ?_) (fun c_1016 => absurd rfl c_1016)
  refine lv_iload hx hb_ dL_law_1021 (lv_at hl 1 rfl) ?_
  refine lv_if_ne (tgt := 1045) hx hb_ dL_law_1023 (by decide) (fun c0 => ?_) (fun c0 => ?_)
  · skip
    refine lv_goto (tgt := 1161) hx hb_ dL_law_1045 (by decide) ?_
    refine W.widen (k := 29 + k_ + 1) (n := 430 + 6 * k_ + 6) (by omega) (by omega) ?_
    exact kont S1 r1 f1 hI1 _ _ hP hD hS_ _ (lv_sub hl [2, 3, 4, 5, 6] rfl)
  · skip
    refine lv_aload_n hx hb_ dL_law_1026 rfl (lv_at hl 5 rfl) ?_
    refine lv_iconst (v := 0) hx hb_ dL_law_1027 (by decide) ?_
    refine va_lald (f := f1) (n := 1) hx hb_ hK_ hP 28 2 rfl rfl vin01 dL_law_1028 ?_
    refine lv_iload hx hb_ dL_law_1029 (lv_at hl 0 rfl) ?_
    refine lv_if_eq (tgt := 1038) hx hb_ dL_law_1031 (by decide) (fun cb => ?_) (fun cb => ?_)
    · skip
      refine lv_lconst (v := 0) hx hb_ dL_law_1038 (by decide) ?_
      refine W.lcmp hx hb_ dL_law_1039 ?_
      refine lv_if_eq (tgt := 1045) hx hb_ dL_law_1040 (by decide) (fun _ => ?_) (fun z_ => absurd ((lg_cmp_eq _ _).mpr ((ho c0).trans (if_pos cb))) z_)
      refine lv_goto (tgt := 1161) hx hb_ dL_law_1045 (by decide) ?_
      refine W.widen (k := 29 + k_ + 1) (n := 430 + 6 * k_ + 6) (by omega) (by omega) ?_
      exact kont S1 r1 f1 hI1 _ _ hP hD hS_ _ (lv_sub hl [2, 3, 4, 5, 6] rfl)
    · skip
      refine lv_lconst (v := 1) hx hb_ dL_law_1034 (by decide) ?_
      refine lv_goto (tgt := 1039) hx hb_ dL_law_1035 (by decide) ?_
      refine W.lcmp hx hb_ dL_law_1039 ?_
      refine lv_if_eq (tgt := 1045) hx hb_ dL_law_1040 (by decide) (fun _ => ?_) (fun z_ => absurd ((lg_cmp_eq _ _).mpr ((ho c0).trans (if_neg cb))) z_)
      refine lv_goto (tgt := 1161) hx hb_ dL_law_1045 (by decide) ?_
      refine W.widen (k := 29 + k_ + 1) (n := 430 + 6 * k_ + 6) (by omega) (by omega) ?_
      exact kont S1 r1 f1 hI1 _ _ hP hD hS_ _ (lv_sub hl [2, 3, 4, 5, 6] rfl)
set_option maxHeartbeats 4000000 in
set_option maxRecDepth 100000 in
theorem law_case_17 {p_ : Program} {l : Launch} {e : Env} {s_ : State} {m_ : MethodId} {below : List Frame} {meth : Method} {c_ : Code} {D : va_G} {cI cZ cJ : ClassId} {b0 L : Nat} {xs : Nat → Int32} {x_ y_ ou : Nat} {a_ b_ : Nat → Nat} (hL : L ≤ 2560) (hfl : l.stackTraces = false) (C0_ : lw_At p_ s_ m_ meth c_ b0 L xs) (hG : xG (fun q_ => s_.heap.size ≤ q_) s_ s_.heap) (hN_ : xN s_) (hK_ : va_K D vwCl (tyL cI cZ cJ) s_) {k_ : Nat} {i4_ : Int32} (hk : 5 * k_ + 5 ≤ L) (e4_ : i4_ = nI (5 * k_)) {S : ST} {t_ : Int32} {fo : Nat → Int64} (hI_ : Inv (10 + 24 * k_) S) {H : Heap} {locs : List Loc} (hP : va_P D vwCl (wW cI cZ cJ x_ y_ ou a_ b_ S S t_ fo) H) (hD : va_D (fun q_ : Nat => s_.heap.size ≤ q_) (wW cI cZ cJ x_ y_ ou a_ b_ S S t_ fo)) (hS_ : va_S (fun q_ : Nat => s_.heap.size ≤ q_) s_.heap H locs) {ls : Array Slot} (hl : lv_has ls 7 [(0, .ref b0), (1, .ref x_), (2, .ref y_), (3, .ref ou), (4, .int i4_)]) (kont : ∀ (S' : ST) (t' : Int32) (f' : Nat → Int64), Inv (10 + 24 * (k_ + 1)) S' → ∀ (H : Heap) (locs : List Loc), va_P D vwCl (wW cI cZ cJ x_ y_ ou a_ b_ S' S' t' f') H → va_D (fun q_ : Nat => s_.heap.size ≤ q_) (wW cI cZ cJ x_ y_ ou a_ b_ S' S' t' f') → va_S (fun q_ : Nat => s_.heap.size ≤ q_) s_.heap H locs → ∀ ls : Array Slot, lv_has ls 7 [(0, .ref b0), (1, .ref x_), (2, .ref y_), (3, .ref ou), (4, .int i4_)] → W p_ l e room_1 s_ m_ #[Value.ref b0] below meth c_ H locs (29 + k_ + 1) (430 + 6 * k_ + 6) (lw_Z below #[Value.ref b0] s_) (F0 m_ 1161 ls [])) : W p_ l e room_1 s_ m_ #[Value.ref b0] below meth c_ H locs (29 + k_) (430 + 6 * k_) (lw_Z below #[Value.ref b0] s_) (F0 m_ 1048 ls []) := by
  obtain ⟨hx, hb_, hr, hml, hown, hts, hX, hbl, hlocks, hgv⟩ := C0_
  have hts := fun w_ h_ => hts w_ (wsL_law_in w_ h_)
  have hown : s_.vm.findClass RL = some m_.cls := hown
  have hA : ∀ q_ : Nat, s_.heap.size ≤ q_ → (fun q_ : Nat => s_.heap.size ≤ q_) q_ := fun _ h_ => h_
  have hbA : ¬ (fun q_ : Nat => s_.heap.size ≤ q_) b0 := Nat.not_le.mpr hbl
  refine lv_aload_n hx hb_ dL_law_1048 rfl (lv_at hl 1 rfl) ?_
  refine lv_aload_n hx hb_ dL_law_1049 rfl (lv_at hl 0 rfl) ?_
  refine lv_iload hx hb_ dL_law_1050 (lv_at hl 4 rfl) ?_
  refine lv_iconst (v := 1) hx hb_ dL_law_1052 (by decide) ?_
  refine lv_iadd hx hb_ dL_law_1053 ?_
  refine va_sld hx hb_ hX hbl hbA hS_ (sidx (j := 1) e4_ hk hL (by decide)) dL_law_1054 ?_
  refine lv_aload_n hx hb_ dL_law_1055 rfl (lv_at hl 3 rfl) ?_
  have hPc := hP.sub (ws' := wX cI cZ x_ a_ S ++ [wO cJ ou fo]) [0, 1, 2, 3, 4, 5, 6, 7, 8, 9, 10, 11, 12, 13, 28] rfl
  have hDc := hD.sub (ws' := wX cI cZ x_ a_ S ++ [wO cJ ou fo]) [0, 1, 2, 3, 4, 5, 6, 7, 8, 9, 10, 11, 12, 13, 28] (by decide) rfl
  have hFc := va_free (wc := wX cI cZ x_ a_ S ++ [wO cJ ou fo]) hD hS_ hA [0, 1, 2, 3, 4, 5, 6, 7, 8, 9, 10, 11, 12, 13, 28] rfl
  have hGH : xG (fun q_ => s_.heap.size ≤ q_) s_ H := hG.kept (fun q_ h1 h2 => hS_.2.1 q_ h1 h2)
  refine va_calli (vx_runSW (As := [.ref x_, .int (xs (i4_ + 1).toNatClampNeg), .ref ou]) (rest := []) ⟨hx, hb_, hml, hown, hts⟩ (c_L_points l hfl D cI cZ cJ x_ ou a_ S fo H.size (xs (i4_ + 1).toNatClampNeg) ) (vx_cwSW 3 hts gL_law_L_points rfl rfl rfl (by decide +kernel) ⟨Nat.le_of_ble_eq_true rfl, Nat.le_of_ble_eq_true rfl⟩) (pL_S (pW_S hPc hK_ hDc) hGH (fun _ h_ => Nat.le_trans hS_.1 h_) hN_) rfl rfl hl.1 rfl (lv_room (Nat.le_of_ble_eq_true rfl)) dL_law_1056 ⟨by show _ ≤ 1073; omega, by show _ ≤ 8742; omega⟩) hS_ (fun q_ _ h_ => hFc q_ h_) hFc (fun r1 u1 t9 H1 locs ht9 hvm9 hw hB9 hz9 hk9 hS_ => ?_)
  obtain ⟨S1, f1⟩ := u1
  obtain ⟨v1, hw1, ho⟩ := hw
  have hJ9 := va_join (wr := wM cI y_ b_ S t_) hP hD [0, 1, 2, 3, 4, 5, 6, 7, 8, 9, 10, 11, 12, 13, 28] [14, 15, 16, 17, 18, 19, 20, 21, 22, 23, 24, 25, 26, 27] rfl rfl (by decide) (by decide) hk9 hFc (atW_P hB9 ht9) hB9.2
  have hP : va_P D vwCl (wW cI cZ cJ x_ y_ ou a_ b_ S1 S t_ f1) H1 := hJ9.1.sub [14, 15, 16, 17, 18, 19, 20, 21, 22, 23, 24, 25, 26, 27, 0, 1, 2, 3, 4, 5, 6, 7, 8, 9, 10, 11, 12, 13, 28] rfl
  have hD : va_D (fun q_ : Nat => s_.heap.size ≤ q_) (wW cI cZ cJ x_ y_ ou a_ b_ S1 S t_ f1) := hJ9.2.sub [14, 15, 16, 17, 18, 19, 20, 21, 22, 23, 24, 25, 26, 27, 0, 1, 2, 3, 4, 5, 6, 7, 8, 9, 10, 11, 12, 13, 28] (by decide) rfl
  generalize H1 = H at hP hS_ ⊢
  refine lv_istore (lv' := [(5, .int r1), (0, .ref b0), (1, .ref x_), (2, .ref y_), (3, .ref ou), (4, .int i4_)]) hx hb_ dL_law_1059 hl (by decide) rfl (fun ls hl => ?_)
  refine lv_aload_n hx hb_ dL_law_1061 rfl (lv_at hl 3 rfl) ?_
  refine lv_aload_n hx hb_ dL_law_1062 rfl (lv_at hl 1 rfl) ?_
  refine lv_iload hx hb_ dL_law_1063 (lv_at hl 5 rfl) ?_
  refine lv_iconst (v := 1) hx hb_ dL_law_1065 (by decide) ?_
  refine lv_iadd hx hb_ dL_law_1066 ?_
  refine va_sld hx hb_ hX hbl hbA hS_ (sidx (j := 1) e4_ hk hL (by decide)) dL_law_1067 ?_
  have hPc := hP.sub (ws' := wM cI y_ b_ S t_) [14, 15, 16, 17, 18, 19, 20, 21, 22, 23, 24, 25, 26, 27] rfl
  have hDc := hD.sub (ws' := wM cI y_ b_ S t_) [14, 15, 16, 17, 18, 19, 20, 21, 22, 23, 24, 25, 26, 27] (by decide) rfl
  have hFc := va_free (wc := wM cI y_ b_ S t_) hD hS_ hA [14, 15, 16, 17, 18, 19, 20, 21, 22, 23, 24, 25, 26, 27] rfl
  refine va_calli (va_runV (As := [.int (xs (i4_ + 1).toNatClampNeg)]) (rest := []) ⟨hx, hb_, hml, hown, hts⟩ (c_X1_points l D cI y_ b_ S t_ H.size (xs (i4_ + 1).toNatClampNeg) ) (cwV 1 hts gL_law_X1_points rfl rfl rfl (by decide +kernel) ⟨Nat.le_of_ble_eq_true rfl, Nat.le_of_ble_eq_true rfl⟩) (pW_V (ci := 1) hPc (hK_.sub (tys' := tyM cI) [0] rfl) hDc rfl rfl) rfl rfl hl.1 rfl (lv_room (Nat.le_of_ble_eq_true rfl)) dL_law_1068 ⟨by show _ ≤ 1073; omega, by show _ ≤ 8742; omega⟩) hS_ (fun q_ _ h_ => hFc q_ h_) hFc (fun r2 u2 t9 H1 locs ht9 hvm9 hw2 hB9 hz9 hk9 hS_ => ?_)
  obtain ⟨S2, t2⟩ := u2
  have hJ9 := va_join (wr := wX cI cZ x_ a_ S1 ++ [wO cJ ou f1]) hP hD [14, 15, 16, 17, 18, 19, 20, 21, 22, 23, 24, 25, 26, 27] [0, 1, 2, 3, 4, 5, 6, 7, 8, 9, 10, 11, 12, 13, 28] rfl rfl (by decide) (by decide) hk9 hFc (atW_P hB9 ht9) hB9.2
  have hP : va_P D vwCl (wW cI cZ cJ x_ y_ ou a_ b_ S1 S2 t2 f1) H1 := hJ9.1.sub [0, 1, 2, 3, 4, 5, 6, 7, 8, 9, 10, 11, 12, 13, 15, 16, 17, 18, 19, 20, 21, 22, 23, 24, 25, 26, 27, 28, 14] rfl
  have hD : va_D (fun q_ : Nat => s_.heap.size ≤ q_) (wW cI cZ cJ x_ y_ ou a_ b_ S1 S2 t2 f1) := hJ9.2.sub [0, 1, 2, 3, 4, 5, 6, 7, 8, 9, 10, 11, 12, 13, 15, 16, 17, 18, 19, 20, 21, 22, 23, 24, 25, 26, 27, 28, 14] (by decide) rfl
  generalize H1 = H at hP hS_ ⊢
  obtain ⟨e1_, e23_⟩ := Prod.mk.inj (hw1.symm.trans hw2)
  obtain ⟨e2_, e3_⟩ := Prod.mk.inj e23_
  subst e1_
  subst e2_
  subst e3_
  have hI0 : Inv (10 + 24 * k_) (k_points S (xs (i4_ + 1).toNatClampNeg)).2.2 := cif_elim (fun z_ : KR => Inv (10 + 24 * k_) z_.2.2) (fun _ => hI_) (fun _ => hI_)
  rw [hw1] at hI0
  have hI1 : Inv (10 + 24 * (k_ + 1)) S1 := Inv.mono hI0 (by omega)
  refine lv_istore (lv' := [(6, .int v1), (5, .int r1), (0, .ref b0), (1, .ref x_), (2, .ref y_), (3, .ref ou), (4, .int i4_)]) hx hb_ dL_law_1071 hl (by decide) rfl (fun ls hl => ?_)
  refine lv_aload_n hx hb_ dL_law_1073 rfl (lv_at hl 4 rfl) ?_
  have hPc := hP.sub (ws' := wM cI y_ b_ S1 r1) [14, 15, 16, 17, 18, 19, 20, 21, 22, 23, 24, 25, 26, 27] rfl
  refine vp_callSi (W.runV (As := []) (rest := []) ⟨hx, hb_, hml, hown, hts⟩ (c_X1_thrown l D cI y_ b_ S1 r1  ) (cwV 0 hts gL_law_X1_thrown rfl rfl rfl (by decide +kernel) ⟨Nat.le_of_ble_eq_true rfl, Nat.le_of_ble_eq_true rfl⟩) (pR_V (ci := 1) hPc (hK_.sub (tys' := tyM cI) [0] rfl) rfl rfl) rfl rfl hl.1 rfl (lv_room (Nat.le_of_ble_eq_true rfl)) dL_law_1074 ⟨by show _ ≤ 1073; omega, by show _ ≤ 8742; omega⟩) (fun r3 h3 => ?_)
  subst h3
  refine lv_iload hx hb_ dL_law_1077 (lv_at hl 1 rfl) ?_
  refine lv_icmp_eq (tgt := 1084) hx hb_ dL_law_1079 (by decide) (fun c_1079 => ?_) (fun c_1079 => absurd rfl c_1079)
  refine lv_iload hx hb_ dL_law_1084 (lv_at hl 1 rfl) ?_
  refine lv_if_ne (tgt := 1101) hx hb_ dL_law_1086 (by decide) (fun c0 => ?_) (fun c0 => ?_)
  · skip
    refine lv_goto (tgt := 1161) hx hb_ dL_law_1101 (by decide) ?_
    refine W.widen (k := 29 + k_ + 1) (n := 430 + 6 * k_ + 6) (by omega) (by omega) ?_
    exact kont S1 r1 f1 hI1 _ _ hP hD hS_ _ (lv_sub hl [2, 3, 4, 5, 6] rfl)
  · skip
    refine lv_aload_n hx hb_ dL_law_1089 rfl (lv_at hl 5 rfl) ?_
    refine lv_iconst (v := 0) hx hb_ dL_law_1090 (by decide) ?_
    refine va_lald (f := f1) (n := 1) hx hb_ hK_ hP 28 2 rfl rfl vin01 dL_law_1091 ?_
    refine lv_iload hx hb_ dL_law_1092 (lv_at hl 0 rfl) ?_
    refine lv_i2l (v := v1.toInt64) hx hb_ dL_law_1094 rfl ?_
    refine W.lcmp hx hb_ dL_law_1095 ?_
    refine lv_if_eq (tgt := 1101) hx hb_ dL_law_1096 (by decide) (fun _ => ?_) (fun z_ => absurd ((lg_cmp_eq _ _).mpr (ho c0)) z_)
    refine lv_goto (tgt := 1161) hx hb_ dL_law_1101 (by decide) ?_
    refine W.widen (k := 29 + k_ + 1) (n := 430 + 6 * k_ + 6) (by omega) (by omega) ?_
    exact kont S1 r1 f1 hI1 _ _ hP hD hS_ _ (lv_sub hl [2, 3, 4, 5, 6] rfl)
set_option maxHeartbeats 4000000 in
set_option maxRecDepth 100000 in
theorem law_case_18 {p_ : Program} {l : Launch} {e : Env} {s_ : State} {m_ : MethodId} {below : List Frame} {meth : Method} {c_ : Code} {D : va_G} {cI cZ cJ : ClassId} {b0 L : Nat} {xs : Nat → Int32} {x_ y_ ou : Nat} {a_ b_ : Nat → Nat} (hL : L ≤ 2560) (hfl : l.stackTraces = false) (C0_ : lw_At p_ s_ m_ meth c_ b0 L xs) (hG : xG (fun q_ => s_.heap.size ≤ q_) s_ s_.heap) (hN_ : xN s_) (hK_ : va_K D vwCl (tyL cI cZ cJ) s_) {k_ : Nat} {i4_ : Int32} (hk : 5 * k_ + 5 ≤ L) (e4_ : i4_ = nI (5 * k_)) {S : ST} {t_ : Int32} {fo : Nat → Int64} (hI_ : Inv (10 + 24 * k_) S) {H : Heap} {locs : List Loc} (hP : va_P D vwCl (wW cI cZ cJ x_ y_ ou a_ b_ S S t_ fo) H) (hD : va_D (fun q_ : Nat => s_.heap.size ≤ q_) (wW cI cZ cJ x_ y_ ou a_ b_ S S t_ fo)) (hS_ : va_S (fun q_ : Nat => s_.heap.size ≤ q_) s_.heap H locs) {ls : Array Slot} (hl : lv_has ls 7 [(0, .ref b0), (1, .ref x_), (2, .ref y_), (3, .ref ou), (4, .int i4_)]) (kont : ∀ (S' : ST) (t' : Int32) (f' : Nat → Int64), Inv (10 + 24 * (k_ + 1)) S' → ∀ (H : Heap) (locs : List Loc), va_P D vwCl (wW cI cZ cJ x_ y_ ou a_ b_ S' S' t' f') H → va_D (fun q_ : Nat => s_.heap.size ≤ q_) (wW cI cZ cJ x_ y_ ou a_ b_ S' S' t' f') → va_S (fun q_ : Nat => s_.heap.size ≤ q_) s_.heap H locs → ∀ ls : Array Slot, lv_has ls 7 [(0, .ref b0), (1, .ref x_), (2, .ref y_), (3, .ref ou), (4, .int i4_)] → W p_ l e room_1 s_ m_ #[Value.ref b0] below meth c_ H locs (29 + k_ + 1) (430 + 6 * k_ + 6) (lw_Z below #[Value.ref b0] s_) (F0 m_ 1161 ls [])) : W p_ l e room_1 s_ m_ #[Value.ref b0] below meth c_ H locs (29 + k_) (430 + 6 * k_) (lw_Z below #[Value.ref b0] s_) (F0 m_ 1104 ls []) := by
  obtain ⟨hx, hb_, hr, hml, hown, hts, hX, hbl, hlocks, hgv⟩ := C0_
  have hts := fun w_ h_ => hts w_ (wsL_law_in w_ h_)
  have hown : s_.vm.findClass RL = some m_.cls := hown
  have hA : ∀ q_ : Nat, s_.heap.size ≤ q_ → (fun q_ : Nat => s_.heap.size ≤ q_) q_ := fun _ h_ => h_
  have hbA : ¬ (fun q_ : Nat => s_.heap.size ≤ q_) b0 := Nat.not_le.mpr hbl
  refine lv_aload_n hx hb_ dL_law_1104 rfl (lv_at hl 1 rfl) ?_
  refine lv_aload_n hx hb_ dL_law_1105 rfl (lv_at hl 3 rfl) ?_
  have hPc := hP.sub (ws' := wX cI cZ x_ a_ S ++ [wO cJ ou fo]) [0, 1, 2, 3, 4, 5, 6, 7, 8, 9, 10, 11, 12, 13, 28] rfl
  have hDc := hD.sub (ws' := wX cI cZ x_ a_ S ++ [wO cJ ou fo]) [0, 1, 2, 3, 4, 5, 6, 7, 8, 9, 10, 11, 12, 13, 28] (by decide) rfl
  have hFc := va_free (wc := wX cI cZ x_ a_ S ++ [wO cJ ou fo]) hD hS_ hA [0, 1, 2, 3, 4, 5, 6, 7, 8, 9, 10, 11, 12, 13, 28] rfl
  have hGH : xG (fun q_ => s_.heap.size ≤ q_) s_ H := hG.kept (fun q_ h1 h2 => hS_.2.1 q_ h1 h2)
  refine va_calli (vx_runSW (As := [.ref x_, .ref ou]) (rest := []) ⟨hx, hb_, hml, hown, hts⟩ (c_L_endPlay l hfl D cI cZ cJ x_ ou a_ S fo H.size  (10 + 24 * k_) hI_ (by omega)) (vx_cwSW 2 hts gL_law_L_endPlay rfl rfl rfl (by decide +kernel) ⟨Nat.le_of_ble_eq_true rfl, Nat.le_of_ble_eq_true rfl⟩) (pL_S (pW_S hPc hK_ hDc) hGH (fun _ h_ => Nat.le_trans hS_.1 h_) hN_) rfl rfl hl.1 rfl (lv_room (Nat.le_of_ble_eq_true rfl)) dL_law_1106 ⟨by show _ ≤ 1073; omega, by show _ ≤ 8742; omega⟩) hS_ (fun q_ _ h_ => hFc q_ h_) hFc (fun r1 u1 t9 H1 locs ht9 hvm9 hw hB9 hz9 hk9 hS_ => ?_)
  obtain ⟨S1, f1⟩ := u1
  obtain ⟨v1, hw1, ho⟩ := hw
  have hJ9 := va_join (wr := wM cI y_ b_ S t_) hP hD [0, 1, 2, 3, 4, 5, 6, 7, 8, 9, 10, 11, 12, 13, 28] [14, 15, 16, 17, 18, 19, 20, 21, 22, 23, 24, 25, 26, 27] rfl rfl (by decide) (by decide) hk9 hFc (atW_P hB9 ht9) hB9.2
  have hP : va_P D vwCl (wW cI cZ cJ x_ y_ ou a_ b_ S1 S t_ f1) H1 := hJ9.1.sub [14, 15, 16, 17, 18, 19, 20, 21, 22, 23, 24, 25, 26, 27, 0, 1, 2, 3, 4, 5, 6, 7, 8, 9, 10, 11, 12, 13, 28] rfl
  have hD : va_D (fun q_ : Nat => s_.heap.size ≤ q_) (wW cI cZ cJ x_ y_ ou a_ b_ S1 S t_ f1) := hJ9.2.sub [14, 15, 16, 17, 18, 19, 20, 21, 22, 23, 24, 25, 26, 27, 0, 1, 2, 3, 4, 5, 6, 7, 8, 9, 10, 11, 12, 13, 28] (by decide) rfl
  generalize H1 = H at hP hS_ ⊢
  refine lv_istore (lv' := [(5, .int r1), (0, .ref b0), (1, .ref x_), (2, .ref y_), (3, .ref ou), (4, .int i4_)]) hx hb_ dL_law_1109 hl (by decide) rfl (fun ls hl => ?_)
  refine lv_aload_n hx hb_ dL_law_1111 rfl (lv_at hl 3 rfl) ?_
  have hPc := hP.sub (ws' := wM cI y_ b_ S t_) [14, 15, 16, 17, 18, 19, 20, 21, 22, 23, 24, 25, 26, 27] rfl
  have hDc := hD.sub (ws' := wM cI y_ b_ S t_) [14, 15, 16, 17, 18, 19, 20, 21, 22, 23, 24, 25, 26, 27] (by decide) rfl
  have hFc := va_free (wc := wM cI y_ b_ S t_) hD hS_ hA [14, 15, 16, 17, 18, 19, 20, 21, 22, 23, 24, 25, 26, 27] rfl
  refine va_calli (va_runV (As := []) (rest := []) ⟨hx, hb_, hml, hown, hts⟩ (c_X1_endPlay l D cI y_ b_ S t_ H.size  (10 + 24 * k_) hI_) (cwV 0 hts gL_law_X1_endPlay rfl rfl rfl (by decide +kernel) ⟨Nat.le_of_ble_eq_true rfl, Nat.le_of_ble_eq_true rfl⟩) (pW_V (ci := 1) hPc (hK_.sub (tys' := tyM cI) [0] rfl) hDc rfl rfl) rfl rfl hl.1 rfl (lv_room (Nat.le_of_ble_eq_true rfl)) dL_law_1112 ⟨by show _ ≤ 1073; omega, by show _ ≤ 8742; omega⟩) hS_ (fun q_ _ h_ => hFc q_ h_) hFc (fun r2 u2 t9 H1 locs ht9 hvm9 hw2 hB9 hz9 hk9 hS_ => ?_)
  obtain ⟨S2, t2⟩ := u2
  have hJ9 := va_join (wr := wX cI cZ x_ a_ S1 ++ [wO cJ ou f1]) hP hD [14, 15, 16, 17, 18, 19, 20, 21, 22, 23, 24, 25, 26, 27] [0, 1, 2, 3, 4, 5, 6, 7, 8, 9, 10, 11, 12, 13, 28] rfl rfl (by decide) (by decide) hk9 hFc (atW_P hB9 ht9) hB9.2
  have hP : va_P D vwCl (wW cI cZ cJ x_ y_ ou a_ b_ S1 S2 t2 f1) H1 := hJ9.1.sub [0, 1, 2, 3, 4, 5, 6, 7, 8, 9, 10, 11, 12, 13, 15, 16, 17, 18, 19, 20, 21, 22, 23, 24, 25, 26, 27, 28, 14] rfl
  have hD : va_D (fun q_ : Nat => s_.heap.size ≤ q_) (wW cI cZ cJ x_ y_ ou a_ b_ S1 S2 t2 f1) := hJ9.2.sub [0, 1, 2, 3, 4, 5, 6, 7, 8, 9, 10, 11, 12, 13, 15, 16, 17, 18, 19, 20, 21, 22, 23, 24, 25, 26, 27, 28, 14] (by decide) rfl
  generalize H1 = H at hP hS_ ⊢
  obtain ⟨e1_, e23_⟩ := Prod.mk.inj (hw1.symm.trans hw2)
  obtain ⟨e2_, e3_⟩ := Prod.mk.inj e23_
  subst e1_
  subst e2_
  subst e3_
  have hI0 : Inv (10 + 24 * k_ + 24) (k_endPlay S).2.2 := keep_endPlay hI_ (by omega)
  rw [hw1] at hI0
  have hI1 : Inv (10 + 24 * (k_ + 1)) S1 := Inv.mono hI0 (by omega)
  refine lv_istore (lv' := [(6, .int v1), (5, .int r1), (0, .ref b0), (1, .ref x_), (2, .ref y_), (3, .ref ou), (4, .int i4_)]) hx hb_ dL_law_1115 hl (by decide) rfl (fun ls hl => ?_)
  refine lv_aload_n hx hb_ dL_law_1117 rfl (lv_at hl 4 rfl) ?_
  have hPc := hP.sub (ws' := wM cI y_ b_ S1 r1) [14, 15, 16, 17, 18, 19, 20, 21, 22, 23, 24, 25, 26, 27] rfl
  refine vp_callSi (W.runV (As := []) (rest := []) ⟨hx, hb_, hml, hown, hts⟩ (c_X1_thrown l D cI y_ b_ S1 r1  ) (cwV 0 hts gL_law_X1_thrown rfl rfl rfl (by decide +kernel) ⟨Nat.le_of_ble_eq_true rfl, Nat.le_of_ble_eq_true rfl⟩) (pR_V (ci := 1) hPc (hK_.sub (tys' := tyM cI) [0] rfl) rfl rfl) rfl rfl hl.1 rfl (lv_room (Nat.le_of_ble_eq_true rfl)) dL_law_1118 ⟨by show _ ≤ 1073; omega, by show _ ≤ 8742; omega⟩) (fun r3 h3 => ?_)
  subst h3
  refine lv_iload hx hb_ dL_law_1121 (lv_at hl 1 rfl) ?_
  refine lv_icmp_eq (tgt := 1128) hx hb_ dL_law_1123 (by decide) (fun c_1123 => ?_) (fun c_1123 => absurd rfl c_1123)
  refine lv_iload hx hb_ dL_law_1128 (lv_at hl 1 rfl) ?_
  refine lv_if_ne (tgt := 1145) hx hb_ dL_law_1130 (by decide) (fun c0 => ?_) (fun c0 => ?_)
  · skip
    refine lv_goto (tgt := 1161) hx hb_ dL_law_1145 (by decide) ?_
    refine W.widen (k := 29 + k_ + 1) (n := 430 + 6 * k_ + 6) (by omega) (by omega) ?_
    exact kont S1 r1 f1 hI1 _ _ hP hD hS_ _ (lv_sub hl [2, 3, 4, 5, 6] rfl)
  · skip
    refine lv_aload_n hx hb_ dL_law_1133 rfl (lv_at hl 5 rfl) ?_
    refine lv_iconst (v := 0) hx hb_ dL_law_1134 (by decide) ?_
    refine va_lald (f := f1) (n := 1) hx hb_ hK_ hP 28 2 rfl rfl vin01 dL_law_1135 ?_
    refine lv_iload hx hb_ dL_law_1136 (lv_at hl 0 rfl) ?_
    refine lv_i2l (v := v1.toInt64) hx hb_ dL_law_1138 rfl ?_
    refine W.lcmp hx hb_ dL_law_1139 ?_
    refine lv_if_eq (tgt := 1145) hx hb_ dL_law_1140 (by decide) (fun _ => ?_) (fun z_ => absurd ((lg_cmp_eq _ _).mpr (ho c0)) z_)
    refine lv_goto (tgt := 1161) hx hb_ dL_law_1145 (by decide) ?_
    refine W.widen (k := 29 + k_ + 1) (n := 430 + 6 * k_ + 6) (by omega) (by omega) ?_
    exact kont S1 r1 f1 hI1 _ _ hP hD hS_ _ (lv_sub hl [2, 3, 4, 5, 6] rfl)
set_option maxHeartbeats 4000000 in
set_option maxRecDepth 100000 in
theorem law_case_19 {p_ : Program} {l : Launch} {e : Env} {s_ : State} {m_ : MethodId} {below : List Frame} {meth : Method} {c_ : Code} {D : va_G} {cI cZ cJ : ClassId} {b0 L : Nat} {xs : Nat → Int32} {x_ y_ ou : Nat} {a_ b_ : Nat → Nat} (hL : L ≤ 2560) (hfl : l.stackTraces = false) (C0_ : lw_At p_ s_ m_ meth c_ b0 L xs) (hG : xG (fun q_ => s_.heap.size ≤ q_) s_ s_.heap) (hN_ : xN s_) (hK_ : va_K D vwCl (tyL cI cZ cJ) s_) {k_ : Nat} {i4_ : Int32} (hk : 5 * k_ + 5 ≤ L) (e4_ : i4_ = nI (5 * k_)) {S : ST} {t_ : Int32} {fo : Nat → Int64} (hI_ : Inv (10 + 24 * k_) S) {H : Heap} {locs : List Loc} (hP : va_P D vwCl (wW cI cZ cJ x_ y_ ou a_ b_ S S t_ fo) H) (hD : va_D (fun q_ : Nat => s_.heap.size ≤ q_) (wW cI cZ cJ x_ y_ ou a_ b_ S S t_ fo)) (hS_ : va_S (fun q_ : Nat => s_.heap.size ≤ q_) s_.heap H locs) {ls : Array Slot} (hl : lv_has ls 7 [(0, .ref b0), (1, .ref x_), (2, .ref y_), (3, .ref ou), (4, .int i4_)]) (kont : ∀ (S' : ST) (t' : Int32) (f' : Nat → Int64), Inv (10 + 24 * (k_ + 1)) S' → ∀ (H : Heap) (locs : List Loc), va_P D vwCl (wW cI cZ cJ x_ y_ ou a_ b_ S' S' t' f') H → va_D (fun q_ : Nat => s_.heap.size ≤ q_) (wW cI cZ cJ x_ y_ ou a_ b_ S' S' t' f') → va_S (fun q_ : Nat => s_.heap.size ≤ q_) s_.heap H locs → ∀ ls : Array Slot, lv_has ls 7 [(0, .ref b0), (1, .ref x_), (2, .ref y_), (3, .ref ou), (4, .int i4_)] → W p_ l e room_1 s_ m_ #[Value.ref b0] below meth c_ H locs (29 + k_ + 1) (430 + 6 * k_ + 6) (lw_Z below #[Value.ref b0] s_) (F0 m_ 1161 ls [])) : W p_ l e room_1 s_ m_ #[Value.ref b0] below meth c_ H locs (29 + k_) (430 + 6 * k_) (lw_Z below #[Value.ref b0] s_) (F0 m_ 1148 ls []) := by
  obtain ⟨hx, hb_, hr, hml, hown, hts, hX, hbl, hlocks, hgv⟩ := C0_
  have hts := fun w_ h_ => hts w_ (wsL_law_in w_ h_)
  have hown : s_.vm.findClass RL = some m_.cls := hown
  have hA : ∀ q_ : Nat, s_.heap.size ≤ q_ → (fun q_ : Nat => s_.heap.size ≤ q_) q_ := fun _ h_ => h_
  have hbA : ¬ (fun q_ : Nat => s_.heap.size ≤ q_) b0 := Nat.not_le.mpr hbl
  refine lv_aload_n hx hb_ dL_law_1148 rfl (lv_at hl 1 rfl) ?_
  have hPc := hP.sub (ws' := wX cI cZ x_ a_ S) [0, 1, 2, 3, 4, 5, 6, 7, 8, 9, 10, 11, 12, 13] rfl
  refine vp_callSi (W.runV (As := []) (rest := []) ⟨hx, hb_, hml, hown, hts⟩ (c_X0_plays l D cI cZ x_ a_ S  ) (cwV 0 hts gL_law_X0_plays rfl rfl rfl (by decide +kernel) ⟨Nat.le_of_ble_eq_true rfl, Nat.le_of_ble_eq_true rfl⟩) (pR_V (ci := 0) hPc (hK_.sub (tys' := tyX cI cZ) [0, 1] rfl) rfl rfl) rfl rfl hl.1 rfl (lv_room (Nat.le_of_ble_eq_true rfl)) dL_law_1149 ⟨by show _ ≤ 1073; omega, by show _ ≤ 8742; omega⟩) (fun r3 h3 => ?_)
  subst h3
  refine lv_aload_n hx hb_ dL_law_1152 rfl (lv_at hl 2 rfl) ?_
  have hPc := hP.sub (ws' := wM cI y_ b_ S t_) [14, 15, 16, 17, 18, 19, 20, 21, 22, 23, 24, 25, 26, 27] rfl
  have hDc := hD.sub (ws' := wM cI y_ b_ S t_) [14, 15, 16, 17, 18, 19, 20, 21, 22, 23, 24, 25, 26, 27] (by decide) rfl
  have hFc := va_free (wc := wM cI y_ b_ S t_) hD hS_ hA [14, 15, 16, 17, 18, 19, 20, 21, 22, 23, 24, 25, 26, 27] rfl
  refine va_calli (va_runV (As := []) (rest := [.int (S 15 0)]) ⟨hx, hb_, hml, hown, hts⟩ (c_X1_plays l D cI y_ b_ S t_ H.size  ) (cwV 0 hts gL_law_X1_plays rfl rfl rfl (by decide +kernel) ⟨Nat.le_of_ble_eq_true rfl, Nat.le_of_ble_eq_true rfl⟩) (pW_V (ci := 1) hPc (hK_.sub (tys' := tyM cI) [0] rfl) hDc rfl rfl) rfl rfl hl.1 rfl (lv_room (Nat.le_of_ble_eq_true rfl)) dL_law_1153 ⟨by show _ ≤ 1073; omega, by show _ ≤ 8742; omega⟩) hS_ (fun q_ _ h_ => hFc q_ h_) hFc (fun r2 u2 t9 H1 locs ht9 hvm9 hw2 hB9 hz9 hk9 hS_ => ?_)
  obtain ⟨S2, t2⟩ := u2
  have hJ9 := va_join (wr := wX cI cZ x_ a_ S ++ [wO cJ ou fo]) hP hD [14, 15, 16, 17, 18, 19, 20, 21, 22, 23, 24, 25, 26, 27] [0, 1, 2, 3, 4, 5, 6, 7, 8, 9, 10, 11, 12, 13, 28] rfl rfl (by decide) (by decide) hk9 hFc (atW_P hB9 ht9) hB9.2
  have hP : va_P D vwCl (wW cI cZ cJ x_ y_ ou a_ b_ S S2 t2 fo) H1 := hJ9.1.sub [0, 1, 2, 3, 4, 5, 6, 7, 8, 9, 10, 11, 12, 13, 15, 16, 17, 18, 19, 20, 21, 22, 23, 24, 25, 26, 27, 28, 14] rfl
  have hD : va_D (fun q_ : Nat => s_.heap.size ≤ q_) (wW cI cZ cJ x_ y_ ou a_ b_ S S2 t2 fo) := hJ9.2.sub [0, 1, 2, 3, 4, 5, 6, 7, 8, 9, 10, 11, 12, 13, 15, 16, 17, 18, 19, 20, 21, 22, 23, 24, 25, 26, 27, 28, 14] (by decide) rfl
  generalize H1 = H at hP hS_ ⊢
  obtain ⟨e1_, e2_⟩ := hw2
  obtain ⟨e3_, e4b⟩ := Prod.mk.inj e2_
  subst e1_
  subst e3_
  subst e4b
  have hI1 : Inv (10 + 24 * (k_ + 1)) S := hI_.mono (by omega)
  refine lv_icmp_eq (tgt := 1161) hx hb_ dL_law_1156 (by decide) (fun c_1156 => ?_) (fun c_1156 => absurd rfl c_1156)
  refine W.widen (k := 29 + k_ + 1) (n := 430 + 6 * k_ + 6) (by omega) (by omega) ?_
  exact kont S 0 fo hI1 _ _ hP hD hS_ _ (lv_sub hl [0, 1, 2, 3, 4] rfl)
