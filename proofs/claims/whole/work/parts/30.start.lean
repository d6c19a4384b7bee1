theorem D_start {s_ : State} {args : Array Value} (hts : ∀ w_ ∈ wsL_law, w_.before args s_ = true) : ∃ D : va_G, va_K D vwCl [] s_ := by
  obtain ⟨dX, iX, hX⟩ := u_known (C := RX0) (T := TX0) (N := 17) (n := 17) hts inlX0 (hts (.instantiable RX0 17) (by decide +kernel))
  obtain ⟨dM, iM, hM⟩ := u_known (C := RX1) (T := TX1) (N := 18) (n := 18) hts inlX1 (hts (.instantiable RX1 18) (by decide +kernel))
  refine ⟨((fun k_ => if k_ = 0 then dX else dM), (fun k_ => if k_ = 0 then iX else iM)), fun c_ q_ hq => ?_, fun k_ q_ hq => ?_⟩
  · match c_, hq with
    | 0, hq =>
      obtain rfl := Option.some.inj hq
      exact hX
    | 1, hq =>
      obtain rfl := Option.some.inj hq
      exact hM
    | (n_ + 2), hq => exact absurd hq (by simp [vwCl])
  · exact absurd hq (by simp)
theorem G_words : ∀ w_ ∈ xB, w_ ∈ lw_tbl := by decide +kernel
theorem G_strT : ∀ q_ ∈ xStr, Cond.stringRef RX0 q_.1 q_.2 ∈ lw_tbl := by decide +kernel
theorem G_strE : ∀ q_ ∈ xStr, Cond.exactly (Term.string RX0 q_.1) "java/lang/String" ∈ flatC (Jvm.Cond.and given_1 narrow_1) := by decide +kernel
theorem G_start {s_ : State} {args : Array Value} (hts : ∀ w_ ∈ lw_tbl, w_.before args s_ = true) (hgv : (Jvm.Cond.and given_1 narrow_1).before args s_ = true) : xG (fun q_ => s_.heap.size ≤ q_) s_ s_.heap := by
  have hs := flat_of_before _ hgv
  refine ⟨?_, ?_, fun w_ hw => va_Nw.of (xB_tabs w_ hw) (hts w_ (G_words w_ hw)), fun q_ hq => ?_⟩
  · exact vx_Zqof (hts (.laysStatic Bundle.tN "UNASSIGNED_STACK" Bundle.steD) (by decide +kernel)) (hts (.initialized Bundle.tN) (by decide +kernel)) (hs (.isRef (.static Bundle.tN "UNASSIGNED_STACK" Bundle.steD)) (by decide +kernel)) (fun a_ h_ => Nat.not_le.mpr h_)
  · exact vx_Zqof (hts (.laysStatic Bundle.tN "SUPPRESSED_SENTINEL" Bundle.listD) (by decide +kernel)) (hts (.initialized Bundle.tN) (by decide +kernel)) (hs (.isRef (.static Bundle.tN "SUPPRESSED_SENTINEL" Bundle.listD)) (by decide +kernel)) (fun a_ h_ => Nat.not_le.mpr h_)
  · obtain ⟨sa, -, -, -, hev, -⟩ := Cond.exactly_spec (hs _ (G_strE q_ hq))
    exact ⟨sa, vk_R.of (hts _ (G_strT q_ hq)) hev⟩
theorem N_start {s_ : State} {args : Array Value} (hgv : (Jvm.Cond.and given_1 narrow_1).before args s_ = true) : xN s_ := by
  have hs := flat_of_before _ hgv
  exact ⟨va_Nc.of (hs (.not (.castable xIA xIO)) (by decide +kernel)), va_Nc.of (hs (.not (.castable xIS xIO)) (by decide +kernel)), va_Nc.of (hs (.not (.castable xIS xIA)) (by decide +kernel)), va_Nc.of (hs (.not (.castable xIO xIA)) (by decide +kernel))⟩
abbrev fX0 : List Value := [.null, .null, .null, .null, .null, .null, .null, .null, .null, .null, .int 0, .int 0, .null, .null, .int 0, .int 0, .null]
abbrev fX1 : List Value := [.null, .null, .null, .null, .null, .null, .null, .null, .null, .null, .int 0, .int 0, .null, .null, .null, .int 0, .int 0, .int 0]
theorem fX0_ok : ∀ j_, j_ < 17 → defaultValue (tyX0 j_) = vp_V fX0 j_ := by decide +kernel
theorem fX1_ok : ∀ j_, j_ < 18 → defaultValue (tyX1 j_) = vp_V fX1 j_ := by decide +kernel
set_option maxHeartbeats 4000000 in
set_option maxRecDepth 100000 in
theorem whole_start {p_ : Program} {e_ : Env} {s_ : State} {m_ : MethodId} {below : List Frame} {meth : Method} {c_ : Code} (l : Launch) (hflags : l.flags = flags0) {b_ L : Nat} {xs : Nat → Int32} (hL : L ≤ 2560) (C0_ : lw_At p_ s_ m_ meth c_ b_ L xs) : W p_ l e_ room_1 s_ m_ #[Value.ref b_] below meth c_ s_.heap [] 0 0 (lw_Z below #[Value.ref b_] s_) (entryFrame m_ ([Value.ref b_] : List Value).toArray 7) := by
  have C1 := C0_
  obtain ⟨hx, hb_, hr, hml, hown, htb, hX, hbl, hlocks, hgv⟩ := C1
  have hts : ∀ w_ ∈ wsL_law, w_.before #[Value.ref b_] s_ = true := fun w_ h_ => htb w_ (wsL_law_in w_ h_)
  have hown : s_.vm.findClass RL = some m_.cls := hown
  have hfl : l.stackTraces = false := by
    unfold Launch.stackTraces
    rw [hflags]
    decide +kernel
  have hG := G_start htb hgv
  have hN_ := N_start hgv
  obtain ⟨D, hK_⟩ := D_start hts
  have hA : ∀ q_ : Nat, s_.heap.size ≤ q_ → (fun q_ : Nat => s_.heap.size ≤ q_) q_ := fun _ h_ => h_
  have hP : va_P D vwCl [] s_.heap := fun k_ q_ h_ => absurd h_ (by simp)
  have hD : va_D (fun q_ : Nat => s_.heap.size ≤ q_) [] := ⟨fun i j_ p_ q_ h_ => absurd h_ (by simp), fun k_ q_ h_ => absurd h_ (by simp)⟩
  have hS_ : va_S (fun q_ : Nat => s_.heap.size ≤ q_) s_.heap s_.heap [] := va_S.rf
  have hl := lv_entry ([.ref b_]) (n := 7) (Nat.le_of_ble_eq_true rfl)
  rw [lg_entry_eq]
  generalize (lg_sl ([.ref b_]) ++ List.replicate (7 - (lg_sl ([.ref b_])).length) Slot.unset).toArray = ls at hl ⊢
  have hl : lv_has ls 7 [(0, .ref b_)] := hl
  refine va_new (C := RX0) (T := TX0) (N := 17) (ci := 0) (fs := fX0) hx hb_ hts inlX0 tyX0 tyX0_ok hown (hts (.classLink RL 8 RX0) (by decide +kernel)) (hts (.instantiable RX0 17) (by decide +kernel)) (hts (.initialized RX0) (by decide +kernel)) hK_ hP hD hS_ hA rfl fX0_ok (Nat.le_of_ble_eq_true rfl) (Nat.le_of_ble_eq_true rfl) dL_law_0 (fun x_ H hP hD hS_ => ?_)
  have hP : va_P D vwCl [(x_, .inr (0, fX0))] H := hP
  have hD : va_D (fun q_ : Nat => s_.heap.size ≤ q_) [(x_, .inr (0, fX0))] := hD
  refine W.widen (k := 1) (n := 17) (Nat.le_refl _) (Nat.le_refl _) ?_
  refine lv_dup hx hb_ dL_law_3 rfl ?_
  have hFc := va_free (wc := [(x_, .inr (0, fX0))]) hD hS_ hA [0] rfl
  refine va_callv (va_runI (As := []) (rest := [.ref x_]) ⟨hx, hb_, hml, hown, hts⟩ (c_X0_init l D x_ H.size) (cwI 0 hts gL_law_X0_init rfl rfl rfl (hts (.initialized RX0) (by decide +kernel)) (hts (.methodLink RL 69 yX0_init) (by decide +kernel)) (hts (.instanceMethod yX0_init) (by decide +kernel)) rfl (by decide +kernel) ⟨Nat.le_of_ble_eq_true rfl, Nat.le_of_ble_eq_true rfl⟩) (pW_S hP hK_ hD) rfl rfl hl.1 rfl (lv_room (Nat.le_of_ble_eq_true rfl)) dL_law_4 ⟨Nat.le_of_ble_eq_true rfl, Nat.le_of_ble_eq_true rfl⟩) hS_ (fun q_ _ h_ => hFc q_ h_) hFc (fun u1_ t9 H1 locs ht9 hvm9 _ hw hz9 hk9 hS_ => ?_)
  obtain ⟨cI, cZ, a_, ⟨hP1, hK1⟩, hD1⟩ := hw
  have hK_ := va_K.moved hvm9.symm hK1
  have hP : va_P D vwCl (wX cI cZ x_ a_ S00) H1 := by rw [← ht9]; exact hP1
  have hD : va_D (fun q_ : Nat => s_.heap.size ≤ q_) (wX cI cZ x_ a_ S00) := hD1.weaken (fun _ q_ _ h_ => hFc q_.1 h_)
  clear hP1 hD1 hFc hk9 hz9 ht9
  refine W.widen (k := 14) (n := 214) (Nat.le_refl _) (Nat.le_refl _) ?_
  refine lv_astore_n (lv' := [(1, .ref x_), (0, .ref b_)]) hx hb_ dL_law_7 rfl hl (by decide) rfl (fun ls hl => ?_)
  have hK0 : va_K D vwCl [] s_ := hK_.sub [] rfl
  refine va_new (C := RX1) (T := TX1) (N := 18) (ci := 1) (fs := fX1) hx hb_ hts inlX1 tyX1 tyX1_ok hown (hts (.classLink RL 70 RX1) (by decide +kernel)) (hts (.instantiable RX1 18) (by decide +kernel)) (hts (.initialized RX1) (by decide +kernel)) hK_ hP hD hS_ hA rfl fX1_ok (Nat.le_of_ble_eq_true rfl) (Nat.le_of_ble_eq_true rfl) dL_law_8 (fun y_ H hP hD hS_ => ?_)
  have hP : va_P D vwCl (wX cI cZ x_ a_ S00 ++ [(y_, .inr (1, fX1))]) H := hP
  have hD : va_D (fun q_ : Nat => s_.heap.size ≤ q_) (wX cI cZ x_ a_ S00 ++ [(y_, .inr (1, fX1))]) := hD
  refine W.widen (k := 15) (n := 232) (Nat.le_refl _) (Nat.le_refl _) ?_
  refine lv_dup hx hb_ dL_law_11 rfl ?_
  have hPc := hP.sub (ws' := [(y_, .inr (1, fX1))]) [14] rfl
  have hDc := hD.sub (ws' := [(y_, .inr (1, fX1))]) [14] (by decide) rfl
  have hFc := va_free (wc := [(y_, .inr (1, fX1))]) hD hS_ hA [14] rfl
  refine va_callv (va_runI (As := []) (rest := [.ref y_]) ⟨hx, hb_, hml, hown, hts⟩ (c_X1_init l D y_ H.size) (cwI 0 hts gL_law_X1_init rfl rfl rfl (hts (.initialized RX1) (by decide +kernel)) (hts (.methodLink RL 72 yX1_init) (by decide +kernel)) (hts (.instanceMethod yX1_init) (by decide +kernel)) rfl (by decide +kernel) ⟨Nat.le_of_ble_eq_true rfl, Nat.le_of_ble_eq_true rfl⟩) (pW_S hPc hK0 hDc) rfl rfl hl.1 rfl (lv_room (Nat.le_of_ble_eq_true rfl)) dL_law_12 ⟨Nat.le_of_ble_eq_true rfl, Nat.le_of_ble_eq_true rfl⟩) hS_ (fun q_ _ h_ => hFc q_ h_) hFc (fun u2_ t9 H1 locs ht9 hvm9 _ hw hz9 hk9 hS_ => ?_)
  obtain ⟨cI2, bb, ⟨hP1, hK1⟩, hD1⟩ := hw
  have hKM := va_K.moved hvm9.symm hK1
  have ecI : cI = cI2 := Option.some.inj ((hK_.2 0 _ rfl).2.symm.trans (hKM.2 0 _ rfl).2)
  subst ecI
  have hJ9 := va_join (wr := wX cI cZ x_ a_ S00) hP hD [14] [0, 1, 2, 3, 4, 5, 6, 7, 8, 9, 10, 11, 12, 13] rfl rfl (by decide) (by decide) hk9 hFc (by rw [← ht9]; exact hP1) hD1
  have hP := hJ9.1
  have hD := hJ9.2
  clear hJ9 hP1 hD1 hFc hk9 hz9 ht9 hPc hDc
  refine W.widen (k := 28) (n := 429) (Nat.le_refl _) (Nat.le_refl _) ?_
  refine lv_astore_n (lv' := [(2, .ref y_), (1, .ref x_), (0, .ref b_)]) hx hb_ dL_law_15 rfl hl (by decide) rfl (fun ls hl => ?_)
  refine lv_iconst (v := 1) hx hb_ dL_law_16 (by decide) ?_
  refine va_newa (atype := .long) (ty := .long) (N' := 1) (a0 := (1, .inr (.inl (fun _ => 0)))) hx hb_ (hts (.arrayClass .long) (by decide +kernel)) rfl hK_ hP hD hS_ hA (fun _ => rfl) (by decide) (by decide) (Nat.le_of_ble_eq_true rfl) (Nat.le_of_ble_eq_true rfl) (Nat.le_of_ble_eq_true rfl) dL_law_17 (fun ou cJ H hK_ hP hD hS_ => ?_)
  have hK_ : va_K D vwCl (tyL cI cZ cJ) s_ := hK_
  have hP : va_P D vwCl (wW cI cZ cJ x_ y_ ou a_ bb S00 S00 0 (fun _ => 0)) H := hP
  have hD : va_D (fun q_ : Nat => s_.heap.size ≤ q_) (wW cI cZ cJ x_ y_ ou a_ bb S00 S00 0 (fun _ => 0)) := hD
  refine lv_astore_n (lv' := [(3, .ref ou), (2, .ref y_), (1, .ref x_), (0, .ref b_)]) hx hb_ dL_law_19 rfl hl (by decide) rfl (fun ls hl => ?_)
  refine lv_iconst (v := 0) hx hb_ dL_law_20 (by decide) ?_
  refine lv_istore (lv' := [(4, .int 0), (3, .ref ou), (2, .ref y_), (1, .ref x_), (0, .ref b_)]) hx hb_ dL_law_21 hl (by decide) rfl (fun ls hl => ?_)
  refine W.widen (k := 29 + 0) (n := 430 + 6 * 0) (by decide) (by decide) ?_
  exact law_loop hL hfl C0_ hG hN_ hK_ (L + 1) 0 0 (Nat.zero_le _) (by omega) rfl S00 0 (fun _ => 0) (Inv.mono Inv.new (by omega)) H _ hP hD hS_ _ (lv_sub hl [4, 3, 2, 1, 0] rfl)
