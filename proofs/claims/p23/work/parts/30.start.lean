theorem D_start {s_ : State} {args : Array Value} (hts : ∀ w_ ∈ wsL_law, w_.before args s_ = true) : ∃ D : va_G, va_K D vwCl [] s_ := by
  obtain ⟨dX, iX, hX⟩ := u_known (C := RX0) (T := TX0) (N := 17) (n := 17) hts inlX0 (hts (.instantiable RX0 17) (by decide +kernel))
  refine ⟨((fun _ => dX), (fun _ => iX)), fun c_ q_ hq => ?_, fun k_ q_ hq => ?_⟩
  · match c_, hq with
    | 0, hq =>
      obtain rfl := Option.some.inj hq
      exact hX
    | (n_ + 1), hq => exact absurd hq (by simp [vwCl])
  · exact absurd hq (by simp)
theorem G_words : ∀ w_ ∈ xB, w_ ∈ lw_tbl := by decide +kernel
theorem G_strT : ∀ q_ ∈ xStr, Cond.stringRef RX0 q_.1 q_.2 ∈ lw_tbl := by decide +kernel
theorem G_strE : ∀ q_ ∈ xStr, Cond.exactly (Term.string RX0 q_.1) "java/lang/String" ∈ flatC (Jvm.Cond.and given_1 narrow_1) := by decide +kernel
theorem G_start {s_ : State} {args : Array Value} (hts : ∀ w_ ∈ lw_tbl, w_.before args s_ = true) (hgv : (Jvm.Cond.and given_1 narrow_1).before args s_ = true) : xG (fun q_ => s_.heap.size ≤ q_) s_ s_.heap := by
  have hs := flat_of_before _ hgv
  refine ⟨?_, ?_, fun w_ hw => va_Nw.of (xB_tabs w_ hw) (hts w_ (G_words w_ hw)), fun q_ hq => ?_⟩
  · exact vx_Zqof (hts (.laysStatic Bundle.tN "UNASSIGNED_STACK" Bundle.steD) (by decide +kernel)) (hts (.initialized Bundle.tN) (by decide +kernel)) (hs (.isRef (.static Bundle.tN "UNASSIGNED_STACK" Bundle.steD)) (by decide +kernel)) (fun a_ h_ => Nat.not_le.mpr h_)
  · exact vx_Zqof (hts (.laysStatic Bundle.tN "SUPPRESSED_SENTINEL" Bundle.listD) (by decide +kernel)) (hts (.initialized Bundle.tN) (by decide +kernel)) (hs (.isRef (.static Bundle.tN "SUPPRESSED_SENTINEL" Bundle.listD)) (by decide +kernel)) (fun a_ h_ => Nat.not_le.mpr h_)
  · obtain ⟨sa, -, -, -, hev, -⟩ := Cond.exactly_spec (hs _ (G_strE q_ hq))
    exact ⟨sa, vk_R.of (hts _ (G_strT q_ hq)) hev⟩
abbrev fX0 : List Value := [.null, .null, .null, .null, .null, .null, .null, .null, .null, .null, .int 0, .int 0, .null, .null, .int 0, .int 0, .null]
theorem fX0_ok : ∀ j_, j_ < 17 → defaultValue (tyX0 j_) = vp_V fX0 j_ := by decide +kernel
set_option maxHeartbeats 4000000 in
set_option maxRecDepth 100000 in
theorem whole_start {p_ : Program} {e_ : Env} {s_ : State} {m_ : MethodId} {below : List Frame} {meth : Method} {c_ : Code} (l : Launch) (hflags : l.flags = flags0) {b_ L : Nat} {xs : Nat → Int32} (hL : L ≤ 260) (C0_ : lw_At p_ s_ m_ meth c_ b_ L xs) : W p_ l e_ room_1 s_ m_ #[Value.ref b_] below meth c_ s_.heap [] 0 0 (lw_Z below #[Value.ref b_] s_) (entryFrame m_ ([Value.ref b_] : List Value).toArray 8) := by
  have C1 := C0_
  obtain ⟨hx, hb_, hr, hml, hown, htb, hX, hbl, hlocks, hgv⟩ := C1
  have hts : ∀ w_ ∈ wsL_law, w_.before #[Value.ref b_] s_ = true := fun w_ h_ => htb w_ (wsL_law_in w_ h_)
  have hown : s_.vm.findClass RL = some m_.cls := hown
  have hfl : l.stackTraces = false := by
    unfold Launch.stackTraces
    rw [hflags]
    decide +kernel
  have hG := G_start htb hgv
  obtain ⟨D, hK_⟩ := D_start hts
  have hA : ∀ q_ : Nat, s_.heap.size ≤ q_ → (fun q_ : Nat => s_.heap.size ≤ q_) q_ := fun _ h_ => h_
  have hP : va_P D vwCl [] s_.heap := fun k_ q_ h_ => absurd h_ (by simp)
  have hD : va_D (fun q_ : Nat => s_.heap.size ≤ q_) [] := ⟨fun i j_ p_ q_ h_ => absurd h_ (by simp), fun k_ q_ h_ => absurd h_ (by simp)⟩
  have hS_ : va_S (fun q_ : Nat => s_.heap.size ≤ q_) s_.heap s_.heap [] := va_S.rf
  have hl := lv_entry ([.ref b_]) (n := 8) (Nat.le_of_ble_eq_true rfl)
  rw [lg_entry_eq]
  generalize (lg_sl ([.ref b_]) ++ List.replicate (8 - (lg_sl ([.ref b_])).length) Slot.unset).toArray = ls at hl ⊢
  have hl : lv_has ls 8 [(0, .ref b_)] := hl
  refine va_new (C := RX0) (T := TX0) (N := 17) (ci := 0) (fs := fX0) hx hb_ hts inlX0 tyX0 tyX0_ok hown (hts (.classLink RL 9 RX0) (by decide +kernel)) (hts (.instantiable RX0 17) (by decide +kernel)) (hts (.initialized RX0) (by decide +kernel)) hK_ hP hD hS_ hA rfl fX0_ok (Nat.le_of_ble_eq_true rfl) (Nat.le_of_ble_eq_true rfl) dL_law_0 (fun x_ H hP hD hS_ => ?_)
  have hP : va_P D vwCl [(x_, .inr (0, fX0))] H := hP
  have hD : va_D (fun q_ : Nat => s_.heap.size ≤ q_) [(x_, .inr (0, fX0))] := hD
  refine W.widen (k := 1) (n := 17) (Nat.le_refl _) (Nat.le_refl _) ?_
  refine lv_dup hx hb_ dL_law_3 rfl ?_
  have hFc := va_free (wc := [(x_, .inr (0, fX0))]) hD hS_ hA [0] rfl
  refine va_callv (va_runI (As := []) (rest := [.ref x_]) ⟨hx, hb_, hml, hown, hts⟩ (c_X0_init l D x_ H.size) (cwI 0 hts gL_law_X0_init rfl rfl rfl (hts (.initialized RX0) (by decide +kernel)) (hts (.methodLink RL 82 yX0_init) (by decide +kernel)) (hts (.instanceMethod yX0_init) (by decide +kernel)) rfl (by decide +kernel) ⟨Nat.le_of_ble_eq_true rfl, Nat.le_of_ble_eq_true rfl⟩) (pW_S hP hK_ hD) rfl rfl hl.1 rfl (lv_room (Nat.le_of_ble_eq_true rfl)) dL_law_4 ⟨Nat.le_of_ble_eq_true rfl, Nat.le_of_ble_eq_true rfl⟩) hS_ (fun q_ _ h_ => hFc q_ h_) hFc (fun u1_ t9 H1 locs ht9 hvm9 _ hw hz9 hk9 hS_ => ?_)
  obtain ⟨cI, cZ, a_, ⟨hP1, hK1⟩, hD1⟩ := hw
  have hK_ := va_K.moved hvm9.symm hK1
  have hP : va_P D vwCl (wX cI cZ x_ a_ S00) H1 := by rw [← ht9]; exact hP1
  have hD : va_D (fun q_ : Nat => s_.heap.size ≤ q_) (wX cI cZ x_ a_ S00) := hD1.weaken (fun _ q_ _ h_ => hFc q_.1 h_)
  clear hP1 hD1 hFc hk9 hz9 ht9
  refine W.widen (k := 14) (n := 214) (Nat.le_refl _) (Nat.le_refl _) ?_
  refine lv_astore_n (lv' := [(1, .ref x_), (0, .ref b_)]) hx hb_ dL_law_7 rfl hl (by decide) rfl (fun ls hl => ?_)
  refine lv_bipush (v := 24) hx hb_ dL_law_8 (by decide) ?_
  refine va_newa (atype := .int) (ty := .int) (N' := 24) (a0 := (24, .inl (fun _ => 0))) hx hb_ (hts (.arrayClass .int) (by decide +kernel)) rfl hK_ hP hD hS_ hA (fun _ => rfl) (by decide) (by decide) (Nat.le_of_ble_eq_true rfl) (Nat.le_of_ble_eq_true rfl) (Nat.le_of_ble_eq_true rfl) dL_law_10 (fun pa cJ H hK_ hP hD hS_ => ?_)
  have ecI : cI = cJ := va_sameI hK_ 0 2 rfl rfl
  subst ecI
  have hK_ : va_K D vwCl (tyX cI cZ) s_ := hK_.sub [0, 1] rfl
  have hP : va_P D vwCl (wX cI cZ x_ a_ S00 ++ [wp cI pa (fun _ => 0)]) H := hP
  have hD : va_D (fun q_ : Nat => s_.heap.size ≤ q_) (wX cI cZ x_ a_ S00 ++ [wp cI pa (fun _ => 0)]) := hD
  refine W.widen (k := 15) (n := 238) (Nat.le_refl _) (Nat.le_refl _) ?_
  refine lv_astore_n (lv' := [(2, .ref pa), (1, .ref x_), (0, .ref b_)]) hx hb_ dL_law_12 rfl hl (by decide) rfl (fun ls hl => ?_)
  refine lv_iconst (v := 1) hx hb_ dL_law_13 (by decide) ?_
  refine lv_istore_n (lv' := [(3, .int 1), (2, .ref pa), (1, .ref x_), (0, .ref b_)]) hx hb_ dL_law_14 rfl hl (by decide) rfl (fun ls hl => ?_)
  refine lv_iconst (v := 0) hx hb_ dL_law_15 (by decide) ?_
  refine lv_istore (lv' := [(4, .int 0), (3, .int 1), (2, .ref pa), (1, .ref x_), (0, .ref b_)]) hx hb_ dL_law_16 hl (by decide) rfl (fun ls hl => ?_)
  exact law_walk l hfl hL C0_ hG hK_ hP hD hS_ hl
