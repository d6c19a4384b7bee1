set_option maxHeartbeats 4000000 in
set_option maxRecDepth 100000 in
theorem law_walk {pr : Program} {env : Env} {s : State} {mid : MethodId} {below : List Frame} {meth : Method} {cod : Code} (l : Launch) (hfl : l.stackTraces = false) {D : va_G} {cI cZ : ClassId} {b0 L x pa : Nat} {a : Nat → Nat} {xs : Nat → Int32} (hL : L ≤ 260) (C0_ : lw_At pr s mid meth cod b0 L xs) (hG0 : xG (fun q => s.heap.size ≤ q) s s.heap) (hK : va_K D vwCl (tyX cI cZ) s) {H : Heap} {locs : List Loc} (hP : va_P D vwCl (wX cI cZ x a S00 ++ [wp cI pa (fun _ => 0)]) H) (hD0 : va_D (fun q : Nat => s.heap.size ≤ q) (wX cI cZ x a S00 ++ [wp cI pa (fun _ => 0)])) (hS0 : va_S (fun q : Nat => s.heap.size ≤ q) s.heap H locs) {ls : Array Slot} (hl : lv_has ls 8 [(4, .int 0), (3, .int 1), (2, .ref pa), (1, .ref x), (0, .ref b0)]) : W pr l env room_1 s mid #[Value.ref b0] below meth cod H locs 15 238 (lw_Z below #[Value.ref b0] s) (F0 mid 18 ls []) := by
  have C1 := C0_
  obtain ⟨hx, hb, hr, hml, hown, htb, hX, hbl, hlocks, hgv⟩ := C1
  have hts : ∀ w ∈ wsL_law, w.before #[Value.ref b0] s = true := fun w h => htb w (wsL_law_in w h)
  have hown : s.vm.findClass RL = some mid.cls := hown
  obtain ⟨A, hAe⟩ : ∃ A : Nat → Prop, A = fun q : Nat => s.heap.size ≤ q := ⟨_, rfl⟩
  have hA : ∀ q : Nat, s.heap.size ≤ q → A q := fun q h => by rw [hAe]; exact h
  have hbA : ¬ A b0 := by rw [hAe]; exact Nat.not_le.mpr hbl
  have hG : xG A s s.heap := by rw [hAe]; exact hG0
  have hD : va_D A (wX cI cZ x a S00 ++ [wp cI pa (fun _ => 0)]) := by rw [hAe]; exact hD0
  have hS : va_S A s.heap H locs := by rw [hAe]; exact hS0
  refine W_gen (fun R Q hR hQ => ?_)
  have loop_18 : ∀ (n : Nat) (j : Nat) (i3 : Int32) (i4 : Int32) (S1 : ST) (f1 : Nat → Int32), (j ≤ 60) → (61 ≤ j + n) → (i4 = nI j) → (Good (10 + 24 * j) S1) → (Lnk S1 f1) → (i3 = 0 ∨ (i3 = 1 ∧ ∀ k, k < 18 → S1 13 k = 0)) → ∀ (H : Heap) (locs : List Loc), va_P D vwCl (wX cI cZ x a S1 ++ [wp cI pa f1]) H → va_D A (wX cI cZ x a S1 ++ [wp cI pa f1]) → va_S A s.heap H locs → ∀ ls : Array Slot, lv_has ls 8 [(4, .int i4), (3, .int i3), (2, .ref pa), (1, .ref x), (0, .ref b0)] → W pr l env R s mid #[Value.ref b0] below meth cod H locs 15 238 Q (F0 mid 18 ls []) := by
    subst hR; subst hQ
    intro n
    induction n with
    | zero =>
      intro j i3 i4 S1 f1 hj hn e4 hg hk_ h3 H locs hP hD hS ls hl
      exfalso; omega
    | succ n ih18 =>
      intro j i3 i4 S1 f1 hj hn e4 hg hk_ h3 H locs hP hD hS ls hl
      refine lv_iload hx hb dL_law_18 (lv_at hl 0 rfl) ?_
      refine lv_bipush (v := 60) hx hb dL_law_20 (by decide) ?_
      refine lv_icmp_ge (tgt := 168) hx hb dL_law_22 (by decide) (fun c_22 => ?_) (fun c_22 => ?_)
      · skip
        refine lv_iconst (v := 1) hx hb dL_law_168 (by decide) ?_
        subst hAe
        refine va_forget (fun q h => hS.2.2 q h) ?_
        refine W.widen (k := 137) (n := 1178) (by decide) (by decide) ?_
        exact lw_ret hx hb hr hlocks dL_law_169
      · skip
        have h6 : j < 60 := lt_of (N := 60) e4 (by omega) rfl c_22
        refine lv_aload_n hx hb dL_law_25 rfl (lv_at hl 4 rfl) ?_
        refine lv_iconst (v := 2) hx hb dL_law_26 (by decide) ?_
        refine lv_iload hx hb dL_law_27 (lv_at hl 0 rfl) ?_
        refine lv_imul hx hb dL_law_29 ?_
        refine vp_callSi (W.runS (As := [.ref b0, .int (2 * i4)]) (rest := []) ⟨hx, hb, hml, hown, hts⟩ (c_L_cell l b0 L xs (2 * i4) hL (by rw [e4]; exact dbl_nn h6)) (va_cwS 2 hts gL_law_L_cell rfl rfl rfl (by decide +kernel) ⟨Nat.le_of_ble_eq_true rfl, Nat.le_of_ble_eq_true rfl⟩) (pX_S (hX.kept (hS.2.1 b0 hbl hbA))) rfl rfl hl.1 rfl (lv_room (Nat.le_of_ble_eq_true rfl)) dL_law_30 ⟨Nat.le_of_ble_eq_true rfl, Nat.le_of_ble_eq_true rfl⟩) (fun r_30 h_30 => ?_)
        refine lv_ldc (v := 2147483647) hx hb hown (hts (.constant RL 87 (2147483647)) (by decide +kernel)) dL_law_33 ?_
        refine lv_iand hx hb dL_law_35 ?_
        generalize r_30 &&& 2147483647 = vx5 at  ⊢
        refine lv_istore (lv' := [(5, .int vx5), (4, .int i4), (3, .int i3), (2, .ref pa), (1, .ref x), (0, .ref b0)]) hx hb dL_law_36 hl (by decide) rfl (fun ls hl => ?_)
        refine lv_aload_n hx hb dL_law_38 rfl (lv_at hl 5 rfl) ?_
        refine lv_iconst (v := 2) hx hb dL_law_39 (by decide) ?_
        refine lv_iload hx hb dL_law_40 (lv_at hl 1 rfl) ?_
        refine lv_imul hx hb dL_law_42 ?_
        refine lv_iconst (v := 1) hx hb dL_law_43 (by decide) ?_
        refine lv_iadd hx hb dL_law_44 ?_
        refine vp_callSi (W.runS (As := [.ref b0, .int ((2 * i4) + 1)]) (rest := []) ⟨hx, hb, hml, hown, hts⟩ (c_L_cell l b0 L xs ((2 * i4) + 1) hL (by rw [e4]; exact dbl1_nn h6)) (va_cwS 2 hts gL_law_L_cell rfl rfl rfl (by decide +kernel) ⟨Nat.le_of_ble_eq_true rfl, Nat.le_of_ble_eq_true rfl⟩) (pX_S (hX.kept (hS.2.1 b0 hbl hbA))) rfl rfl hl.1 rfl (lv_room (Nat.le_of_ble_eq_true rfl)) dL_law_45 ⟨Nat.le_of_ble_eq_true rfl, Nat.le_of_ble_eq_true rfl⟩) (fun r_45 h_45 => ?_)
        refine lv_ldc (v := 2147483647) hx hb hown (hts (.constant RL 87 (2147483647)) (by decide +kernel)) dL_law_48 ?_
        refine lv_iand hx hb dL_law_50 ?_
        generalize r_45 &&& 2147483647 = vy6 at  ⊢
        refine lv_istore (lv' := [(6, .int vy6), (5, .int vx5), (4, .int i4), (3, .int i3), (2, .ref pa), (1, .ref x), (0, .ref b0)]) hx hb dL_law_51 hl (by decide) rfl (fun ls hl => ?_)
        refine lv_aload_n hx hb dL_law_53 rfl (lv_at hl 5 rfl) ?_
        refine lv_iload hx hb dL_law_54 (lv_at hl 1 rfl) ?_
        refine lv_iload hx hb dL_law_56 (lv_at hl 0 rfl) ?_
        refine lv_aload_n hx hb dL_law_58 rfl (lv_at hl 4 rfl) ?_
        have hFc := wfree hD hS hA
        refine vy_calli (vy_runS (As := [.ref x, .int vx5, .int vy6, .ref pa]) (rest := []) ⟨hx, hb, hml, hown, hts⟩ (c_L_act l hfl D cI cZ x a S1 pa f1 H.size vx5 vy6 (10 + 24 * j) (by omega) hg hk_) (va_cwS 4 hts gL_law_L_act rfl rfl rfl (by decide +kernel) ⟨Nat.le_of_ble_eq_true rfl, Nat.le_of_ble_eq_true rfl⟩) (pTA_S (pW_S hP hK hD) (hG.kept (fun q h1 h2 => hS.2.1 q h1 h2)) hFc) rfl rfl hl.1 rfl (lv_room (Nat.le_of_ble_eq_true rfl)) dL_law_59 ⟨Nat.le_of_ble_eq_true rfl, Nat.le_of_ble_eq_true rfl⟩) hS (fun q _ h => hFc q h) hFc (fun E ce q9 H1 locs hPE hz9 hk9 hS hc9 hv9 hcl9 => (hPE).elim) (fun r_59 u_59 t9 H1 locs ht9 hvm9 h_59 hB9 hz9 hk9 hS => ?_)
        obtain ⟨v_59, f_59⟩ := u_59
        have hP : va_P D vwCl (wX cI cZ x a v_59 ++ [wp cI pa f_59]) H1 := atW_P hB9 ht9
        have hD : va_D A (wX cI cZ x a v_59 ++ [wp cI pa f_59]) := atW_D hB9 hFc
        generalize H1 = H at hP hS ⊢
        obtain ⟨e_59, h_59⟩ := h_59
        subst e_59
        have ag : Good (10 + 24 * j + 24) v_59 := h_59.1
        have al : Lnk v_59 f_59 := h_59.2.1
        have a13 : ∀ k, k < 18 → S1 13 k = 0 → v_59 13 k = 0 := h_59.2.2.2
        refine lv_if_ne (tgt := 67) hx hb dL_law_62 (by decide) (fun c_62 => ?_) (fun c_62 => ?_)
        · skip
          refine lv_aload_n hx hb dL_law_67 rfl (lv_at hl 5 rfl) ?_
          refine lv_iconst (v := 0) hx hb dL_law_68 (by decide) ?_
          have i_69 : vp_in (0 : Int32) 3 := by rw [vp_in_iff]; decide
          have hPc := hP.sub (ws' := wX cI cZ x a v_59) [0, 1, 2, 3, 4, 5, 6, 7, 8, 9, 10, 11, 12, 13] rfl
          refine vy_csi (vy_runV (As := [.int 0]) (rest := []) ⟨hx, hb, hml, hown, hts⟩ (c_X0_points l hfl D cI cZ x a v_59 0) (cwV 1 hts gL_law_X0_points rfl rfl rfl (by decide +kernel) ⟨Nat.le_of_ble_eq_true rfl, Nat.le_of_ble_eq_true rfl⟩) (pT_V (pR_V (ci := 0) hPc hK rfl rfl) (hG.kept (fun q h1 h2 => hS.2.1 q h1 h2)) (fun q h => hA q (Nat.le_trans hS.1 h))) rfl rfl hl.1 rfl (lv_room (Nat.le_of_ble_eq_true rfl)) dL_law_69 ⟨Nat.le_of_ble_eq_true rfl, Nat.le_of_ble_eq_true rfl⟩) (fun E ce q9 H1 hPE hz9 hk9 hc9 hv9 hcl9 => (kne i_69 hPE.2).elim) (fun r_69 h_69 => ?_)
          replace h_69 : r_69 = v_59 12 (0 : Int32).toNatClampNeg := krd i_69 h_69
          replace h_69 : r_69 = v_59 12 0 := h_69.trans (rfl)
          subst h_69
          refine lv_aload_n hx hb dL_law_72 rfl (lv_at hl 5 rfl) ?_
          refine lv_iconst (v := 1) hx hb dL_law_73 (by decide) ?_
          have i_74 : vp_in (1 : Int32) 3 := by rw [vp_in_iff]; decide
          have hPc := hP.sub (ws' := wX cI cZ x a v_59) [0, 1, 2, 3, 4, 5, 6, 7, 8, 9, 10, 11, 12, 13] rfl
          refine vy_csi (vy_runV (As := [.int 1]) (rest := [.int (v_59 12 0)]) ⟨hx, hb, hml, hown, hts⟩ (c_X0_points l hfl D cI cZ x a v_59 1) (cwV 1 hts gL_law_X0_points rfl rfl rfl (by decide +kernel) ⟨Nat.le_of_ble_eq_true rfl, Nat.le_of_ble_eq_true rfl⟩) (pT_V (pR_V (ci := 0) hPc hK rfl rfl) (hG.kept (fun q h1 h2 => hS.2.1 q h1 h2)) (fun q h => hA q (Nat.le_trans hS.1 h))) rfl rfl hl.1 rfl (lv_room (Nat.le_of_ble_eq_true rfl)) dL_law_74 ⟨Nat.le_of_ble_eq_true rfl, Nat.le_of_ble_eq_true rfl⟩) (fun E ce q9 H1 hPE hz9 hk9 hc9 hv9 hcl9 => (kne i_74 hPE.2).elim) (fun r_74 h_74 => ?_)
          replace h_74 : r_74 = v_59 12 (1 : Int32).toNatClampNeg := krd i_74 h_74
          replace h_74 : r_74 = v_59 12 1 := h_74.trans (rfl)
          subst h_74
          refine lv_iadd hx hb dL_law_77 ?_
          refine lv_aload_n hx hb dL_law_78 rfl (lv_at hl 5 rfl) ?_
          refine lv_iconst (v := 2) hx hb dL_law_79 (by decide) ?_
          have i_80 : vp_in (2 : Int32) 3 := by rw [vp_in_iff]; decide
          have hPc := hP.sub (ws' := wX cI cZ x a v_59) [0, 1, 2, 3, 4, 5, 6, 7, 8, 9, 10, 11, 12, 13] rfl
          refine vy_csi (vy_runV (As := [.int 2]) (rest := [.int ((v_59 12 0) + (v_59 12 1))]) ⟨hx, hb, hml, hown, hts⟩ (c_X0_points l hfl D cI cZ x a v_59 2) (cwV 1 hts gL_law_X0_points rfl rfl rfl (by decide +kernel) ⟨Nat.le_of_ble_eq_true rfl, Nat.le_of_ble_eq_true rfl⟩) (pT_V (pR_V (ci := 0) hPc hK rfl rfl) (hG.kept (fun q h1 h2 => hS.2.1 q h1 h2)) (fun q h => hA q (Nat.le_trans hS.1 h))) rfl rfl hl.1 rfl (lv_room (Nat.le_of_ble_eq_true rfl)) dL_law_80 ⟨Nat.le_of_ble_eq_true rfl, Nat.le_of_ble_eq_true rfl⟩) (fun E ce q9 H1 hPE hz9 hk9 hc9 hv9 hcl9 => (kne i_80 hPE.2).elim) (fun r_80 h_80 => ?_)
          replace h_80 : r_80 = v_59 12 (2 : Int32).toNatClampNeg := krd i_80 h_80
          replace h_80 : r_80 = v_59 12 2 := h_80.trans (rfl)
          subst h_80
          refine lv_iadd hx hb dL_law_83 ?_
          refine lv_istore (lv' := [(7, .int (((v_59 12 0) + (v_59 12 1)) + (v_59 12 2))), (6, .int vy6), (5, .int vx5), (4, .int i4), (3, .int i3), (2, .ref pa), (1, .ref x), (0, .ref b0)]) hx hb dL_law_84 hl (by decide) rfl (fun ls hl => ?_)
          refine lv_iload_n hx hb dL_law_86 rfl (lv_at hl 4 rfl) ?_
          refine lv_if_eq (tgt := 107) hx hb dL_law_87 (by decide) (fun c_87 => ?_) (fun c_87 => ?_)
          · skip
            refine lv_iload_n hx hb dL_law_107 rfl (lv_at hl 4 rfl) ?_
            refine lv_aload_n hx hb dL_law_108 rfl (lv_at hl 6 rfl) ?_
            refine lv_iconst (v := 0) hx hb dL_law_109 (by decide) ?_
            have i_110 : vp_in (0 : Int32) 3 := by rw [vp_in_iff]; decide
            have hPc := hP.sub (ws' := wX cI cZ x a v_59) [0, 1, 2, 3, 4, 5, 6, 7, 8, 9, 10, 11, 12, 13] rfl
            refine vy_csi (vy_runV (As := [.int 0]) (rest := [.int i3]) ⟨hx, hb, hml, hown, hts⟩ (c_X0_points l hfl D cI cZ x a v_59 0) (cwV 1 hts gL_law_X0_points rfl rfl rfl (by decide +kernel) ⟨Nat.le_of_ble_eq_true rfl, Nat.le_of_ble_eq_true rfl⟩) (pT_V (pR_V (ci := 0) hPc hK rfl rfl) (hG.kept (fun q h1 h2 => hS.2.1 q h1 h2)) (fun q h => hA q (Nat.le_trans hS.1 h))) rfl rfl hl.1 rfl (lv_room (Nat.le_of_ble_eq_true rfl)) dL_law_110 ⟨Nat.le_of_ble_eq_true rfl, Nat.le_of_ble_eq_true rfl⟩) (fun E ce q9 H1 hPE hz9 hk9 hc9 hv9 hcl9 => (kne i_110 hPE.2).elim) (fun r_110 h_110 => ?_)
            replace h_110 : r_110 = v_59 12 (0 : Int32).toNatClampNeg := krd i_110 h_110
            replace h_110 : r_110 = v_59 12 0 := h_110.trans (rfl)
            subst h_110
            refine lv_aload_n hx hb dL_law_113 rfl (lv_at hl 6 rfl) ?_
            refine lv_iconst (v := 1) hx hb dL_law_114 (by decide) ?_
            have i_115 : vp_in (1 : Int32) 3 := by rw [vp_in_iff]; decide
            have hPc := hP.sub (ws' := wX cI cZ x a v_59) [0, 1, 2, 3, 4, 5, 6, 7, 8, 9, 10, 11, 12, 13] rfl
            refine vy_csi (vy_runV (As := [.int 1]) (rest := [.int (v_59 12 0), .int i3]) ⟨hx, hb, hml, hown, hts⟩ (c_X0_points l hfl D cI cZ x a v_59 1) (cwV 1 hts gL_law_X0_points rfl rfl rfl (by decide +kernel) ⟨Nat.le_of_ble_eq_true rfl, Nat.le_of_ble_eq_true rfl⟩) (pT_V (pR_V (ci := 0) hPc hK rfl rfl) (hG.kept (fun q h1 h2 => hS.2.1 q h1 h2)) (fun q h => hA q (Nat.le_trans hS.1 h))) rfl rfl hl.1 rfl (lv_room (Nat.le_of_ble_eq_true rfl)) dL_law_115 ⟨Nat.le_of_ble_eq_true rfl, Nat.le_of_ble_eq_true rfl⟩) (fun E ce q9 H1 hPE hz9 hk9 hc9 hv9 hcl9 => (kne i_115 hPE.2).elim) (fun r_115 h_115 => ?_)
            replace h_115 : r_115 = v_59 12 (1 : Int32).toNatClampNeg := krd i_115 h_115
            replace h_115 : r_115 = v_59 12 1 := h_115.trans (rfl)
            subst h_115
            refine lv_iadd hx hb dL_law_118 ?_
            refine lv_aload_n hx hb dL_law_119 rfl (lv_at hl 6 rfl) ?_
            refine lv_iconst (v := 2) hx hb dL_law_120 (by decide) ?_
            have i_121 : vp_in (2 : Int32) 3 := by rw [vp_in_iff]; decide
            have hPc := hP.sub (ws' := wX cI cZ x a v_59) [0, 1, 2, 3, 4, 5, 6, 7, 8, 9, 10, 11, 12, 13] rfl
            refine vy_csi (vy_runV (As := [.int 2]) (rest := [.int ((v_59 12 0) + (v_59 12 1)), .int i3]) ⟨hx, hb, hml, hown, hts⟩ (c_X0_points l hfl D cI cZ x a v_59 2) (cwV 1 hts gL_law_X0_points rfl rfl rfl (by decide +kernel) ⟨Nat.le_of_ble_eq_true rfl, Nat.le_of_ble_eq_true rfl⟩) (pT_V (pR_V (ci := 0) hPc hK rfl rfl) (hG.kept (fun q h1 h2 => hS.2.1 q h1 h2)) (fun q h => hA q (Nat.le_trans hS.1 h))) rfl rfl hl.1 rfl (lv_room (Nat.le_of_ble_eq_true rfl)) dL_law_121 ⟨Nat.le_of_ble_eq_true rfl, Nat.le_of_ble_eq_true rfl⟩) (fun E ce q9 H1 hPE hz9 hk9 hc9 hv9 hcl9 => (kne i_121 hPE.2).elim) (fun r_121 h_121 => ?_)
            replace h_121 : r_121 = v_59 12 (2 : Int32).toNatClampNeg := krd i_121 h_121
            replace h_121 : r_121 = v_59 12 2 := h_121.trans (rfl)
            subst h_121
            refine lv_iadd hx hb dL_law_124 ?_
            refine lv_iload hx hb dL_law_125 (lv_at hl 0 rfl) ?_
            refine lv_icmp_ne (tgt := 134) hx hb dL_law_127 (by decide) (fun c_127 => ?_) (fun c_127 => ?_)
            · skip
              exact absurd rfl c_127
            · skip
              have gq : Good (10 + 24 * (j + 1)) v_59 := good_mono ag (by omega)
              have lq : Lnk v_59 f_59 := al
              have zq : (i3 &&& 1) = 0 ∨ ((i3 &&& 1) = 1 ∧ ∀ k, k < 18 → v_59 13 k = 0) := Or.inl (by rw [c_87]; decide)
              refine lv_iconst (v := 1) hx hb dL_law_130 (by decide) ?_
              refine lv_goto (tgt := 135) hx hb dL_law_131 (by decide) ?_
              refine lv_iand hx hb dL_law_135 ?_
              refine lv_istore_n (lv' := [(3, .int (i3 &&& 1)), (7, .int (((v_59 12 0) + (v_59 12 1)) + (v_59 12 2))), (6, .int vy6), (5, .int vx5), (4, .int i4), (2, .ref pa), (1, .ref x), (0, .ref b0)]) hx hb dL_law_136 rfl hl (by decide) rfl (fun ls hl => ?_)
              refine lv_iload hx hb dL_law_137 (lv_at hl 4 rfl) ?_
              refine lv_iconst (v := 2) hx hb dL_law_139 (by decide) ?_
              refine lv_irem hx hb dL_law_140 (by decide) ?_
              refine lv_iconst (v := 1) hx hb dL_law_141 (by decide) ?_
              refine lv_icmp_ne (tgt := 162) hx hb dL_law_142 (by decide) (fun c_142 => ?_) (fun c_142 => ?_)
              · skip
                refine lv_iinc (v := i4 + 1) (lv' := [(4, .int (i4 + 1)), (3, .int (i3 &&& 1)), (7, .int (((v_59 12 0) + (v_59 12 1)) + (v_59 12 2))), (6, .int vy6), (5, .int vx5), (2, .ref pa), (1, .ref x), (0, .ref b0)]) hx hb dL_law_162 hl (k := 4) rfl rfl (by decide) rfl (fun ls hl => ?_)
                refine lv_goto (tgt := 18) hx hb dL_law_165 (by decide) ?_
                exact ih18 (j + 1) (i3 &&& 1) (i4 + 1) v_59 f_59 (by omega) (by omega) (by rw [e4]; exact nI_1 j) gq lq zq _ _ hP hD hS _ (lv_sub hl [0, 1, 5, 6, 7] rfl)
              · skip
                refine lv_aload_n hx hb dL_law_145 rfl (lv_at hl 6 rfl) ?_
                have hPc := hP.sub (ws' := wX cI cZ x a v_59) [0, 1, 2, 3, 4, 5, 6, 7, 8, 9, 10, 11, 12, 13] rfl
                have hDc := hD.sub (ws' := wX cI cZ x a v_59) [0, 1, 2, 3, 4, 5, 6, 7, 8, 9, 10, 11, 12, 13] (by decide) rfl
                have hFc := va_free (wc := wX cI cZ x a v_59) hD hS hA [0, 1, 2, 3, 4, 5, 6, 7, 8, 9, 10, 11, 12, 13] rfl
                refine vy_calli (vy_runS (As := [.ref x]) (rest := []) ⟨hx, hb, hml, hown, hts⟩ (c_L_sound l hfl D cI cZ x a v_59 H.size _ gq) (va_cwS 1 hts gL_law_L_sound rfl rfl rfl (by decide +kernel) ⟨Nat.le_of_ble_eq_true rfl, Nat.le_of_ble_eq_true rfl⟩) (pTA_S (pW_S hPc hK hDc) (hG.kept (fun q h1 h2 => hS.2.1 q h1 h2)) hFc) rfl rfl hl.1 rfl (lv_room (Nat.le_of_ble_eq_true rfl)) dL_law_146 ⟨Nat.le_of_ble_eq_true rfl, Nat.le_of_ble_eq_true rfl⟩) hS (fun q _ h => hFc q h) hFc (fun E ce q9 H1 locs hPE hz9 hk9 hS hc9 hv9 hcl9 => (hPE).elim) (fun r_146 u_146 t9 H1 locs ht9 hvm9 h_146 hB9 hz9 hk9 hS => ?_)
                have hJ9 := va_join (wr := [wp cI pa f_59]) hP hD [0, 1, 2, 3, 4, 5, 6, 7, 8, 9, 10, 11, 12, 13] [14] rfl rfl (by decide) (by decide) hk9 hFc (atW_P hB9 ht9) hB9.2
                have hP : va_P D vwCl (wX cI cZ x a u_146 ++ [wp cI pa f_59]) H1 := hJ9.1.sub [1, 2, 3, 4, 5, 6, 7, 8, 9, 10, 11, 12, 13, 14, 0] rfl
                have hD : va_D A (wX cI cZ x a u_146 ++ [wp cI pa f_59]) := hJ9.2.sub [1, 2, 3, 4, 5, 6, 7, 8, 9, 10, 11, 12, 13, 14, 0] (by decide) rfl
                generalize H1 = H at hP hS ⊢
                obtain ⟨e_146, h_146⟩ := h_146
                subst e_146
                obtain ⟨g9, w_146⟩ := h_146
                replace gq : Good (10 + 24 * (j + 1)) u_146 := by rw [w_146]; exact good_16 gq g9
                replace lq : Lnk u_146 f_59 := by rw [w_146]; exact lq
                replace zq : (i3 &&& 1) = 0 ∨ ((i3 &&& 1) = 1 ∧ ∀ k, k < 18 → u_146 13 k = 0) := by rw [w_146]; exact zq
                refine lv_if_eq (tgt := 160) hx hb dL_law_149 (by decide) (fun c_149 => ?_) (fun c_149 => ?_)
                · skip
                  exact absurd c_149 (by decide)
                · skip
                  refine lv_aload_n hx hb dL_law_152 rfl (lv_at hl 6 rfl) ?_
                  refine lv_aload_n hx hb dL_law_153 rfl (lv_at hl 5 rfl) ?_
                  refine vy_csi (vy_runS (As := [.ref x, .ref pa]) (rest := []) ⟨hx, hb, hml, hown, hts⟩ (c_L_chained l hfl D cI cZ x a u_146 pa f_59 _ gq lq) (va_cwS 2 hts gL_law_L_chained rfl rfl rfl (by decide +kernel) ⟨Nat.le_of_ble_eq_true rfl, Nat.le_of_ble_eq_true rfl⟩) (pT_S (pR_S hP hK) (hG.kept (fun q h1 h2 => hS.2.1 q h1 h2)) (fun q h => hA q (Nat.le_trans hS.1 h))) rfl rfl hl.1 rfl (lv_room (Nat.le_of_ble_eq_true rfl)) dL_law_154 ⟨Nat.le_of_ble_eq_true rfl, Nat.le_of_ble_eq_true rfl⟩) (fun E ce q9 H1 hPE hz9 hk9 hc9 hv9 hcl9 => (hPE).elim) (fun r_154 h_154 => ?_)
                  subst h_154
                  refine lv_if_ne (tgt := 162) hx hb dL_law_157 (by decide) (fun c_157 => ?_) (fun c_157 => ?_)
                  · skip
                    refine lv_iinc (v := i4 + 1) (lv' := [(4, .int (i4 + 1)), (3, .int (i3 &&& 1)), (7, .int (((v_59 12 0) + (v_59 12 1)) + (v_59 12 2))), (6, .int vy6), (5, .int vx5), (2, .ref pa), (1, .ref x), (0, .ref b0)]) hx hb dL_law_162 hl (k := 4) rfl rfl (by decide) rfl (fun ls hl => ?_)
                    refine lv_goto (tgt := 18) hx hb dL_law_165 (by decide) ?_
                    exact ih18 (j + 1) (i3 &&& 1) (i4 + 1) u_146 f_59 (by omega) (by omega) (by rw [e4]; exact nI_1 j) gq lq zq _ _ hP hD hS _ (lv_sub hl [0, 1, 5, 6, 7] rfl)
                  · skip
                    exact absurd c_157 (by decide)
          · skip
            obtain ⟨e3, z13⟩ := h3.resolve_left c_87
            have z13b : ∀ k, k < 18 → v_59 13 k = 0 := fun k hk => a13 k hk (z13 k hk)
            refine lv_aload_n hx hb dL_law_90 rfl (lv_at hl 6 rfl) ?_
            refine lv_iload hx hb dL_law_91 (lv_at hl 2 rfl) ?_
            refine lv_iconst (v := 4) hx hb dL_law_93 (by decide) ?_
            refine lv_ishr hx hb dL_law_94 ?_
            refine lv_iload hx hb dL_law_95 (lv_at hl 1 rfl) ?_
            refine lv_iconst (v := 2) hx hb dL_law_97 (by decide) ?_
            refine lv_ishr hx hb dL_law_98 ?_
            have hPc := hP.sub (ws' := wX cI cZ x a v_59) [0, 1, 2, 3, 4, 5, 6, 7, 8, 9, 10, 11, 12, 13] rfl
            have hDc := hD.sub (ws' := wX cI cZ x a v_59) [0, 1, 2, 3, 4, 5, 6, 7, 8, 9, 10, 11, 12, 13] (by decide) rfl
            have hFc := va_free (wc := wX cI cZ x a v_59) hD hS hA [0, 1, 2, 3, 4, 5, 6, 7, 8, 9, 10, 11, 12, 13] rfl
            refine vy_calli (vy_runS (As := [.ref x, .int (vx5 >>> (4 &&& 31)), .int (vy6 >>> (2 &&& 31))]) (rest := []) ⟨hx, hb, hml, hown, hts⟩ (c_L_guessed l hfl D cI cZ x a v_59 H.size (vx5 >>> (4 &&& 31)) (vy6 >>> (2 &&& 31)) (10 + 24 * j + 24) ag z13b) (va_cwS 3 hts gL_law_L_guessed rfl rfl rfl (by decide +kernel) ⟨Nat.le_of_ble_eq_true rfl, Nat.le_of_ble_eq_true rfl⟩) (pTA_S (pW_S hPc hK hDc) (hG.kept (fun q h1 h2 => hS.2.1 q h1 h2)) hFc) rfl rfl hl.1 rfl (lv_room (Nat.le_of_ble_eq_true rfl)) dL_law_99 ⟨Nat.le_of_ble_eq_true rfl, Nat.le_of_ble_eq_true rfl⟩) hS (fun q _ h => hFc q h) hFc (fun E ce q9 H1 locs hPE hz9 hk9 hS hc9 hv9 hcl9 => (hPE).elim) (fun r_99 u_99 t9 H1 locs ht9 hvm9 h_99 hB9 hz9 hk9 hS => ?_)
            have hJ9 := va_join (wr := [wp cI pa f_59]) hP hD [0, 1, 2, 3, 4, 5, 6, 7, 8, 9, 10, 11, 12, 13] [14] rfl rfl (by decide) (by decide) hk9 hFc (atW_P hB9 ht9) hB9.2
            have hP : va_P D vwCl (wX cI cZ x a u_99 ++ [wp cI pa f_59]) H1 := hJ9.1.sub [1, 2, 3, 4, 5, 6, 7, 8, 9, 10, 11, 12, 13, 14, 0] rfl
            have hD : va_D A (wX cI cZ x a u_99 ++ [wp cI pa f_59]) := hJ9.2.sub [1, 2, 3, 4, 5, 6, 7, 8, 9, 10, 11, 12, 13, 14, 0] (by decide) rfl
            generalize H1 = H at hP hS ⊢
            obtain ⟨e_99, h_99⟩ := h_99
            subst e_99
            obtain ⟨gg, gp⟩ := h_99
            refine lv_if_ne (tgt := 107) hx hb dL_law_102 (by decide) (fun c_102 => ?_) (fun c_102 => ?_)
            · skip
              refine lv_iload_n hx hb dL_law_107 rfl (lv_at hl 4 rfl) ?_
              refine lv_aload_n hx hb dL_law_108 rfl (lv_at hl 6 rfl) ?_
              refine lv_iconst (v := 0) hx hb dL_law_109 (by decide) ?_
              have i_110 : vp_in (0 : Int32) 3 := by rw [vp_in_iff]; decide
              have hPc := hP.sub (ws' := wX cI cZ x a u_99) [0, 1, 2, 3, 4, 5, 6, 7, 8, 9, 10, 11, 12, 13] rfl
              refine vy_csi (vy_runV (As := [.int 0]) (rest := [.int i3]) ⟨hx, hb, hml, hown, hts⟩ (c_X0_points l hfl D cI cZ x a u_99 0) (cwV 1 hts gL_law_X0_points rfl rfl rfl (by decide +kernel) ⟨Nat.le_of_ble_eq_true rfl, Nat.le_of_ble_eq_true rfl⟩) (pT_V (pR_V (ci := 0) hPc hK rfl rfl) (hG.kept (fun q h1 h2 => hS.2.1 q h1 h2)) (fun q h => hA q (Nat.le_trans hS.1 h))) rfl rfl hl.1 rfl (lv_room (Nat.le_of_ble_eq_true rfl)) dL_law_110 ⟨Nat.le_of_ble_eq_true rfl, Nat.le_of_ble_eq_true rfl⟩) (fun E ce q9 H1 hPE hz9 hk9 hc9 hv9 hcl9 => (kne i_110 hPE.2).elim) (fun r_110 h_110 => ?_)
              replace h_110 : r_110 = u_99 12 (0 : Int32).toNatClampNeg := krd i_110 h_110
              replace h_110 : r_110 = u_99 12 0 := h_110.trans (rfl)
              subst h_110
              refine lv_aload_n hx hb dL_law_113 rfl (lv_at hl 6 rfl) ?_
              refine lv_iconst (v := 1) hx hb dL_law_114 (by decide) ?_
              have i_115 : vp_in (1 : Int32) 3 := by rw [vp_in_iff]; decide
              have hPc := hP.sub (ws' := wX cI cZ x a u_99) [0, 1, 2, 3, 4, 5, 6, 7, 8, 9, 10, 11, 12, 13] rfl
              refine vy_csi (vy_runV (As := [.int 1]) (rest := [.int (u_99 12 0), .int i3]) ⟨hx, hb, hml, hown, hts⟩ (c_X0_points l hfl D cI cZ x a u_99 1) (cwV 1 hts gL_law_X0_points rfl rfl rfl (by decide +kernel) ⟨Nat.le_of_ble_eq_true rfl, Nat.le_of_ble_eq_true rfl⟩) (pT_V (pR_V (ci := 0) hPc hK rfl rfl) (hG.kept (fun q h1 h2 => hS.2.1 q h1 h2)) (fun q h => hA q (Nat.le_trans hS.1 h))) rfl rfl hl.1 rfl (lv_room (Nat.le_of_ble_eq_true rfl)) dL_law_115 ⟨Nat.le_of_ble_eq_true rfl, Nat.le_of_ble_eq_true rfl⟩) (fun E ce q9 H1 hPE hz9 hk9 hc9 hv9 hcl9 => (kne i_115 hPE.2).elim) (fun r_115 h_115 => ?_)
              replace h_115 : r_115 = u_99 12 (1 : Int32).toNatClampNeg := krd i_115 h_115
              replace h_115 : r_115 = u_99 12 1 := h_115.trans (rfl)
              subst h_115
              refine lv_iadd hx hb dL_law_118 ?_
              refine lv_aload_n hx hb dL_law_119 rfl (lv_at hl 6 rfl) ?_
              refine lv_iconst (v := 2) hx hb dL_law_120 (by decide) ?_
              have i_121 : vp_in (2 : Int32) 3 := by rw [vp_in_iff]; decide
              have hPc := hP.sub (ws' := wX cI cZ x a u_99) [0, 1, 2, 3, 4, 5, 6, 7, 8, 9, 10, 11, 12, 13] rfl
              refine vy_csi (vy_runV (As := [.int 2]) (rest := [.int ((u_99 12 0) + (u_99 12 1)), .int i3]) ⟨hx, hb, hml, hown, hts⟩ (c_X0_points l hfl D cI cZ x a u_99 2) (cwV 1 hts gL_law_X0_points rfl rfl rfl (by decide +kernel) ⟨Nat.le_of_ble_eq_true rfl, Nat.le_of_ble_eq_true rfl⟩) (pT_V (pR_V (ci := 0) hPc hK rfl rfl) (hG.kept (fun q h1 h2 => hS.2.1 q h1 h2)) (fun q h => hA q (Nat.le_trans hS.1 h))) rfl rfl hl.1 rfl (lv_room (Nat.le_of_ble_eq_true rfl)) dL_law_121 ⟨Nat.le_of_ble_eq_true rfl, Nat.le_of_ble_eq_true rfl⟩) (fun E ce q9 H1 hPE hz9 hk9 hc9 hv9 hcl9 => (kne i_121 hPE.2).elim) (fun r_121 h_121 => ?_)
              replace h_121 : r_121 = u_99 12 (2 : Int32).toNatClampNeg := krd i_121 h_121
              replace h_121 : r_121 = u_99 12 2 := h_121.trans (rfl)
              subst h_121
              refine lv_iadd hx hb dL_law_124 ?_
              refine lv_iload hx hb dL_law_125 (lv_at hl 0 rfl) ?_
              refine lv_icmp_ne (tgt := 134) hx hb dL_law_127 (by decide) (fun c_127 => ?_) (fun c_127 => ?_)
              · skip
                have gq : Good (10 + 24 * (j + 1)) u_99 := good_mono gg (by omega)
                have lq : Lnk u_99 f_59 := gp_lnk gp al
                have zq : (i3 &&& 0) = 0 ∨ ((i3 &&& 0) = 1 ∧ ∀ k, k < 18 → u_99 13 k = 0) := Or.inl (by rw [e3]; decide)
                refine lv_iconst (v := 0) hx hb dL_law_134 (by decide) ?_
                refine lv_iand hx hb dL_law_135 ?_
                refine lv_istore_n (lv' := [(3, .int (i3 &&& 0)), (7, .int (((v_59 12 0) + (v_59 12 1)) + (v_59 12 2))), (6, .int vy6), (5, .int vx5), (4, .int i4), (2, .ref pa), (1, .ref x), (0, .ref b0)]) hx hb dL_law_136 rfl hl (by decide) rfl (fun ls hl => ?_)
                refine lv_iload hx hb dL_law_137 (lv_at hl 4 rfl) ?_
                refine lv_iconst (v := 2) hx hb dL_law_139 (by decide) ?_
                refine lv_irem hx hb dL_law_140 (by decide) ?_
                refine lv_iconst (v := 1) hx hb dL_law_141 (by decide) ?_
                refine lv_icmp_ne (tgt := 162) hx hb dL_law_142 (by decide) (fun c_142 => ?_) (fun c_142 => ?_)
                · skip
                  refine lv_iinc (v := i4 + 1) (lv' := [(4, .int (i4 + 1)), (3, .int (i3 &&& 0)), (7, .int (((v_59 12 0) + (v_59 12 1)) + (v_59 12 2))), (6, .int vy6), (5, .int vx5), (2, .ref pa), (1, .ref x), (0, .ref b0)]) hx hb dL_law_162 hl (k := 4) rfl rfl (by decide) rfl (fun ls hl => ?_)
                  refine lv_goto (tgt := 18) hx hb dL_law_165 (by decide) ?_
                  exact ih18 (j + 1) (i3 &&& 0) (i4 + 1) u_99 f_59 (by omega) (by omega) (by rw [e4]; exact nI_1 j) gq lq zq _ _ hP hD hS _ (lv_sub hl [0, 1, 5, 6, 7] rfl)
                · skip
                  refine lv_aload_n hx hb dL_law_145 rfl (lv_at hl 6 rfl) ?_
                  have hPc := hP.sub (ws' := wX cI cZ x a u_99) [0, 1, 2, 3, 4, 5, 6, 7, 8, 9, 10, 11, 12, 13] rfl
                  have hDc := hD.sub (ws' := wX cI cZ x a u_99) [0, 1, 2, 3, 4, 5, 6, 7, 8, 9, 10, 11, 12, 13] (by decide) rfl
                  have hFc := va_free (wc := wX cI cZ x a u_99) hD hS hA [0, 1, 2, 3, 4, 5, 6, 7, 8, 9, 10, 11, 12, 13] rfl
                  refine vy_calli (vy_runS (As := [.ref x]) (rest := []) ⟨hx, hb, hml, hown, hts⟩ (c_L_sound l hfl D cI cZ x a u_99 H.size _ gq) (va_cwS 1 hts gL_law_L_sound rfl rfl rfl (by decide +kernel) ⟨Nat.le_of_ble_eq_true rfl, Nat.le_of_ble_eq_true rfl⟩) (pTA_S (pW_S hPc hK hDc) (hG.kept (fun q h1 h2 => hS.2.1 q h1 h2)) hFc) rfl rfl hl.1 rfl (lv_room (Nat.le_of_ble_eq_true rfl)) dL_law_146 ⟨Nat.le_of_ble_eq_true rfl, Nat.le_of_ble_eq_true rfl⟩) hS (fun q _ h => hFc q h) hFc (fun E ce q9 H1 locs hPE hz9 hk9 hS hc9 hv9 hcl9 => (hPE).elim) (fun r_146 u_146 t9 H1 locs ht9 hvm9 h_146 hB9 hz9 hk9 hS => ?_)
                  have hJ9 := va_join (wr := [wp cI pa f_59]) hP hD [0, 1, 2, 3, 4, 5, 6, 7, 8, 9, 10, 11, 12, 13] [14] rfl rfl (by decide) (by decide) hk9 hFc (atW_P hB9 ht9) hB9.2
                  have hP : va_P D vwCl (wX cI cZ x a u_146 ++ [wp cI pa f_59]) H1 := hJ9.1.sub [1, 2, 3, 4, 5, 6, 7, 8, 9, 10, 11, 12, 13, 14, 0] rfl
                  have hD : va_D A (wX cI cZ x a u_146 ++ [wp cI pa f_59]) := hJ9.2.sub [1, 2, 3, 4, 5, 6, 7, 8, 9, 10, 11, 12, 13, 14, 0] (by decide) rfl
                  generalize H1 = H at hP hS ⊢
                  obtain ⟨e_146, h_146⟩ := h_146
                  subst e_146
                  obtain ⟨g9, w_146⟩ := h_146
                  replace gq : Good (10 + 24 * (j + 1)) u_146 := by rw [w_146]; exact good_16 gq g9
                  replace lq : Lnk u_146 f_59 := by rw [w_146]; exact lq
                  replace zq : (i3 &&& 0) = 0 ∨ ((i3 &&& 0) = 1 ∧ ∀ k, k < 18 → u_146 13 k = 0) := by rw [w_146]; exact zq
                  refine lv_if_eq (tgt := 160) hx hb dL_law_149 (by decide) (fun c_149 => ?_) (fun c_149 => ?_)
                  · skip
                    exact absurd c_149 (by decide)
                  · skip
                    refine lv_aload_n hx hb dL_law_152 rfl (lv_at hl 6 rfl) ?_
                    refine lv_aload_n hx hb dL_law_153 rfl (lv_at hl 5 rfl) ?_
                    refine vy_csi (vy_runS (As := [.ref x, .ref pa]) (rest := []) ⟨hx, hb, hml, hown, hts⟩ (c_L_chained l hfl D cI cZ x a u_146 pa f_59 _ gq lq) (va_cwS 2 hts gL_law_L_chained rfl rfl rfl (by decide +kernel) ⟨Nat.le_of_ble_eq_true rfl, Nat.le_of_ble_eq_true rfl⟩) (pT_S (pR_S hP hK) (hG.kept (fun q h1 h2 => hS.2.1 q h1 h2)) (fun q h => hA q (Nat.le_trans hS.1 h))) rfl rfl hl.1 rfl (lv_room (Nat.le_of_ble_eq_true rfl)) dL_law_154 ⟨Nat.le_of_ble_eq_true rfl, Nat.le_of_ble_eq_true rfl⟩) (fun E ce q9 H1 hPE hz9 hk9 hc9 hv9 hcl9 => (hPE).elim) (fun r_154 h_154 => ?_)
                    subst h_154
                    refine lv_if_ne (tgt := 162) hx hb dL_law_157 (by decide) (fun c_157 => ?_) (fun c_157 => ?_)
                    · skip
                      refine lv_iinc (v := i4 + 1) (lv' := [(4, .int (i4 + 1)), (3, .int (i3 &&& 0)), (7, .int (((v_59 12 0) + (v_59 12 1)) + (v_59 12 2))), (6, .int vy6), (5, .int vx5), (2, .ref pa), (1, .ref x), (0, .ref b0)]) hx hb dL_law_162 hl (k := 4) rfl rfl (by decide) rfl (fun ls hl => ?_)
                      refine lv_goto (tgt := 18) hx hb dL_law_165 (by decide) ?_
                      exact ih18 (j + 1) (i3 &&& 0) (i4 + 1) u_146 f_59 (by omega) (by omega) (by rw [e4]; exact nI_1 j) gq lq zq _ _ hP hD hS _ (lv_sub hl [0, 1, 5, 6, 7] rfl)
                    · skip
                      exact absurd c_157 (by decide)
              · skip
                have gq : Good (10 + 24 * (j + 1)) u_99 := good_mono gg (by omega)
                have lq : Lnk u_99 f_59 := gp_lnk gp al
                have zq : (i3 &&& 1) = 0 ∨ ((i3 &&& 1) = 1 ∧ ∀ k, k < 18 → u_99 13 k = 0) := Or.inr ⟨by rw [e3]; decide, fun k hk => by rw [gp.resolve_right (fun z => z.2 c_127)]; exact z13b k hk⟩
                refine lv_iconst (v := 1) hx hb dL_law_130 (by decide) ?_
                refine lv_goto (tgt := 135) hx hb dL_law_131 (by decide) ?_
                refine lv_iand hx hb dL_law_135 ?_
                refine lv_istore_n (lv' := [(3, .int (i3 &&& 1)), (7, .int (((v_59 12 0) + (v_59 12 1)) + (v_59 12 2))), (6, .int vy6), (5, .int vx5), (4, .int i4), (2, .ref pa), (1, .ref x), (0, .ref b0)]) hx hb dL_law_136 rfl hl (by decide) rfl (fun ls hl => ?_)
                refine lv_iload hx hb dL_law_137 (lv_at hl 4 rfl) ?_
                refine lv_iconst (v := 2) hx hb dL_law_139 (by decide) ?_
                refine lv_irem hx hb dL_law_140 (by decide) ?_
                refine lv_iconst (v := 1) hx hb dL_law_141 (by decide) ?_
                refine lv_icmp_ne (tgt := 162) hx hb dL_law_142 (by decide) (fun c_142 => ?_) (fun c_142 => ?_)
                · skip
                  refine lv_iinc (v := i4 + 1) (lv' := [(4, .int (i4 + 1)), (3, .int (i3 &&& 1)), (7, .int (((v_59 12 0) + (v_59 12 1)) + (v_59 12 2))), (6, .int vy6), (5, .int vx5), (2, .ref pa), (1, .ref x), (0, .ref b0)]) hx hb dL_law_162 hl (k := 4) rfl rfl (by decide) rfl (fun ls hl => ?_)
                  refine lv_goto (tgt := 18) hx hb dL_law_165 (by decide) ?_
                  exact ih18 (j + 1) (i3 &&& 1) (i4 + 1) u_99 f_59 (by omega) (by omega) (by rw [e4]; exact nI_1 j) gq lq zq _ _ hP hD hS _ (lv_sub hl [0, 1, 5, 6, 7] rfl)
                · skip
                  refine lv_aload_n hx hb dL_law_145 rfl (lv_at hl 6 rfl) ?_
                  have hPc := hP.sub (ws' := wX cI cZ x a u_99) [0, 1, 2, 3, 4, 5, 6, 7, 8, 9, 10, 11, 12, 13] rfl
                  have hDc := hD.sub (ws' := wX cI cZ x a u_99) [0, 1, 2, 3, 4, 5, 6, 7, 8, 9, 10, 11, 12, 13] (by decide) rfl
                  have hFc := va_free (wc := wX cI cZ x a u_99) hD hS hA [0, 1, 2, 3, 4, 5, 6, 7, 8, 9, 10, 11, 12, 13] rfl
                  refine vy_calli (vy_runS (As := [.ref x]) (rest := []) ⟨hx, hb, hml, hown, hts⟩ (c_L_sound l hfl D cI cZ x a u_99 H.size _ gq) (va_cwS 1 hts gL_law_L_sound rfl rfl rfl (by decide +kernel) ⟨Nat.le_of_ble_eq_true rfl, Nat.le_of_ble_eq_true rfl⟩) (pTA_S (pW_S hPc hK hDc) (hG.kept (fun q h1 h2 => hS.2.1 q h1 h2)) hFc) rfl rfl hl.1 rfl (lv_room (Nat.le_of_ble_eq_true rfl)) dL_law_146 ⟨Nat.le_of_ble_eq_true rfl, Nat.le_of_ble_eq_true rfl⟩) hS (fun q _ h => hFc q h) hFc (fun E ce q9 H1 locs hPE hz9 hk9 hS hc9 hv9 hcl9 => (hPE).elim) (fun r_146 u_146 t9 H1 locs ht9 hvm9 h_146 hB9 hz9 hk9 hS => ?_)
                  have hJ9 := va_join (wr := [wp cI pa f_59]) hP hD [0, 1, 2, 3, 4, 5, 6, 7, 8, 9, 10, 11, 12, 13] [14] rfl rfl (by decide) (by decide) hk9 hFc (atW_P hB9 ht9) hB9.2
                  have hP : va_P D vwCl (wX cI cZ x a u_146 ++ [wp cI pa f_59]) H1 := hJ9.1.sub [1, 2, 3, 4, 5, 6, 7, 8, 9, 10, 11, 12, 13, 14, 0] rfl
                  have hD : va_D A (wX cI cZ x a u_146 ++ [wp cI pa f_59]) := hJ9.2.sub [1, 2, 3, 4, 5, 6, 7, 8, 9, 10, 11, 12, 13, 14, 0] (by decide) rfl
                  generalize H1 = H at hP hS ⊢
                  obtain ⟨e_146, h_146⟩ := h_146
                  subst e_146
                  obtain ⟨g9, w_146⟩ := h_146
                  replace gq : Good (10 + 24 * (j + 1)) u_146 := by rw [w_146]; exact good_16 gq g9
                  replace lq : Lnk u_146 f_59 := by rw [w_146]; exact lq
                  replace zq : (i3 &&& 1) = 0 ∨ ((i3 &&& 1) = 1 ∧ ∀ k, k < 18 → u_146 13 k = 0) := by rw [w_146]; exact zq
                  refine lv_if_eq (tgt := 160) hx hb dL_law_149 (by decide) (fun c_149 => ?_) (fun c_149 => ?_)
                  · skip
                    exact absurd c_149 (by decide)
                  · skip
                    refine lv_aload_n hx hb dL_law_152 rfl (lv_at hl 6 rfl) ?_
                    refine lv_aload_n hx hb dL_law_153 rfl (lv_at hl 5 rfl) ?_
                    refine vy_csi (vy_runS (As := [.ref x, .ref pa]) (rest := []) ⟨hx, hb, hml, hown, hts⟩ (c_L_chained l hfl D cI cZ x a u_146 pa f_59 _ gq lq) (va_cwS 2 hts gL_law_L_chained rfl rfl rfl (by decide +kernel) ⟨Nat.le_of_ble_eq_true rfl, Nat.le_of_ble_eq_true rfl⟩) (pT_S (pR_S hP hK) (hG.kept (fun q h1 h2 => hS.2.1 q h1 h2)) (fun q h => hA q (Nat.le_trans hS.1 h))) rfl rfl hl.1 rfl (lv_room (Nat.le_of_ble_eq_true rfl)) dL_law_154 ⟨Nat.le_of_ble_eq_true rfl, Nat.le_of_ble_eq_true rfl⟩) (fun E ce q9 H1 hPE hz9 hk9 hc9 hv9 hcl9 => (hPE).elim) (fun r_154 h_154 => ?_)
                    subst h_154
                    refine lv_if_ne (tgt := 162) hx hb dL_law_157 (by decide) (fun c_157 => ?_) (fun c_157 => ?_)
                    · skip
                      refine lv_iinc (v := i4 + 1) (lv' := [(4, .int (i4 + 1)), (3, .int (i3 &&& 1)), (7, .int (((v_59 12 0) + (v_59 12 1)) + (v_59 12 2))), (6, .int vy6), (5, .int vx5), (2, .ref pa), (1, .ref x), (0, .ref b0)]) hx hb dL_law_162 hl (k := 4) rfl rfl (by decide) rfl (fun ls hl => ?_)
                      refine lv_goto (tgt := 18) hx hb dL_law_165 (by decide) ?_
                      exact ih18 (j + 1) (i3 &&& 1) (i4 + 1) u_146 f_59 (by omega) (by omega) (by rw [e4]; exact nI_1 j) gq lq zq _ _ hP hD hS _ (lv_sub hl [0, 1, 5, 6, 7] rfl)
                    · skip
                      exact absurd c_157 (by decide)
            · skip
              exact absurd c_102 (by decide)
        · skip
          exact absurd c_62 (by decide)
  exact loop_18 61 0 1 0 S00 (fun _ => 0) (Nat.zero_le _) (by omega) nI_0.symm (good_mono good_new (by omega)) (fun k hk => absurd (show k < 0 from hk) (Nat.not_lt_zero k)) (Or.inr ⟨rfl, fun k _ => rfl⟩) _ _ hP hD hS _ (lv_sub hl [0, 1, 2, 3, 4] rfl)
