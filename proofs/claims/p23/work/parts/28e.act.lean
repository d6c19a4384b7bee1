set_option maxHeartbeats 4000000 in
set_option maxRecDepth 100000 in
theorem c_L_act (l : Launch) (hfl : l.stackTraces = false) (D : va_G) (cI cZ : ClassId) (x : Nat) (a : Nat → Nat) (S : ST) (pa : Nat) (fp : Nat → Int32) (sz : Nat) (vx : Int32) (vy : Int32) (B : Nat) (hB : B ≤ 90000) (hg : Good B S) (hk_ : Lnk S fp) : vy_Met l yL_act wsL_act rmL_act (va_Pc [.ref x, .int vx, .int vy, .ref pa] (fun U => (pW D (tyX cI cZ) (wX cI cZ x a S ++ [wp cI pa fp]) sz) U ∧ pGA (wX cI cZ x a S ++ [wp cI pa fp]) U)) (va_Qi (fun (r : Int32) (u : ST × (Nat → Int32)) => r = 1 ∧ AP B S u.1 u.2) (fun (u : ST × (Nat → Int32)) t => atW D (wX cI cZ x a u.1 ++ [wp cI pa u.2]) (va_A (wX cI cZ x a S ++ [wp cI pa fp]) sz) t) (va_A (wX cI cZ x a S ++ [wp cI pa fp]) sz)) (xcs (fun _ => False)) 1 6 (va_A (wX cI cZ x a S ++ [wp cI pa fp]) sz) := by
  refine vy_ofW (cc := cL_act) (maxL := 12) (ret := (some .boolean)) (by decide) rfl ?_
  intro pr env s mid args below meth cod s₁ Bd hml hout hv
  obtain ⟨rfl, ⟨hsz, hP, hK, hD0⟩, hG0⟩ := hv
  have hx := Bd.exec
  have hb := Bd.bytes
  have hr := Bd.returns
  have hts := atoms_spec (ws := wsL_act) Bd.pre
  have hown : s.vm.findClass RL = some mid.cls := findClass_of_methodNamed Bd.named
  have hlocks := Bd.notSynchronized
  subst hsz
  have hG : xG (va_A (wX cI cZ x a S ++ [wp cI pa fp]) s.heap.size) s s.heap := hG0
  have hD := hD0.self (sz := s.heap.size)
  generalize hAe : va_A (wX cI cZ x a S ++ [wp cI pa fp]) s.heap.size = A at hD hG ⊢
  have hA : ∀ q : Nat, s.heap.size ≤ q → A q := fun q h => by rw [← hAe]; exact Or.inr h
  have hS : va_S A s.heap s.heap [] := va_S.rf
  have hP : va_P D vwCl (wX cI cZ x a S ++ [wp cI pa fp]) s.heap := hP
  have hD : va_D A (wX cI cZ x a S ++ [wp cI pa fp]) := hD
  have hl := lv_entry ([.ref x, .int vx, .int vy, .ref pa]) (n := 12) (Nat.le_of_ble_eq_true rfl)
  rw [lg_entry_eq]
  generalize (lg_sl ([.ref x, .int vx, .int vy, .ref pa]) ++ List.replicate (12 - (lg_sl ([.ref x, .int vx, .int vy, .ref pa])).length) Slot.unset).toArray = ls at hl ⊢
  have hl : lv_has ls 12 [(0, .ref x), (1, .int vx), (2, .int vy), (3, .ref pa)] := hl
  have hI := hg.1
  have hm := hI.m24
  refine lv_iload_n hx hb dL_act_0 rfl (lv_at hl 1 rfl) ?_
  refine lv_bipush (v := 9) hx hb dL_act_1 (by decide) ?_
  refine vp_callSi (W.runS (As := [.int vx, .int 9]) (rest := []) ⟨hx, hb, hml, hown, hts⟩ (c_L_at l vx 9 9 (by decide) (by decide) rfl) (va_cwS 2 hts gL_act_L_at rfl rfl rfl (by decide +kernel) ⟨Nat.le_of_ble_eq_true rfl, Nat.le_of_ble_eq_true rfl⟩) (pN_S) rfl rfl hl.1 rfl (lv_room (Nat.le_of_ble_eq_true rfl)) dL_act_3 ⟨Nat.zero_le _, Nat.zero_le _⟩) (fun r_3 h_3 => ?_)
  have i_3 : vp_in r_3 9 := h_3
  refine lv_istore (lv' := [(4, .int r_3), (0, .ref x), (1, .int vx), (2, .int vy), (3, .ref pa)]) hx hb dL_act_6 hl (by decide) rfl (fun ls hl => ?_)
  refine lv_iload_n hx hb dL_act_8 rfl (lv_at hl 2 rfl) ?_
  refine lv_iconst (v := 5) hx hb dL_act_9 (by decide) ?_
  refine lv_ishr hx hb dL_act_10 ?_
  refine lv_istore (lv' := [(5, .int (vx >>> (5 &&& 31))), (4, .int r_3), (0, .ref x), (1, .int vx), (2, .int vy), (3, .ref pa)]) hx hb dL_act_11 hl (by decide) rfl (fun ls hl => ?_)
  refine lv_iload hx hb dL_act_13 (lv_at hl 0 rfl) ?_
  refine lv_bipush (v := 6) hx hb dL_act_15 (by decide) ?_
  refine vp_callSi (W.runS (As := [.int (vx >>> (5 &&& 31)), .int 6]) (rest := []) ⟨hx, hb, hml, hown, hts⟩ (c_L_at l (vx >>> (5 &&& 31)) 6 6 (by decide) (by decide) rfl) (va_cwS 2 hts gL_act_L_at rfl rfl rfl (by decide +kernel) ⟨Nat.le_of_ble_eq_true rfl, Nat.le_of_ble_eq_true rfl⟩) (pN_S) rfl rfl hl.1 rfl (lv_room (Nat.le_of_ble_eq_true rfl)) dL_act_17 ⟨Nat.zero_le _, Nat.zero_le _⟩) (fun r_17 h_17 => ?_)
  have i_17 : vp_in r_17 6 := h_17
  refine lv_istore (lv' := [(6, .int r_17), (5, .int (vx >>> (5 &&& 31))), (4, .int r_3), (0, .ref x), (1, .int vx), (2, .int vy), (3, .ref pa)]) hx hb dL_act_20 hl (by decide) rfl (fun ls hl => ?_)
  refine lv_iload hx hb dL_act_22 (lv_at hl 2 rfl) ?_
  refine lv_iconst (v := 2) hx hb dL_act_24 (by decide) ?_
  refine lv_icmp_ge (tgt := 158) hx hb dL_act_25 (by decide) (fun c_25 => ?_) (fun c_25 => ?_)
  · skip
    refine lv_iload hx hb dL_act_158 (lv_at hl 2 rfl) ?_
    refine lv_iconst (v := 5) hx hb dL_act_160 (by decide) ?_
    refine lv_icmp_ge (tgt := 283) hx hb dL_act_161 (by decide) (fun c_161 => ?_) (fun c_161 => ?_)
    · skip
      refine lv_iload hx hb dL_act_283 (lv_at hl 2 rfl) ?_
      refine lv_iconst (v := 5) hx hb dL_act_285 (by decide) ?_
      refine lv_icmp_ne (tgt := 310) hx hb dL_act_286 (by decide) (fun c_286 => ?_) (fun c_286 => ?_)
      · skip
        refine lv_aload_n hx hb dL_act_310 rfl (lv_at hl 3 rfl) ?_
        have hPc := hP.sub (ws' := wX cI cZ x a S) [0, 1, 2, 3, 4, 5, 6, 7, 8, 9, 10, 11, 12, 13] rfl
        refine vp_callSi (W.runV (As := []) (rest := []) ⟨hx, hb, hml, hown, hts⟩ (c_X0_cues l D cI cZ x a S) (cwV 0 hts gL_act_X0_cues rfl rfl rfl (by decide +kernel) ⟨Nat.le_of_ble_eq_true rfl, Nat.le_of_ble_eq_true rfl⟩) (pR_V (ci := 0) hPc hK rfl rfl) rfl rfl hl.1 rfl (lv_room (Nat.le_of_ble_eq_true rfl)) dL_act_311 ⟨Nat.zero_le _, Nat.zero_le _⟩) (fun r_311 h_311 => ?_)
        subst h_311
        refine lv_if_ne (tgt := 319) hx hb dL_act_314 (by decide) (fun c_314 => ?_) (fun c_314 => ?_)
        · skip
          have hpos : 0 < many S := Nat.pos_of_ne_zero (fun z => c_314 (hI.me.trans ((congrArg nI z).trans nI_0)))
          refine lv_iload_n hx hb dL_act_319 rfl (lv_at hl 5 rfl) ?_
          refine lv_aload_n hx hb dL_act_320 rfl (lv_at hl 3 rfl) ?_
          have hPc := hP.sub (ws' := wX cI cZ x a S) [0, 1, 2, 3, 4, 5, 6, 7, 8, 9, 10, 11, 12, 13] rfl
          refine vp_callSi (W.runV (As := []) (rest := [.int vy]) ⟨hx, hb, hml, hown, hts⟩ (c_X0_cues l D cI cZ x a S) (cwV 0 hts gL_act_X0_cues rfl rfl rfl (by decide +kernel) ⟨Nat.le_of_ble_eq_true rfl, Nat.le_of_ble_eq_true rfl⟩) (pR_V (ci := 0) hPc hK rfl rfl) rfl rfl hl.1 rfl (lv_room (Nat.le_of_ble_eq_true rfl)) dL_act_321 ⟨Nat.zero_le _, Nat.zero_le _⟩) (fun r_321 h_321 => ?_)
          subst h_321
          refine vp_callSi (W.runS (As := [.int vy, .int (S 10 0)]) (rest := []) ⟨hx, hb, hml, hown, hts⟩ (c_L_at l vy (S 10 0) (many S) hpos (by omega) hI.me) (va_cwS 2 hts gL_act_L_at rfl rfl rfl (by decide +kernel) ⟨Nat.le_of_ble_eq_true rfl, Nat.le_of_ble_eq_true rfl⟩) (pN_S) rfl rfl hl.1 rfl (lv_room (Nat.le_of_ble_eq_true rfl)) dL_act_324 ⟨Nat.zero_le _, Nat.zero_le _⟩) (fun r_324 h_324 => ?_)
          have i_324 : vp_in r_324 (many S) := h_324
          refine lv_istore (lv' := [(7, .int r_324), (6, .int r_17), (5, .int (vx >>> (5 &&& 31))), (4, .int r_3), (0, .ref x), (1, .int vx), (2, .int vy), (3, .ref pa)]) hx hb dL_act_327 hl (by decide) rfl (fun ls hl => ?_)
          refine lv_iload hx hb dL_act_329 (lv_at hl 3 rfl) ?_
          refine lv_bipush (v := 6) hx hb dL_act_331 (by decide) ?_
          refine lv_icmp_ne (tgt := 385) hx hb dL_act_333 (by decide) (fun c_333 => ?_) (fun c_333 => ?_)
          · skip
            refine lv_iload hx hb dL_act_385 (lv_at hl 3 rfl) ?_
            refine lv_bipush (v := 7) hx hb dL_act_387 (by decide) ?_
            refine lv_icmp_ne (tgt := 449) hx hb dL_act_389 (by decide) (fun c_389 => ?_) (fun c_389 => ?_)
            · skip
              refine lv_aload_n hx hb dL_act_449 rfl (lv_at hl 4 rfl) ?_
              refine lv_iconst (v := 1) hx hb dL_act_450 (by decide) ?_
              have hPc := hP.sub (ws' := wX cI cZ x a S) [0, 1, 2, 3, 4, 5, 6, 7, 8, 9, 10, 11, 12, 13] rfl
              refine vy_csi (vy_runS (As := [.ref x, .int 1]) (rest := []) ⟨hx, hb, hml, hown, hts⟩ (c_L_count l hfl D cI cZ x a S 1 _ (hI)) (va_cwS 2 hts gL_act_L_count rfl rfl rfl (by decide +kernel) ⟨Nat.le_of_ble_eq_true rfl, Nat.le_of_ble_eq_true rfl⟩) (pT_S (pR_S hPc hK) (hG.kept (fun q h1 h2 => hS.2.1 q h1 h2)) (fun q h => hA q (Nat.le_trans hS.1 h))) rfl rfl hl.1 rfl (lv_room (Nat.le_of_ble_eq_true rfl)) dL_act_451 ⟨Nat.le_of_ble_eq_true rfl, Nat.le_of_ble_eq_true rfl⟩) (fun E ce q9 H1 hPE hz9 hk9 hc9 hv9 hcl9 => (hPE).elim) (fun r_451 h_451 => ?_)
              subst h_451
              refine lv_istore (lv' := [(8, .int (nI (cN (S 8) 1 (many S)))), (7, .int r_324), (6, .int r_17), (5, .int (vx >>> (5 &&& 31))), (4, .int r_3), (0, .ref x), (1, .int vx), (2, .int vy), (3, .ref pa)]) hx hb dL_act_454 hl (by decide) rfl (fun ls hl => ?_)
              refine lv_aload_n hx hb dL_act_456 rfl (lv_at hl 5 rfl) ?_
              refine lv_iconst (v := 2) hx hb dL_act_457 (by decide) ?_
              have hPc := hP.sub (ws' := wX cI cZ x a S) [0, 1, 2, 3, 4, 5, 6, 7, 8, 9, 10, 11, 12, 13] rfl
              refine vy_csi (vy_runS (As := [.ref x, .int 2]) (rest := []) ⟨hx, hb, hml, hown, hts⟩ (c_L_count l hfl D cI cZ x a S 2 _ (hI)) (va_cwS 2 hts gL_act_L_count rfl rfl rfl (by decide +kernel) ⟨Nat.le_of_ble_eq_true rfl, Nat.le_of_ble_eq_true rfl⟩) (pT_S (pR_S hPc hK) (hG.kept (fun q h1 h2 => hS.2.1 q h1 h2)) (fun q h => hA q (Nat.le_trans hS.1 h))) rfl rfl hl.1 rfl (lv_room (Nat.le_of_ble_eq_true rfl)) dL_act_458 ⟨Nat.le_of_ble_eq_true rfl, Nat.le_of_ble_eq_true rfl⟩) (fun E ce q9 H1 hPE hz9 hk9 hc9 hv9 hcl9 => (hPE).elim) (fun r_458 h_458 => ?_)
              subst h_458
              refine lv_istore (lv' := [(9, .int (nI (cN (S 8) 2 (many S)))), (8, .int (nI (cN (S 8) 1 (many S)))), (7, .int r_324), (6, .int r_17), (5, .int (vx >>> (5 &&& 31))), (4, .int r_3), (0, .ref x), (1, .int vx), (2, .int vy), (3, .ref pa)]) hx hb dL_act_461 hl (by decide) rfl (fun ls hl => ?_)
              refine lv_iload hx hb dL_act_463 (lv_at hl 1 rfl) ?_
              refine lv_iload hx hb dL_act_465 (lv_at hl 0 rfl) ?_
              refine lv_iadd hx hb dL_act_467 ?_
              refine lv_aload_n hx hb dL_act_468 rfl (lv_at hl 6 rfl) ?_
              have hPc := hP.sub (ws' := wX cI cZ x a S) [0, 1, 2, 3, 4, 5, 6, 7, 8, 9, 10, 11, 12, 13] rfl
              refine vp_callSi (W.runV (As := []) (rest := [.int ((nI (cN (S 8) 1 (many S))) + (nI (cN (S 8) 2 (many S))))]) ⟨hx, hb, hml, hown, hts⟩ (c_X0_cues l D cI cZ x a S) (cwV 0 hts gL_act_X0_cues rfl rfl rfl (by decide +kernel) ⟨Nat.le_of_ble_eq_true rfl, Nat.le_of_ble_eq_true rfl⟩) (pR_V (ci := 0) hPc hK rfl rfl) rfl rfl hl.1 rfl (lv_room (Nat.le_of_ble_eq_true rfl)) dL_act_469 ⟨Nat.zero_le _, Nat.zero_le _⟩) (fun r_469 h_469 => ?_)
              subst h_469
              refine lv_icmp_ge (tgt := 477) hx hb dL_act_472 (by decide) (fun c_472 => ?_) (fun c_472 => ?_)
              · skip
                have hz := all_done hI c_472
                refine lv_aload_n hx hb dL_act_477 rfl (lv_at hl 6 rfl) ?_
                have hPc := hP.sub (ws' := wX cI cZ x a S) [0, 1, 2, 3, 4, 5, 6, 7, 8, 9, 10, 11, 12, 13] rfl
                refine vp_callSi (W.runV (As := []) (rest := []) ⟨hx, hb, hml, hown, hts⟩ (c_X0_purse l D cI cZ x a S) (cwV 0 hts gL_act_X0_purse rfl rfl rfl (by decide +kernel) ⟨Nat.le_of_ble_eq_true rfl, Nat.le_of_ble_eq_true rfl⟩) (pR_V (ci := 0) hPc hK rfl rfl) rfl rfl hl.1 rfl (lv_room (Nat.le_of_ble_eq_true rfl)) dL_act_478 ⟨Nat.zero_le _, Nat.zero_le _⟩) (fun r_478 h_478 => ?_)
                subst h_478
                refine lv_iload hx hb dL_act_481 (lv_at hl 1 rfl) ?_
                refine lv_iadd hx hb dL_act_483 ?_
                refine lv_iload hx hb dL_act_484 (lv_at hl 0 rfl) ?_
                refine lv_isub hx hb dL_act_486 ?_
                refine lv_istore (lv' := [(10, .int (((S 14 0) + (nI (cN (S 8) 1 (many S)))) - (nI (cN (S 8) 2 (many S))))), (9, .int (nI (cN (S 8) 2 (many S)))), (8, .int (nI (cN (S 8) 1 (many S)))), (7, .int r_324), (6, .int r_17), (5, .int (vx >>> (5 &&& 31))), (4, .int r_3), (0, .ref x), (1, .int vx), (2, .int vy), (3, .ref pa)]) hx hb dL_act_487 hl (by decide) rfl (fun ls hl => ?_)
                refine lv_aload_n hx hb dL_act_489 rfl (lv_at hl 7 rfl) ?_
                have hPc := hP.sub (ws' := wX cI cZ x a S) [0, 1, 2, 3, 4, 5, 6, 7, 8, 9, 10, 11, 12, 13] rfl
                refine vp_callSi (W.runV (As := []) (rest := []) ⟨hx, hb, hml, hown, hts⟩ (c_X0_plays l D cI cZ x a S) (cwV 0 hts gL_act_X0_plays rfl rfl rfl (by decide +kernel) ⟨Nat.le_of_ble_eq_true rfl, Nat.le_of_ble_eq_true rfl⟩) (pR_V (ci := 0) hPc hK rfl rfl) rfl rfl hl.1 rfl (lv_room (Nat.le_of_ble_eq_true rfl)) dL_act_490 ⟨Nat.zero_le _, Nat.zero_le _⟩) (fun r_490 h_490 => ?_)
                subst h_490
                refine lv_istore (lv' := [(11, .int (S 15 0)), (10, .int (((S 14 0) + (nI (cN (S 8) 1 (many S)))) - (nI (cN (S 8) 2 (many S))))), (9, .int (nI (cN (S 8) 2 (many S)))), (8, .int (nI (cN (S 8) 1 (many S)))), (7, .int r_324), (6, .int r_17), (5, .int (vx >>> (5 &&& 31))), (4, .int r_3), (0, .ref x), (1, .int vx), (2, .int vy), (3, .ref pa)]) hx hb dL_act_493 hl (by decide) rfl (fun ls hl => ?_)
                refine lv_aload_n hx hb dL_act_495 rfl (lv_at hl 8 rfl) ?_
                have k_496 := ans_end hz
                have hPc := hP.sub (ws' := wX cI cZ x a S) [0, 1, 2, 3, 4, 5, 6, 7, 8, 9, 10, 11, 12, 13] rfl
                have hDc := hD.sub (ws' := wX cI cZ x a S) [0, 1, 2, 3, 4, 5, 6, 7, 8, 9, 10, 11, 12, 13] (by decide) rfl
                have hFc := va_free (wc := wX cI cZ x a S) hD hS hA [0, 1, 2, 3, 4, 5, 6, 7, 8, 9, 10, 11, 12, 13] rfl
                refine vy_calli (vy_runV (As := []) (rest := []) ⟨hx, hb, hml, hown, hts⟩ (c_X0_endPlay l hfl D cI cZ x a S s.heap.size _ (hI) (by omega)) (cwV 0 hts gL_act_X0_endPlay rfl rfl rfl (by decide +kernel) ⟨Nat.le_of_ble_eq_true rfl, Nat.le_of_ble_eq_true rfl⟩) (pT_V (pW_V (ci := 0) hPc hK hDc rfl rfl) (hG.kept (fun q h1 h2 => hS.2.1 q h1 h2)) (fun q h => hA q (Nat.le_trans hS.1 h))) rfl rfl hl.1 rfl (lv_room (Nat.le_of_ble_eq_true rfl)) dL_act_496 ⟨Nat.le_of_ble_eq_true rfl, Nat.le_of_ble_eq_true rfl⟩) hS (fun q _ h => hFc q h) hFc (fun E ce q9 H1 locs hPE hz9 hk9 hS hc9 hv9 hcl9 => (k1x k_496 hPE).elim) (fun r_496 u_496 t9 H1 locs ht9 hvm9 h_496 hB9 hz9 hk9 hS => ?_)
                have hJ9 := va_join (wr := [wp cI pa fp]) hP hD [0, 1, 2, 3, 4, 5, 6, 7, 8, 9, 10, 11, 12, 13] [14] rfl rfl (by decide) (by decide) hk9 hFc (atW_P hB9 ht9) hB9.2
                have hP : va_P D vwCl (wX cI cZ x a u_496 ++ [wp cI pa fp]) H1 := hJ9.1.sub [1, 2, 3, 4, 5, 6, 7, 8, 9, 10, 11, 12, 13, 14, 0] rfl
                have hD : va_D A (wX cI cZ x a u_496 ++ [wp cI pa fp]) := hJ9.2.sub [1, 2, 3, 4, 5, 6, 7, 8, 9, 10, 11, 12, 13, 14, 0] (by decide) rfl
                generalize H1 = H at hP hS ⊢
                obtain ⟨e_496, w_496⟩ := kin k_496 h_496
                subst e_496
                have hgu : Good (B + 24) u_496 := by rw [w_496]; exact good_end hg (by omega)
                refine lv_iload hx hb dL_act_499 (lv_at hl 1 rfl) ?_
                refine lv_if_ge (tgt := 508) hx hb dL_act_501 (by decide) (fun c_501 => ?_) (fun c_501 => ?_)
                · skip
                  refine lv_iload hx hb dL_act_508 (lv_at hl 1 rfl) ?_
                  refine lv_icmp_ne (tgt := 535) hx hb dL_act_510 (by decide) (fun c_510 => ?_) (fun c_510 => ?_)
                  · skip
                    exact absurd (due_ge hI (by omega) c_501) c_510
                  · skip
                    refine lv_aload_n hx hb dL_act_513 rfl (lv_at hl 8 rfl) ?_
                    have hPc := hP.sub (ws' := wX cI cZ x a u_496) [0, 1, 2, 3, 4, 5, 6, 7, 8, 9, 10, 11, 12, 13] rfl
                    refine vp_callSi (W.runV (As := []) (rest := []) ⟨hx, hb, hml, hown, hts⟩ (c_X0_plays l D cI cZ x a u_496) (cwV 0 hts gL_act_X0_plays rfl rfl rfl (by decide +kernel) ⟨Nat.le_of_ble_eq_true rfl, Nat.le_of_ble_eq_true rfl⟩) (pR_V (ci := 0) hPc hK rfl rfl) rfl rfl hl.1 rfl (lv_room (Nat.le_of_ble_eq_true rfl)) dL_act_514 ⟨Nat.zero_le _, Nat.zero_le _⟩) (fun r_514 h_514 => ?_)
                    subst h_514
                    refine lv_iload hx hb dL_act_517 (lv_at hl 0 rfl) ?_
                    refine lv_iconst (v := 1) hx hb dL_act_519 (by decide) ?_
                    refine lv_iadd hx hb dL_act_520 ?_
                    refine lv_icmp_ne (tgt := 535) hx hb dL_act_521 (by decide) (fun c_521 => ?_) (fun c_521 => ?_)
                    · skip
                      exact absurd (by rw [w_496]; rfl) c_521
                    · skip
                      refine lv_aload_n hx hb dL_act_524 rfl (lv_at hl 8 rfl) ?_
                      have hPc := hP.sub (ws' := wX cI cZ x a u_496) [0, 1, 2, 3, 4, 5, 6, 7, 8, 9, 10, 11, 12, 13] rfl
                      refine vp_callSi (W.runV (As := []) (rest := []) ⟨hx, hb, hml, hown, hts⟩ (c_X0_cues l D cI cZ x a u_496) (cwV 0 hts gL_act_X0_cues rfl rfl rfl (by decide +kernel) ⟨Nat.le_of_ble_eq_true rfl, Nat.le_of_ble_eq_true rfl⟩) (pR_V (ci := 0) hPc hK rfl rfl) rfl rfl hl.1 rfl (lv_room (Nat.le_of_ble_eq_true rfl)) dL_act_525 ⟨Nat.zero_le _, Nat.zero_le _⟩) (fun r_525 h_525 => ?_)
                      subst h_525
                      refine lv_if_ne (tgt := 535) hx hb dL_act_528 (by decide) (fun c_528 => ?_) (fun c_528 => ?_)
                      · skip
                        exact absurd (by rw [w_496]; rfl) c_528
                      · skip
                        refine lv_iconst (v := 1) hx hb dL_act_531 (by decide) ?_
                        refine lv_goto (tgt := 536) hx hb dL_act_532 (by decide) ?_
                        exact vy_ret (W.zret (v := 1) (ty := .boolean) hx hb hr rfl (fun t ht hW => ⟨⟨_, (u_496, fp), rfl, ⟨rfl, ap_end hgu w_496⟩, by rw [ht]; exact hP, hD⟩, hS.F ht⟩) hS.2.2 dL_act_536)
                · skip
                  refine lv_iconst (v := 0) hx hb dL_act_504 (by decide) ?_
                  refine lv_goto (tgt := 510) hx hb dL_act_505 (by decide) ?_
                  refine lv_icmp_ne (tgt := 535) hx hb dL_act_510 (by decide) (fun c_510 => ?_) (fun c_510 => ?_)
                  · skip
                    exact absurd (due_lt hI (by omega) c_501) c_510
                  · skip
                    refine lv_aload_n hx hb dL_act_513 rfl (lv_at hl 8 rfl) ?_
                    have hPc := hP.sub (ws' := wX cI cZ x a u_496) [0, 1, 2, 3, 4, 5, 6, 7, 8, 9, 10, 11, 12, 13] rfl
                    refine vp_callSi (W.runV (As := []) (rest := []) ⟨hx, hb, hml, hown, hts⟩ (c_X0_plays l D cI cZ x a u_496) (cwV 0 hts gL_act_X0_plays rfl rfl rfl (by decide +kernel) ⟨Nat.le_of_ble_eq_true rfl, Nat.le_of_ble_eq_true rfl⟩) (pR_V (ci := 0) hPc hK rfl rfl) rfl rfl hl.1 rfl (lv_room (Nat.le_of_ble_eq_true rfl)) dL_act_514 ⟨Nat.zero_le _, Nat.zero_le _⟩) (fun r_514 h_514 => ?_)
                    subst h_514
                    refine lv_iload hx hb dL_act_517 (lv_at hl 0 rfl) ?_
                    refine lv_iconst (v := 1) hx hb dL_act_519 (by decide) ?_
                    refine lv_iadd hx hb dL_act_520 ?_
                    refine lv_icmp_ne (tgt := 535) hx hb dL_act_521 (by decide) (fun c_521 => ?_) (fun c_521 => ?_)
                    · skip
                      exact absurd (by rw [w_496]; rfl) c_521
                    · skip
                      refine lv_aload_n hx hb dL_act_524 rfl (lv_at hl 8 rfl) ?_
                      have hPc := hP.sub (ws' := wX cI cZ x a u_496) [0, 1, 2, 3, 4, 5, 6, 7, 8, 9, 10, 11, 12, 13] rfl
                      refine vp_callSi (W.runV (As := []) (rest := []) ⟨hx, hb, hml, hown, hts⟩ (c_X0_cues l D cI cZ x a u_496) (cwV 0 hts gL_act_X0_cues rfl rfl rfl (by decide +kernel) ⟨Nat.le_of_ble_eq_true rfl, Nat.le_of_ble_eq_true rfl⟩) (pR_V (ci := 0) hPc hK rfl rfl) rfl rfl hl.1 rfl (lv_room (Nat.le_of_ble_eq_true rfl)) dL_act_525 ⟨Nat.zero_le _, Nat.zero_le _⟩) (fun r_525 h_525 => ?_)
                      subst h_525
                      refine lv_if_ne (tgt := 535) hx hb dL_act_528 (by decide) (fun c_528 => ?_) (fun c_528 => ?_)
                      · skip
                        exact absurd (by rw [w_496]; rfl) c_528
                      · skip
                        refine lv_iconst (v := 1) hx hb dL_act_531 (by decide) ?_
                        refine lv_goto (tgt := 536) hx hb dL_act_532 (by decide) ?_
                        exact vy_ret (W.zret (v := 1) (ty := .boolean) hx hb hr rfl (fun t ht hW => ⟨⟨_, (u_496, fp), rfl, ⟨rfl, ap_end hgu w_496⟩, by rw [ht]; exact hP, hD⟩, hS.F ht⟩) hS.2.2 dL_act_536)
              · skip
                refine lv_iconst (v := 1) hx hb dL_act_475 (by decide) ?_
                exact vy_ret (W.zret (v := 1) (ty := .boolean) hx hb hr rfl (fun t ht hW => ⟨⟨_, (S, fp), rfl, ⟨rfl, ap_refl hg hk_⟩, by rw [ht]; exact hP, hD⟩, hS.F ht⟩) hS.2.2 dL_act_476)
            · skip
              refine lv_aload_n hx hb dL_act_392 rfl (lv_at hl 4 rfl) ?_
              refine lv_iconst (v := 1) hx hb dL_act_393 (by decide) ?_
              have hPc := hP.sub (ws' := wX cI cZ x a S) [0, 1, 2, 3, 4, 5, 6, 7, 8, 9, 10, 11, 12, 13] rfl
              refine vy_csi (vy_runS (As := [.ref x, .int 1]) (rest := []) ⟨hx, hb, hml, hown, hts⟩ (c_L_count l hfl D cI cZ x a S 1 _ (hI)) (va_cwS 2 hts gL_act_L_count rfl rfl rfl (by decide +kernel) ⟨Nat.le_of_ble_eq_true rfl, Nat.le_of_ble_eq_true rfl⟩) (pT_S (pR_S hPc hK) (hG.kept (fun q h1 h2 => hS.2.1 q h1 h2)) (fun q h => hA q (Nat.le_trans hS.1 h))) rfl rfl hl.1 rfl (lv_room (Nat.le_of_ble_eq_true rfl)) dL_act_394 ⟨Nat.le_of_ble_eq_true rfl, Nat.le_of_ble_eq_true rfl⟩) (fun E ce q9 H1 hPE hz9 hk9 hc9 hv9 hcl9 => (hPE).elim) (fun r_394 h_394 => ?_)
              subst h_394
              refine lv_istore (lv' := [(8, .int (nI (cN (S 8) 1 (many S)))), (7, .int r_324), (6, .int r_17), (5, .int (vx >>> (5 &&& 31))), (4, .int r_3), (0, .ref x), (1, .int vx), (2, .int vy), (3, .ref pa)]) hx hb dL_act_397 hl (by decide) rfl (fun ls hl => ?_)
              refine lv_aload_n hx hb dL_act_399 rfl (lv_at hl 5 rfl) ?_
              refine lv_iload hx hb dL_act_400 (lv_at hl 1 rfl) ?_
              have i_402 : vp_in r_324 (many S) := i_324
              have hPc := hP.sub (ws' := wX cI cZ x a S) [0, 1, 2, 3, 4, 5, 6, 7, 8, 9, 10, 11, 12, 13] rfl
              refine vy_csi (vy_runV (As := [.int r_324]) (rest := []) ⟨hx, hb, hml, hown, hts⟩ (c_X0_canCall l hfl D cI cZ x a S r_324 _ (hI)) (cwV 1 hts gL_act_X0_canCall rfl rfl rfl (by decide +kernel) ⟨Nat.le_of_ble_eq_true rfl, Nat.le_of_ble_eq_true rfl⟩) (pT_V (pR_V (ci := 0) hPc hK rfl rfl) (hG.kept (fun q h1 h2 => hS.2.1 q h1 h2)) (fun q h => hA q (Nat.le_trans hS.1 h))) rfl rfl hl.1 rfl (lv_room (Nat.le_of_ble_eq_true rfl)) dL_act_402 ⟨Nat.le_of_ble_eq_true rfl, Nat.le_of_ble_eq_true rfl⟩) (fun E ce q9 H1 hPE hz9 hk9 hc9 hv9 hcl9 => (kne i_402 hPE.2).elim) (fun r_402 h_402 => ?_)
              replace h_402 := krd i_402 h_402
              refine lv_if_eq (tgt := 443) hx hb dL_act_405 (by decide) (fun c_405 => ?_) (fun c_405 => ?_)
              · skip
                have b_402 := cif_b0 h_402 c_405
                refine lv_iconst (v := 1) hx hb dL_act_443 (by decide) ?_
                refine lv_goto (tgt := 448) hx hb dL_act_444 (by decide) ?_
                exact vy_ret (W.zret (v := 1) (ty := .boolean) hx hb hr rfl (fun t ht hW => ⟨⟨_, (S, fp), rfl, ⟨rfl, ap_refl hg hk_⟩, by rw [ht]; exact hP, hD⟩, hS.F ht⟩) hS.2.2 dL_act_448)
              · skip
                have b_402 := cif_b1 h_402 c_405
                refine lv_aload_n hx hb dL_act_408 rfl (lv_at hl 5 rfl) ?_
                refine lv_iload hx hb dL_act_409 (lv_at hl 1 rfl) ?_
                have k_411 := ans_call i_324 b_402
                have hPc := hP.sub (ws' := wX cI cZ x a S) [0, 1, 2, 3, 4, 5, 6, 7, 8, 9, 10, 11, 12, 13] rfl
                have hDc := hD.sub (ws' := wX cI cZ x a S) [0, 1, 2, 3, 4, 5, 6, 7, 8, 9, 10, 11, 12, 13] (by decide) rfl
                have hFc := va_free (wc := wX cI cZ x a S) hD hS hA [0, 1, 2, 3, 4, 5, 6, 7, 8, 9, 10, 11, 12, 13] rfl
                refine vy_calli (vy_runV (As := [.int r_324]) (rest := []) ⟨hx, hb, hml, hown, hts⟩ (c_X0_call l hfl D cI cZ x a S s.heap.size r_324 _ (hI)) (cwV 1 hts gL_act_X0_call rfl rfl rfl (by decide +kernel) ⟨Nat.le_of_ble_eq_true rfl, Nat.le_of_ble_eq_true rfl⟩) (pT_V (pW_V (ci := 0) hPc hK hDc rfl rfl) (hG.kept (fun q h1 h2 => hS.2.1 q h1 h2)) (fun q h => hA q (Nat.le_trans hS.1 h))) rfl rfl hl.1 rfl (lv_room (Nat.le_of_ble_eq_true rfl)) dL_act_411 ⟨Nat.le_of_ble_eq_true rfl, Nat.le_of_ble_eq_true rfl⟩) hS (fun q _ h => hFc q h) hFc (fun E ce q9 H1 locs hPE hz9 hk9 hS hc9 hv9 hcl9 => (k2x k_411 hPE).elim) (fun r_411 u_411 t9 H1 locs ht9 hvm9 h_411 hB9 hz9 hk9 hS => ?_)
                have hJ9 := va_join (wr := [wp cI pa fp]) hP hD [0, 1, 2, 3, 4, 5, 6, 7, 8, 9, 10, 11, 12, 13] [14] rfl rfl (by decide) (by decide) hk9 hFc (atW_P hB9 ht9) hB9.2
                have hP : va_P D vwCl (wX cI cZ x a u_411 ++ [wp cI pa fp]) H1 := hJ9.1.sub [1, 2, 3, 4, 5, 6, 7, 8, 9, 10, 11, 12, 13, 14, 0] rfl
                have hD : va_D A (wX cI cZ x a u_411 ++ [wp cI pa fp]) := hJ9.2.sub [1, 2, 3, 4, 5, 6, 7, 8, 9, 10, 11, 12, 13, 14, 0] (by decide) rfl
                generalize H1 = H at hP hS ⊢
                obtain ⟨e_411, w_411⟩ := kin k_411 h_411
                subst e_411
                have hgu : Good B u_411 := by rw [w_411]; exact good_call hg i_324 b_402
                have em : many u_411 = many S := by rw [w_411]; show (callQ S r_324 10 0).toNatClampNeg = (S 10 0).toNatClampNeg; rw [callQ_other (by decide) (by decide) (by decide) (by decide) (by decide) (by decide) (by decide)]
                have e8 : u_411 8 = upd (S 8) r_324.toNatClampNeg 1 := by rw [w_411, callQ_8]
                refine lv_iload hx hb dL_act_414 (lv_at hl 0 rfl) ?_
                refine lv_iconst (v := 1) hx hb dL_act_416 (by decide) ?_
                refine lv_iadd hx hb dL_act_417 ?_
                refine lv_icmp_ne (tgt := 447) hx hb dL_act_418 (by decide) (fun c_418 => ?_) (fun c_418 => ?_)
                · skip
                  exact absurd (by rw [hI.ce]) c_418
                · skip
                  refine lv_aload_n hx hb dL_act_421 rfl (lv_at hl 5 rfl) ?_
                  refine lv_iload hx hb dL_act_422 (lv_at hl 1 rfl) ?_
                  have i_424 : vp_in r_324 (many u_411) := by rw [em]; exact i_324
                  have hPc := hP.sub (ws' := wX cI cZ x a u_411) [0, 1, 2, 3, 4, 5, 6, 7, 8, 9, 10, 11, 12, 13] rfl
                  refine vy_csi (vy_runV (As := [.int r_324]) (rest := []) ⟨hx, hb, hml, hown, hts⟩ (c_X0_stateOf l hfl D cI cZ x a u_411 r_324 _ (hgu.1)) (cwV 1 hts gL_act_X0_stateOf rfl rfl rfl (by decide +kernel) ⟨Nat.le_of_ble_eq_true rfl, Nat.le_of_ble_eq_true rfl⟩) (pT_V (pR_V (ci := 0) hPc hK rfl rfl) (hG.kept (fun q h1 h2 => hS.2.1 q h1 h2)) (fun q h => hA q (Nat.le_trans hS.1 h))) rfl rfl hl.1 rfl (lv_room (Nat.le_of_ble_eq_true rfl)) dL_act_424 ⟨Nat.le_of_ble_eq_true rfl, Nat.le_of_ble_eq_true rfl⟩) (fun E ce q9 H1 hPE hz9 hk9 hc9 hv9 hcl9 => (kne i_424 hPE.2).elim) (fun r_424 h_424 => ?_)
                  replace h_424 : r_424 = u_411 8 r_324.toNatClampNeg := krd i_424 h_424
                  replace h_424 : r_424 = 1 := h_424.trans (by rw [e8, pk_us])
                  subst h_424
                  refine lv_iconst (v := 1) hx hb dL_act_427 (by decide) ?_
                  refine lv_icmp_ne (tgt := 447) hx hb dL_act_428 (by decide) (fun c_428 => ?_) (fun c_428 => ?_)
                  · skip
                    exact absurd c_428 (by decide)
                  · skip
                    refine lv_aload_n hx hb dL_act_431 rfl (lv_at hl 5 rfl) ?_
                    refine lv_iconst (v := 1) hx hb dL_act_432 (by decide) ?_
                    have hPc := hP.sub (ws' := wX cI cZ x a u_411) [0, 1, 2, 3, 4, 5, 6, 7, 8, 9, 10, 11, 12, 13] rfl
                    refine vy_csi (vy_runS (As := [.ref x, .int 1]) (rest := []) ⟨hx, hb, hml, hown, hts⟩ (c_L_count l hfl D cI cZ x a u_411 1 _ (hgu.1)) (va_cwS 2 hts gL_act_L_count rfl rfl rfl (by decide +kernel) ⟨Nat.le_of_ble_eq_true rfl, Nat.le_of_ble_eq_true rfl⟩) (pT_S (pR_S hPc hK) (hG.kept (fun q h1 h2 => hS.2.1 q h1 h2)) (fun q h => hA q (Nat.le_trans hS.1 h))) rfl rfl hl.1 rfl (lv_room (Nat.le_of_ble_eq_true rfl)) dL_act_433 ⟨Nat.le_of_ble_eq_true rfl, Nat.le_of_ble_eq_true rfl⟩) (fun E ce q9 H1 hPE hz9 hk9 hc9 hv9 hcl9 => (hPE).elim) (fun r_433 h_433 => ?_)
                    subst h_433
                    refine lv_iload hx hb dL_act_436 (lv_at hl 0 rfl) ?_
                    refine lv_iconst (v := 1) hx hb dL_act_438 (by decide) ?_
                    refine lv_iadd hx hb dL_act_439 ?_
                    refine lv_icmp_ne (tgt := 447) hx hb dL_act_440 (by decide) (fun c_440 => ?_) (fun c_440 => ?_)
                    · skip
                      exact absurd (by rw [em, e8, cN_put (by rw [b_402.1]; decide) (vin_lt i_324)]; exact (nI_1 _).symm) c_440
                    · skip
                      refine lv_iconst (v := 1) hx hb dL_act_443 (by decide) ?_
                      refine lv_goto (tgt := 448) hx hb dL_act_444 (by decide) ?_
                      exact vy_ret (W.zret (v := 1) (ty := .boolean) hx hb hr rfl (fun t ht hW => ⟨⟨_, (u_411, fp), rfl, ⟨rfl, ap_call hgu w_411 hk_⟩, by rw [ht]; exact hP, hD⟩, hS.F ht⟩) hS.2.2 dL_act_448)
          · skip
            refine lv_aload_n hx hb dL_act_336 rfl (lv_at hl 4 rfl) ?_
            refine lv_iconst (v := 2) hx hb dL_act_337 (by decide) ?_
            have hPc := hP.sub (ws' := wX cI cZ x a S) [0, 1, 2, 3, 4, 5, 6, 7, 8, 9, 10, 11, 12, 13] rfl
            refine vy_csi (vy_runS (As := [.ref x, .int 2]) (rest := []) ⟨hx, hb, hml, hown, hts⟩ (c_L_count l hfl D cI cZ x a S 2 _ (hI)) (va_cwS 2 hts gL_act_L_count rfl rfl rfl (by decide +kernel) ⟨Nat.le_of_ble_eq_true rfl, Nat.le_of_ble_eq_true rfl⟩) (pT_S (pR_S hPc hK) (hG.kept (fun q h1 h2 => hS.2.1 q h1 h2)) (fun q h => hA q (Nat.le_trans hS.1 h))) rfl rfl hl.1 rfl (lv_room (Nat.le_of_ble_eq_true rfl)) dL_act_338 ⟨Nat.le_of_ble_eq_true rfl, Nat.le_of_ble_eq_true rfl⟩) (fun E ce q9 H1 hPE hz9 hk9 hc9 hv9 hcl9 => (hPE).elim) (fun r_338 h_338 => ?_)
            subst h_338
            refine lv_istore (lv' := [(8, .int (nI (cN (S 8) 2 (many S)))), (7, .int r_324), (6, .int r_17), (5, .int (vx >>> (5 &&& 31))), (4, .int r_3), (0, .ref x), (1, .int vx), (2, .int vy), (3, .ref pa)]) hx hb dL_act_341 hl (by decide) rfl (fun ls hl => ?_)
            refine lv_aload_n hx hb dL_act_343 rfl (lv_at hl 5 rfl) ?_
            refine lv_iload hx hb dL_act_344 (lv_at hl 1 rfl) ?_
            have i_346 : vp_in r_324 (many S) := i_324
            have hPc := hP.sub (ws' := wX cI cZ x a S) [0, 1, 2, 3, 4, 5, 6, 7, 8, 9, 10, 11, 12, 13] rfl
            refine vy_csi (vy_runV (As := [.int r_324]) (rest := []) ⟨hx, hb, hml, hown, hts⟩ (c_X0_stateOf l hfl D cI cZ x a S r_324 _ (hI)) (cwV 1 hts gL_act_X0_stateOf rfl rfl rfl (by decide +kernel) ⟨Nat.le_of_ble_eq_true rfl, Nat.le_of_ble_eq_true rfl⟩) (pT_V (pR_V (ci := 0) hPc hK rfl rfl) (hG.kept (fun q h1 h2 => hS.2.1 q h1 h2)) (fun q h => hA q (Nat.le_trans hS.1 h))) rfl rfl hl.1 rfl (lv_room (Nat.le_of_ble_eq_true rfl)) dL_act_346 ⟨Nat.le_of_ble_eq_true rfl, Nat.le_of_ble_eq_true rfl⟩) (fun E ce q9 H1 hPE hz9 hk9 hc9 hv9 hcl9 => (kne i_346 hPE.2).elim) (fun r_346 h_346 => ?_)
            replace h_346 : r_346 = S 8 r_324.toNatClampNeg := krd i_346 h_346
            subst h_346
            refine lv_if_ne (tgt := 379) hx hb dL_act_349 (by decide) (fun c_349 => ?_) (fun c_349 => ?_)
            · skip
              refine lv_iconst (v := 1) hx hb dL_act_379 (by decide) ?_
              refine lv_goto (tgt := 384) hx hb dL_act_380 (by decide) ?_
              exact vy_ret (W.zret (v := 1) (ty := .boolean) hx hb hr rfl (fun t ht hW => ⟨⟨_, (S, fp), rfl, ⟨rfl, ap_refl hg hk_⟩, by rw [ht]; exact hP, hD⟩, hS.F ht⟩) hS.2.2 dL_act_384)
            · skip
              refine lv_aload_n hx hb dL_act_352 rfl (lv_at hl 5 rfl) ?_
              refine lv_iload hx hb dL_act_353 (lv_at hl 1 rfl) ?_
              have k_355 := ans_miss i_324 c_349
              have hPc := hP.sub (ws' := wX cI cZ x a S) [0, 1, 2, 3, 4, 5, 6, 7, 8, 9, 10, 11, 12, 13] rfl
              have hDc := hD.sub (ws' := wX cI cZ x a S) [0, 1, 2, 3, 4, 5, 6, 7, 8, 9, 10, 11, 12, 13] (by decide) rfl
              have hFc := va_free (wc := wX cI cZ x a S) hD hS hA [0, 1, 2, 3, 4, 5, 6, 7, 8, 9, 10, 11, 12, 13] rfl
              refine vy_calli (vy_runV (As := [.int r_324]) (rest := []) ⟨hx, hb, hml, hown, hts⟩ (c_X0_miss l hfl D cI cZ x a S s.heap.size r_324 _ (hI)) (cwV 1 hts gL_act_X0_miss rfl rfl rfl (by decide +kernel) ⟨Nat.le_of_ble_eq_true rfl, Nat.le_of_ble_eq_true rfl⟩) (pT_V (pW_V (ci := 0) hPc hK hDc rfl rfl) (hG.kept (fun q h1 h2 => hS.2.1 q h1 h2)) (fun q h => hA q (Nat.le_trans hS.1 h))) rfl rfl hl.1 rfl (lv_room (Nat.le_of_ble_eq_true rfl)) dL_act_355 ⟨Nat.le_of_ble_eq_true rfl, Nat.le_of_ble_eq_true rfl⟩) hS (fun q _ h => hFc q h) hFc (fun E ce q9 H1 locs hPE hz9 hk9 hS hc9 hv9 hcl9 => (k2x k_355 hPE).elim) (fun r_355 u_355 t9 H1 locs ht9 hvm9 h_355 hB9 hz9 hk9 hS => ?_)
              have hJ9 := va_join (wr := [wp cI pa fp]) hP hD [0, 1, 2, 3, 4, 5, 6, 7, 8, 9, 10, 11, 12, 13] [14] rfl rfl (by decide) (by decide) hk9 hFc (atW_P hB9 ht9) hB9.2
              have hP : va_P D vwCl (wX cI cZ x a u_355 ++ [wp cI pa fp]) H1 := hJ9.1.sub [1, 2, 3, 4, 5, 6, 7, 8, 9, 10, 11, 12, 13, 14, 0] rfl
              have hD : va_D A (wX cI cZ x a u_355 ++ [wp cI pa fp]) := hJ9.2.sub [1, 2, 3, 4, 5, 6, 7, 8, 9, 10, 11, 12, 13, 14, 0] (by decide) rfl
              generalize H1 = H at hP hS ⊢
              obtain ⟨e_355, w_355⟩ := kin k_355 h_355
              subst e_355
              have hgu : Good B u_355 := by rw [w_355]; exact good_miss hg i_324 c_349
              have em : many u_355 = many S := by rw [w_355]; rfl
              have e8 : u_355 8 = (missM S r_324).1 := by rw [w_355, row_same]
              refine lv_aload_n hx hb dL_act_358 rfl (lv_at hl 5 rfl) ?_
              refine lv_iconst (v := 2) hx hb dL_act_359 (by decide) ?_
              have hPc := hP.sub (ws' := wX cI cZ x a u_355) [0, 1, 2, 3, 4, 5, 6, 7, 8, 9, 10, 11, 12, 13] rfl
              refine vy_csi (vy_runS (As := [.ref x, .int 2]) (rest := [.int ((missM S r_324).2)]) ⟨hx, hb, hml, hown, hts⟩ (c_L_count l hfl D cI cZ x a u_355 2 _ (hgu.1)) (va_cwS 2 hts gL_act_L_count rfl rfl rfl (by decide +kernel) ⟨Nat.le_of_ble_eq_true rfl, Nat.le_of_ble_eq_true rfl⟩) (pT_S (pR_S hPc hK) (hG.kept (fun q h1 h2 => hS.2.1 q h1 h2)) (fun q h => hA q (Nat.le_trans hS.1 h))) rfl rfl hl.1 rfl (lv_room (Nat.le_of_ble_eq_true rfl)) dL_act_360 ⟨Nat.le_of_ble_eq_true rfl, Nat.le_of_ble_eq_true rfl⟩) (fun E ce q9 H1 hPE hz9 hk9 hc9 hv9 hcl9 => (hPE).elim) (fun r_360 h_360 => ?_)
              subst h_360
              refine lv_iload hx hb dL_act_363 (lv_at hl 0 rfl) ?_
              refine lv_isub hx hb dL_act_365 ?_
              refine lv_icmp_ne (tgt := 383) hx hb dL_act_366 (by decide) (fun c_366 => ?_) (fun c_366 => ?_)
              · skip
                exact absurd (by rw [em, e8]; exact miss_ans i_324 c_349) c_366
              · skip
                refine lv_aload_n hx hb dL_act_369 rfl (lv_at hl 5 rfl) ?_
                refine lv_iload hx hb dL_act_370 (lv_at hl 1 rfl) ?_
                have i_372 : vp_in r_324 (many u_355) := by rw [em]; exact i_324
                have hPc := hP.sub (ws' := wX cI cZ x a u_355) [0, 1, 2, 3, 4, 5, 6, 7, 8, 9, 10, 11, 12, 13] rfl
                refine vy_csi (vy_runV (As := [.int r_324]) (rest := []) ⟨hx, hb, hml, hown, hts⟩ (c_X0_stateOf l hfl D cI cZ x a u_355 r_324 _ (hgu.1)) (cwV 1 hts gL_act_X0_stateOf rfl rfl rfl (by decide +kernel) ⟨Nat.le_of_ble_eq_true rfl, Nat.le_of_ble_eq_true rfl⟩) (pT_V (pR_V (ci := 0) hPc hK rfl rfl) (hG.kept (fun q h1 h2 => hS.2.1 q h1 h2)) (fun q h => hA q (Nat.le_trans hS.1 h))) rfl rfl hl.1 rfl (lv_room (Nat.le_of_ble_eq_true rfl)) dL_act_372 ⟨Nat.le_of_ble_eq_true rfl, Nat.le_of_ble_eq_true rfl⟩) (fun E ce q9 H1 hPE hz9 hk9 hc9 hv9 hcl9 => (kne i_372 hPE.2).elim) (fun r_372 h_372 => ?_)
                replace h_372 : r_372 = u_355 8 r_324.toNatClampNeg := krd i_372 h_372
                replace h_372 : r_372 = 2 := h_372.trans (by rw [e8]; exact miss_self S r_324)
                subst h_372
                refine lv_iconst (v := 2) hx hb dL_act_375 (by decide) ?_
                refine lv_icmp_ne (tgt := 383) hx hb dL_act_376 (by decide) (fun c_376 => ?_) (fun c_376 => ?_)
                · skip
                  exact absurd c_376 (by decide)
                · skip
                  refine lv_iconst (v := 1) hx hb dL_act_379 (by decide) ?_
                  refine lv_goto (tgt := 384) hx hb dL_act_380 (by decide) ?_
                  exact vy_ret (W.zret (v := 1) (ty := .boolean) hx hb hr rfl (fun t ht hW => ⟨⟨_, (u_355, fp), rfl, ⟨rfl, ap_miss hgu w_355 hk_⟩, by rw [ht]; exact hP, hD⟩, hS.F ht⟩) hS.2.2 dL_act_384)
        · skip
          refine lv_iconst (v := 1) hx hb dL_act_317 (by decide) ?_
          exact vy_ret (W.zret (v := 1) (ty := .boolean) hx hb hr rfl (fun t ht hW => ⟨⟨_, (S, fp), rfl, ⟨rfl, ap_refl hg hk_⟩, by rw [ht]; exact hP, hD⟩, hS.F ht⟩) hS.2.2 dL_act_318)
      · skip
        refine lv_aload_n hx hb dL_act_289 rfl (lv_at hl 3 rfl) ?_
        have hPc := hP.sub (ws' := wX cI cZ x a S) [0, 1, 2, 3, 4, 5, 6, 7, 8, 9, 10, 11, 12, 13] rfl
        have hDc := hD.sub (ws' := wX cI cZ x a S) [0, 1, 2, 3, 4, 5, 6, 7, 8, 9, 10, 11, 12, 13] (by decide) rfl
        have hFc := va_free (wc := wX cI cZ x a S) hD hS hA [0, 1, 2, 3, 4, 5, 6, 7, 8, 9, 10, 11, 12, 13] rfl
        refine va_calli (va_runV (As := []) (rest := []) ⟨hx, hb, hml, hown, hts⟩ (c_X0_run l D cI cZ x a S s.heap.size _ (hI)) (cwV 0 hts gL_act_X0_run rfl rfl rfl (by decide +kernel) ⟨Nat.le_of_ble_eq_true rfl, Nat.le_of_ble_eq_true rfl⟩) (pW_V (ci := 0) hPc hK hDc rfl rfl) rfl rfl hl.1 rfl (lv_room (Nat.le_of_ble_eq_true rfl)) dL_act_290 ⟨Nat.zero_le _, Nat.zero_le _⟩) hS (fun q _ h => hFc q h) hFc (fun r_290 u_290 t9 H1 locs ht9 hvm9 h_290 hB9 hz9 hk9 hS => ?_)
        have hJ9 := va_join (wr := [wp cI pa fp]) hP hD [0, 1, 2, 3, 4, 5, 6, 7, 8, 9, 10, 11, 12, 13] [14] rfl rfl (by decide) (by decide) hk9 hFc (atW_P hB9 ht9) hB9.2
        have hP : va_P D vwCl (wX cI cZ x a u_290 ++ [wp cI pa fp]) H1 := hJ9.1.sub [1, 2, 3, 4, 5, 6, 7, 8, 9, 10, 11, 12, 13, 14, 0] rfl
        have hD : va_D A (wX cI cZ x a u_290 ++ [wp cI pa fp]) := hJ9.2.sub [1, 2, 3, 4, 5, 6, 7, 8, 9, 10, 11, 12, 13, 14, 0] (by decide) rfl
        generalize H1 = H at hP hS ⊢
        have k_290 := ans_run S
        obtain ⟨e_290, w_290⟩ := kin k_290 h_290
        subst e_290
        have hgu : Good B u_290 := by rw [w_290]; exact good_runN 24 hg
        refine lv_if_lt (tgt := 308) hx hb dL_act_293 (by decide) (fun c_293 => ?_) (fun c_293 => ?_)
        · skip
          exact absurd c_293 (run_nneg hI)
        · skip
          refine lv_aload_n hx hb dL_act_296 rfl (lv_at hl 3 rfl) ?_
          refine lv_iconst (v := 1) hx hb dL_act_297 (by decide) ?_
          have hPc := hP.sub (ws' := wX cI cZ x a u_290) [0, 1, 2, 3, 4, 5, 6, 7, 8, 9, 10, 11, 12, 13] rfl
          refine vy_csi (vy_runS (As := [.ref x, .int 1]) (rest := []) ⟨hx, hb, hml, hown, hts⟩ (c_L_count l hfl D cI cZ x a u_290 1 _ (hgu.1)) (va_cwS 2 hts gL_act_L_count rfl rfl rfl (by decide +kernel) ⟨Nat.le_of_ble_eq_true rfl, Nat.le_of_ble_eq_true rfl⟩) (pT_S (pR_S hPc hK) (hG.kept (fun q h1 h2 => hS.2.1 q h1 h2)) (fun q h => hA q (Nat.le_trans hS.1 h))) rfl rfl hl.1 rfl (lv_room (Nat.le_of_ble_eq_true rfl)) dL_act_298 ⟨Nat.le_of_ble_eq_true rfl, Nat.le_of_ble_eq_true rfl⟩) (fun E ce q9 H1 hPE hz9 hk9 hc9 hv9 hcl9 => (hPE).elim) (fun r_298 h_298 => ?_)
          subst h_298
          refine lv_if_lt (tgt := 308) hx hb dL_act_301 (by decide) (fun c_301 => ?_) (fun c_301 => ?_)
          · skip
            exact absurd c_301 (nI_nn (by have := cN_le (u_290 8) 1 (many u_290); have := hgu.1.m24; omega))
          · skip
            refine lv_iconst (v := 1) hx hb dL_act_304 (by decide) ?_
            refine lv_goto (tgt := 309) hx hb dL_act_305 (by decide) ?_
            exact vy_ret (W.zret (v := 1) (ty := .boolean) hx hb hr rfl (fun t ht hW => ⟨⟨_, (u_290, fp), rfl, ⟨rfl, ap_run hgu w_290 hk_⟩, by rw [ht]; exact hP, hD⟩, hS.F ht⟩) hS.2.2 dL_act_309)
    · skip
      refine lv_aload_n hx hb dL_act_164 rfl (lv_at hl 3 rfl) ?_
      have hPc := hP.sub (ws' := wX cI cZ x a S) [0, 1, 2, 3, 4, 5, 6, 7, 8, 9, 10, 11, 12, 13] rfl
      refine vp_callSi (W.runV (As := []) (rest := []) ⟨hx, hb, hml, hown, hts⟩ (c_X0_cues l D cI cZ x a S) (cwV 0 hts gL_act_X0_cues rfl rfl rfl (by decide +kernel) ⟨Nat.le_of_ble_eq_true rfl, Nat.le_of_ble_eq_true rfl⟩) (pR_V (ci := 0) hPc hK rfl rfl) rfl rfl hl.1 rfl (lv_room (Nat.le_of_ble_eq_true rfl)) dL_act_165 ⟨Nat.zero_le _, Nat.zero_le _⟩) (fun r_165 h_165 => ?_)
      subst h_165
      refine lv_istore (lv' := [(7, .int (S 10 0)), (6, .int r_17), (5, .int (vx >>> (5 &&& 31))), (4, .int r_3), (0, .ref x), (1, .int vx), (2, .int vy), (3, .ref pa)]) hx hb dL_act_168 hl (by decide) rfl (fun ls hl => ?_)
      refine lv_iload hx hb dL_act_170 (lv_at hl 1 rfl) ?_
      refine lv_iconst (v := 1) hx hb dL_act_172 (by decide) ?_
      refine lv_iadd hx hb dL_act_173 ?_
      refine lv_iload hx hb dL_act_174 (lv_at hl 2 rfl) ?_
      refine lv_iconst (v := 4) hx hb dL_act_176 (by decide) ?_
      refine lv_ishr hx hb dL_act_177 ?_
      refine lv_iconst (v := 5) hx hb dL_act_178 (by decide) ?_
      refine vp_callSi (W.runS (As := [.int ((vx >>> (5 &&& 31)) >>> (4 &&& 31)), .int 5]) (rest := [.int (r_17 + 1)]) ⟨hx, hb, hml, hown, hts⟩ (c_L_at l ((vx >>> (5 &&& 31)) >>> (4 &&& 31)) 5 5 (by decide) (by decide) rfl) (va_cwS 2 hts gL_act_L_at rfl rfl rfl (by decide +kernel) ⟨Nat.le_of_ble_eq_true rfl, Nat.le_of_ble_eq_true rfl⟩) (pN_S) rfl rfl hl.1 rfl (lv_room (Nat.le_of_ble_eq_true rfl)) dL_act_179 ⟨Nat.zero_le _, Nat.zero_le _⟩) (fun r_179 h_179 => ?_)
      have i_179 : vp_in r_179 5 := h_179
      refine lv_iadd hx hb dL_act_182 ?_
      refine lv_bipush (v := 6) hx hb dL_act_183 (by decide) ?_
      refine lv_irem hx hb dL_act_185 (by decide) ?_
      have hb8 := other_in i_17 i_179
      generalize ((r_17 + 1) + r_179) - ((r_17 + 1) + r_179) / 6 * 6 = vb at hb8 ⊢
      refine lv_istore (lv' := [(8, .int vb), (7, .int (S 10 0)), (6, .int r_17), (5, .int (vx >>> (5 &&& 31))), (4, .int r_3), (0, .ref x), (1, .int vx), (2, .int vy), (3, .ref pa)]) hx hb dL_act_186 hl (by decide) rfl (fun ls hl => ?_)
      refine W_gen (fun R Q hR hQ => ?_)
      have J_215 : ∀ (i9 : Int32) (ls : Array Slot), (i9 = -1 ∨ vp_in i9 (many S)) → lv_has ls 12 [(9, .int i9), (8, .int vb), (7, .int (S 10 0)), (6, .int r_17), (5, .int (vx >>> (5 &&& 31))), (4, .int r_3), (0, .ref x), (1, .int vx), (2, .int vy), (3, .ref pa)] → W pr l env R s mid ([.ref x, .int vx, .int vy, .ref pa] : List Value).toArray below meth cod s.heap [] 0 0 Q (F0 mid 215 ls []) := by
        subst hR; subst hQ
        intro i9 ls hw hl
        refine lv_iload hx hb dL_act_215 (lv_at hl 2 rfl) ?_
        refine lv_bipush (v := 24) hx hb dL_act_217 (by decide) ?_
        refine lv_icmp_eq (tgt := 237) hx hb dL_act_219 (by decide) (fun c_219 => ?_) (fun c_219 => ?_)
        · skip
          refine lv_iconst (v := 1) hx hb dL_act_237 (by decide) ?_
          exact vy_ret (W.zret (v := 1) (ty := .boolean) hx hb hr rfl (fun t ht hW => ⟨⟨_, (S, fp), rfl, ⟨rfl, ap_refl hg hk_⟩, by rw [ht]; exact hP, hD⟩, hS.F ht⟩) hS.2.2 dL_act_238)
        · skip
          have hlt : S 10 0 < 24 := lt_24 hI c_219
          have hc24 : vp_in (S 10 0) 24 := hI.lt24 hlt
          refine lv_iload hx hb dL_act_222 (lv_at hl 0 rfl) ?_
          refine lv_if_lt (tgt := 239) hx hb dL_act_224 (by decide) (fun c_224 => ?_) (fun c_224 => ?_)
          · skip
            have hw2 : i9 = -1 ∨ S 8 i9.toNatClampNeg ≠ 2 := Or.inl (neg_m1 hw c_224)
            refine lv_aload_n hx hb dL_act_239 rfl (lv_at hl 9 rfl) ?_
            refine lv_iload hx hb dL_act_240 (lv_at hl 2 rfl) ?_
            refine lv_iload hx hb dL_act_242 (lv_at hl 0 rfl) ?_
            refine va_iast (f := fp) (n := 24) hx hb hK hP hD hS 14 0 rfl rfl hc24 dL_act_244 (fun H locs hP hD hS => ?_)
            have hP : va_P D vwCl (wX cI cZ x a S ++ [wp cI pa (upd fp (S 10 0).toNatClampNeg i9)]) H := hP
            have hD : va_D A (wX cI cZ x a S ++ [wp cI pa (upd fp (S 10 0).toNatClampNeg i9)]) := hD
            refine lv_aload_n hx hb dL_act_245 rfl (lv_at hl 6 rfl) ?_
            refine lv_iload_n hx hb dL_act_246 rfl (lv_at hl 8 rfl) ?_
            refine lv_bipush (v := 7) hx hb dL_act_247 (by decide) ?_
            refine lv_ishr hx hb dL_act_249 ?_
            refine lv_iconst (v := 5) hx hb dL_act_250 (by decide) ?_
            refine vp_callSi (W.runS (As := [.int (vy >>> (7 &&& 31)), .int 5]) (rest := [.ref x]) ⟨hx, hb, hml, hown, hts⟩ (c_L_at l (vy >>> (7 &&& 31)) 5 5 (by decide) (by decide) rfl) (va_cwS 2 hts gL_act_L_at rfl rfl rfl (by decide +kernel) ⟨Nat.le_of_ble_eq_true rfl, Nat.le_of_ble_eq_true rfl⟩) (pN_S) rfl rfl hl.1 rfl (lv_room (Nat.le_of_ble_eq_true rfl)) dL_act_251 ⟨Nat.zero_le _, Nat.zero_le _⟩) (fun r_251 h_251 => ?_)
            have i_251 : vp_in r_251 5 := h_251
            refine lv_iload hx hb dL_act_254 (lv_at hl 3 rfl) ?_
            refine lv_iload hx hb dL_act_256 (lv_at hl 1 rfl) ?_
            refine lv_iload hx hb dL_act_258 (lv_at hl 0 rfl) ?_
            have k_260 := ans_add i_251 i_17 hb8.1 hb8.2 hw hlt hw2
            have hPc := hP.sub (ws' := wX cI cZ x a S) [0, 1, 2, 3, 4, 5, 6, 7, 8, 9, 10, 11, 12, 13] rfl
            have hDc := hD.sub (ws' := wX cI cZ x a S) [0, 1, 2, 3, 4, 5, 6, 7, 8, 9, 10, 11, 12, 13] (by decide) rfl
            have hFc := va_free (wc := wX cI cZ x a S) hD hS hA [0, 1, 2, 3, 4, 5, 6, 7, 8, 9, 10, 11, 12, 13] rfl
            refine vy_calli (vy_runV (As := [.int r_251, .int r_17, .int vb, .int i9]) (rest := []) ⟨hx, hb, hml, hown, hts⟩ (c_X0_addCue l hfl D cI cZ x a S H.size r_251 r_17 vb i9 _ (hI)) (cwV 4 hts gL_act_X0_addCue rfl rfl rfl (by decide +kernel) ⟨Nat.le_of_ble_eq_true rfl, Nat.le_of_ble_eq_true rfl⟩) (pT_V (pW_V (ci := 0) hPc hK hDc rfl rfl) (hG.kept (fun q h1 h2 => hS.2.1 q h1 h2)) (fun q h => hA q (Nat.le_trans hS.1 h))) rfl rfl hl.1 rfl (lv_room (Nat.le_of_ble_eq_true rfl)) dL_act_260 ⟨Nat.le_of_ble_eq_true rfl, Nat.le_of_ble_eq_true rfl⟩) hS (fun q _ h => hFc q h) hFc (fun E ce q9 H1 locs hPE hz9 hk9 hS hc9 hv9 hcl9 => (k3x k_260 hPE).elim) (fun r_260 u_260 t9 H1 locs ht9 hvm9 h_260 hB9 hz9 hk9 hS => ?_)
            have hJ9 := va_join (wr := [wp cI pa (upd fp (S 10 0).toNatClampNeg i9)]) hP hD [0, 1, 2, 3, 4, 5, 6, 7, 8, 9, 10, 11, 12, 13] [14] rfl rfl (by decide) (by decide) hk9 hFc (atW_P hB9 ht9) hB9.2
            have hP : va_P D vwCl (wX cI cZ x a u_260 ++ [wp cI pa (upd fp (S 10 0).toNatClampNeg i9)]) H1 := hJ9.1.sub [1, 2, 3, 4, 5, 6, 7, 8, 9, 10, 11, 12, 13, 14, 0] rfl
            have hD : va_D A (wX cI cZ x a u_260 ++ [wp cI pa (upd fp (S 10 0).toNatClampNeg i9)]) := hJ9.2.sub [1, 2, 3, 4, 5, 6, 7, 8, 9, 10, 11, 12, 13, 14, 0] (by decide) rfl
            generalize H1 = H at hP hS ⊢
            obtain ⟨e_260, w_260⟩ := kin k_260 h_260
            subst e_260
            have hgu : Good B u_260 := by rw [w_260]; exact good_add hg (kind_in i_251) i_17 hb8.1 hw hlt hw2
            have hmu : many u_260 = many S + 1 := by rw [w_260]; exact (add_many hI hlt _ _ _ _).2
            refine lv_iload hx hb dL_act_263 (lv_at hl 2 rfl) ?_
            refine lv_icmp_ne (tgt := 281) hx hb dL_act_265 (by decide) (fun c_265 => ?_) (fun c_265 => ?_)
            · skip
              exact absurd rfl c_265
            · skip
              refine lv_aload_n hx hb dL_act_268 rfl (lv_at hl 6 rfl) ?_
              refine lv_iload hx hb dL_act_269 (lv_at hl 2 rfl) ?_
              have i_271 : vp_in (S 10 0) (many u_260) := by rw [hmu, hI.me]; exact vp_in_nI (Nat.lt_succ_self _) (by omega)
              have hPc := hP.sub (ws' := wX cI cZ x a u_260) [0, 1, 2, 3, 4, 5, 6, 7, 8, 9, 10, 11, 12, 13] rfl
              refine vy_csi (vy_runV (As := [.int (S 10 0)]) (rest := []) ⟨hx, hb, hml, hown, hts⟩ (c_X0_stateOf l hfl D cI cZ x a u_260 (S 10 0) _ (hgu.1)) (cwV 1 hts gL_act_X0_stateOf rfl rfl rfl (by decide +kernel) ⟨Nat.le_of_ble_eq_true rfl, Nat.le_of_ble_eq_true rfl⟩) (pT_V (pR_V (ci := 0) hPc hK rfl rfl) (hG.kept (fun q h1 h2 => hS.2.1 q h1 h2)) (fun q h => hA q (Nat.le_trans hS.1 h))) rfl rfl hl.1 rfl (lv_room (Nat.le_of_ble_eq_true rfl)) dL_act_271 ⟨Nat.le_of_ble_eq_true rfl, Nat.le_of_ble_eq_true rfl⟩) (fun E ce q9 H1 hPE hz9 hk9 hc9 hv9 hcl9 => (kne i_271 hPE.2).elim) (fun r_271 h_271 => ?_)
              replace h_271 : r_271 = u_260 8 (S 10 0).toNatClampNeg := krd i_271 h_271
              replace h_271 : r_271 = 0 := h_271.trans (by rw [w_260]; show upd (S 8) (many S) 0 (many S) = 0; exact pk_us)
              subst h_271
              refine lv_if_ne (tgt := 281) hx hb dL_act_274 (by decide) (fun c_274 => ?_) (fun c_274 => ?_)
              · skip
                exact absurd c_274 (by decide)
              · skip
                refine lv_iconst (v := 1) hx hb dL_act_277 (by decide) ?_
                refine lv_goto (tgt := 282) hx hb dL_act_278 (by decide) ?_
                exact vy_ret (W.zret (v := 1) (ty := .boolean) hx hb hr rfl (fun t ht hW => ⟨⟨_, (u_260, upd fp (S 10 0).toNatClampNeg i9), rfl, ⟨rfl, ap_add (f := fp) hgu w_260 (lnk_add hI hk_ hlt _ _ _ _)⟩, by rw [ht]; exact hP, hD⟩, hS.F ht⟩) hS.2.2 dL_act_282)
          · skip
            refine lv_aload_n hx hb dL_act_227 rfl (lv_at hl 6 rfl) ?_
            refine lv_iload hx hb dL_act_228 (lv_at hl 0 rfl) ?_
            have i_230 : vp_in i9 (many S) := in_of hw c_224
            have hPc := hP.sub (ws' := wX cI cZ x a S) [0, 1, 2, 3, 4, 5, 6, 7, 8, 9, 10, 11, 12, 13] rfl
            refine vy_csi (vy_runV (As := [.int i9]) (rest := []) ⟨hx, hb, hml, hown, hts⟩ (c_X0_stateOf l hfl D cI cZ x a S i9 _ (hI)) (cwV 1 hts gL_act_X0_stateOf rfl rfl rfl (by decide +kernel) ⟨Nat.le_of_ble_eq_true rfl, Nat.le_of_ble_eq_true rfl⟩) (pT_V (pR_V (ci := 0) hPc hK rfl rfl) (hG.kept (fun q h1 h2 => hS.2.1 q h1 h2)) (fun q h => hA q (Nat.le_trans hS.1 h))) rfl rfl hl.1 rfl (lv_room (Nat.le_of_ble_eq_true rfl)) dL_act_230 ⟨Nat.le_of_ble_eq_true rfl, Nat.le_of_ble_eq_true rfl⟩) (fun E ce q9 H1 hPE hz9 hk9 hc9 hv9 hcl9 => (kne i_230 hPE.2).elim) (fun r_230 h_230 => ?_)
            replace h_230 : r_230 = S 8 i9.toNatClampNeg := krd i_230 h_230
            subst h_230
            refine lv_iconst (v := 2) hx hb dL_act_233 (by decide) ?_
            refine lv_icmp_ne (tgt := 239) hx hb dL_act_234 (by decide) (fun c_234 => ?_) (fun c_234 => ?_)
            · skip
              have hw2 : i9 = -1 ∨ S 8 i9.toNatClampNeg ≠ 2 := Or.inr c_234
              refine lv_aload_n hx hb dL_act_239 rfl (lv_at hl 9 rfl) ?_
              refine lv_iload hx hb dL_act_240 (lv_at hl 2 rfl) ?_
              refine lv_iload hx hb dL_act_242 (lv_at hl 0 rfl) ?_
              refine va_iast (f := fp) (n := 24) hx hb hK hP hD hS 14 0 rfl rfl hc24 dL_act_244 (fun H locs hP hD hS => ?_)
              have hP : va_P D vwCl (wX cI cZ x a S ++ [wp cI pa (upd fp (S 10 0).toNatClampNeg i9)]) H := hP
              have hD : va_D A (wX cI cZ x a S ++ [wp cI pa (upd fp (S 10 0).toNatClampNeg i9)]) := hD
              refine lv_aload_n hx hb dL_act_245 rfl (lv_at hl 6 rfl) ?_
              refine lv_iload_n hx hb dL_act_246 rfl (lv_at hl 8 rfl) ?_
              refine lv_bipush (v := 7) hx hb dL_act_247 (by decide) ?_
              refine lv_ishr hx hb dL_act_249 ?_
              refine lv_iconst (v := 5) hx hb dL_act_250 (by decide) ?_
              refine vp_callSi (W.runS (As := [.int (vy >>> (7 &&& 31)), .int 5]) (rest := [.ref x]) ⟨hx, hb, hml, hown, hts⟩ (c_L_at l (vy >>> (7 &&& 31)) 5 5 (by decide) (by decide) rfl) (va_cwS 2 hts gL_act_L_at rfl rfl rfl (by decide +kernel) ⟨Nat.le_of_ble_eq_true rfl, Nat.le_of_ble_eq_true rfl⟩) (pN_S) rfl rfl hl.1 rfl (lv_room (Nat.le_of_ble_eq_true rfl)) dL_act_251 ⟨Nat.zero_le _, Nat.zero_le _⟩) (fun r_251 h_251 => ?_)
              have i_251 : vp_in r_251 5 := h_251
              refine lv_iload hx hb dL_act_254 (lv_at hl 3 rfl) ?_
              refine lv_iload hx hb dL_act_256 (lv_at hl 1 rfl) ?_
              refine lv_iload hx hb dL_act_258 (lv_at hl 0 rfl) ?_
              have k_260 := ans_add i_251 i_17 hb8.1 hb8.2 hw hlt hw2
              have hPc := hP.sub (ws' := wX cI cZ x a S) [0, 1, 2, 3, 4, 5, 6, 7, 8, 9, 10, 11, 12, 13] rfl
              have hDc := hD.sub (ws' := wX cI cZ x a S) [0, 1, 2, 3, 4, 5, 6, 7, 8, 9, 10, 11, 12, 13] (by decide) rfl
              have hFc := va_free (wc := wX cI cZ x a S) hD hS hA [0, 1, 2, 3, 4, 5, 6, 7, 8, 9, 10, 11, 12, 13] rfl
              refine vy_calli (vy_runV (As := [.int r_251, .int r_17, .int vb, .int i9]) (rest := []) ⟨hx, hb, hml, hown, hts⟩ (c_X0_addCue l hfl D cI cZ x a S H.size r_251 r_17 vb i9 _ (hI)) (cwV 4 hts gL_act_X0_addCue rfl rfl rfl (by decide +kernel) ⟨Nat.le_of_ble_eq_true rfl, Nat.le_of_ble_eq_true rfl⟩) (pT_V (pW_V (ci := 0) hPc hK hDc rfl rfl) (hG.kept (fun q h1 h2 => hS.2.1 q h1 h2)) (fun q h => hA q (Nat.le_trans hS.1 h))) rfl rfl hl.1 rfl (lv_room (Nat.le_of_ble_eq_true rfl)) dL_act_260 ⟨Nat.le_of_ble_eq_true rfl, Nat.le_of_ble_eq_true rfl⟩) hS (fun q _ h => hFc q h) hFc (fun E ce q9 H1 locs hPE hz9 hk9 hS hc9 hv9 hcl9 => (k3x k_260 hPE).elim) (fun r_260 u_260 t9 H1 locs ht9 hvm9 h_260 hB9 hz9 hk9 hS => ?_)
              have hJ9 := va_join (wr := [wp cI pa (upd fp (S 10 0).toNatClampNeg i9)]) hP hD [0, 1, 2, 3, 4, 5, 6, 7, 8, 9, 10, 11, 12, 13] [14] rfl rfl (by decide) (by decide) hk9 hFc (atW_P hB9 ht9) hB9.2
              have hP : va_P D vwCl (wX cI cZ x a u_260 ++ [wp cI pa (upd fp (S 10 0).toNatClampNeg i9)]) H1 := hJ9.1.sub [1, 2, 3, 4, 5, 6, 7, 8, 9, 10, 11, 12, 13, 14, 0] rfl
              have hD : va_D A (wX cI cZ x a u_260 ++ [wp cI pa (upd fp (S 10 0).toNatClampNeg i9)]) := hJ9.2.sub [1, 2, 3, 4, 5, 6, 7, 8, 9, 10, 11, 12, 13, 14, 0] (by decide) rfl
              generalize H1 = H at hP hS ⊢
              obtain ⟨e_260, w_260⟩ := kin k_260 h_260
              subst e_260
              have hgu : Good B u_260 := by rw [w_260]; exact good_add hg (kind_in i_251) i_17 hb8.1 hw hlt hw2
              have hmu : many u_260 = many S + 1 := by rw [w_260]; exact (add_many hI hlt _ _ _ _).2
              refine lv_iload hx hb dL_act_263 (lv_at hl 2 rfl) ?_
              refine lv_icmp_ne (tgt := 281) hx hb dL_act_265 (by decide) (fun c_265 => ?_) (fun c_265 => ?_)
              · skip
                exact absurd rfl c_265
              · skip
                refine lv_aload_n hx hb dL_act_268 rfl (lv_at hl 6 rfl) ?_
                refine lv_iload hx hb dL_act_269 (lv_at hl 2 rfl) ?_
                have i_271 : vp_in (S 10 0) (many u_260) := by rw [hmu, hI.me]; exact vp_in_nI (Nat.lt_succ_self _) (by omega)
                have hPc := hP.sub (ws' := wX cI cZ x a u_260) [0, 1, 2, 3, 4, 5, 6, 7, 8, 9, 10, 11, 12, 13] rfl
                refine vy_csi (vy_runV (As := [.int (S 10 0)]) (rest := []) ⟨hx, hb, hml, hown, hts⟩ (c_X0_stateOf l hfl D cI cZ x a u_260 (S 10 0) _ (hgu.1)) (cwV 1 hts gL_act_X0_stateOf rfl rfl rfl (by decide +kernel) ⟨Nat.le_of_ble_eq_true rfl, Nat.le_of_ble_eq_true rfl⟩) (pT_V (pR_V (ci := 0) hPc hK rfl rfl) (hG.kept (fun q h1 h2 => hS.2.1 q h1 h2)) (fun q h => hA q (Nat.le_trans hS.1 h))) rfl rfl hl.1 rfl (lv_room (Nat.le_of_ble_eq_true rfl)) dL_act_271 ⟨Nat.le_of_ble_eq_true rfl, Nat.le_of_ble_eq_true rfl⟩) (fun E ce q9 H1 hPE hz9 hk9 hc9 hv9 hcl9 => (kne i_271 hPE.2).elim) (fun r_271 h_271 => ?_)
                replace h_271 : r_271 = u_260 8 (S 10 0).toNatClampNeg := krd i_271 h_271
                replace h_271 : r_271 = 0 := h_271.trans (by rw [w_260]; show upd (S 8) (many S) 0 (many S) = 0; exact pk_us)
                subst h_271
                refine lv_if_ne (tgt := 281) hx hb dL_act_274 (by decide) (fun c_274 => ?_) (fun c_274 => ?_)
                · skip
                  exact absurd c_274 (by decide)
                · skip
                  refine lv_iconst (v := 1) hx hb dL_act_277 (by decide) ?_
                  refine lv_goto (tgt := 282) hx hb dL_act_278 (by decide) ?_
                  exact vy_ret (W.zret (v := 1) (ty := .boolean) hx hb hr rfl (fun t ht hW => ⟨⟨_, (u_260, upd fp (S 10 0).toNatClampNeg i9), rfl, ⟨rfl, ap_add (f := fp) hgu w_260 (lnk_add hI hk_ hlt _ _ _ _)⟩, by rw [ht]; exact hP, hD⟩, hS.F ht⟩) hS.2.2 dL_act_282)
            · skip
              refine lv_iconst (v := 1) hx hb dL_act_237 (by decide) ?_
              exact vy_ret (W.zret (v := 1) (ty := .boolean) hx hb hr rfl (fun t ht hW => ⟨⟨_, (S, fp), rfl, ⟨rfl, ap_refl hg hk_⟩, by rw [ht]; exact hP, hD⟩, hS.F ht⟩) hS.2.2 dL_act_238)
      subst hR; subst hQ
      refine lv_iload hx hb dL_act_188 (lv_at hl 1 rfl) ?_
      refine lv_if_eq (tgt := 201) hx hb dL_act_190 (by decide) (fun c_190 => ?_) (fun c_190 => ?_)
      · skip
        refine lv_iconst (v := (-1)) hx hb dL_act_201 (by decide) ?_
        refine lv_goto (tgt := 213) hx hb dL_act_202 (by decide) ?_
        refine lv_istore (lv' := [(9, .int (-1)), (8, .int vb), (7, .int (S 10 0)), (6, .int r_17), (5, .int (vx >>> (5 &&& 31))), (4, .int r_3), (0, .ref x), (1, .int vx), (2, .int vy), (3, .ref pa)]) hx hb dL_act_213 hl (by decide) rfl (fun ls hl => ?_)
        exact J_215 (-1) _ (Or.inl rfl) (lv_sub hl [0, 1, 2, 3, 4, 5, 6, 7, 8, 9] rfl)
      · skip
        have hpos : 0 < many S := Nat.pos_of_ne_zero (fun z => c_190 (hI.me.trans ((congrArg nI z).trans nI_0)))
        refine lv_iload_n hx hb dL_act_193 rfl (lv_at hl 7 rfl) ?_
        refine lv_iconst (v := 2) hx hb dL_act_194 (by decide) ?_
        refine vp_callSi (W.runS (As := [.int vy, .int 2]) (rest := []) ⟨hx, hb, hml, hown, hts⟩ (c_L_at l vy 2 2 (by decide) (by decide) rfl) (va_cwS 2 hts gL_act_L_at rfl rfl rfl (by decide +kernel) ⟨Nat.le_of_ble_eq_true rfl, Nat.le_of_ble_eq_true rfl⟩) (pN_S) rfl rfl hl.1 rfl (lv_room (Nat.le_of_ble_eq_true rfl)) dL_act_195 ⟨Nat.zero_le _, Nat.zero_le _⟩) (fun r_195 h_195 => ?_)
        have i_195 : vp_in r_195 2 := h_195
        refine lv_if_ne (tgt := 205) hx hb dL_act_198 (by decide) (fun c_198 => ?_) (fun c_198 => ?_)
        · skip
          refine lv_iload_n hx hb dL_act_205 rfl (lv_at hl 7 rfl) ?_
          refine lv_iconst (v := 3) hx hb dL_act_206 (by decide) ?_
          refine lv_ishr hx hb dL_act_207 ?_
          refine lv_iload hx hb dL_act_208 (lv_at hl 1 rfl) ?_
          refine vp_callSi (W.runS (As := [.int (vy >>> (3 &&& 31)), .int (S 10 0)]) (rest := []) ⟨hx, hb, hml, hown, hts⟩ (c_L_at l (vy >>> (3 &&& 31)) (S 10 0) (many S) hpos (by omega) hI.me) (va_cwS 2 hts gL_act_L_at rfl rfl rfl (by decide +kernel) ⟨Nat.le_of_ble_eq_true rfl, Nat.le_of_ble_eq_true rfl⟩) (pN_S) rfl rfl hl.1 rfl (lv_room (Nat.le_of_ble_eq_true rfl)) dL_act_210 ⟨Nat.zero_le _, Nat.zero_le _⟩) (fun r_210 h_210 => ?_)
          have i_210 : vp_in r_210 (many S) := h_210
          refine lv_istore (lv' := [(9, .int r_210), (8, .int vb), (7, .int (S 10 0)), (6, .int r_17), (5, .int (vx >>> (5 &&& 31))), (4, .int r_3), (0, .ref x), (1, .int vx), (2, .int vy), (3, .ref pa)]) hx hb dL_act_213 hl (by decide) rfl (fun ls hl => ?_)
          exact J_215 r_210 _ (Or.inr i_210) (lv_sub hl [0, 1, 2, 3, 4, 5, 6, 7, 8, 9] rfl)
        · skip
          refine lv_iconst (v := (-1)) hx hb dL_act_201 (by decide) ?_
          refine lv_goto (tgt := 213) hx hb dL_act_202 (by decide) ?_
          refine lv_istore (lv' := [(9, .int (-1)), (8, .int vb), (7, .int (S 10 0)), (6, .int r_17), (5, .int (vx >>> (5 &&& 31))), (4, .int r_3), (0, .ref x), (1, .int vx), (2, .int vy), (3, .ref pa)]) hx hb dL_act_213 hl (by decide) rfl (fun ls hl => ?_)
          exact J_215 (-1) _ (Or.inl rfl) (lv_sub hl [0, 1, 2, 3, 4, 5, 6, 7, 8, 9] rfl)
  · skip
    refine lv_iload hx hb dL_act_28 (lv_at hl 0 rfl) ?_
    refine lv_iload_n hx hb dL_act_30 rfl (lv_at hl 5 rfl) ?_
    refine lv_iconst (v := 3) hx hb dL_act_31 (by decide) ?_
    refine vp_callSi (W.runS (As := [.int vy, .int 3]) (rest := [.int r_17]) ⟨hx, hb, hml, hown, hts⟩ (c_L_at l vy 3 3 (by decide) (by decide) rfl) (va_cwS 2 hts gL_act_L_at rfl rfl rfl (by decide +kernel) ⟨Nat.le_of_ble_eq_true rfl, Nat.le_of_ble_eq_true rfl⟩) (pN_S) rfl rfl hl.1 rfl (lv_room (Nat.le_of_ble_eq_true rfl)) dL_act_32 ⟨Nat.zero_le _, Nat.zero_le _⟩) (fun r_32 h_32 => ?_)
    have i_32 : vp_in r_32 3 := h_32
    have hc8 := cos_in i_17 i_32
    refine lv_iadd hx hb dL_act_35 ?_
    refine lv_istore (lv' := [(7, .int (r_17 + r_32)), (6, .int r_17), (5, .int (vx >>> (5 &&& 31))), (4, .int r_3), (0, .ref x), (1, .int vx), (2, .int vy), (3, .ref pa)]) hx hb dL_act_36 hl (by decide) rfl (fun ls hl => ?_)
    refine lv_aload_n hx hb dL_act_38 rfl (lv_at hl 4 rfl) ?_
    refine lv_iload hx hb dL_act_39 (lv_at hl 1 rfl) ?_
    have i_41 : vp_in r_17 6 := i_17
    have hPc := hP.sub (ws' := wX cI cZ x a S) [0, 1, 2, 3, 4, 5, 6, 7, 8, 9, 10, 11, 12, 13] rfl
    refine vy_csi (vy_runV (As := [.int r_17]) (rest := []) ⟨hx, hb, hml, hown, hts⟩ (c_X0_costumeOf l hfl D cI cZ x a S r_17) (cwV 1 hts gL_act_X0_costumeOf rfl rfl rfl (by decide +kernel) ⟨Nat.le_of_ble_eq_true rfl, Nat.le_of_ble_eq_true rfl⟩) (pT_V (pR_V (ci := 0) hPc hK rfl rfl) (hG.kept (fun q h1 h2 => hS.2.1 q h1 h2)) (fun q h => hA q (Nat.le_trans hS.1 h))) rfl rfl hl.1 rfl (lv_room (Nat.le_of_ble_eq_true rfl)) dL_act_41 ⟨Nat.le_of_ble_eq_true rfl, Nat.le_of_ble_eq_true rfl⟩) (fun E ce q9 H1 hPE hz9 hk9 hc9 hv9 hcl9 => (kne i_41 hPE.2).elim) (fun r_41 h_41 => ?_)
    replace h_41 : r_41 = S 0 r_17.toNatClampNeg := krd i_41 h_41
    subst h_41
    refine lv_istore (lv' := [(8, .int (S 0 r_17.toNatClampNeg)), (7, .int (r_17 + r_32)), (6, .int r_17), (5, .int (vx >>> (5 &&& 31))), (4, .int r_3), (0, .ref x), (1, .int vx), (2, .int vy), (3, .ref pa)]) hx hb dL_act_44 hl (by decide) rfl (fun ls hl => ?_)
    refine W_gen (fun R Q hR hQ => ?_)
    have J_79 : ∀ (i9 : Int32) (ls : Array Slot), (i9 = 0 ∨ (i9 = 1 ∧ S 2 r_17.toNatClampNeg = 0 ∧ S 3 (r_17 + r_32).toNatClampNeg < 3)) → lv_has ls 12 [(9, .int i9), (8, .int (S 0 r_17.toNatClampNeg)), (7, .int (r_17 + r_32)), (6, .int r_17), (5, .int (vx >>> (5 &&& 31))), (4, .int r_3), (0, .ref x), (1, .int vx), (2, .int vy), (3, .ref pa)] → W pr l env R s mid ([.ref x, .int vx, .int vy, .ref pa] : List Value).toArray below meth cod s.heap [] 0 0 Q (F0 mid 79 ls []) := by
      subst hR; subst hQ
      intro i9 ls h9 hl
      refine lv_iconst (v := 0) hx hb dL_act_79 (by decide) ?_
      refine lv_istore (lv' := [(10, .int 0), (9, .int i9), (8, .int (S 0 r_17.toNatClampNeg)), (7, .int (r_17 + r_32)), (6, .int r_17), (5, .int (vx >>> (5 &&& 31))), (4, .int r_3), (0, .ref x), (1, .int vx), (2, .int vy), (3, .ref pa)]) hx hb dL_act_80 hl (by decide) rfl (fun ls hl => ?_)
      refine W_gen (fun R Q hR hQ => ?_)
      have loop_82 : ∀ (n : Nat) (j : Nat) (k9 : Int32) (i10 : Int32), (j ≤ 6) → (7 ≤ j + n) → (i10 = nI j) → (k9 = 0 ∨ (k9 = 1 ∧ S 2 r_17.toNatClampNeg = 0 ∧ S 3 (r_17 + r_32).toNatClampNeg < 3 ∧ ∀ k, k < j → (k = r_17.toNatClampNeg ∨ ¬ S 0 k = r_17 + r_32))) → ∀ ls : Array Slot, lv_has ls 12 [(10, .int i10), (9, .int k9), (8, .int (S 0 r_17.toNatClampNeg)), (7, .int (r_17 + r_32)), (6, .int r_17), (5, .int (vx >>> (5 &&& 31))), (4, .int r_3), (0, .ref x), (1, .int vx), (2, .int vy), (3, .ref pa)] → W pr l env R s mid ([.ref x, .int vx, .int vy, .ref pa] : List Value).toArray below meth cod s.heap [] 0 0 Q (F0 mid 82 ls []) := by
        subst hR; subst hQ
        intro n
        induction n with
        | zero =>
          intro j k9 i10 hj hn e10 h9b ls hl
          exfalso; omega
        | succ n ih82 =>
          intro j k9 i10 hj hn e10 h9b ls hl
          refine lv_iload hx hb dL_act_82 (lv_at hl 0 rfl) ?_
          refine lv_bipush (v := 6) hx hb dL_act_84 (by decide) ?_
          refine lv_icmp_ge (tgt := 123) hx hb dL_act_86 (by decide) (fun c_86 => ?_) (fun c_86 => ?_)
          · skip
            have h6 : 6 ≤ j := ge_of (N := 6) e10 (by omega) rfl c_86
            refine lv_iload hx hb dL_act_123 (lv_at hl 1 rfl) ?_
            refine lv_if_eq (tgt := 152) hx hb dL_act_125 (by decide) (fun c_125 => ?_) (fun c_125 => ?_)
            · skip
              refine lv_iconst (v := 1) hx hb dL_act_152 (by decide) ?_
              refine lv_goto (tgt := 157) hx hb dL_act_153 (by decide) ?_
              exact vy_ret (W.zret (v := 1) (ty := .boolean) hx hb hr rfl (fun t ht hW => ⟨⟨_, (S, fp), rfl, ⟨rfl, ap_refl hg hk_⟩, by rw [ht]; exact hP, hD⟩, hS.F ht⟩) hS.2.2 dL_act_157)
            · skip
              obtain ⟨-, h2, h3, h5⟩ := h9b.resolve_left c_125
              have ho := fr_own i_17 (fun k hk => h5 k (by omega))
              refine lv_aload_n hx hb dL_act_128 rfl (lv_at hl 7 rfl) ?_
              refine lv_iload hx hb dL_act_129 (lv_at hl 4 rfl) ?_
              refine lv_iload hx hb dL_act_131 (lv_at hl 3 rfl) ?_
              have k_133 := ans_dress i_17 hc8.1 hc8.2 h2 ho h3
              have hPc := hP.sub (ws' := wX cI cZ x a S) [0, 1, 2, 3, 4, 5, 6, 7, 8, 9, 10, 11, 12, 13] rfl
              have hDc := hD.sub (ws' := wX cI cZ x a S) [0, 1, 2, 3, 4, 5, 6, 7, 8, 9, 10, 11, 12, 13] (by decide) rfl
              have hFc := va_free (wc := wX cI cZ x a S) hD hS hA [0, 1, 2, 3, 4, 5, 6, 7, 8, 9, 10, 11, 12, 13] rfl
              refine vy_calli (vy_runV (As := [.int r_17, .int (r_17 + r_32)]) (rest := []) ⟨hx, hb, hml, hown, hts⟩ (c_X0_dress l hfl D cI cZ x a S s.heap.size r_17 (r_17 + r_32)) (cwV 2 hts gL_act_X0_dress rfl rfl rfl (by decide +kernel) ⟨Nat.le_of_ble_eq_true rfl, Nat.le_of_ble_eq_true rfl⟩) (pT_V (pW_V (ci := 0) hPc hK hDc rfl rfl) (hG.kept (fun q h1 h2 => hS.2.1 q h1 h2)) (fun q h => hA q (Nat.le_trans hS.1 h))) rfl rfl hl.1 rfl (lv_room (Nat.le_of_ble_eq_true rfl)) dL_act_133 ⟨Nat.le_of_ble_eq_true rfl, Nat.le_of_ble_eq_true rfl⟩) hS (fun q _ h => hFc q h) hFc (fun E ce q9 H1 locs hPE hz9 hk9 hS hc9 hv9 hcl9 => (k3x k_133 hPE).elim) (fun r_133 u_133 t9 H1 locs ht9 hvm9 h_133 hB9 hz9 hk9 hS => ?_)
              have hJ9 := va_join (wr := [wp cI pa fp]) hP hD [0, 1, 2, 3, 4, 5, 6, 7, 8, 9, 10, 11, 12, 13] [14] rfl rfl (by decide) (by decide) hk9 hFc (atW_P hB9 ht9) hB9.2
              have hP : va_P D vwCl (wX cI cZ x a u_133 ++ [wp cI pa fp]) H1 := hJ9.1.sub [1, 2, 3, 4, 5, 6, 7, 8, 9, 10, 11, 12, 13, 14, 0] rfl
              have hD : va_D A (wX cI cZ x a u_133 ++ [wp cI pa fp]) := hJ9.2.sub [1, 2, 3, 4, 5, 6, 7, 8, 9, 10, 11, 12, 13, 14, 0] (by decide) rfl
              generalize H1 = H at hP hS ⊢
              obtain ⟨e_133, w_133⟩ := kin k_133 h_133
              subst e_133
              have hgu : Good B u_133 := by rw [w_133]; exact good_dress hg i_17 hc8.1 hc8.2 h2 ho h3
              refine lv_iload hx hb dL_act_136 (lv_at hl 2 rfl) ?_
              refine lv_icmp_ne (tgt := 156) hx hb dL_act_138 (by decide) (fun c_138 => ?_) (fun c_138 => ?_)
              · skip
                exact absurd rfl c_138
              · skip
                refine lv_aload_n hx hb dL_act_141 rfl (lv_at hl 7 rfl) ?_
                refine lv_iload hx hb dL_act_142 (lv_at hl 4 rfl) ?_
                have i_144 : vp_in r_17 6 := i_17
                have hPc := hP.sub (ws' := wX cI cZ x a u_133) [0, 1, 2, 3, 4, 5, 6, 7, 8, 9, 10, 11, 12, 13] rfl
                refine vy_csi (vy_runV (As := [.int r_17]) (rest := []) ⟨hx, hb, hml, hown, hts⟩ (c_X0_costumeOf l hfl D cI cZ x a u_133 r_17) (cwV 1 hts gL_act_X0_costumeOf rfl rfl rfl (by decide +kernel) ⟨Nat.le_of_ble_eq_true rfl, Nat.le_of_ble_eq_true rfl⟩) (pT_V (pR_V (ci := 0) hPc hK rfl rfl) (hG.kept (fun q h1 h2 => hS.2.1 q h1 h2)) (fun q h => hA q (Nat.le_trans hS.1 h))) rfl rfl hl.1 rfl (lv_room (Nat.le_of_ble_eq_true rfl)) dL_act_144 ⟨Nat.le_of_ble_eq_true rfl, Nat.le_of_ble_eq_true rfl⟩) (fun E ce q9 H1 hPE hz9 hk9 hc9 hv9 hcl9 => (kne i_144 hPE.2).elim) (fun r_144 h_144 => ?_)
                replace h_144 : r_144 = u_133 0 r_17.toNatClampNeg := krd i_144 h_144
                replace h_144 : r_144 = r_17 + r_32 := h_144.trans (by rw [w_133, row_same, pk_us])
                subst h_144
                refine lv_iload hx hb dL_act_147 (lv_at hl 3 rfl) ?_
                refine lv_icmp_ne (tgt := 156) hx hb dL_act_149 (by decide) (fun c_149 => ?_) (fun c_149 => ?_)
                · skip
                  exact absurd rfl c_149
                · skip
                  refine lv_iconst (v := 1) hx hb dL_act_152 (by decide) ?_
                  refine lv_goto (tgt := 157) hx hb dL_act_153 (by decide) ?_
                  exact vy_ret (W.zret (v := 1) (ty := .boolean) hx hb hr rfl (fun t ht hW => ⟨⟨_, (u_133, fp), rfl, ⟨rfl, ap_dress hgu w_133 hk_⟩, by rw [ht]; exact hP, hD⟩, hS.F ht⟩) hS.2.2 dL_act_157)
          · skip
            have h6 : j < 6 := lt_of (N := 6) e10 (by omega) rfl c_86
            have ej : i10.toNatClampNeg = j := by rw [e10, nI_clamp (by omega)]
            have i6 : vp_in i10 6 := by rw [e10]; exact vp_in_nI h6 (by decide)
            refine lv_iload hx hb dL_act_89 (lv_at hl 1 rfl) ?_
            refine lv_iload hx hb dL_act_91 (lv_at hl 0 rfl) ?_
            refine lv_iload hx hb dL_act_93 (lv_at hl 4 rfl) ?_
            refine lv_icmp_eq (tgt := 109) hx hb dL_act_95 (by decide) (fun c_95 => ?_) (fun c_95 => ?_)
            · skip
              refine lv_iconst (v := 1) hx hb dL_act_109 (by decide) ?_
              refine lv_goto (tgt := 114) hx hb dL_act_110 (by decide) ?_
              refine lv_iand hx hb dL_act_114 ?_
              refine lv_istore (lv' := [(9, .int (k9 &&& 1)), (10, .int i10), (8, .int (S 0 r_17.toNatClampNeg)), (7, .int (r_17 + r_32)), (6, .int r_17), (5, .int (vx >>> (5 &&& 31))), (4, .int r_3), (0, .ref x), (1, .int vx), (2, .int vy), (3, .ref pa)]) hx hb dL_act_115 hl (by decide) rfl (fun ls hl => ?_)
              refine lv_iinc (v := i10 + 1) (lv' := [(10, .int (i10 + 1)), (9, .int (k9 &&& 1)), (8, .int (S 0 r_17.toNatClampNeg)), (7, .int (r_17 + r_32)), (6, .int r_17), (5, .int (vx >>> (5 &&& 31))), (4, .int r_3), (0, .ref x), (1, .int vx), (2, .int vy), (3, .ref pa)]) hx hb dL_act_117 hl (k := 1) rfl rfl (by decide) rfl (fun ls hl => ?_)
              refine lv_goto (tgt := 82) hx hb dL_act_120 (by decide) ?_
              exact ih82 (j + 1) (k9 &&& 1) (i10 + 1) (by omega) (by omega) (by rw [e10]; exact nI_1 j) (fr_keep h9b (Or.inl (by rw [← c_95, ej]))) _ (lv_sub hl [0, 1, 2, 3, 4, 5, 6, 7, 8, 9, 10] rfl)
            · skip
              refine lv_aload_n hx hb dL_act_98 rfl (lv_at hl 7 rfl) ?_
              refine lv_iload hx hb dL_act_99 (lv_at hl 0 rfl) ?_
              have i_101 : vp_in i10 6 := i6
              have hPc := hP.sub (ws' := wX cI cZ x a S) [0, 1, 2, 3, 4, 5, 6, 7, 8, 9, 10, 11, 12, 13] rfl
              refine vy_csi (vy_runV (As := [.int i10]) (rest := [.int k9]) ⟨hx, hb, hml, hown, hts⟩ (c_X0_costumeOf l hfl D cI cZ x a S i10) (cwV 1 hts gL_act_X0_costumeOf rfl rfl rfl (by decide +kernel) ⟨Nat.le_of_ble_eq_true rfl, Nat.le_of_ble_eq_true rfl⟩) (pT_V (pR_V (ci := 0) hPc hK rfl rfl) (hG.kept (fun q h1 h2 => hS.2.1 q h1 h2)) (fun q h => hA q (Nat.le_trans hS.1 h))) rfl rfl hl.1 rfl (lv_room (Nat.le_of_ble_eq_true rfl)) dL_act_101 ⟨Nat.le_of_ble_eq_true rfl, Nat.le_of_ble_eq_true rfl⟩) (fun E ce q9 H1 hPE hz9 hk9 hc9 hv9 hcl9 => (kne i_101 hPE.2).elim) (fun r_101 h_101 => ?_)
              replace h_101 : r_101 = S 0 i10.toNatClampNeg := krd i_101 h_101
              replace h_101 : r_101 = S 0 j := h_101.trans (by rw [ej])
              subst h_101
              refine lv_iload hx hb dL_act_104 (lv_at hl 3 rfl) ?_
              refine lv_icmp_eq (tgt := 113) hx hb dL_act_106 (by decide) (fun c_106 => ?_) (fun c_106 => ?_)
              · skip
                refine lv_iconst (v := 0) hx hb dL_act_113 (by decide) ?_
                refine lv_iand hx hb dL_act_114 ?_
                refine lv_istore (lv' := [(9, .int (k9 &&& 0)), (10, .int i10), (8, .int (S 0 r_17.toNatClampNeg)), (7, .int (r_17 + r_32)), (6, .int r_17), (5, .int (vx >>> (5 &&& 31))), (4, .int r_3), (0, .ref x), (1, .int vx), (2, .int vy), (3, .ref pa)]) hx hb dL_act_115 hl (by decide) rfl (fun ls hl => ?_)
                refine lv_iinc (v := i10 + 1) (lv' := [(10, .int (i10 + 1)), (9, .int (k9 &&& 0)), (8, .int (S 0 r_17.toNatClampNeg)), (7, .int (r_17 + r_32)), (6, .int r_17), (5, .int (vx >>> (5 &&& 31))), (4, .int r_3), (0, .ref x), (1, .int vx), (2, .int vy), (3, .ref pa)]) hx hb dL_act_117 hl (k := 1) rfl rfl (by decide) rfl (fun ls hl => ?_)
                refine lv_goto (tgt := 82) hx hb dL_act_120 (by decide) ?_
                exact ih82 (j + 1) (k9 &&& 0) (i10 + 1) (by omega) (by omega) (by rw [e10]; exact nI_1 j) (fr_drop h9b) _ (lv_sub hl [0, 1, 2, 3, 4, 5, 6, 7, 8, 9, 10] rfl)
              · skip
                refine lv_iconst (v := 1) hx hb dL_act_109 (by decide) ?_
                refine lv_goto (tgt := 114) hx hb dL_act_110 (by decide) ?_
                refine lv_iand hx hb dL_act_114 ?_
                refine lv_istore (lv' := [(9, .int (k9 &&& 1)), (10, .int i10), (8, .int (S 0 r_17.toNatClampNeg)), (7, .int (r_17 + r_32)), (6, .int r_17), (5, .int (vx >>> (5 &&& 31))), (4, .int r_3), (0, .ref x), (1, .int vx), (2, .int vy), (3, .ref pa)]) hx hb dL_act_115 hl (by decide) rfl (fun ls hl => ?_)
                refine lv_iinc (v := i10 + 1) (lv' := [(10, .int (i10 + 1)), (9, .int (k9 &&& 1)), (8, .int (S 0 r_17.toNatClampNeg)), (7, .int (r_17 + r_32)), (6, .int r_17), (5, .int (vx >>> (5 &&& 31))), (4, .int r_3), (0, .ref x), (1, .int vx), (2, .int vy), (3, .ref pa)]) hx hb dL_act_117 hl (k := 1) rfl rfl (by decide) rfl (fun ls hl => ?_)
                refine lv_goto (tgt := 82) hx hb dL_act_120 (by decide) ?_
                exact ih82 (j + 1) (k9 &&& 1) (i10 + 1) (by omega) (by omega) (by rw [e10]; exact nI_1 j) (fr_keep h9b (Or.inr c_106)) _ (lv_sub hl [0, 1, 2, 3, 4, 5, 6, 7, 8, 9, 10] rfl)
      exact loop_82 7 0 i9 0 (Nat.zero_le _) (by omega) nI_0.symm (h9.imp id (fun z => ⟨z.1, z.2.1, z.2.2, fun k hk => absurd hk (Nat.not_lt_zero k)⟩)) _ (lv_sub hl [0, 1, 2, 3, 4, 5, 6, 7, 8, 9, 10] rfl)
    subst hR; subst hQ
    refine lv_iload hx hb dL_act_46 (lv_at hl 1 rfl) ?_
    refine lv_bipush (v := 8) hx hb dL_act_48 (by decide) ?_
    refine lv_icmp_ge (tgt := 76) hx hb dL_act_50 (by decide) (fun c_50 => ?_) (fun c_50 => ?_)
    · skip
      exact absurd c_50 (vin_nge hc8.1 rfl)
    · skip
      refine lv_aload_n hx hb dL_act_53 rfl (lv_at hl 5 rfl) ?_
      refine lv_iload hx hb dL_act_54 (lv_at hl 2 rfl) ?_
      have i_56 : vp_in r_17 6 := i_17
      have hPc := hP.sub (ws' := wX cI cZ x a S) [0, 1, 2, 3, 4, 5, 6, 7, 8, 9, 10, 11, 12, 13] rfl
      refine vy_csi (vy_runV (As := [.int r_17]) (rest := []) ⟨hx, hb, hml, hown, hts⟩ (c_X0_isOn l hfl D cI cZ x a S r_17 _ (hI)) (cwV 1 hts gL_act_X0_isOn rfl rfl rfl (by decide +kernel) ⟨Nat.le_of_ble_eq_true rfl, Nat.le_of_ble_eq_true rfl⟩) (pT_V (pR_V (ci := 0) hPc hK rfl rfl) (hG.kept (fun q h1 h2 => hS.2.1 q h1 h2)) (fun q h => hA q (Nat.le_trans hS.1 h))) rfl rfl hl.1 rfl (lv_room (Nat.le_of_ble_eq_true rfl)) dL_act_56 ⟨Nat.le_of_ble_eq_true rfl, Nat.le_of_ble_eq_true rfl⟩) (fun E ce q9 H1 hPE hz9 hk9 hc9 hv9 hcl9 => (kne i_56 hPE.2).elim) (fun r_56 h_56 => ?_)
      replace h_56 : r_56 = S 2 r_17.toNatClampNeg := krd i_56 h_56
      subst h_56
      refine lv_if_ne (tgt := 76) hx hb dL_act_59 (by decide) (fun c_59 => ?_) (fun c_59 => ?_)
      · skip
        refine lv_iconst (v := 0) hx hb dL_act_76 (by decide) ?_
        refine lv_istore (lv' := [(9, .int 0), (8, .int (S 0 r_17.toNatClampNeg)), (7, .int (r_17 + r_32)), (6, .int r_17), (5, .int (vx >>> (5 &&& 31))), (4, .int r_3), (0, .ref x), (1, .int vx), (2, .int vy), (3, .ref pa)]) hx hb dL_act_77 hl (by decide) rfl (fun ls hl => ?_)
        exact J_79 0 _ (Or.inl rfl) (lv_sub hl [0, 1, 2, 3, 4, 5, 6, 7, 8, 9] rfl)
      · skip
        refine lv_aload_n hx hb dL_act_62 rfl (lv_at hl 5 rfl) ?_
        refine lv_iload hx hb dL_act_63 (lv_at hl 1 rfl) ?_
        have i_65 : vp_in (r_17 + r_32) 8 := hc8.1
        have hPc := hP.sub (ws' := wX cI cZ x a S) [0, 1, 2, 3, 4, 5, 6, 7, 8, 9, 10, 11, 12, 13] rfl
        refine vy_csi (vy_runV (As := [.int (r_17 + r_32)]) (rest := []) ⟨hx, hb, hml, hown, hts⟩ (c_X0_wear l hfl D cI cZ x a S (r_17 + r_32)) (cwV 1 hts gL_act_X0_wear rfl rfl rfl (by decide +kernel) ⟨Nat.le_of_ble_eq_true rfl, Nat.le_of_ble_eq_true rfl⟩) (pT_V (pR_V (ci := 0) hPc hK rfl rfl) (hG.kept (fun q h1 h2 => hS.2.1 q h1 h2)) (fun q h => hA q (Nat.le_trans hS.1 h))) rfl rfl hl.1 rfl (lv_room (Nat.le_of_ble_eq_true rfl)) dL_act_65 ⟨Nat.le_of_ble_eq_true rfl, Nat.le_of_ble_eq_true rfl⟩) (fun E ce q9 H1 hPE hz9 hk9 hc9 hv9 hcl9 => (kne i_65 hPE.2).elim) (fun r_65 h_65 => ?_)
        replace h_65 : r_65 = S 3 (r_17 + r_32).toNatClampNeg := krd i_65 h_65
        subst h_65
        refine lv_iconst (v := 3) hx hb dL_act_68 (by decide) ?_
        refine lv_icmp_ge (tgt := 76) hx hb dL_act_69 (by decide) (fun c_69 => ?_) (fun c_69 => ?_)
        · skip
          refine lv_iconst (v := 0) hx hb dL_act_76 (by decide) ?_
          refine lv_istore (lv' := [(9, .int 0), (8, .int (S 0 r_17.toNatClampNeg)), (7, .int (r_17 + r_32)), (6, .int r_17), (5, .int (vx >>> (5 &&& 31))), (4, .int r_3), (0, .ref x), (1, .int vx), (2, .int vy), (3, .ref pa)]) hx hb dL_act_77 hl (by decide) rfl (fun ls hl => ?_)
          exact J_79 0 _ (Or.inl rfl) (lv_sub hl [0, 1, 2, 3, 4, 5, 6, 7, 8, 9] rfl)
        · skip
          refine lv_iconst (v := 1) hx hb dL_act_72 (by decide) ?_
          refine lv_goto (tgt := 77) hx hb dL_act_73 (by decide) ?_
          refine lv_istore (lv' := [(9, .int 1), (8, .int (S 0 r_17.toNatClampNeg)), (7, .int (r_17 + r_32)), (6, .int r_17), (5, .int (vx >>> (5 &&& 31))), (4, .int r_3), (0, .ref x), (1, .int vx), (2, .int vy), (3, .ref pa)]) hx hb dL_act_77 hl (by decide) rfl (fun ls hl => ?_)
          exact J_79 1 _ (Or.inr ⟨rfl, c_59, nle_lt c_69⟩) (lv_sub hl [0, 1, 2, 3, 4, 5, 6, 7, 8, 9] rfl)
