set_option maxHeartbeats 4000000 in
set_option maxRecDepth 100000 in
theorem c_L_guessed (l : Launch) (hfl : l.stackTraces = false) (D : va_G) (cI cZ : ClassId) (x : Nat) (a : Nat → Nat) (S : ST) (sz : Nat) (vx : Int32) (vy : Int32) (B : Nat) (hg : Good B S) (h13 : ∀ k, k < 18 → S 13 k = 0) : vy_Met l yL_guessed wsL_guessed rmL_guessed (va_Pc [.ref x, .int vx, .int vy] (fun U => (pW D (tyX cI cZ) (wX cI cZ x a S) sz) U ∧ pGA (wX cI cZ x a S) U)) (va_Qi (fun (r : Int32) (u : ST) => r = 1 ∧ Good B u ∧ GP S u) (fun (u : ST) t => atW D (wX cI cZ x a u) (va_A (wX cI cZ x a S) sz) t) (va_A (wX cI cZ x a S) sz)) (xcs (fun _ => False)) 1 6 (va_A (wX cI cZ x a S) sz) := by
  refine vy_ofW (cc := cL_guessed) (maxL := 7) (ret := (some .boolean)) (by decide) rfl ?_
  intro pr env s mid args below meth cod s₁ Bd hml hout hv
  obtain ⟨rfl, ⟨hsz, hP, hK, hD0⟩, hG0⟩ := hv
  have hx := Bd.exec
  have hb := Bd.bytes
  have hr := Bd.returns
  have hts := atoms_spec (ws := wsL_guessed) Bd.pre
  have hown : s.vm.findClass RL = some mid.cls := findClass_of_methodNamed Bd.named
  have hlocks := Bd.notSynchronized
  subst hsz
  have hG : xG (va_A (wX cI cZ x a S) s.heap.size) s s.heap := hG0
  have hD := hD0.self (sz := s.heap.size)
  generalize hAe : va_A (wX cI cZ x a S) s.heap.size = A at hD hG ⊢
  have hA : ∀ q : Nat, s.heap.size ≤ q → A q := fun q h => by rw [← hAe]; exact Or.inr h
  have hS : va_S A s.heap s.heap [] := va_S.rf
  have hP : va_P D vwCl (wX cI cZ x a S) s.heap := hP
  have hD : va_D A (wX cI cZ x a S) := hD
  have hl := lv_entry ([.ref x, .int vx, .int vy]) (n := 7) (Nat.le_of_ble_eq_true rfl)
  rw [lg_entry_eq]
  generalize (lg_sl ([.ref x, .int vx, .int vy]) ++ List.replicate (7 - (lg_sl ([.ref x, .int vx, .int vy])).length) Slot.unset).toArray = ls at hl ⊢
  have hl : lv_has ls 7 [(0, .ref x), (1, .int vx), (2, .int vy)] := hl
  refine lv_iconst (v := 0) hx hb dL_guessed_0 (by decide) ?_
  refine lv_istore_n (lv' := [(3, .int 0), (0, .ref x), (1, .int vx), (2, .int vy)]) hx hb dL_guessed_1 rfl hl (by decide) rfl (fun ls hl => ?_)
  refine W_gen (fun R Q hR hQ => ?_)
  have loop_2 : ∀ (n : Nat) (j : Nat) (i3 : Int32), (j ≤ 6) → (7 ≤ j + n) → (i3 = nI j) → ∀ ls : Array Slot, lv_has ls 7 [(3, .int i3), (0, .ref x), (1, .int vx), (2, .int vy)] → W pr l env R s mid ([.ref x, .int vx, .int vy] : List Value).toArray below meth cod s.heap [] 0 0 Q (F0 mid 2 ls []) := by
    subst hR; subst hQ
    intro n
    induction n with
    | zero =>
      intro j i3 hj hn e3 ls hl
      exfalso; omega
    | succ n ih2 =>
      intro j i3 hj hn e3 ls hl
      refine lv_iload_n hx hb dL_guessed_2 rfl (lv_at hl 0 rfl) ?_
      refine lv_bipush (v := 6) hx hb dL_guessed_3 (by decide) ?_
      refine lv_icmp_ge (tgt := 160) hx hb dL_guessed_5 (by decide) (fun c_5 => ?_) (fun c_5 => ?_)
      · skip
        have h6 : 6 ≤ j := ge_of (N := 6) e3 (by omega) rfl c_5
        refine lv_iconst (v := 1) hx hb dL_guessed_160 (by decide) ?_
        exact vy_ret (W.zret (v := 1) (ty := .boolean) hx hb hr rfl (fun t ht hW => ⟨⟨_, S, rfl, ⟨rfl, hg, Or.inl rfl⟩, by rw [ht]; exact hP, hD⟩, hS.F ht⟩) hS.2.2 dL_guessed_161)
      · skip
        have h6 : j < 6 := lt_of (N := 6) e3 (by omega) rfl c_5
        have ej : i3.toNatClampNeg = j := by rw [e3, nI_clamp (by omega)]
        have i6 : vp_in i3 6 := by rw [e3]; exact vp_in_nI h6 (by decide)
        refine lv_aload_n hx hb dL_guessed_8 rfl (lv_at hl 1 rfl) ?_
        refine lv_iload_n hx hb dL_guessed_9 rfl (lv_at hl 0 rfl) ?_
        have i_10 : vp_in i3 6 := i6
        refine vy_csi (vy_runV (As := [.int i3]) (rest := []) ⟨hx, hb, hml, hown, hts⟩ (c_X0_isOn l hfl D cI cZ x a S i3 _ (hg.1)) (cwV 1 hts gL_guessed_X0_isOn rfl rfl rfl (by decide +kernel) ⟨Nat.le_of_ble_eq_true rfl, Nat.le_of_ble_eq_true rfl⟩) (pT_V (pR_V (ci := 0) hP hK rfl rfl) (hG.kept (fun q h1 h2 => hS.2.1 q h1 h2)) (fun q h => hA q (Nat.le_trans hS.1 h))) rfl rfl hl.1 rfl (lv_room (Nat.le_of_ble_eq_true rfl)) dL_guessed_10 ⟨Nat.le_of_ble_eq_true rfl, Nat.le_of_ble_eq_true rfl⟩) (fun E ce q9 H1 hPE hz9 hk9 hc9 hv9 hcl9 => (kne i_10 hPE.2).elim) (fun r_10 h_10 => ?_)
        replace h_10 : r_10 = S 2 i3.toNatClampNeg := krd i_10 h_10
        subst h_10
        refine lv_if_eq (tgt := 154) hx hb dL_guessed_13 (by decide) (fun c_13 => ?_) (fun c_13 => ?_)
        · skip
          refine lv_iinc (v := i3 + 1) (lv' := [(3, .int (i3 + 1)), (0, .ref x), (1, .int vx), (2, .int vy)]) hx hb dL_guessed_154 hl (k := 0) rfl rfl (by decide) rfl (fun ls hl => ?_)
          refine lv_goto (tgt := 2) hx hb dL_guessed_157 (by decide) ?_
          exact ih2 (j + 1) (i3 + 1) (by omega) (by omega) (by rw [e3]; exact nI_1 j) _ (lv_sub hl [0, 1, 2, 3] rfl)
        · skip
          refine lv_aload_n hx hb dL_guessed_16 rfl (lv_at hl 1 rfl) ?_
          refine lv_iload_n hx hb dL_guessed_17 rfl (lv_at hl 0 rfl) ?_
          have i_18 : vp_in i3 6 := i6
          refine vy_csi (vy_runV (As := [.int i3]) (rest := []) ⟨hx, hb, hml, hown, hts⟩ (c_X0_maskOf l hfl D cI cZ x a S i3) (cwV 1 hts gL_guessed_X0_maskOf rfl rfl rfl (by decide +kernel) ⟨Nat.le_of_ble_eq_true rfl, Nat.le_of_ble_eq_true rfl⟩) (pT_V (pR_V (ci := 0) hP hK rfl rfl) (hG.kept (fun q h1 h2 => hS.2.1 q h1 h2)) (fun q h => hA q (Nat.le_trans hS.1 h))) rfl rfl hl.1 rfl (lv_room (Nat.le_of_ble_eq_true rfl)) dL_guessed_18 ⟨Nat.le_of_ble_eq_true rfl, Nat.le_of_ble_eq_true rfl⟩) (fun E ce q9 H1 hPE hz9 hk9 hc9 hv9 hcl9 => (kne i_18 hPE.2).elim) (fun r_18 h_18 => ?_)
          replace h_18 : r_18 = S 1 i3.toNatClampNeg := krd i_18 h_18
          subst h_18
          refine lv_if_lt (tgt := 154) hx hb dL_guessed_21 (by decide) (fun c_21 => ?_) (fun c_21 => ?_)
          · skip
            refine lv_iinc (v := i3 + 1) (lv' := [(3, .int (i3 + 1)), (0, .ref x), (1, .int vx), (2, .int vy)]) hx hb dL_guessed_154 hl (k := 0) rfl rfl (by decide) rfl (fun ls hl => ?_)
            refine lv_goto (tgt := 2) hx hb dL_guessed_157 (by decide) ?_
            exact ih2 (j + 1) (i3 + 1) (by omega) (by omega) (by rw [e3]; exact nI_1 j) _ (lv_sub hl [0, 1, 2, 3] rfl)
          · skip
            refine lv_iload_n hx hb dL_guessed_24 rfl (lv_at hl 2 rfl) ?_
            refine lv_iload_n hx hb dL_guessed_25 rfl (lv_at hl 0 rfl) ?_
            refine lv_ishr hx hb dL_guessed_26 ?_
            refine lv_bipush (v := 24) hx hb dL_guessed_27 (by decide) ?_
            refine vp_callSi (W.runS (As := [.int (vx >>> (i3 &&& 31)), .int 24]) (rest := []) ⟨hx, hb, hml, hown, hts⟩ (c_L_at l (vx >>> (i3 &&& 31)) 24 24 (by decide) (by decide) rfl) (va_cwS 2 hts gL_guessed_L_at rfl rfl rfl (by decide +kernel) ⟨Nat.le_of_ble_eq_true rfl, Nat.le_of_ble_eq_true rfl⟩) (pN_S) rfl rfl hl.1 rfl (lv_room (Nat.le_of_ble_eq_true rfl)) dL_guessed_29 ⟨Nat.zero_le _, Nat.zero_le _⟩) (fun r_29 h_29 => ?_)
            have i_29 : vp_in r_29 24 := h_29
            refine lv_if_eq (tgt := 38) hx hb dL_guessed_32 (by decide) (fun c_32 => ?_) (fun c_32 => ?_)
            · skip
              refine lv_aload_n hx hb dL_guessed_38 rfl (lv_at hl 1 rfl) ?_
              refine lv_iconst (v := 0) hx hb dL_guessed_39 (by decide) ?_
              have i_40 : vp_in (0 : Int32) 3 := by rw [vp_in_iff]; decide
              refine vy_csi (vy_runV (As := [.int 0]) (rest := []) ⟨hx, hb, hml, hown, hts⟩ (c_X0_points l hfl D cI cZ x a S 0) (cwV 1 hts gL_guessed_X0_points rfl rfl rfl (by decide +kernel) ⟨Nat.le_of_ble_eq_true rfl, Nat.le_of_ble_eq_true rfl⟩) (pT_V (pR_V (ci := 0) hP hK rfl rfl) (hG.kept (fun q h1 h2 => hS.2.1 q h1 h2)) (fun q h => hA q (Nat.le_trans hS.1 h))) rfl rfl hl.1 rfl (lv_room (Nat.le_of_ble_eq_true rfl)) dL_guessed_40 ⟨Nat.le_of_ble_eq_true rfl, Nat.le_of_ble_eq_true rfl⟩) (fun E ce q9 H1 hPE hz9 hk9 hc9 hv9 hcl9 => (kne i_40 hPE.2).elim) (fun r_40 h_40 => ?_)
              replace h_40 : r_40 = S 12 (0 : Int32).toNatClampNeg := krd i_40 h_40
              replace h_40 : r_40 = S 12 0 := h_40.trans (rfl)
              subst h_40
              refine lv_aload_n hx hb dL_guessed_43 rfl (lv_at hl 1 rfl) ?_
              refine lv_iconst (v := 1) hx hb dL_guessed_44 (by decide) ?_
              have i_45 : vp_in (1 : Int32) 3 := by rw [vp_in_iff]; decide
              refine vy_csi (vy_runV (As := [.int 1]) (rest := [.int (S 12 0)]) ⟨hx, hb, hml, hown, hts⟩ (c_X0_points l hfl D cI cZ x a S 1) (cwV 1 hts gL_guessed_X0_points rfl rfl rfl (by decide +kernel) ⟨Nat.le_of_ble_eq_true rfl, Nat.le_of_ble_eq_true rfl⟩) (pT_V (pR_V (ci := 0) hP hK rfl rfl) (hG.kept (fun q h1 h2 => hS.2.1 q h1 h2)) (fun q h => hA q (Nat.le_trans hS.1 h))) rfl rfl hl.1 rfl (lv_room (Nat.le_of_ble_eq_true rfl)) dL_guessed_45 ⟨Nat.le_of_ble_eq_true rfl, Nat.le_of_ble_eq_true rfl⟩) (fun E ce q9 H1 hPE hz9 hk9 hc9 hv9 hcl9 => (kne i_45 hPE.2).elim) (fun r_45 h_45 => ?_)
              replace h_45 : r_45 = S 12 (1 : Int32).toNatClampNeg := krd i_45 h_45
              replace h_45 : r_45 = S 12 1 := h_45.trans (rfl)
              subst h_45
              refine lv_iadd hx hb dL_guessed_48 ?_
              refine lv_aload_n hx hb dL_guessed_49 rfl (lv_at hl 1 rfl) ?_
              refine lv_iconst (v := 2) hx hb dL_guessed_50 (by decide) ?_
              have i_51 : vp_in (2 : Int32) 3 := by rw [vp_in_iff]; decide
              refine vy_csi (vy_runV (As := [.int 2]) (rest := [.int ((S 12 0) + (S 12 1))]) ⟨hx, hb, hml, hown, hts⟩ (c_X0_points l hfl D cI cZ x a S 2) (cwV 1 hts gL_guessed_X0_points rfl rfl rfl (by decide +kernel) ⟨Nat.le_of_ble_eq_true rfl, Nat.le_of_ble_eq_true rfl⟩) (pT_V (pR_V (ci := 0) hP hK rfl rfl) (hG.kept (fun q h1 h2 => hS.2.1 q h1 h2)) (fun q h => hA q (Nat.le_trans hS.1 h))) rfl rfl hl.1 rfl (lv_room (Nat.le_of_ble_eq_true rfl)) dL_guessed_51 ⟨Nat.le_of_ble_eq_true rfl, Nat.le_of_ble_eq_true rfl⟩) (fun E ce q9 H1 hPE hz9 hk9 hc9 hv9 hcl9 => (kne i_51 hPE.2).elim) (fun r_51 h_51 => ?_)
              replace h_51 : r_51 = S 12 (2 : Int32).toNatClampNeg := krd i_51 h_51
              replace h_51 : r_51 = S 12 2 := h_51.trans (rfl)
              subst h_51
              refine lv_iadd hx hb dL_guessed_54 ?_
              refine lv_istore (lv' := [(4, .int (((S 12 0) + (S 12 1)) + (S 12 2))), (3, .int i3), (0, .ref x), (1, .int vx), (2, .int vy)]) hx hb dL_guessed_55 hl (by decide) rfl (fun ls hl => ?_)
              refine lv_iload_n hx hb dL_guessed_57 rfl (lv_at hl 4 rfl) ?_
              refine lv_iload_n hx hb dL_guessed_58 rfl (lv_at hl 1 rfl) ?_
              refine lv_ishr hx hb dL_guessed_59 ?_
              refine lv_bipush (v := 6) hx hb dL_guessed_60 (by decide) ?_
              refine vp_callSi (W.runS (As := [.int (vy >>> (i3 &&& 31)), .int 6]) (rest := []) ⟨hx, hb, hml, hown, hts⟩ (c_L_at l (vy >>> (i3 &&& 31)) 6 6 (by decide) (by decide) rfl) (va_cwS 2 hts gL_guessed_L_at rfl rfl rfl (by decide +kernel) ⟨Nat.le_of_ble_eq_true rfl, Nat.le_of_ble_eq_true rfl⟩) (pN_S) rfl rfl hl.1 rfl (lv_room (Nat.le_of_ble_eq_true rfl)) dL_guessed_62 ⟨Nat.zero_le _, Nat.zero_le _⟩) (fun r_62 h_62 => ?_)
              have i_62 : vp_in r_62 6 := h_62
              refine lv_istore (lv' := [(5, .int r_62), (4, .int (((S 12 0) + (S 12 1)) + (S 12 2))), (3, .int i3), (0, .ref x), (1, .int vx), (2, .int vy)]) hx hb dL_guessed_65 hl (by decide) rfl (fun ls hl => ?_)
              refine lv_aload_n hx hb dL_guessed_67 rfl (lv_at hl 3 rfl) ?_
              refine vp_callSi (W.runV (As := []) (rest := []) ⟨hx, hb, hml, hown, hts⟩ (c_X0_plays l D cI cZ x a S) (cwV 0 hts gL_guessed_X0_plays rfl rfl rfl (by decide +kernel) ⟨Nat.le_of_ble_eq_true rfl, Nat.le_of_ble_eq_true rfl⟩) (pR_V (ci := 0) hP hK rfl rfl) rfl rfl hl.1 rfl (lv_room (Nat.le_of_ble_eq_true rfl)) dL_guessed_68 ⟨Nat.zero_le _, Nat.zero_le _⟩) (fun r_68 h_68 => ?_)
              subst h_68
              refine lv_if_gt (tgt := 79) hx hb dL_guessed_71 (by decide) (fun c_71 => ?_) (fun c_71 => ?_)
              · skip
                refine lv_iconst (v := 1) hx hb dL_guessed_79 (by decide) ?_
                exact vy_ret (W.zret (v := 1) (ty := .boolean) hx hb hr rfl (fun t ht hW => ⟨⟨_, S, rfl, ⟨rfl, hg, Or.inl rfl⟩, by rw [ht]; exact hP, hD⟩, hS.F ht⟩) hS.2.2 dL_guessed_80)
              · skip
                refine lv_iload hx hb dL_guessed_74 (lv_at hl 1 rfl) ?_
                refine lv_if_le (tgt := 81) hx hb dL_guessed_76 (by decide) (fun c_76 => ?_) (fun c_76 => ?_)
                · skip
                  refine lv_aload_n hx hb dL_guessed_81 rfl (lv_at hl 3 rfl) ?_
                  refine lv_iload_n hx hb dL_guessed_82 rfl (lv_at hl 5 rfl) ?_
                  refine lv_iconst (v := 3) hx hb dL_guessed_83 (by decide) ?_
                  refine vp_callSi (W.runS (As := [.int vy, .int 3]) (rest := [.ref x]) ⟨hx, hb, hml, hown, hts⟩ (c_L_at l vy 3 3 (by decide) (by decide) rfl) (va_cwS 2 hts gL_guessed_L_at rfl rfl rfl (by decide +kernel) ⟨Nat.le_of_ble_eq_true rfl, Nat.le_of_ble_eq_true rfl⟩) (pN_S) rfl rfl hl.1 rfl (lv_room (Nat.le_of_ble_eq_true rfl)) dL_guessed_84 ⟨Nat.zero_le _, Nat.zero_le _⟩) (fun r_84 h_84 => ?_)
                  have i_84 : vp_in r_84 3 := h_84
                  refine lv_iload_n hx hb dL_guessed_87 rfl (lv_at hl 2 rfl) ?_
                  refine lv_iload hx hb dL_guessed_88 (lv_at hl 0 rfl) ?_
                  have k_90 := ans_guess i_84 i6 i_62 c_13 (nn_ne c_21) h13
                  have hFc := wfree hD hS hA
                  refine vy_calli (vy_runV (As := [.int r_84, .int i3, .int r_62]) (rest := []) ⟨hx, hb, hml, hown, hts⟩ (c_X0_guess l hfl D cI cZ x a S s.heap.size r_84 i3 r_62) (cwV 3 hts gL_guessed_X0_guess rfl rfl rfl (by decide +kernel) ⟨Nat.le_of_ble_eq_true rfl, Nat.le_of_ble_eq_true rfl⟩) (pT_V (pW_V (ci := 0) hP hK hD rfl rfl) (hG.kept (fun q h1 h2 => hS.2.1 q h1 h2)) (fun q h => hA q (Nat.le_trans hS.1 h))) rfl rfl hl.1 rfl (lv_room (Nat.le_of_ble_eq_true rfl)) dL_guessed_90 ⟨Nat.le_of_ble_eq_true rfl, Nat.le_of_ble_eq_true rfl⟩) hS (fun q _ h => hFc q h) hFc (fun E ce q9 H1 locs hPE hz9 hk9 hS hc9 hv9 hcl9 => (k2x k_90 hPE).elim) (fun r_90 u_90 t9 H1 locs ht9 hvm9 h_90 hB9 hz9 hk9 hS => ?_)
                  have hP : va_P D vwCl (wX cI cZ x a u_90) H1 := atW_P hB9 ht9
                  have hD : va_D A (wX cI cZ x a u_90) := atW_D hB9 hFc
                  generalize H1 = H at hP hS ⊢
                  obtain ⟨e_90, w_90⟩ := kin k_90 h_90
                  have hgu : Good B u_90 := by rw [w_90]; exact good_guess hg _ _
                  have eq1 : u_90 1 = S 1 := by rw [w_90]; unfold guessS; rw [row_ne (by decide), row_ne (by decide)]
                  have hsm : u_90 12 0 + u_90 12 1 + u_90 12 2 = S 12 0 + S 12 1 + S 12 2 + cif (S 1 i3.toNatClampNeg = r_62) 3 (-1) := by rw [w_90]; exact sum_guess i_84
                  have hgp : GP S u_90 := Or.inr ⟨⟨_, _, w_90⟩, by rw [w_90]; exact sum_ne i_84⟩
                  refine lv_istore (lv' := [(6, .int r_90), (5, .int r_62), (4, .int (((S 12 0) + (S 12 1)) + (S 12 2))), (3, .int i3), (0, .ref x), (1, .int vx), (2, .int vy)]) hx hb dL_guessed_93 hl (by decide) rfl (fun ls hl => ?_)
                  refine lv_iload hx hb dL_guessed_95 (lv_at hl 0 rfl) ?_
                  refine lv_iload hx hb dL_guessed_97 (lv_at hl 1 rfl) ?_
                  refine lv_aload_n hx hb dL_guessed_99 rfl (lv_at hl 4 rfl) ?_
                  refine lv_iload_n hx hb dL_guessed_100 rfl (lv_at hl 3 rfl) ?_
                  have i_101 : vp_in i3 6 := i6
                  refine vy_csi (vy_runV (As := [.int i3]) (rest := [.int r_62, .int r_90]) ⟨hx, hb, hml, hown, hts⟩ (c_X0_maskOf l hfl D cI cZ x a u_90 i3) (cwV 1 hts gL_guessed_X0_maskOf rfl rfl rfl (by decide +kernel) ⟨Nat.le_of_ble_eq_true rfl, Nat.le_of_ble_eq_true rfl⟩) (pT_V (pR_V (ci := 0) hP hK rfl rfl) (hG.kept (fun q h1 h2 => hS.2.1 q h1 h2)) (fun q h => hA q (Nat.le_trans hS.1 h))) rfl rfl hl.1 rfl (lv_room (Nat.le_of_ble_eq_true rfl)) dL_guessed_101 ⟨Nat.le_of_ble_eq_true rfl, Nat.le_of_ble_eq_true rfl⟩) (fun E ce q9 H1 hPE hz9 hk9 hc9 hv9 hcl9 => (kne i_101 hPE.2).elim) (fun r_101 h_101 => ?_)
                  replace h_101 : r_101 = u_90 1 i3.toNatClampNeg := krd i_101 h_101
                  replace h_101 : r_101 = S 1 i3.toNatClampNeg := h_101.trans (by rw [eq1])
                  subst h_101
                  refine lv_icmp_ne (tgt := 111) hx hb dL_guessed_104 (by decide) (fun c_104 => ?_) (fun c_104 => ?_)
                  · skip
                    have hp : ¬ S 1 i3.toNatClampNeg = r_62 := fun z => c_104 z.symm
                    have er : r_90 = 0 := by rw [e_90, cif_f hp]
                    rw [cif_f hp] at hsm
                    refine lv_iconst (v := 0) hx hb dL_guessed_111 (by decide) ?_
                    refine lv_icmp_ne (tgt := 152) hx hb dL_guessed_112 (by decide) (fun c_112 => ?_) (fun c_112 => ?_)
                    · skip
                      exact absurd er c_112
                    · skip
                      refine lv_aload_n hx hb dL_guessed_115 rfl (lv_at hl 4 rfl) ?_
                      refine lv_iconst (v := 0) hx hb dL_guessed_116 (by decide) ?_
                      have i_117 : vp_in (0 : Int32) 3 := by rw [vp_in_iff]; decide
                      refine vy_csi (vy_runV (As := [.int 0]) (rest := []) ⟨hx, hb, hml, hown, hts⟩ (c_X0_points l hfl D cI cZ x a u_90 0) (cwV 1 hts gL_guessed_X0_points rfl rfl rfl (by decide +kernel) ⟨Nat.le_of_ble_eq_true rfl, Nat.le_of_ble_eq_true rfl⟩) (pT_V (pR_V (ci := 0) hP hK rfl rfl) (hG.kept (fun q h1 h2 => hS.2.1 q h1 h2)) (fun q h => hA q (Nat.le_trans hS.1 h))) rfl rfl hl.1 rfl (lv_room (Nat.le_of_ble_eq_true rfl)) dL_guessed_117 ⟨Nat.le_of_ble_eq_true rfl, Nat.le_of_ble_eq_true rfl⟩) (fun E ce q9 H1 hPE hz9 hk9 hc9 hv9 hcl9 => (kne i_117 hPE.2).elim) (fun r_117 h_117 => ?_)
                      replace h_117 : r_117 = u_90 12 (0 : Int32).toNatClampNeg := krd i_117 h_117
                      replace h_117 : r_117 = u_90 12 0 := h_117.trans (rfl)
                      subst h_117
                      refine lv_aload_n hx hb dL_guessed_120 rfl (lv_at hl 4 rfl) ?_
                      refine lv_iconst (v := 1) hx hb dL_guessed_121 (by decide) ?_
                      have i_122 : vp_in (1 : Int32) 3 := by rw [vp_in_iff]; decide
                      refine vy_csi (vy_runV (As := [.int 1]) (rest := [.int (u_90 12 0)]) ⟨hx, hb, hml, hown, hts⟩ (c_X0_points l hfl D cI cZ x a u_90 1) (cwV 1 hts gL_guessed_X0_points rfl rfl rfl (by decide +kernel) ⟨Nat.le_of_ble_eq_true rfl, Nat.le_of_ble_eq_true rfl⟩) (pT_V (pR_V (ci := 0) hP hK rfl rfl) (hG.kept (fun q h1 h2 => hS.2.1 q h1 h2)) (fun q h => hA q (Nat.le_trans hS.1 h))) rfl rfl hl.1 rfl (lv_room (Nat.le_of_ble_eq_true rfl)) dL_guessed_122 ⟨Nat.le_of_ble_eq_true rfl, Nat.le_of_ble_eq_true rfl⟩) (fun E ce q9 H1 hPE hz9 hk9 hc9 hv9 hcl9 => (kne i_122 hPE.2).elim) (fun r_122 h_122 => ?_)
                      replace h_122 : r_122 = u_90 12 (1 : Int32).toNatClampNeg := krd i_122 h_122
                      replace h_122 : r_122 = u_90 12 1 := h_122.trans (rfl)
                      subst h_122
                      refine lv_iadd hx hb dL_guessed_125 ?_
                      refine lv_aload_n hx hb dL_guessed_126 rfl (lv_at hl 4 rfl) ?_
                      refine lv_iconst (v := 2) hx hb dL_guessed_127 (by decide) ?_
                      have i_128 : vp_in (2 : Int32) 3 := by rw [vp_in_iff]; decide
                      refine vy_csi (vy_runV (As := [.int 2]) (rest := [.int ((u_90 12 0) + (u_90 12 1))]) ⟨hx, hb, hml, hown, hts⟩ (c_X0_points l hfl D cI cZ x a u_90 2) (cwV 1 hts gL_guessed_X0_points rfl rfl rfl (by decide +kernel) ⟨Nat.le_of_ble_eq_true rfl, Nat.le_of_ble_eq_true rfl⟩) (pT_V (pR_V (ci := 0) hP hK rfl rfl) (hG.kept (fun q h1 h2 => hS.2.1 q h1 h2)) (fun q h => hA q (Nat.le_trans hS.1 h))) rfl rfl hl.1 rfl (lv_room (Nat.le_of_ble_eq_true rfl)) dL_guessed_128 ⟨Nat.le_of_ble_eq_true rfl, Nat.le_of_ble_eq_true rfl⟩) (fun E ce q9 H1 hPE hz9 hk9 hc9 hv9 hcl9 => (kne i_128 hPE.2).elim) (fun r_128 h_128 => ?_)
                      replace h_128 : r_128 = u_90 12 (2 : Int32).toNatClampNeg := krd i_128 h_128
                      replace h_128 : r_128 = u_90 12 2 := h_128.trans (rfl)
                      subst h_128
                      refine lv_iadd hx hb dL_guessed_131 ?_
                      refine lv_iload hx hb dL_guessed_132 (lv_at hl 2 rfl) ?_
                      refine lv_iload hx hb dL_guessed_134 (lv_at hl 0 rfl) ?_
                      refine lv_if_eq (tgt := 143) hx hb dL_guessed_136 (by decide) (fun c_136 => ?_) (fun c_136 => ?_)
                      · skip
                        refine lv_iconst (v := (-1)) hx hb dL_guessed_143 (by decide) ?_
                        refine lv_iadd hx hb dL_guessed_144 ?_
                        refine lv_icmp_ne (tgt := 152) hx hb dL_guessed_145 (by decide) (fun c_145 => ?_) (fun c_145 => ?_)
                        · skip
                          exact absurd hsm c_145
                        · skip
                          refine lv_iconst (v := 1) hx hb dL_guessed_148 (by decide) ?_
                          refine lv_goto (tgt := 153) hx hb dL_guessed_149 (by decide) ?_
                          exact vy_ret (W.zret (v := 1) (ty := .boolean) hx hb hr rfl (fun t ht hW => ⟨⟨_, u_90, rfl, ⟨rfl, hgu, hgp⟩, by rw [ht]; exact hP, hD⟩, hS.F ht⟩) hS.2.2 dL_guessed_153)
                      · skip
                        exact absurd er c_136
                  · skip
                    have hp : S 1 i3.toNatClampNeg = r_62 := c_104.symm
                    have er : r_90 = 1 := by rw [e_90, cif_t hp]
                    rw [cif_t hp] at hsm
                    refine lv_iconst (v := 1) hx hb dL_guessed_107 (by decide) ?_
                    refine lv_goto (tgt := 112) hx hb dL_guessed_108 (by decide) ?_
                    refine lv_icmp_ne (tgt := 152) hx hb dL_guessed_112 (by decide) (fun c_112 => ?_) (fun c_112 => ?_)
                    · skip
                      exact absurd er c_112
                    · skip
                      refine lv_aload_n hx hb dL_guessed_115 rfl (lv_at hl 4 rfl) ?_
                      refine lv_iconst (v := 0) hx hb dL_guessed_116 (by decide) ?_
                      have i_117 : vp_in (0 : Int32) 3 := by rw [vp_in_iff]; decide
                      refine vy_csi (vy_runV (As := [.int 0]) (rest := []) ⟨hx, hb, hml, hown, hts⟩ (c_X0_points l hfl D cI cZ x a u_90 0) (cwV 1 hts gL_guessed_X0_points rfl rfl rfl (by decide +kernel) ⟨Nat.le_of_ble_eq_true rfl, Nat.le_of_ble_eq_true rfl⟩) (pT_V (pR_V (ci := 0) hP hK rfl rfl) (hG.kept (fun q h1 h2 => hS.2.1 q h1 h2)) (fun q h => hA q (Nat.le_trans hS.1 h))) rfl rfl hl.1 rfl (lv_room (Nat.le_of_ble_eq_true rfl)) dL_guessed_117 ⟨Nat.le_of_ble_eq_true rfl, Nat.le_of_ble_eq_true rfl⟩) (fun E ce q9 H1 hPE hz9 hk9 hc9 hv9 hcl9 => (kne i_117 hPE.2).elim) (fun r_117 h_117 => ?_)
                      replace h_117 : r_117 = u_90 12 (0 : Int32).toNatClampNeg := krd i_117 h_117
                      replace h_117 : r_117 = u_90 12 0 := h_117.trans (rfl)
                      subst h_117
                      refine lv_aload_n hx hb dL_guessed_120 rfl (lv_at hl 4 rfl) ?_
                      refine lv_iconst (v := 1) hx hb dL_guessed_121 (by decide) ?_
                      have i_122 : vp_in (1 : Int32) 3 := by rw [vp_in_iff]; decide
                      refine vy_csi (vy_runV (As := [.int 1]) (rest := [.int (u_90 12 0)]) ⟨hx, hb, hml, hown, hts⟩ (c_X0_points l hfl D cI cZ x a u_90 1) (cwV 1 hts gL_guessed_X0_points rfl rfl rfl (by decide +kernel) ⟨Nat.le_of_ble_eq_true rfl, Nat.le_of_ble_eq_true rfl⟩) (pT_V (pR_V (ci := 0) hP hK rfl rfl) (hG.kept (fun q h1 h2 => hS.2.1 q h1 h2)) (fun q h => hA q (Nat.le_trans hS.1 h))) rfl rfl hl.1 rfl (lv_room (Nat.le_of_ble_eq_true rfl)) dL_guessed_122 ⟨Nat.le_of_ble_eq_true rfl, Nat.le_of_ble_eq_true rfl⟩) (fun E ce q9 H1 hPE hz9 hk9 hc9 hv9 hcl9 => (kne i_122 hPE.2).elim) (fun r_122 h_122 => ?_)
                      replace h_122 : r_122 = u_90 12 (1 : Int32).toNatClampNeg := krd i_122 h_122
                      replace h_122 : r_122 = u_90 12 1 := h_122.trans (rfl)
                      subst h_122
                      refine lv_iadd hx hb dL_guessed_125 ?_
                      refine lv_aload_n hx hb dL_guessed_126 rfl (lv_at hl 4 rfl) ?_
                      refine lv_iconst (v := 2) hx hb dL_guessed_127 (by decide) ?_
                      have i_128 : vp_in (2 : Int32) 3 := by rw [vp_in_iff]; decide
                      refine vy_csi (vy_runV (As := [.int 2]) (rest := [.int ((u_90 12 0) + (u_90 12 1))]) ⟨hx, hb, hml, hown, hts⟩ (c_X0_points l hfl D cI cZ x a u_90 2) (cwV 1 hts gL_guessed_X0_points rfl rfl rfl (by decide +kernel) ⟨Nat.le_of_ble_eq_true rfl, Nat.le_of_ble_eq_true rfl⟩) (pT_V (pR_V (ci := 0) hP hK rfl rfl) (hG.kept (fun q h1 h2 => hS.2.1 q h1 h2)) (fun q h => hA q (Nat.le_trans hS.1 h))) rfl rfl hl.1 rfl (lv_room (Nat.le_of_ble_eq_true rfl)) dL_guessed_128 ⟨Nat.le_of_ble_eq_true rfl, Nat.le_of_ble_eq_true rfl⟩) (fun E ce q9 H1 hPE hz9 hk9 hc9 hv9 hcl9 => (kne i_128 hPE.2).elim) (fun r_128 h_128 => ?_)
                      replace h_128 : r_128 = u_90 12 (2 : Int32).toNatClampNeg := krd i_128 h_128
                      replace h_128 : r_128 = u_90 12 2 := h_128.trans (rfl)
                      subst h_128
                      refine lv_iadd hx hb dL_guessed_131 ?_
                      refine lv_iload hx hb dL_guessed_132 (lv_at hl 2 rfl) ?_
                      refine lv_iload hx hb dL_guessed_134 (lv_at hl 0 rfl) ?_
                      refine lv_if_eq (tgt := 143) hx hb dL_guessed_136 (by decide) (fun c_136 => ?_) (fun c_136 => ?_)
                      · skip
                        exact absurd (er.symm.trans c_136) (by decide)
                      · skip
                        refine lv_iconst (v := 3) hx hb dL_guessed_139 (by decide) ?_
                        refine lv_goto (tgt := 144) hx hb dL_guessed_140 (by decide) ?_
                        refine lv_iadd hx hb dL_guessed_144 ?_
                        refine lv_icmp_ne (tgt := 152) hx hb dL_guessed_145 (by decide) (fun c_145 => ?_) (fun c_145 => ?_)
                        · skip
                          exact absurd hsm c_145
                        · skip
                          refine lv_iconst (v := 1) hx hb dL_guessed_148 (by decide) ?_
                          refine lv_goto (tgt := 153) hx hb dL_guessed_149 (by decide) ?_
                          exact vy_ret (W.zret (v := 1) (ty := .boolean) hx hb hr rfl (fun t ht hW => ⟨⟨_, u_90, rfl, ⟨rfl, hgu, hgp⟩, by rw [ht]; exact hP, hD⟩, hS.F ht⟩) hS.2.2 dL_guessed_153)
                · skip
                  refine lv_iconst (v := 1) hx hb dL_guessed_79 (by decide) ?_
                  exact vy_ret (W.zret (v := 1) (ty := .boolean) hx hb hr rfl (fun t ht hW => ⟨⟨_, S, rfl, ⟨rfl, hg, Or.inl rfl⟩, by rw [ht]; exact hP, hD⟩, hS.F ht⟩) hS.2.2 dL_guessed_80)
            · skip
              refine lv_goto (tgt := 154) hx hb dL_guessed_35 (by decide) ?_
              refine lv_iinc (v := i3 + 1) (lv' := [(3, .int (i3 + 1)), (0, .ref x), (1, .int vx), (2, .int vy)]) hx hb dL_guessed_154 hl (k := 0) rfl rfl (by decide) rfl (fun ls hl => ?_)
              refine lv_goto (tgt := 2) hx hb dL_guessed_157 (by decide) ?_
              exact ih2 (j + 1) (i3 + 1) (by omega) (by omega) (by rw [e3]; exact nI_1 j) _ (lv_sub hl [0, 1, 2, 3] rfl)
  exact loop_2 7 0 0 (Nat.zero_le _) (by omega) nI_0.symm _ (lv_sub hl [0, 1, 2, 3] rfl)
