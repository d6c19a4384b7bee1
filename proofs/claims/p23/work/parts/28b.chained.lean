set_option maxHeartbeats 4000000 in
set_option maxRecDepth 100000 in
theorem c_L_chained (l : Launch) (hfl : l.stackTraces = false) (D : va_G) (cI cZ : ClassId) (x : Nat) (a : Nat → Nat) (S : ST) (pa : Nat) (fp : Nat → Int32) (B : Nat) (hg : Good B S) (hk_ : Lnk S fp) : vy_Met l yL_chained wsL_chained rmL_chained (va_Pc [.ref x, .ref pa] (fun U => (pR D (tyX cI cZ) (wX cI cZ x a S ++ [wp cI pa fp])) U ∧ pG U)) (vp_Si (fun r => r = 1)) (xcs (fun _ => False)) 1 6 (fun _ => False) := by
  refine vy_ofW (cc := cL_chained) (maxL := 5) (ret := (some .boolean)) (by decide) rfl ?_
  intro pr env s mid args below meth cod s₁ Bd hml hout hv
  obtain ⟨rfl, ⟨hP, hK⟩, hG0⟩ := hv
  have hG : xG (fun q => s.heap.size ≤ q) s s.heap := hG0
  have hx := Bd.exec
  have hb := Bd.bytes
  have hr := Bd.returns
  have hts := atoms_spec (ws := wsL_chained) Bd.pre
  have hown : s.vm.findClass RL = some mid.cls := findClass_of_methodNamed Bd.named
  have hlocks := Bd.notSynchronized
  have hl := lv_entry ([.ref x, .ref pa]) (n := 5) (Nat.le_of_ble_eq_true rfl)
  rw [lg_entry_eq]
  generalize (lg_sl ([.ref x, .ref pa]) ++ List.replicate (5 - (lg_sl ([.ref x, .ref pa])).length) Slot.unset).toArray = ls at hl ⊢
  have hl : lv_has ls 5 [(0, .ref x), (1, .ref pa)] := hl
  have hm := hg.1.m24
  refine lv_iconst (v := 0) hx hb dL_chained_0 (by decide) ?_
  refine lv_istore_n (lv' := [(2, .int 0), (0, .ref x), (1, .ref pa)]) hx hb dL_chained_1 rfl hl (by decide) rfl (fun ls hl => ?_)
  refine W_gen (fun R Q hR hQ => ?_)
  have loop_2 : ∀ (n : Nat) (j : Nat) (i2 : Int32), (j ≤ many S) → (many S + 1 ≤ j + n) → (i2 = nI j) → ∀ ls : Array Slot, lv_has ls 5 [(2, .int i2), (0, .ref x), (1, .ref pa)] → W pr l env R s mid ([.ref x, .ref pa] : List Value).toArray below meth cod s.heap [] 0 0 Q (F0 mid 2 ls []) := by
    subst hR; subst hQ
    intro n
    induction n with
    | zero =>
      intro j i2 hj hn e2 ls hl
      exfalso; omega
    | succ n ih2 =>
      intro j i2 hj hn e2 ls hl
      refine lv_iload_n hx hb dL_chained_2 rfl (lv_at hl 0 rfl) ?_
      refine lv_aload_n hx hb dL_chained_3 rfl (lv_at hl 1 rfl) ?_
      have hPc := hP.sub (ws' := wX cI cZ x a S) [0, 1, 2, 3, 4, 5, 6, 7, 8, 9, 10, 11, 12, 13] rfl
      refine vp_callSi (W.runV (As := []) (rest := [.int i2]) ⟨hx, hb, hml, hown, hts⟩ (c_X0_cues l D cI cZ x a S) (cwV 0 hts gL_chained_X0_cues rfl rfl rfl (by decide +kernel) ⟨Nat.le_of_ble_eq_true rfl, Nat.le_of_ble_eq_true rfl⟩) (pR_V (ci := 0) hPc hK rfl rfl) rfl rfl hl.1 rfl (lv_room (Nat.le_of_ble_eq_true rfl)) dL_chained_4 ⟨Nat.zero_le _, Nat.zero_le _⟩) (fun r_4 h_4 => ?_)
      subst h_4
      refine lv_icmp_ge (tgt := 101) hx hb dL_chained_7 (by decide) (fun c_7 => ?_) (fun c_7 => ?_)
      · skip
        have h6 : many S ≤ j := by rw [e2, hg.1.me] at c_7; exact (nI_leI (by omega) (by omega)).mp c_7
        refine lv_iconst (v := 1) hx hb dL_chained_101 (by decide) ?_
        exact vy_ret (W.zret (v := 1) (ty := .boolean) hx hb hr rfl (fun t ht hW => ⟨_, rfl, rfl, ht⟩) (fun q h => by cases h) dL_chained_102)
      · skip
        have h6 : j < many S := by rw [e2, hg.1.me] at c_7; exact Nat.lt_of_not_le (fun z => c_7 ((nI_leI (by omega) (by omega)).mpr z))
        have ej : i2.toNatClampNeg = j := by rw [e2, nI_clamp (by omega)]
        have iq : vp_in i2 (many S) := by rw [e2]; exact vp_in_nI h6 (by omega)
        have hs := (hg.1.cf j h6).2.2.2.2
        refine lv_aload_n hx hb dL_chained_10 rfl (lv_at hl 1 rfl) ?_
        refine lv_iload_n hx hb dL_chained_11 rfl (lv_at hl 0 rfl) ?_
        have i_12 : vp_in i2 (many S) := iq
        have hPc := hP.sub (ws' := wX cI cZ x a S) [0, 1, 2, 3, 4, 5, 6, 7, 8, 9, 10, 11, 12, 13] rfl
        refine vy_csi (vy_runV (As := [.int i2]) (rest := []) ⟨hx, hb, hml, hown, hts⟩ (c_X0_stateOf l hfl D cI cZ x a S i2 _ (hg.1)) (cwV 1 hts gL_chained_X0_stateOf rfl rfl rfl (by decide +kernel) ⟨Nat.le_of_ble_eq_true rfl, Nat.le_of_ble_eq_true rfl⟩) (pT_V (pR_V (ci := 0) hPc hK rfl rfl) hG (fun _ h => h)) rfl rfl hl.1 rfl (lv_room (Nat.le_of_ble_eq_true rfl)) dL_chained_12 ⟨Nat.le_of_ble_eq_true rfl, Nat.le_of_ble_eq_true rfl⟩) (fun E ce q9 H1 hPE hz9 hk9 hc9 hv9 hcl9 => (kne i_12 hPE.2).elim) (fun r_12 h_12 => ?_)
        replace h_12 : r_12 = S 8 i2.toNatClampNeg := krd i_12 h_12
        replace h_12 : r_12 = S 8 j := h_12.trans (by rw [ej])
        subst h_12
        refine lv_istore_n (lv' := [(3, .int (S 8 j)), (2, .int i2), (0, .ref x), (1, .ref pa)]) hx hb dL_chained_15 rfl hl (by decide) rfl (fun ls hl => ?_)
        refine W_gen (fun R Q hR hQ => ?_)
        have J_95 : ∀ (ls : Array Slot), lv_has ls 5 [(3, .int (S 8 j)), (2, .int i2), (0, .ref x), (1, .ref pa)] → W pr l env R s mid ([.ref x, .ref pa] : List Value).toArray below meth cod s.heap [] 0 0 Q (F0 mid 95 ls []) := by
          subst hR; subst hQ
          intro ls hl
          refine lv_iinc (v := i2 + 1) (lv' := [(2, .int (i2 + 1)), (3, .int (S 8 j)), (0, .ref x), (1, .ref pa)]) hx hb dL_chained_95 hl (k := 1) rfl rfl (by decide) rfl (fun ls hl => ?_)
          refine lv_goto (tgt := 2) hx hb dL_chained_98 (by decide) ?_
          exact ih2 (j + 1) (i2 + 1) (by omega) (by omega) (by rw [e2]; exact nI_1 j) _ (lv_sub hl [0, 2, 3] rfl)
        have J_39 : ∀ (ls : Array Slot), lv_has ls 5 [(3, .int (S 8 j)), (2, .int i2), (0, .ref x), (1, .ref pa)] → W pr l env R s mid ([.ref x, .ref pa] : List Value).toArray below meth cod s.heap [] 0 0 Q (F0 mid 39 ls []) := by
          subst hR; subst hQ
          intro ls hl
          refine lv_aload_n hx hb dL_chained_39 rfl (lv_at hl 3 rfl) ?_
          refine lv_iload_n hx hb dL_chained_40 rfl (lv_at hl 1 rfl) ?_
          refine va_iald (f := fp) (n := 24) hx hb hK hP 14 0 rfl rfl (vin_mono iq hm) dL_chained_41 ?_
          refine lv_if_ge (tgt := 48) hx hb dL_chained_42 (by decide) (fun c_42 => ?_) (fun c_42 => ?_)
          · skip
            have e7 : fp i2.toNatClampNeg = S 7 j := by rw [ej]; exact hk_ j h6
            have hne : S 7 j ≠ -1 := fun z => by rw [e7, z] at c_42; exact absurd c_42 (by decide)
            have h4 := hg.2.2.2.2 j h6 hne
            have hv := (hg.1.cf j h6).2.2.2.1.resolve_left hne
            refine lv_aload_n hx hb dL_chained_48 rfl (lv_at hl 2 rfl) ?_
            refine lv_aload_n hx hb dL_chained_49 rfl (lv_at hl 3 rfl) ?_
            refine lv_iload_n hx hb dL_chained_50 rfl (lv_at hl 1 rfl) ?_
            refine va_iald (f := fp) (n := 24) hx hb hK hP 14 0 rfl rfl (vin_mono iq hm) dL_chained_51 ?_
            have i_52 : vp_in (fp i2.toNatClampNeg) (many S) := by rw [e7]; exact vin_mono hv (by omega)
            have hPc := hP.sub (ws' := wX cI cZ x a S) [0, 1, 2, 3, 4, 5, 6, 7, 8, 9, 10, 11, 12, 13] rfl
            refine vy_csi (vy_runV (As := [.int (fp i2.toNatClampNeg)]) (rest := []) ⟨hx, hb, hml, hown, hts⟩ (c_X0_stateOf l hfl D cI cZ x a S (fp i2.toNatClampNeg) _ (hg.1)) (cwV 1 hts gL_chained_X0_stateOf rfl rfl rfl (by decide +kernel) ⟨Nat.le_of_ble_eq_true rfl, Nat.le_of_ble_eq_true rfl⟩) (pT_V (pR_V (ci := 0) hPc hK rfl rfl) hG (fun _ h => h)) rfl rfl hl.1 rfl (lv_room (Nat.le_of_ble_eq_true rfl)) dL_chained_52 ⟨Nat.le_of_ble_eq_true rfl, Nat.le_of_ble_eq_true rfl⟩) (fun E ce q9 H1 hPE hz9 hk9 hc9 hv9 hcl9 => (kne i_52 hPE.2).elim) (fun r_52 h_52 => ?_)
            replace h_52 : r_52 = S 8 (fp i2.toNatClampNeg).toNatClampNeg := krd i_52 h_52
            replace h_52 : r_52 = S 8 (S 7 j).toNatClampNeg := h_52.trans (by rw [e7])
            subst h_52
            refine lv_istore (lv' := [(4, .int (S 8 (S 7 j).toNatClampNeg)), (3, .int (S 8 j)), (2, .int i2), (0, .ref x), (1, .ref pa)]) hx hb dL_chained_55 hl (by decide) rfl (fun ls hl => ?_)
            refine W_gen (fun R Q hR hQ => ?_)
            have J_79 : ∀ (ls : Array Slot), lv_has ls 5 [(4, .int (S 8 (S 7 j).toNatClampNeg)), (3, .int (S 8 j)), (2, .int i2), (0, .ref x), (1, .ref pa)] → W pr l env R s mid ([.ref x, .ref pa] : List Value).toArray below meth cod s.heap [] 0 0 Q (F0 mid 79 ls []) := by
              subst hR; subst hQ
              intro ls hl
              refine lv_iload hx hb dL_chained_79 (lv_at hl 0 rfl) ?_
              refine lv_iconst (v := 1) hx hb dL_chained_81 (by decide) ?_
              refine lv_icmp_eq (tgt := 95) hx hb dL_chained_82 (by decide) (fun c_82 => ?_) (fun c_82 => ?_)
              · skip
                exact J_95  _  (lv_sub hl [1, 2, 3, 4] rfl)
              · skip
                refine lv_aload_n hx hb dL_chained_85 rfl (lv_at hl 3 rfl) ?_
                refine lv_iload_n hx hb dL_chained_86 rfl (lv_at hl 2 rfl) ?_
                have i_87 : vp_in i2 (many S) := iq
                have hPc := hP.sub (ws' := wX cI cZ x a S) [0, 1, 2, 3, 4, 5, 6, 7, 8, 9, 10, 11, 12, 13] rfl
                refine vy_csi (vy_runV (As := [.int i2]) (rest := []) ⟨hx, hb, hml, hown, hts⟩ (c_X0_canCall l hfl D cI cZ x a S i2 _ (hg.1)) (cwV 1 hts gL_chained_X0_canCall rfl rfl rfl (by decide +kernel) ⟨Nat.le_of_ble_eq_true rfl, Nat.le_of_ble_eq_true rfl⟩) (pT_V (pR_V (ci := 0) hPc hK rfl rfl) hG (fun _ h => h)) rfl rfl hl.1 rfl (lv_room (Nat.le_of_ble_eq_true rfl)) dL_chained_87 ⟨Nat.le_of_ble_eq_true rfl, Nat.le_of_ble_eq_true rfl⟩) (fun E ce q9 H1 hPE hz9 hk9 hc9 hv9 hcl9 => (kne i_87 hPE.2).elim) (fun r_87 h_87 => ?_)
                replace h_87 := krd i_87 h_87
                refine lv_if_eq (tgt := 95) hx hb dL_chained_90 (by decide) (fun c_90 => ?_) (fun c_90 => ?_)
                · skip
                  have b_87 := cif_b0 h_87 c_90
                  exact J_95  _  (lv_sub hl [1, 2, 3, 4] rfl)
                · skip
                  have b_87 := cif_b1 h_87 c_90
                  exact absurd (show S 8 (S 7 j).toNatClampNeg = 1 by have z := b_87.2.1; rw [ej] at z; exact z.resolve_left hne) c_82
            have J_68 : ∀ (ls : Array Slot), lv_has ls 5 [(4, .int (S 8 (S 7 j).toNatClampNeg)), (3, .int (S 8 j)), (2, .int i2), (0, .ref x), (1, .ref pa)] → W pr l env R s mid ([.ref x, .ref pa] : List Value).toArray below meth cod s.heap [] 0 0 Q (F0 mid 68 ls []) := by
              subst hR; subst hQ
              intro ls hl
              refine lv_iload_n hx hb dL_chained_68 rfl (lv_at hl 1 rfl) ?_
              refine lv_iconst (v := 1) hx hb dL_chained_69 (by decide) ?_
              refine lv_icmp_ne (tgt := 79) hx hb dL_chained_70 (by decide) (fun c_70 => ?_) (fun c_70 => ?_)
              · skip
                exact J_79  _  (lv_sub hl [0, 1, 2, 3, 4] rfl)
              · skip
                refine lv_iload hx hb dL_chained_73 (lv_at hl 0 rfl) ?_
                refine lv_iconst (v := 1) hx hb dL_chained_75 (by decide) ?_
                refine lv_icmp_ne (tgt := 93) hx hb dL_chained_76 (by decide) (fun c_76 => ?_) (fun c_76 => ?_)
                · skip
                  exact absurd (h4.2 c_70) c_76
                · skip
                  exact J_79  _  (lv_sub hl [0, 1, 2, 3, 4] rfl)
            subst hR; subst hQ
            refine lv_iload hx hb dL_chained_57 (lv_at hl 0 rfl) ?_
            refine lv_iconst (v := 2) hx hb dL_chained_59 (by decide) ?_
            refine lv_icmp_ne (tgt := 68) hx hb dL_chained_60 (by decide) (fun c_60 => ?_) (fun c_60 => ?_)
            · skip
              exact J_68  _  (lv_sub hl [0, 1, 2, 3, 4] rfl)
            · skip
              refine lv_iload_n hx hb dL_chained_63 rfl (lv_at hl 1 rfl) ?_
              refine lv_iconst (v := 2) hx hb dL_chained_64 (by decide) ?_
              refine lv_icmp_ne (tgt := 93) hx hb dL_chained_65 (by decide) (fun c_65 => ?_) (fun c_65 => ?_)
              · skip
                exact absurd (h4.1 c_60) c_65
              · skip
                exact J_68  _  (lv_sub hl [0, 1, 2, 3, 4] rfl)
          · skip
            refine lv_goto (tgt := 95) hx hb dL_chained_45 (by decide) ?_
            exact J_95  _  (lv_sub hl [0, 1, 2, 3] rfl)
        subst hR; subst hQ
        refine lv_iload_n hx hb dL_chained_16 rfl (lv_at hl 0 rfl) ?_
        refine lv_if_lt (tgt := 37) hx hb dL_chained_17 (by decide) (fun c_17 => ?_) (fun c_17 => ?_)
        · skip
          exact absurd c_17 (st_lt hs)
        · skip
          refine lv_iload_n hx hb dL_chained_20 rfl (lv_at hl 0 rfl) ?_
          refine lv_iconst (v := 2) hx hb dL_chained_21 (by decide) ?_
          refine lv_icmp_gt (tgt := 37) hx hb dL_chained_22 (by decide) (fun c_22 => ?_) (fun c_22 => ?_)
          · skip
            exact absurd c_22 (st_gt hs)
          · skip
            refine lv_iload_n hx hb dL_chained_25 rfl (lv_at hl 0 rfl) ?_
            refine lv_if_eq (tgt := 39) hx hb dL_chained_26 (by decide) (fun c_26 => ?_) (fun c_26 => ?_)
            · skip
              exact J_39  _  (lv_sub hl [0, 1, 2, 3] rfl)
            · skip
              refine lv_aload_n hx hb dL_chained_29 rfl (lv_at hl 2 rfl) ?_
              refine lv_iload_n hx hb dL_chained_30 rfl (lv_at hl 1 rfl) ?_
              have i_31 : vp_in i2 (many S) := iq
              have hPc := hP.sub (ws' := wX cI cZ x a S) [0, 1, 2, 3, 4, 5, 6, 7, 8, 9, 10, 11, 12, 13] rfl
              refine vy_csi (vy_runV (As := [.int i2]) (rest := []) ⟨hx, hb, hml, hown, hts⟩ (c_X0_canCall l hfl D cI cZ x a S i2 _ (hg.1)) (cwV 1 hts gL_chained_X0_canCall rfl rfl rfl (by decide +kernel) ⟨Nat.le_of_ble_eq_true rfl, Nat.le_of_ble_eq_true rfl⟩) (pT_V (pR_V (ci := 0) hPc hK rfl rfl) hG (fun _ h => h)) rfl rfl hl.1 rfl (lv_room (Nat.le_of_ble_eq_true rfl)) dL_chained_31 ⟨Nat.le_of_ble_eq_true rfl, Nat.le_of_ble_eq_true rfl⟩) (fun E ce q9 H1 hPE hz9 hk9 hc9 hv9 hcl9 => (kne i_31 hPE.2).elim) (fun r_31 h_31 => ?_)
              replace h_31 := krd i_31 h_31
              refine lv_if_eq (tgt := 39) hx hb dL_chained_34 (by decide) (fun c_34 => ?_) (fun c_34 => ?_)
              · skip
                have b_31 := cif_b0 h_31 c_34
                exact J_39  _  (lv_sub hl [0, 1, 2, 3] rfl)
              · skip
                have b_31 := cif_b1 h_31 c_34
                exact absurd (show S 8 j = 0 by rw [← ej]; exact b_31.1) c_26
  exact loop_2 (many S + 1) 0 0 (Nat.zero_le _) (by omega) nI_0.symm _ (lv_sub hl [0, 1, 2] rfl)
