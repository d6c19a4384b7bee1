set_option maxHeartbeats 4000000 in
set_option maxRecDepth 100000 in
theorem c_L_sound (l : Launch) (hfl : l.stackTraces = false) (D : va_G) (cI cZ : ClassId) (x : Nat) (a : Nat → Nat) (S : ST) (sz : Nat) (B : Nat) (hg : Good B S) : vy_Met l yL_sound wsL_sound rmL_sound (va_Pc [.ref x] (fun U => (pW D (tyX cI cZ) (wX cI cZ x a S) sz) U ∧ pGA (wX cI cZ x a S) U)) (va_Qi (fun (r : Int32) (u : ST) => r = 1 ∧ ∃ g, u = row S 16 g) (fun (u : ST) t => atW D (wX cI cZ x a u) (va_A (wX cI cZ x a S) sz) t) (va_A (wX cI cZ x a S) sz)) (xcs (fun _ => False)) 1 6 (va_A (wX cI cZ x a S) sz) := by
  refine vy_ofW (cc := cL_sound) (maxL := 5) (ret := (some .boolean)) (by decide) rfl ?_
  intro pr env s mid args below meth cod s₁ Bd hml hout hv
  obtain ⟨rfl, ⟨hsz, hP, hK, hD0⟩, hG0⟩ := hv
  have hx := Bd.exec
  have hb := Bd.bytes
  have hr := Bd.returns
  have hts := atoms_spec (ws := wsL_sound) Bd.pre
  have hown : s.vm.findClass RL = some mid.cls := findClass_of_methodNamed Bd.named
  have hlocks := Bd.notSynchronized
  subst hsz
  have hG : xG (va_A (wX cI cZ x a S) s.heap.size) s s.heap := hG0
  have hD := hD0.self (sz := s.heap.size)
  generalize hAe : va_A (wX cI cZ x a S) s.heap.size = A at hD hG ⊢
  have hA : ∀ q : Nat, s.heap.size ≤ q → A q := fun q h => by rw [← hAe]; exact Or.inr h
  have hS : va_S A s.heap s.heap [] := va_S.rf
  have hP : va_P D vwCl (wX cI cZ x a S) s.heap := hP
  have hD : va_D A (wX cI cZ x a S) := hD
  have hl := lv_entry ([.ref x]) (n := 5) (Nat.le_of_ble_eq_true rfl)
  rw [lg_entry_eq]
  generalize (lg_sl ([.ref x]) ++ List.replicate (5 - (lg_sl ([.ref x])).length) Slot.unset).toArray = ls at hl ⊢
  have hl : lv_has ls 5 [(0, .ref x)] := hl
  refine lv_iconst (v := 0) hx hb dL_sound_0 (by decide) ?_
  refine lv_istore_n (lv' := [(1, .int 0), (0, .ref x)]) hx hb dL_sound_1 rfl hl (by decide) rfl (fun ls hl => ?_)
  refine W_gen (fun R Q hR hQ => ?_)
  have loop_2 : ∀ (n : Nat) (j : Nat) (i1 : Int32) (S1 : ST), (j ≤ 6) → (7 ≤ j + n) → (i1 = nI j) → (Good B S1) → (∃ g, S1 = row S 16 g) → ∀ (H : Heap) (locs : List Loc), va_P D vwCl (wX cI cZ x a S1) H → va_D A (wX cI cZ x a S1) → va_S A s.heap H locs → ∀ ls : Array Slot, lv_has ls 5 [(1, .int i1), (0, .ref x)] → W pr l env R s mid ([.ref x] : List Value).toArray below meth cod H locs 0 0 Q (F0 mid 2 ls []) := by
    subst hR; subst hQ
    intro n
    induction n with
    | zero =>
      intro j i1 S1 hj hn e1 hg1 eS H locs hP hD hS ls hl
      exfalso; omega
    | succ n ih2 =>
      intro j i1 S1 hj hn e1 hg1 eS H locs hP hD hS ls hl
      refine lv_iload_n hx hb dL_sound_2 rfl (lv_at hl 0 rfl) ?_
      refine lv_bipush (v := 6) hx hb dL_sound_3 (by decide) ?_
      refine lv_icmp_ge (tgt := 167) hx hb dL_sound_5 (by decide) (fun c_5 => ?_) (fun c_5 => ?_)
      · skip
        have h6 : 6 ≤ j := ge_of (N := 6) e1 (by omega) rfl c_5
        refine lv_iconst (v := 1) hx hb dL_sound_167 (by decide) ?_
        exact vy_ret (W.zret (v := 1) (ty := .boolean) hx hb hr rfl (fun t ht hW => ⟨⟨_, S1, rfl, ⟨rfl, eS⟩, by rw [ht]; exact hP, hD⟩, hS.F ht⟩) hS.2.2 dL_sound_168)
      · skip
        have h6 : j < 6 := lt_of (N := 6) e1 (by omega) rfl c_5
        have ej : i1.toNatClampNeg = j := by rw [e1, nI_clamp (by omega)]
        have i6 : vp_in i1 6 := by rw [e1]; exact vp_in_nI h6 (by decide)
        have hm := hg1.2.1 j h6
        have hI1 := hg1.1
        refine lv_aload_n hx hb dL_sound_8 rfl (lv_at hl 1 rfl) ?_
        refine lv_iload_n hx hb dL_sound_9 rfl (lv_at hl 0 rfl) ?_
        have i_10 : vp_in i1 6 := i6
        refine vy_csi (vy_runV (As := [.int i1]) (rest := []) ⟨hx, hb, hml, hown, hts⟩ (c_X0_maskOf l hfl D cI cZ x a S1 i1) (cwV 1 hts gL_sound_X0_maskOf rfl rfl rfl (by decide +kernel) ⟨Nat.le_of_ble_eq_true rfl, Nat.le_of_ble_eq_true rfl⟩) (pT_V (pR_V (ci := 0) hP hK rfl rfl) (hG.kept (fun q h1 h2 => hS.2.1 q h1 h2)) (fun q h => hA q (Nat.le_trans hS.1 h))) rfl rfl hl.1 rfl (lv_room (Nat.le_of_ble_eq_true rfl)) dL_sound_10 ⟨Nat.le_of_ble_eq_true rfl, Nat.le_of_ble_eq_true rfl⟩) (fun E ce q9 H1 hPE hz9 hk9 hc9 hv9 hcl9 => (kne i_10 hPE.2).elim) (fun r_10 h_10 => ?_)
        replace h_10 : r_10 = S1 1 i1.toNatClampNeg := krd i_10 h_10
        replace h_10 : r_10 = S1 1 j := h_10.trans (by rw [ej])
        subst h_10
        refine lv_istore_n (lv' := [(2, .int (S1 1 j)), (1, .int i1), (0, .ref x)]) hx hb dL_sound_13 rfl hl (by decide) rfl (fun ls hl => ?_)
        refine lv_aload_n hx hb dL_sound_14 rfl (lv_at hl 2 rfl) ?_
        refine lv_iload_n hx hb dL_sound_15 rfl (lv_at hl 1 rfl) ?_
        have i_16 : vp_in i1 6 := i6
        refine vy_csi (vy_runV (As := [.int i1]) (rest := []) ⟨hx, hb, hml, hown, hts⟩ (c_X0_costumeOf l hfl D cI cZ x a S1 i1) (cwV 1 hts gL_sound_X0_costumeOf rfl rfl rfl (by decide +kernel) ⟨Nat.le_of_ble_eq_true rfl, Nat.le_of_ble_eq_true rfl⟩) (pT_V (pR_V (ci := 0) hP hK rfl rfl) (hG.kept (fun q h1 h2 => hS.2.1 q h1 h2)) (fun q h => hA q (Nat.le_trans hS.1 h))) rfl rfl hl.1 rfl (lv_room (Nat.le_of_ble_eq_true rfl)) dL_sound_16 ⟨Nat.le_of_ble_eq_true rfl, Nat.le_of_ble_eq_true rfl⟩) (fun E ce q9 H1 hPE hz9 hk9 hc9 hv9 hcl9 => (kne i_16 hPE.2).elim) (fun r_16 h_16 => ?_)
        replace h_16 : r_16 = S1 0 i1.toNatClampNeg := krd i_16 h_16
        replace h_16 : r_16 = S1 0 j := h_16.trans (by rw [ej])
        subst h_16
        refine lv_istore_n (lv' := [(3, .int (S1 0 j)), (2, .int (S1 1 j)), (1, .int i1), (0, .ref x)]) hx hb dL_sound_19 rfl hl (by decide) rfl (fun ls hl => ?_)
        refine lv_iload_n hx hb dL_sound_20 rfl (lv_at hl 1 rfl) ?_
        refine lv_iconst (v := (-1)) hx hb dL_sound_21 (by decide) ?_
        refine lv_icmp_lt (tgt := 52) hx hb dL_sound_22 (by decide) (fun c_22 => ?_) (fun c_22 => ?_)
        · skip
          exact absurd c_22 (m_lt hm)
        · skip
          refine lv_iload_n hx hb dL_sound_25 rfl (lv_at hl 1 rfl) ?_
          refine lv_iconst (v := 5) hx hb dL_sound_26 (by decide) ?_
          refine lv_icmp_gt (tgt := 52) hx hb dL_sound_27 (by decide) (fun c_27 => ?_) (fun c_27 => ?_)
          · skip
            exact absurd c_27 (m_gt hm)
          · skip
            refine lv_aload_n hx hb dL_sound_30 rfl (lv_at hl 3 rfl) ?_
            refine lv_iload_n hx hb dL_sound_31 rfl (lv_at hl 2 rfl) ?_
            have k_32 := ans_mbc hg1 i6
            have hFc := wfree hD hS hA
            refine vy_calli (vy_runV (As := [.int i1]) (rest := []) ⟨hx, hb, hml, hown, hts⟩ (c_X0_maskByCues l hfl D cI cZ x a S1 H.size i1 _ (hI1)) (cwV 1 hts gL_sound_X0_maskByCues rfl rfl rfl (by decide +kernel) ⟨Nat.le_of_ble_eq_true rfl, Nat.le_of_ble_eq_true rfl⟩) (pT_V (pW_V (ci := 0) hP hK hD rfl rfl) (hG.kept (fun q h1 h2 => hS.2.1 q h1 h2)) (fun q h => hA q (Nat.le_trans hS.1 h))) rfl rfl hl.1 rfl (lv_room (Nat.le_of_ble_eq_true rfl)) dL_sound_32 ⟨Nat.le_of_ble_eq_true rfl, Nat.le_of_ble_eq_true rfl⟩) hS (fun q _ h => hFc q h) hFc (fun E ce q9 H1 locs hPE hz9 hk9 hS hc9 hv9 hcl9 => (k1x k_32 hPE).elim) (fun r_32 u_32 t9 H1 locs ht9 hvm9 h_32 hB9 hz9 hk9 hS => ?_)
            have hP : va_P D vwCl (wX cI cZ x a u_32) H1 := atW_P hB9 ht9
            have hD : va_D A (wX cI cZ x a u_32) := atW_D hB9 hFc
            generalize H1 = H at hP hS ⊢
            obtain ⟨e_32, w_32⟩ := kin k_32 h_32
            subst e_32
            have hg2 : Good B u_32 := by rw [w_32]; exact good_16 hg1 _
            have eS2 := tw16 eS w_32
            have r0_ : u_32 0 = S1 0 := r16 w_32 (by decide)
            have r1_ : u_32 1 = S1 1 := r16 w_32 (by decide)
            have r2_ : u_32 2 = S1 2 := r16 w_32 (by decide)
            have r3_ : u_32 3 = S1 3 := r16 w_32 (by decide)
            refine W_gen (fun R Q hR hQ => ?_)
            have J_116 : ∀ (ls : Array Slot), lv_has ls 5 [(3, .int (S1 0 j)), (2, .int (S1 1 j)), (1, .int i1), (0, .ref x)] → W pr l env R s mid ([.ref x] : List Value).toArray below meth cod H locs 0 0 Q (F0 mid 116 ls []) := by
              subst hR; subst hQ
              intro ls hl
              refine lv_iconst (v := 0) hx hb dL_sound_116 (by decide) ?_
              refine lv_istore (lv' := [(4, .int 0), (3, .int (S1 0 j)), (2, .int (S1 1 j)), (1, .int i1), (0, .ref x)]) hx hb dL_sound_117 hl (by decide) rfl (fun ls hl => ?_)
              refine W_gen (fun R Q hR hQ => ?_)
              have loop_119 : ∀ (n : Nat) (b : Nat) (i4 : Int32), (b ≤ j) → (j + 1 ≤ b + n) → (i4 = nI b) → ∀ ls : Array Slot, lv_has ls 5 [(4, .int i4), (3, .int (S1 0 j)), (2, .int (S1 1 j)), (1, .int i1), (0, .ref x)] → W pr l env R s mid ([.ref x] : List Value).toArray below meth cod H locs 0 0 Q (F0 mid 119 ls []) := by
                subst hR; subst hQ
                intro n
                induction n with
                | zero =>
                  intro b i4 hbj hnb e4 ls hl
                  exfalso; omega
                | succ n ih119 =>
                  intro b i4 hbj hnb e4 ls hl
                  refine lv_iload hx hb dL_sound_119 (lv_at hl 0 rfl) ?_
                  refine lv_iload_n hx hb dL_sound_121 rfl (lv_at hl 3 rfl) ?_
                  refine lv_icmp_ge (tgt := 161) hx hb dL_sound_122 (by decide) (fun c_122 => ?_) (fun c_122 => ?_)
                  · skip
                    refine lv_iinc (v := i1 + 1) (lv' := [(1, .int (i1 + 1)), (4, .int i4), (3, .int (S1 0 j)), (2, .int (S1 1 j)), (0, .ref x)]) hx hb dL_sound_161 hl (k := 3) rfl rfl (by decide) rfl (fun ls hl => ?_)
                    refine lv_goto (tgt := 2) hx hb dL_sound_164 (by decide) ?_
                    exact ih2 (j + 1) (i1 + 1) u_32 (by omega) (by omega) (by rw [e1]; exact nI_1 j) hg2 eS2 _ _ hP hD hS _ (lv_sub hl [0, 4] rfl)
                  · skip
                    have hb6 : b < j := by rw [e1, e4] at c_122; exact Nat.lt_of_not_le (fun z => c_122 ((nI_leI (by omega) (by omega)).mpr z))
                    have eb : i4.toNatClampNeg = b := by rw [e4, nI_clamp (by omega)]
                    have i46 : vp_in i4 6 := by rw [e4]; exact vp_in_nI (by omega) (by decide)
                    refine lv_iload_n hx hb dL_sound_125 rfl (lv_at hl 2 rfl) ?_
                    refine lv_if_lt (tgt := 139) hx hb dL_sound_126 (by decide) (fun c_126 => ?_) (fun c_126 => ?_)
                    · skip
                      refine lv_iload_n hx hb dL_sound_139 rfl (lv_at hl 1 rfl) ?_
                      refine lv_if_lt (tgt := 155) hx hb dL_sound_140 (by decide) (fun c_140 => ?_) (fun c_140 => ?_)
                      · skip
                        refine lv_iinc (v := i4 + 1) (lv' := [(4, .int (i4 + 1)), (3, .int (S1 0 j)), (2, .int (S1 1 j)), (1, .int i1), (0, .ref x)]) hx hb dL_sound_155 hl (k := 0) rfl rfl (by decide) rfl (fun ls hl => ?_)
                        refine lv_goto (tgt := 119) hx hb dL_sound_158 (by decide) ?_
                        exact ih119 (b + 1) (i4 + 1) (by omega) (by omega) (by rw [e4]; exact nI_1 b) _ (lv_sub hl [0, 1, 2, 3, 4] rfl)
                      · skip
                        refine lv_aload_n hx hb dL_sound_143 rfl (lv_at hl 4 rfl) ?_
                        refine lv_iload hx hb dL_sound_144 (lv_at hl 0 rfl) ?_
                        have i_146 : vp_in i4 6 := i46
                        refine vy_csi (vy_runV (As := [.int i4]) (rest := []) ⟨hx, hb, hml, hown, hts⟩ (c_X0_costumeOf l hfl D cI cZ x a u_32 i4) (cwV 1 hts gL_sound_X0_costumeOf rfl rfl rfl (by decide +kernel) ⟨Nat.le_of_ble_eq_true rfl, Nat.le_of_ble_eq_true rfl⟩) (pT_V (pR_V (ci := 0) hP hK rfl rfl) (hG.kept (fun q h1 h2 => hS.2.1 q h1 h2)) (fun q h => hA q (Nat.le_trans hS.1 h))) rfl rfl hl.1 rfl (lv_room (Nat.le_of_ble_eq_true rfl)) dL_sound_146 ⟨Nat.le_of_ble_eq_true rfl, Nat.le_of_ble_eq_true rfl⟩) (fun E ce q9 H1 hPE hz9 hk9 hc9 hv9 hcl9 => (kne i_146 hPE.2).elim) (fun r_146 h_146 => ?_)
                        replace h_146 : r_146 = u_32 0 i4.toNatClampNeg := krd i_146 h_146
                        replace h_146 : r_146 = S1 0 b := h_146.trans (by rw [r0_, eb])
                        subst h_146
                        refine lv_iload_n hx hb dL_sound_149 rfl (lv_at hl 1 rfl) ?_
                        refine lv_icmp_ne (tgt := 155) hx hb dL_sound_150 (by decide) (fun c_150 => ?_) (fun c_150 => ?_)
                        · skip
                          refine lv_iinc (v := i4 + 1) (lv' := [(4, .int (i4 + 1)), (3, .int (S1 0 j)), (2, .int (S1 1 j)), (1, .int i1), (0, .ref x)]) hx hb dL_sound_155 hl (k := 0) rfl rfl (by decide) rfl (fun ls hl => ?_)
                          refine lv_goto (tgt := 119) hx hb dL_sound_158 (by decide) ?_
                          exact ih119 (b + 1) (i4 + 1) (by omega) (by omega) (by rw [e4]; exact nI_1 b) _ (lv_sub hl [0, 1, 2, 3, 4] rfl)
                        · skip
                          exact absurd c_150 (uq_two hI1.u0 h6 hb6 c_140)
                    · skip
                      refine lv_aload_n hx hb dL_sound_129 rfl (lv_at hl 4 rfl) ?_
                      refine lv_iload hx hb dL_sound_130 (lv_at hl 0 rfl) ?_
                      have i_132 : vp_in i4 6 := i46
                      refine vy_csi (vy_runV (As := [.int i4]) (rest := []) ⟨hx, hb, hml, hown, hts⟩ (c_X0_maskOf l hfl D cI cZ x a u_32 i4) (cwV 1 hts gL_sound_X0_maskOf rfl rfl rfl (by decide +kernel) ⟨Nat.le_of_ble_eq_true rfl, Nat.le_of_ble_eq_true rfl⟩) (pT_V (pR_V (ci := 0) hP hK rfl rfl) (hG.kept (fun q h1 h2 => hS.2.1 q h1 h2)) (fun q h => hA q (Nat.le_trans hS.1 h))) rfl rfl hl.1 rfl (lv_room (Nat.le_of_ble_eq_true rfl)) dL_sound_132 ⟨Nat.le_of_ble_eq_true rfl, Nat.le_of_ble_eq_true rfl⟩) (fun E ce q9 H1 hPE hz9 hk9 hc9 hv9 hcl9 => (kne i_132 hPE.2).elim) (fun r_132 h_132 => ?_)
                      replace h_132 : r_132 = u_32 1 i4.toNatClampNeg := krd i_132 h_132
                      replace h_132 : r_132 = S1 1 b := h_132.trans (by rw [r1_, eb])
                      subst h_132
                      refine lv_iload_n hx hb dL_sound_135 rfl (lv_at hl 2 rfl) ?_
                      refine lv_icmp_eq (tgt := 153) hx hb dL_sound_136 (by decide) (fun c_136 => ?_) (fun c_136 => ?_)
                      · skip
                        exact absurd c_136 (uq_two hI1.u1 h6 hb6 c_126)
                      · skip
                        refine lv_iload_n hx hb dL_sound_139 rfl (lv_at hl 1 rfl) ?_
                        refine lv_if_lt (tgt := 155) hx hb dL_sound_140 (by decide) (fun c_140 => ?_) (fun c_140 => ?_)
                        · skip
                          refine lv_iinc (v := i4 + 1) (lv' := [(4, .int (i4 + 1)), (3, .int (S1 0 j)), (2, .int (S1 1 j)), (1, .int i1), (0, .ref x)]) hx hb dL_sound_155 hl (k := 0) rfl rfl (by decide) rfl (fun ls hl => ?_)
                          refine lv_goto (tgt := 119) hx hb dL_sound_158 (by decide) ?_
                          exact ih119 (b + 1) (i4 + 1) (by omega) (by omega) (by rw [e4]; exact nI_1 b) _ (lv_sub hl [0, 1, 2, 3, 4] rfl)
                        · skip
                          refine lv_aload_n hx hb dL_sound_143 rfl (lv_at hl 4 rfl) ?_
                          refine lv_iload hx hb dL_sound_144 (lv_at hl 0 rfl) ?_
                          have i_146 : vp_in i4 6 := i46
                          refine vy_csi (vy_runV (As := [.int i4]) (rest := []) ⟨hx, hb, hml, hown, hts⟩ (c_X0_costumeOf l hfl D cI cZ x a u_32 i4) (cwV 1 hts gL_sound_X0_costumeOf rfl rfl rfl (by decide +kernel) ⟨Nat.le_of_ble_eq_true rfl, Nat.le_of_ble_eq_true rfl⟩) (pT_V (pR_V (ci := 0) hP hK rfl rfl) (hG.kept (fun q h1 h2 => hS.2.1 q h1 h2)) (fun q h => hA q (Nat.le_trans hS.1 h))) rfl rfl hl.1 rfl (lv_room (Nat.le_of_ble_eq_true rfl)) dL_sound_146 ⟨Nat.le_of_ble_eq_true rfl, Nat.le_of_ble_eq_true rfl⟩) (fun E ce q9 H1 hPE hz9 hk9 hc9 hv9 hcl9 => (kne i_146 hPE.2).elim) (fun r_146 h_146 => ?_)
                          replace h_146 : r_146 = u_32 0 i4.toNatClampNeg := krd i_146 h_146
                          replace h_146 : r_146 = S1 0 b := h_146.trans (by rw [r0_, eb])
                          subst h_146
                          refine lv_iload_n hx hb dL_sound_149 rfl (lv_at hl 1 rfl) ?_
                          refine lv_icmp_ne (tgt := 155) hx hb dL_sound_150 (by decide) (fun c_150 => ?_) (fun c_150 => ?_)
                          · skip
                            refine lv_iinc (v := i4 + 1) (lv' := [(4, .int (i4 + 1)), (3, .int (S1 0 j)), (2, .int (S1 1 j)), (1, .int i1), (0, .ref x)]) hx hb dL_sound_155 hl (k := 0) rfl rfl (by decide) rfl (fun ls hl => ?_)
                            refine lv_goto (tgt := 119) hx hb dL_sound_158 (by decide) ?_
                            exact ih119 (b + 1) (i4 + 1) (by omega) (by omega) (by rw [e4]; exact nI_1 b) _ (lv_sub hl [0, 1, 2, 3, 4] rfl)
                          · skip
                            exact absurd c_150 (uq_two hI1.u0 h6 hb6 c_140)
              exact loop_119 (j + 1) 0 0 (Nat.zero_le _) (by omega) nI_0.symm _ (lv_sub hl [0, 1, 2, 3, 4] rfl)
            have J_89 : ∀ (ls : Array Slot), lv_has ls 5 [(3, .int (S1 0 j)), (2, .int (S1 1 j)), (1, .int i1), (0, .ref x)] → W pr l env R s mid ([.ref x] : List Value).toArray below meth cod H locs 0 0 Q (F0 mid 89 ls []) := by
              subst hR; subst hQ
              intro ls hl
              refine lv_iload_n hx hb dL_sound_89 rfl (lv_at hl 0 rfl) ?_
              refine lv_if_lt (tgt := 116) hx hb dL_sound_90 (by decide) (fun c_90 => ?_) (fun c_90 => ?_)
              · skip
                exact J_116  _  (lv_sub hl [0, 1, 2, 3] rfl)
              · skip
                refine lv_iload_n hx hb dL_sound_93 rfl (lv_at hl 0 rfl) ?_
                refine lv_iload_n hx hb dL_sound_94 rfl (lv_at hl 2 rfl) ?_
                refine lv_icmp_lt (tgt := 114) hx hb dL_sound_95 (by decide) (fun c_95 => ?_) (fun c_95 => ?_)
                · skip
                  exact absurd c_95 (by rw [e1]; exact cos_lo hg1.2.2.1 h6 c_90)
                · skip
                  refine lv_iload_n hx hb dL_sound_98 rfl (lv_at hl 0 rfl) ?_
                  refine lv_iload_n hx hb dL_sound_99 rfl (lv_at hl 2 rfl) ?_
                  refine lv_iconst (v := 2) hx hb dL_sound_100 (by decide) ?_
                  refine lv_iadd hx hb dL_sound_101 ?_
                  refine lv_icmp_gt (tgt := 114) hx hb dL_sound_102 (by decide) (fun c_102 => ?_) (fun c_102 => ?_)
                  · skip
                    exact absurd c_102 (by rw [e1]; exact cos_hi hg1.2.2.1 h6 c_90)
                  · skip
                    refine lv_aload_n hx hb dL_sound_105 rfl (lv_at hl 3 rfl) ?_
                    refine lv_iload_n hx hb dL_sound_106 rfl (lv_at hl 0 rfl) ?_
                    have i_107 : vp_in (S1 0 j) 8 := in_of (hI1.i0 j h6) c_90
                    refine vy_csi (vy_runV (As := [.int (S1 0 j)]) (rest := []) ⟨hx, hb, hml, hown, hts⟩ (c_X0_wear l hfl D cI cZ x a u_32 (S1 0 j)) (cwV 1 hts gL_sound_X0_wear rfl rfl rfl (by decide +kernel) ⟨Nat.le_of_ble_eq_true rfl, Nat.le_of_ble_eq_true rfl⟩) (pT_V (pR_V (ci := 0) hP hK rfl rfl) (hG.kept (fun q h1 h2 => hS.2.1 q h1 h2)) (fun q h => hA q (Nat.le_trans hS.1 h))) rfl rfl hl.1 rfl (lv_room (Nat.le_of_ble_eq_true rfl)) dL_sound_107 ⟨Nat.le_of_ble_eq_true rfl, Nat.le_of_ble_eq_true rfl⟩) (fun E ce q9 H1 hPE hz9 hk9 hc9 hv9 hcl9 => (kne i_107 hPE.2).elim) (fun r_107 h_107 => ?_)
                    replace h_107 : r_107 = u_32 3 (S1 0 j).toNatClampNeg := krd i_107 h_107
                    replace h_107 : r_107 = S1 3 (S1 0 j).toNatClampNeg := h_107.trans (by rw [r3_])
                    subst h_107
                    refine lv_iconst (v := 2) hx hb dL_sound_110 (by decide) ?_
                    refine lv_icmp_le (tgt := 116) hx hb dL_sound_111 (by decide) (fun c_111 => ?_) (fun c_111 => ?_)
                    · skip
                      exact J_116  _  (lv_sub hl [0, 1, 2, 3] rfl)
                    · skip
                      exact absurd (wear_le hI1 h6 c_90) c_111
            have J_75 : ∀ (ls : Array Slot), lv_has ls 5 [(3, .int (S1 0 j)), (2, .int (S1 1 j)), (1, .int i1), (0, .ref x)] → W pr l env R s mid ([.ref x] : List Value).toArray below meth cod H locs 0 0 Q (F0 mid 75 ls []) := by
              subst hR; subst hQ
              intro ls hl
              refine lv_aload_n hx hb dL_sound_75 rfl (lv_at hl 3 rfl) ?_
              refine lv_iload_n hx hb dL_sound_76 rfl (lv_at hl 2 rfl) ?_
              have i_77 : vp_in i1 6 := i6
              refine vy_csi (vy_runV (As := [.int i1]) (rest := []) ⟨hx, hb, hml, hown, hts⟩ (c_X0_isOn l hfl D cI cZ x a u_32 i1 _ (hg2.1)) (cwV 1 hts gL_sound_X0_isOn rfl rfl rfl (by decide +kernel) ⟨Nat.le_of_ble_eq_true rfl, Nat.le_of_ble_eq_true rfl⟩) (pT_V (pR_V (ci := 0) hP hK rfl rfl) (hG.kept (fun q h1 h2 => hS.2.1 q h1 h2)) (fun q h => hA q (Nat.le_trans hS.1 h))) rfl rfl hl.1 rfl (lv_room (Nat.le_of_ble_eq_true rfl)) dL_sound_77 ⟨Nat.le_of_ble_eq_true rfl, Nat.le_of_ble_eq_true rfl⟩) (fun E ce q9 H1 hPE hz9 hk9 hc9 hv9 hcl9 => (kne i_77 hPE.2).elim) (fun r_77 h_77 => ?_)
              replace h_77 : r_77 = u_32 2 i1.toNatClampNeg := krd i_77 h_77
              replace h_77 : r_77 = S1 2 j := h_77.trans (by rw [r2_, ej])
              subst h_77
              refine lv_if_eq (tgt := 89) hx hb dL_sound_80 (by decide) (fun c_80 => ?_) (fun c_80 => ?_)
              · skip
                exact J_89  _  (lv_sub hl [0, 1, 2, 3] rfl)
              · skip
                refine lv_iload_n hx hb dL_sound_83 rfl (lv_at hl 0 rfl) ?_
                refine lv_if_ge (tgt := 89) hx hb dL_sound_84 (by decide) (fun c_84 => ?_) (fun c_84 => ?_)
                · skip
                  exact J_89  _  (lv_sub hl [0, 1, 2, 3] rfl)
                · skip
                  exact absurd (on_cos hI1 h6 c_80) c_84
            have J_54 : ∀ (ls : Array Slot), lv_has ls 5 [(3, .int (S1 0 j)), (2, .int (S1 1 j)), (1, .int i1), (0, .ref x)] → W pr l env R s mid ([.ref x] : List Value).toArray below meth cod H locs 0 0 Q (F0 mid 54 ls []) := by
              subst hR; subst hQ
              intro ls hl
              refine lv_aload_n hx hb dL_sound_54 rfl (lv_at hl 3 rfl) ?_
              refine lv_iload_n hx hb dL_sound_55 rfl (lv_at hl 2 rfl) ?_
              have i_56 : vp_in i1 6 := i6
              refine vy_csi (vy_runV (As := [.int i1]) (rest := []) ⟨hx, hb, hml, hown, hts⟩ (c_X0_wearerOf l hfl D cI cZ x a u_32 i1) (cwV 1 hts gL_sound_X0_wearerOf rfl rfl rfl (by decide +kernel) ⟨Nat.le_of_ble_eq_true rfl, Nat.le_of_ble_eq_true rfl⟩) (pT_V (pR_V (ci := 0) hP hK rfl rfl) (hG.kept (fun q h1 h2 => hS.2.1 q h1 h2)) (fun q h => hA q (Nat.le_trans hS.1 h))) rfl rfl hl.1 rfl (lv_room (Nat.le_of_ble_eq_true rfl)) dL_sound_56 ⟨Nat.le_of_ble_eq_true rfl, Nat.le_of_ble_eq_true rfl⟩) (fun E ce q9 H1 hPE hz9 hk9 hc9 hv9 hcl9 => (kne i_56 hPE.2).elim) (fun r_56 h_56 => ?_)
              replace h_56 : r_56 = fI (u_32 1) i1 := krd i_56 h_56
              subst h_56
              refine lv_if_lt (tgt := 75) hx hb dL_sound_59 (by decide) (fun c_59 => ?_) (fun c_59 => ?_)
              · skip
                exact J_75  _  (lv_sub hl [0, 1, 2, 3] rfl)
              · skip
                obtain ⟨kk, hkk, ekk, epp⟩ := fI_pos c_59
                have in68 : vp_in (fI (u_32 1) i1) 6 := by rw [ekk]; exact vp_in_nI hkk (by decide)
                refine lv_aload_n hx hb dL_sound_62 rfl (lv_at hl 3 rfl) ?_
                refine lv_aload_n hx hb dL_sound_63 rfl (lv_at hl 3 rfl) ?_
                refine lv_iload_n hx hb dL_sound_64 rfl (lv_at hl 2 rfl) ?_
                have i_65 : vp_in i1 6 := i6
                refine vy_csi (vy_runV (As := [.int i1]) (rest := [.ref x]) ⟨hx, hb, hml, hown, hts⟩ (c_X0_wearerOf l hfl D cI cZ x a u_32 i1) (cwV 1 hts gL_sound_X0_wearerOf rfl rfl rfl (by decide +kernel) ⟨Nat.le_of_ble_eq_true rfl, Nat.le_of_ble_eq_true rfl⟩) (pT_V (pR_V (ci := 0) hP hK rfl rfl) (hG.kept (fun q h1 h2 => hS.2.1 q h1 h2)) (fun q h => hA q (Nat.le_trans hS.1 h))) rfl rfl hl.1 rfl (lv_room (Nat.le_of_ble_eq_true rfl)) dL_sound_65 ⟨Nat.le_of_ble_eq_true rfl, Nat.le_of_ble_eq_true rfl⟩) (fun E ce q9 H1 hPE hz9 hk9 hc9 hv9 hcl9 => (kne i_65 hPE.2).elim) (fun r_65 h_65 => ?_)
                replace h_65 : r_65 = fI (u_32 1) i1 := krd i_65 h_65
                subst h_65
                have i_68 : vp_in (fI (u_32 1) i1) 6 := in68
                refine vy_csi (vy_runV (As := [.int (fI (u_32 1) i1)]) (rest := []) ⟨hx, hb, hml, hown, hts⟩ (c_X0_maskOf l hfl D cI cZ x a u_32 (fI (u_32 1) i1)) (cwV 1 hts gL_sound_X0_maskOf rfl rfl rfl (by decide +kernel) ⟨Nat.le_of_ble_eq_true rfl, Nat.le_of_ble_eq_true rfl⟩) (pT_V (pR_V (ci := 0) hP hK rfl rfl) (hG.kept (fun q h1 h2 => hS.2.1 q h1 h2)) (fun q h => hA q (Nat.le_trans hS.1 h))) rfl rfl hl.1 rfl (lv_room (Nat.le_of_ble_eq_true rfl)) dL_sound_68 ⟨Nat.le_of_ble_eq_true rfl, Nat.le_of_ble_eq_true rfl⟩) (fun E ce q9 H1 hPE hz9 hk9 hc9 hv9 hcl9 => (kne i_68 hPE.2).elim) (fun r_68 h_68 => ?_)
                replace h_68 : r_68 = u_32 1 (fI (u_32 1) i1).toNatClampNeg := krd i_68 h_68
                replace h_68 : r_68 = i1 := h_68.trans (by rw [ekk, nI_clamp (by omega)]; exact epp)
                subst h_68
                refine lv_iload_n hx hb dL_sound_71 rfl (lv_at hl 2 rfl) ?_
                refine lv_icmp_ne (tgt := 87) hx hb dL_sound_72 (by decide) (fun c_72 => ?_) (fun c_72 => ?_)
                · skip
                  exact absurd rfl c_72
                · skip
                  exact J_75  _  (lv_sub hl [0, 1, 2, 3] rfl)
            subst hR; subst hQ
            refine lv_iload_n hx hb dL_sound_35 rfl (lv_at hl 1 rfl) ?_
            refine lv_icmp_ne (tgt := 52) hx hb dL_sound_36 (by decide) (fun c_36 => ?_) (fun c_36 => ?_)
            · skip
              exact absurd (by rw [ej]) c_36
            · skip
              refine lv_iload_n hx hb dL_sound_39 rfl (lv_at hl 1 rfl) ?_
              refine lv_if_lt (tgt := 54) hx hb dL_sound_40 (by decide) (fun c_40 => ?_) (fun c_40 => ?_)
              · skip
                exact J_54  _  (lv_sub hl [0, 1, 2, 3] rfl)
              · skip
                refine lv_aload_n hx hb dL_sound_43 rfl (lv_at hl 3 rfl) ?_
                refine lv_iload_n hx hb dL_sound_44 rfl (lv_at hl 1 rfl) ?_
                have i_45 : vp_in (S1 1 j) 6 := in_of hm c_40
                refine vy_csi (vy_runV (As := [.int (S1 1 j)]) (rest := []) ⟨hx, hb, hml, hown, hts⟩ (c_X0_wearerOf l hfl D cI cZ x a u_32 (S1 1 j)) (cwV 1 hts gL_sound_X0_wearerOf rfl rfl rfl (by decide +kernel) ⟨Nat.le_of_ble_eq_true rfl, Nat.le_of_ble_eq_true rfl⟩) (pT_V (pR_V (ci := 0) hP hK rfl rfl) (hG.kept (fun q h1 h2 => hS.2.1 q h1 h2)) (fun q h => hA q (Nat.le_trans hS.1 h))) rfl rfl hl.1 rfl (lv_room (Nat.le_of_ble_eq_true rfl)) dL_sound_45 ⟨Nat.le_of_ble_eq_true rfl, Nat.le_of_ble_eq_true rfl⟩) (fun E ce q9 H1 hPE hz9 hk9 hc9 hv9 hcl9 => (kne i_45 hPE.2).elim) (fun r_45 h_45 => ?_)
                replace h_45 : r_45 = fI (u_32 1) (S1 1 j) := krd i_45 h_45
                replace h_45 : r_45 = nI j := h_45.trans (by rw [r1_]; exact fI_own hI1.u1 h6 (nn_ne c_40))
                subst h_45
                refine lv_iload_n hx hb dL_sound_48 rfl (lv_at hl 2 rfl) ?_
                refine lv_icmp_eq (tgt := 54) hx hb dL_sound_49 (by decide) (fun c_49 => ?_) (fun c_49 => ?_)
                · skip
                  exact J_54  _  (lv_sub hl [0, 1, 2, 3] rfl)
                · skip
                  exact absurd e1.symm c_49
  exact loop_2 7 0 0 S (Nat.zero_le _) (by omega) nI_0.symm hg (⟨S 16, (row_self S 16).symm⟩) _ _ hP hD hS _ (lv_sub hl [0, 1] rfl)
