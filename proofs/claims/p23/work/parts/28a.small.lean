theorem tw16 {S S1 u : ST} {f : Nat → Int32} (e : ∃ g, S1 = row S 16 g) (w : u = row S1 16 f) : ∃ g, u = row S 16 g := by
  obtain ⟨g, rfl⟩ := e
  exact ⟨f, by rw [w, row_twice]⟩
theorem r16 {S u : ST} {f : Nat → Int32} (w : u = row S 16 f) {k : Nat} (hk : k ≠ 16) : u k = S k := by rw [w, row_ne hk]
theorem lt_24 {B : Nat} {S : ST} (hI : Inv B S) (h : ¬ S 10 0 = 24) : S 10 0 < 24 := by
  have hm_ := hI.m24
  have e24 : (24 : Int32).toInt = 24 := rfl
  rw [fa_eq, hI.me, nI_toInt (by omega), e24] at h
  rw [fa_lt, hI.me, nI_toInt (by omega), e24]
  omega
theorem gp_lnk {S u : ST} {f : Nat → Int32} (h : GP S u) (hl_ : Lnk S f) : Lnk u f := by
  rcases h with rfl | ⟨⟨f1, g1, rfl⟩, -⟩
  · exact hl_
  · exact hl_
theorem dbl_nn {j : Nat} (h : j < 60) : ¬ (2 : Int32) * nI j < 0 := by
  rw [show (2 : Int32) = nI 2 from rfl, pk_mul]
  exact nI_nn (by omega)
theorem dbl1_nn {j : Nat} (h : j < 60) : ¬ (2 : Int32) * nI j + 1 < 0 := by
  rw [show (2 : Int32) = nI 2 from rfl, pk_mul, nI_1]
  exact nI_nn (by omega)
abbrev rmL_at : Room := ({ frames := 0, cells := 0, slots := 0, locals := 0 } : Room)
abbrev rmL_cell : Room := ({ frames := 0, cells := 0, slots := 0, locals := 0 } : Room)
abbrev rmL_count : Room := ({ frames := 8, cells := 1, slots := 6, locals := 132 } : Room)
abbrev rmL_chained : Room := ({ frames := 8, cells := 1, slots := 6, locals := 132 } : Room)
abbrev rmL_sound : Room := ({ frames := 8, cells := 1, slots := 6, locals := 132 } : Room)
abbrev rmL_guessed : Room := ({ frames := 8, cells := 1, slots := 6, locals := 135 } : Room)
abbrev rmL_act : Room := ({ frames := 9, cells := 1, slots := 6, locals := 156 } : Room)
set_option maxHeartbeats 4000000 in
set_option maxRecDepth 100000 in
theorem c_L_at (l : Launch) (vx : Int32) (vn : Int32) (d : Nat) (hd0 : 0 < d) (hd1 : d < 2 ^ 31) (hn_ : vn = nI d) : Met l yL_at wsL_at rmL_at (va_Pc [.int vx, .int vn] (pN)) (vp_Si (fun r => vp_in r d)) 0 0 (fun _ => False) := by
  refine Met.ofW (cc := cL_at) (maxL := 2) (ret := (some .int)) (by decide) rfl ?_
  intro pr env s mid args below meth cod s₁ Bd hml hv
  obtain ⟨rfl, -⟩ := hv
  have hx := Bd.exec
  have hb := Bd.bytes
  have hr := Bd.returns
  have hts := atoms_spec (ws := wsL_at) Bd.pre
  have hown : s.vm.findClass RL = some mid.cls := findClass_of_methodNamed Bd.named
  have hlocks := Bd.notSynchronized
  have hl := lv_entry ([.int vx, .int vn]) (n := 2) (Nat.le_of_ble_eq_true rfl)
  rw [lg_entry_eq]
  generalize (lg_sl ([.int vx, .int vn]) ++ List.replicate (2 - (lg_sl ([.int vx, .int vn])).length) Slot.unset).toArray = ls at hl ⊢
  have hl : lv_has ls 2 [(0, .int vx), (1, .int vn)] := hl
  obtain ⟨ha_, hb_, eh_⟩ := i32_half vx
  refine lv_iload_n hx hb dL_at_0 rfl (lv_at hl 0 rfl) ?_
  refine lv_iconst (v := 1) hx hb dL_at_1 (by decide) ?_
  refine lv_iushr (v := nI ha_) hx hb dL_at_2 (eh_) ?_
  refine lv_iload_n hx hb dL_at_3 rfl (lv_at hl 1 rfl) ?_
  refine lv_irem hx hb dL_at_4 (by rw [hn_]; exact nI_ne0 hd0 hd1) ?_
  exact W.iret (v := (nI ha_) - (nI ha_) / vn * vn) hx hb hr (fun t ht hW => ⟨_, rfl, (by rw [hn_, pk_rem (by omega) hd0 hd1]; exact vp_in_nI (Nat.mod_lt _ hd0) hd1), ht⟩) (fun q h => by cases h) dL_at_5
set_option maxHeartbeats 4000000 in
set_option maxRecDepth 100000 in
theorem c_L_cell (l : Launch) (b0 L : Nat) (xs : Nat → Int32) (vk : Int32) (hL : L ≤ 260) (hk : ¬ vk < 0) : Met l yL_cell wsL_cell rmL_cell (va_Pc [.ref b0, .int vk] (pX b0 L xs)) (vp_Si (fun _ => True)) 0 0 (fun _ => False) := by
  refine Met.ofW (cc := cL_cell) (maxL := 2) (ret := (some .int)) (by decide) rfl ?_
  intro pr env s mid args below meth cod s₁ Bd hml hv
  obtain ⟨rfl, hX0⟩ := hv
  have hX : va_X b0 L xs s s.heap := hX0
  have hx := Bd.exec
  have hb := Bd.bytes
  have hr := Bd.returns
  have hts := atoms_spec (ws := wsL_cell) Bd.pre
  have hown : s.vm.findClass RL = some mid.cls := findClass_of_methodNamed Bd.named
  have hbl : b0 < s.heap.size := by
    obtain ⟨scr, h1, -⟩ := hX
    exact (Array.getElem?_eq_some_iff.mp h1).1
  have hS : va_S (fun _ => False) s.heap s.heap [] := va_S.rf
  have hbA : ¬ (fun _ : Nat => False) b0 := fun h => h
  have hl := lv_entry ([.ref b0, .int vk]) (n := 2) (Nat.le_of_ble_eq_true rfl)
  rw [lg_entry_eq]
  generalize (lg_sl ([.ref b0, .int vk]) ++ List.replicate (2 - (lg_sl ([.ref b0, .int vk])).length) Slot.unset).toArray = ls at hl ⊢
  have hl : lv_has ls 2 [(0, .ref b0), (1, .int vk)] := hl
  refine lv_iload_n hx hb dL_cell_0 rfl (lv_at hl 1 rfl) ?_
  refine lv_aload_n hx hb dL_cell_1 rfl (lv_at hl 0 rfl) ?_
  refine va_slen hx hb hX hbl hbA hS dL_cell_2 ?_
  refine lv_icmp_ge (tgt := 12) hx hb dL_cell_3 (by decide) (fun c_3 => ?_) (fun c_3 => ?_)
  · skip
    refine lv_ldc (v := 903460835) hx hb hown (hts (.constant RL 7 (903460835)) (by decide +kernel)) dL_cell_12 ?_
    refine lv_iload_n hx hb dL_cell_14 rfl (lv_at hl 1 rfl) ?_
    refine lv_iconst (v := 1) hx hb dL_cell_15 (by decide) ?_
    refine lv_iadd hx hb dL_cell_16 ?_
    refine lv_imul hx hb dL_cell_17 ?_
    exact W.iret (v := 903460835 * (vk + 1)) hx hb hr (fun t ht hW => ⟨_, rfl, trivial, ht⟩) (fun q h => by cases h) dL_cell_18
  · skip
    have hin : vp_in vk L := by
      have z1 : (Int32.ofNat L).toInt = (L : Int) := nI_toInt (n := L) (by omega)
      rw [fa_le, z1] at c_3
      rw [fa_lt, show (0 : Int32).toInt = 0 from rfl] at hk
      rw [vp_in_iff]
      omega
    refine lv_aload_n hx hb dL_cell_6 rfl (lv_at hl 0 rfl) ?_
    refine lv_iload_n hx hb dL_cell_7 rfl (lv_at hl 1 rfl) ?_
    refine va_sld hx hb hX hbl hbA hS hin dL_cell_8 ?_
    refine lv_goto (tgt := 18) hx hb dL_cell_9 (by decide) ?_
    exact W.iret (v := xs vk.toNatClampNeg) hx hb hr (fun t ht hW => ⟨_, rfl, trivial, ht⟩) (fun q h => by cases h) dL_cell_18
set_option maxHeartbeats 4000000 in
set_option maxRecDepth 100000 in
theorem c_L_count (l : Launch) (hfl : l.stackTraces = false) (D : va_G) (cI cZ : ClassId) (x : Nat) (a : Nat → Nat) (S : ST) (v : Int32) (B : Nat) (hI : Inv B S) : vy_Met l yL_count wsL_count rmL_count (va_Pc [.ref x, .int v] (fun U => (pR D (tyX cI cZ) (wX cI cZ x a S)) U ∧ pG U)) (vp_Si (fun r => r = nI (cN (S 8) v (many S)))) (xcs (fun _ => False)) 1 6 (fun _ => False) := by
  refine vy_ofW (cc := cL_count) (maxL := 4) (ret := (some .int)) (by decide) rfl ?_
  intro pr env s mid args below meth cod s₁ Bd hml hout hv
  obtain ⟨rfl, ⟨hP, hK⟩, hG0⟩ := hv
  have hG : xG (fun q => s.heap.size ≤ q) s s.heap := hG0
  have hx := Bd.exec
  have hb := Bd.bytes
  have hr := Bd.returns
  have hts := atoms_spec (ws := wsL_count) Bd.pre
  have hown : s.vm.findClass RL = some mid.cls := findClass_of_methodNamed Bd.named
  have hlocks := Bd.notSynchronized
  have hl := lv_entry ([.ref x, .int v]) (n := 4) (Nat.le_of_ble_eq_true rfl)
  rw [lg_entry_eq]
  generalize (lg_sl ([.ref x, .int v]) ++ List.replicate (4 - (lg_sl ([.ref x, .int v])).length) Slot.unset).toArray = ls at hl ⊢
  have hl : lv_has ls 4 [(0, .ref x), (1, .int v)] := hl
  have hm := hI.m24
  refine lv_iconst (v := 0) hx hb dL_count_0 (by decide) ?_
  refine lv_istore_n (lv' := [(2, .int 0), (0, .ref x), (1, .int v)]) hx hb dL_count_1 rfl hl (by decide) rfl (fun ls hl => ?_)
  refine lv_iconst (v := 0) hx hb dL_count_2 (by decide) ?_
  refine lv_istore_n (lv' := [(3, .int 0), (2, .int 0), (0, .ref x), (1, .int v)]) hx hb dL_count_3 rfl hl (by decide) rfl (fun ls hl => ?_)
  refine W_gen (fun R Q hR hQ => ?_)
  have loop_4 : ∀ (n : Nat) (j : Nat) (i2 : Int32) (i3 : Int32), (j ≤ many S) → (many S + 1 ≤ j + n) → (i3 = nI j) → (i2 = nI (cN (S 8) v j)) → ∀ ls : Array Slot, lv_has ls 4 [(3, .int i3), (2, .int i2), (0, .ref x), (1, .int v)] → W pr l env R s mid ([.ref x, .int v] : List Value).toArray below meth cod s.heap [] 0 0 Q (F0 mid 4 ls []) := by
    subst hR; subst hQ
    intro n
    induction n with
    | zero =>
      intro j i2 i3 hj hn e3 e2 ls hl
      exfalso; omega
    | succ n ih4 =>
      intro j i2 i3 hj hn e3 e2 ls hl
      refine lv_iload_n hx hb dL_count_4 rfl (lv_at hl 0 rfl) ?_
      refine lv_aload_n hx hb dL_count_5 rfl (lv_at hl 2 rfl) ?_
      refine vp_callSi (W.runV (As := []) (rest := [.int i3]) ⟨hx, hb, hml, hown, hts⟩ (c_X0_cues l D cI cZ x a S) (cwV 0 hts gL_count_X0_cues rfl rfl rfl (by decide +kernel) ⟨Nat.le_of_ble_eq_true rfl, Nat.le_of_ble_eq_true rfl⟩) (pR_V (ci := 0) hP hK rfl rfl) rfl rfl hl.1 rfl (lv_room (Nat.le_of_ble_eq_true rfl)) dL_count_6 ⟨Nat.zero_le _, Nat.zero_le _⟩) (fun r_6 h_6 => ?_)
      subst h_6
      refine lv_icmp_ge (tgt := 35) hx hb dL_count_9 (by decide) (fun c_9 => ?_) (fun c_9 => ?_)
      · skip
        have h6 : many S ≤ j := by rw [e3, hI.me] at c_9; exact (nI_leI (by omega) (by omega)).mp c_9
        refine lv_iload_n hx hb dL_count_35 rfl (lv_at hl 1 rfl) ?_
        exact vy_ret (W.iret (v := i2) hx hb hr (fun t ht hW => ⟨_, rfl, (by rw [e2, show j = many S by omega]), ht⟩) (fun q h => by cases h) dL_count_36)
      · skip
        have h6 : j < many S := by rw [e3, hI.me] at c_9; exact Nat.lt_of_not_le (fun z => c_9 ((nI_leI (by omega) (by omega)).mpr z))
        have ej : i3.toNatClampNeg = j := by rw [e3, nI_clamp (by omega)]
        have iq : vp_in i3 (many S) := by rw [e3]; exact vp_in_nI h6 (by omega)
        refine lv_iload_n hx hb dL_count_12 rfl (lv_at hl 1 rfl) ?_
        refine lv_aload_n hx hb dL_count_13 rfl (lv_at hl 2 rfl) ?_
        refine lv_iload_n hx hb dL_count_14 rfl (lv_at hl 0 rfl) ?_
        have i_15 : vp_in i3 (many S) := iq
        refine vy_csi (vy_runV (As := [.int i3]) (rest := [.int i2]) ⟨hx, hb, hml, hown, hts⟩ (c_X0_stateOf l hfl D cI cZ x a S i3 _ (hI)) (cwV 1 hts gL_count_X0_stateOf rfl rfl rfl (by decide +kernel) ⟨Nat.le_of_ble_eq_true rfl, Nat.le_of_ble_eq_true rfl⟩) (pT_V (pR_V (ci := 0) hP hK rfl rfl) hG (fun _ h => h)) rfl rfl hl.1 rfl (lv_room (Nat.le_of_ble_eq_true rfl)) dL_count_15 ⟨Nat.le_of_ble_eq_true rfl, Nat.le_of_ble_eq_true rfl⟩) (fun E ce q9 H1 hPE hz9 hk9 hc9 hv9 hcl9 => (kne i_15 hPE.2).elim) (fun r_15 h_15 => ?_)
        replace h_15 : r_15 = S 8 i3.toNatClampNeg := krd i_15 h_15
        replace h_15 : r_15 = S 8 j := h_15.trans (by rw [ej])
        subst h_15
        refine lv_iload_n hx hb dL_count_18 rfl (lv_at hl 3 rfl) ?_
        refine lv_icmp_ne (tgt := 26) hx hb dL_count_19 (by decide) (fun c_19 => ?_) (fun c_19 => ?_)
        · skip
          have c9 : ¬ S 8 j = v := c_19
          refine lv_iconst (v := 0) hx hb dL_count_26 (by decide) ?_
          refine lv_iadd hx hb dL_count_27 ?_
          refine lv_istore_n (lv' := [(2, .int (i2 + 0)), (3, .int i3), (0, .ref x), (1, .int v)]) hx hb dL_count_28 rfl hl (by decide) rfl (fun ls hl => ?_)
          refine lv_iinc (v := i3 + 1) (lv' := [(3, .int (i3 + 1)), (2, .int (i2 + 0)), (0, .ref x), (1, .int v)]) hx hb dL_count_29 hl (k := 1) rfl rfl (by decide) rfl (fun ls hl => ?_)
          refine lv_goto (tgt := 4) hx hb dL_count_32 (by decide) ?_
          exact ih4 (j + 1) (i2 + 0) (i3 + 1) (by omega) (by omega) (by rw [e3]; exact nI_1 j) (by rw [e2, cN, cif_f c9]; exact nI_add _ 0) _ (lv_sub hl [0, 1, 2, 3] rfl)
        · skip
          have c9 : S 8 j = v := c_19
          refine lv_iconst (v := 1) hx hb dL_count_22 (by decide) ?_
          refine lv_goto (tgt := 27) hx hb dL_count_23 (by decide) ?_
          refine lv_iadd hx hb dL_count_27 ?_
          refine lv_istore_n (lv' := [(2, .int (i2 + 1)), (3, .int i3), (0, .ref x), (1, .int v)]) hx hb dL_count_28 rfl hl (by decide) rfl (fun ls hl => ?_)
          refine lv_iinc (v := i3 + 1) (lv' := [(3, .int (i3 + 1)), (2, .int (i2 + 1)), (0, .ref x), (1, .int v)]) hx hb dL_count_29 hl (k := 1) rfl rfl (by decide) rfl (fun ls hl => ?_)
          refine lv_goto (tgt := 4) hx hb dL_count_32 (by decide) ?_
          exact ih4 (j + 1) (i2 + 1) (i3 + 1) (by omega) (by omega) (by rw [e3]; exact nI_1 j) (by rw [e2, cN, cif_t c9]; exact nI_1 _) _ (lv_sub hl [0, 1, 2, 3] rfl)
  exact loop_4 (many S + 1) 0 0 0 (Nat.zero_le _) (by omega) nI_0.symm nI_0.symm _ (lv_sub hl [0, 1, 2, 3] rfl)
