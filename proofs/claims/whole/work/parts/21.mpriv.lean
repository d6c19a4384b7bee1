set_option maxHeartbeats 4000000 in
set_option maxRecDepth 100000 in
theorem c_X1_in (l : Launch) (v : Int32) (lo : Int32) (hi : Int32) : Met l yX1_in wsX1_in rmX1_in (va_Pc [.int v, .int lo, .int hi] (pN)) (vp_Si (fun r => r = cif (¬ v < lo ∧ ¬ hi < v) 1 0)) 0 0 (fun _ => False) := by
  refine Met.ofW (cc := cX1_in) (maxL := 3) (ret := (some .boolean)) (by decide) rfl ?_
  intro pr env s mid args below meth cod s₁ Bd hml hv
  obtain ⟨rfl, -⟩ := hv
  have hx := Bd.exec
  have hb := Bd.bytes
  have hr := Bd.returns
  have hts := atoms_spec (ws := wsX1_in) Bd.pre
  have hown : s.vm.findClass RX1 = some mid.cls := findClass_of_methodNamed Bd.named
  have hlocks := Bd.notSynchronized
  have hl := lv_entry ([.int v, .int lo, .int hi]) (n := 3) (Nat.le_of_ble_eq_true rfl)
  rw [lg_entry_eq]
  generalize (lg_sl ([.int v, .int lo, .int hi]) ++ List.replicate (3 - (lg_sl ([.int v, .int lo, .int hi])).length) Slot.unset).toArray = ls at hl ⊢
  have hl : lv_has ls 3 [(0, .int v), (1, .int lo), (2, .int hi)] := hl
  refine lv_iload_n hx hb dX1_in_0 rfl (lv_at hl 0 rfl) ?_
  refine lv_iload_n hx hb dX1_in_1 rfl (lv_at hl 1 rfl) ?_
  refine lv_icmp_lt (tgt := 14) hx hb dX1_in_2 (by decide) (fun c_2 => ?_) (fun c_2 => ?_)
  · skip
    refine lv_iconst (v := 0) hx hb dX1_in_14 (by decide) ?_
    exact W.zret (v := 0) (ty := .boolean) hx hb hr rfl (fun t ht hW => ⟨_, rfl, (cif_f (fun h => h.1 c_2)).symm, ht⟩) (fun q h => by cases h) dX1_in_15
  · skip
    refine lv_iload_n hx hb dX1_in_5 rfl (lv_at hl 0 rfl) ?_
    refine lv_iload_n hx hb dX1_in_6 rfl (lv_at hl 2 rfl) ?_
    refine lv_icmp_gt (tgt := 14) hx hb dX1_in_7 (by decide) (fun c_7 => ?_) (fun c_7 => ?_)
    · skip
      refine lv_iconst (v := 0) hx hb dX1_in_14 (by decide) ?_
      exact W.zret (v := 0) (ty := .boolean) hx hb hr rfl (fun t ht hW => ⟨_, rfl, (cif_f (fun h => h.2 c_7)).symm, ht⟩) (fun q h => by cases h) dX1_in_15
    · skip
      refine lv_iconst (v := 1) hx hb dX1_in_10 (by decide) ?_
      refine lv_goto (tgt := 15) hx hb dX1_in_11 (by decide) ?_
      exact W.zret (v := 1) (ty := .boolean) hx hb hr rfl (fun t ht hW => ⟨_, rfl, (cif_t ⟨c_2, c_7⟩).symm, ht⟩) (fun q h => by cases h) dX1_in_15
set_option maxHeartbeats 4000000 in
set_option maxRecDepth 100000 in
theorem c_X1_isPlayer (l : Launch) (p : Int32) : Met l yX1_isPlayer wsX1_isPlayer rmX1_isPlayer (va_Pc [.int p] (pN)) (vp_Si (fun r => r = cif (vp_in p 6) 1 0)) 0 0 (fun _ => False) := by
  refine Met.ofW (cc := cX1_isPlayer) (maxL := 1) (ret := (some .boolean)) (by decide) rfl ?_
  intro pr env s mid args below meth cod s₁ Bd hml hv
  obtain ⟨rfl, -⟩ := hv
  have hx := Bd.exec
  have hb := Bd.bytes
  have hr := Bd.returns
  have hts := atoms_spec (ws := wsX1_isPlayer) Bd.pre
  have hown : s.vm.findClass RX1 = some mid.cls := findClass_of_methodNamed Bd.named
  have hlocks := Bd.notSynchronized
  have hl := lv_entry ([.int p]) (n := 1) (Nat.le_of_ble_eq_true rfl)
  rw [lg_entry_eq]
  generalize (lg_sl ([.int p]) ++ List.replicate (1 - (lg_sl ([.int p])).length) Slot.unset).toArray = ls at hl ⊢
  have hl : lv_has ls 1 [(0, .int p)] := hl
  refine lv_iload_n hx hb dX1_isPlayer_0 rfl (lv_at hl 0 rfl) ?_
  refine lv_iconst (v := 0) hx hb dX1_isPlayer_1 (by decide) ?_
  refine lv_iconst (v := 5) hx hb dX1_isPlayer_2 (by decide) ?_
  refine vp_callSi (W.runS (As := [.int p, .int 0, .int 5]) (rest := []) ⟨hx, hb, hml, hown, hts⟩ (c_X1_in l p 0 5) (va_cwS 3 hts gX1_isPlayer_X1_in rfl rfl rfl (by decide +kernel) ⟨Nat.le_of_ble_eq_true rfl, Nat.le_of_ble_eq_true rfl⟩) (pN_S) rfl rfl hl.1 rfl (lv_room (Nat.le_of_ble_eq_true rfl)) dX1_isPlayer_3 ⟨Nat.zero_le _, Nat.zero_le _⟩) (fun r_3 h_3 => ?_)
  exact W.zret (v := r_3) (ty := .boolean) hx hb hr (by rw [h_3]; exact cif_nar) (fun t ht hW => ⟨_, rfl, by rw [h_3]; exact cif_iff (inm_iff (by decide)), ht⟩) (fun q h => by cases h) dX1_isPlayer_6
set_option maxHeartbeats 4000000 in
set_option maxRecDepth 100000 in
theorem c_X1_isCostume (l : Launch) (c : Int32) : Met l yX1_isCostume wsX1_isCostume rmX1_isCostume (va_Pc [.int c] (pN)) (vp_Si (fun r => r = cif (vp_in c 8) 1 0)) 0 0 (fun _ => False) := by
  refine Met.ofW (cc := cX1_isCostume) (maxL := 1) (ret := (some .boolean)) (by decide) rfl ?_
  intro pr env s mid args below meth cod s₁ Bd hml hv
  obtain ⟨rfl, -⟩ := hv
  have hx := Bd.exec
  have hb := Bd.bytes
  have hr := Bd.returns
  have hts := atoms_spec (ws := wsX1_isCostume) Bd.pre
  have hown : s.vm.findClass RX1 = some mid.cls := findClass_of_methodNamed Bd.named
  have hlocks := Bd.notSynchronized
  have hl := lv_entry ([.int c]) (n := 1) (Nat.le_of_ble_eq_true rfl)
  rw [lg_entry_eq]
  generalize (lg_sl ([.int c]) ++ List.replicate (1 - (lg_sl ([.int c])).length) Slot.unset).toArray = ls at hl ⊢
  have hl : lv_has ls 1 [(0, .int c)] := hl
  refine lv_iload_n hx hb dX1_isCostume_0 rfl (lv_at hl 0 rfl) ?_
  refine lv_iconst (v := 0) hx hb dX1_isCostume_1 (by decide) ?_
  refine lv_bipush (v := 7) hx hb dX1_isCostume_2 (by decide) ?_
  refine vp_callSi (W.runS (As := [.int c, .int 0, .int 7]) (rest := []) ⟨hx, hb, hml, hown, hts⟩ (c_X1_in l c 0 7) (va_cwS 3 hts gX1_isCostume_X1_in rfl rfl rfl (by decide +kernel) ⟨Nat.le_of_ble_eq_true rfl, Nat.le_of_ble_eq_true rfl⟩) (pN_S) rfl rfl hl.1 rfl (lv_room (Nat.le_of_ble_eq_true rfl)) dX1_isCostume_4 ⟨Nat.zero_le _, Nat.zero_le _⟩) (fun r_4 h_4 => ?_)
  exact W.zret (v := r_4) (ty := .boolean) hx hb hr (by rw [h_4]; exact cif_nar) (fun t ht hW => ⟨_, rfl, by rw [h_4]; exact cif_iff (inm_iff (by decide)), ht⟩) (fun q h => by cases h) dX1_isCostume_7
set_option maxHeartbeats 4000000 in
set_option maxRecDepth 100000 in
theorem c_X1_isCue (l : Launch) (D : va_G) (cI : ClassId) (y : Nat) (b : Nat → Nat) (S : ST) (t : Int32) (q : Int32) (B : Nat) (hI : Inv B S) : Met l yX1_isCue wsX1_isCue rmX1_isCue (va_Pc [.ref y, .int q] (pR D (tyM cI) (wM cI y b S t))) (vp_Si (fun r => r = cif (vp_in q (many S)) 1 0)) 0 0 (fun _ => False) := by
  refine Met.ofW (cc := cX1_isCue) (maxL := 2) (ret := (some .boolean)) (by decide) rfl ?_
  intro pr env s mid args below meth cod s₁ Bd hml hv
  obtain ⟨rfl, hP, hK⟩ := hv
  have hx := Bd.exec
  have hb := Bd.bytes
  have hr := Bd.returns
  have hts := atoms_spec (ws := wsX1_isCue) Bd.pre
  have hown : s.vm.findClass RX1 = some mid.cls := findClass_of_methodNamed Bd.named
  have hlocks := Bd.notSynchronized
  have hin : ∀ w ∈ wsX10, w ∈ wsX1_isCue := fun _ h => List.mem_cons_of_mem _ (List.mem_append_right _ h)
  have hl := lv_entry ([.ref y, .int q]) (n := 2) (Nat.le_of_ble_eq_true rfl)
  rw [lg_entry_eq]
  generalize (lg_sl ([.ref y, .int q]) ++ List.replicate (2 - (lg_sl ([.ref y, .int q])).length) Slot.unset).toArray = ls at hl ⊢
  have hl : lv_has ls 2 [(0, .ref y), (1, .int q)] := hl
  refine lv_iload_n hx hb dX1_isCue_0 rfl (lv_at hl 1 rfl) ?_
  refine lv_iconst (v := 0) hx hb dX1_isCue_1 (by decide) ?_
  refine lv_aload_n hx hb dX1_isCue_2 rfl (lv_at hl 0 rfl) ?_
  have hf60 := hts (.fieldLink RX1 60 "ClockmaskModel" "many" "I") (by decide +kernel)
  refine va_get (D := D) (ci := 1) (v := .int (S 10 0)) (C := RX1) (T := TX1) (N := 18) hx hb hts hin hown hK hP 0 rfl rfl 10 (by decide) hf60 (fun _ h9 => h9) rfl dX1_isCue_3 ?_
  refine lv_iconst (v := 1) hx hb dX1_isCue_6 (by decide) ?_
  refine lv_isub hx hb dX1_isCue_7 ?_
  refine vp_callSi (W.runS (As := [.int q, .int 0, .int ((S 10 0) - 1)]) (rest := []) ⟨hx, hb, hml, hown, hts⟩ (c_X1_in l q 0 ((S 10 0) - 1)) (va_cwS 3 hts gX1_isCue_X1_in rfl rfl rfl (by decide +kernel) ⟨Nat.le_of_ble_eq_true rfl, Nat.le_of_ble_eq_true rfl⟩) (pN_S) rfl rfl hl.1 rfl (lv_room (Nat.le_of_ble_eq_true rfl)) dX1_isCue_8 ⟨Nat.zero_le _, Nat.zero_le _⟩) (fun r_8 h_8 => ?_)
  exact W.zret (v := r_8) (ty := .boolean) hx hb hr (by rw [h_8]; exact cif_nar) (fun t ht hW => ⟨_, rfl, by rw [h_8]; exact cif_iff (isQ_iff hI.me hI.m24), ht⟩) (fun q h => by cases h) dX1_isCue_11
set_option maxHeartbeats 4000000 in
set_option maxRecDepth 100000 in
theorem c_X1_ownerOf (l : Launch) (D : va_G) (cI : ClassId) (y : Nat) (b : Nat → Nat) (S : ST) (t : Int32) (c : Int32) : Met l yX1_ownerOf wsX1_ownerOf rmX1_ownerOf (va_Pc [.ref y, .int c] (pR D (tyM cI) (wM cI y b S t))) (vp_Si (fun r => r = lI (S 0) c 6)) 0 0 (fun _ => False) := by
  refine Met.ofW (cc := cX1_ownerOf) (maxL := 4) (ret := (some .int)) (by decide) rfl ?_
  intro pr env s mid args below meth cod s₁ Bd hml hv
  obtain ⟨rfl, hP, hK⟩ := hv
  have hx := Bd.exec
  have hb := Bd.bytes
  have hr := Bd.returns
  have hts := atoms_spec (ws := wsX1_ownerOf) Bd.pre
  have hown : s.vm.findClass RX1 = some mid.cls := findClass_of_methodNamed Bd.named
  have hlocks := Bd.notSynchronized
  have hin : ∀ w ∈ wsX10, w ∈ wsX1_ownerOf := fun _ h => List.mem_cons_of_mem _ (List.mem_append_right _ h)
  have hl := lv_entry ([.ref y, .int c]) (n := 4) (Nat.le_of_ble_eq_true rfl)
  rw [lg_entry_eq]
  generalize (lg_sl ([.ref y, .int c]) ++ List.replicate (4 - (lg_sl ([.ref y, .int c])).length) Slot.unset).toArray = ls at hl ⊢
  have hl : lv_has ls 4 [(0, .ref y), (1, .int c)] := hl
  refine lv_iconst (v := (-1)) hx hb dX1_ownerOf_0 (by decide) ?_
  refine lv_istore_n (lv' := [(2, .int (-1)), (0, .ref y), (1, .int c)]) hx hb dX1_ownerOf_1 rfl hl (by decide) rfl (fun ls hl => ?_)
  refine lv_iconst (v := 0) hx hb dX1_ownerOf_2 (by decide) ?_
  refine lv_istore_n (lv' := [(3, .int 0), (2, .int (-1)), (0, .ref y), (1, .int c)]) hx hb dX1_ownerOf_3 rfl hl (by decide) rfl (fun ls hl => ?_)
  refine W_gen (fun R Q hR hQ => ?_)
  have loop_4 : ∀ (n : Nat) (j : Nat) (i2 : Int32) (i3 : Int32), (j ≤ 6) → (7 ≤ j + n) → (i3 = nI j) → (i2 = lI (S 0) c j) → ∀ ls : Array Slot, lv_has ls 4 [(3, .int i3), (2, .int i2), (0, .ref y), (1, .int c)] → W pr l env R s mid ([.ref y, .int c] : List Value).toArray below meth cod s.heap [] 0 0 Q (F0 mid 4 ls []) := by
    subst hR; subst hQ
    intro n
    induction n with
    | zero =>
      intro j i2 i3 hj hn e3 e2 ls hl
      exfalso; omega
    | succ n ih =>
      intro j i2 i3 hj hn e3 e2 ls hl
      refine lv_iload_n hx hb dX1_ownerOf_4 rfl (lv_at hl 0 rfl) ?_
      refine lv_bipush (v := 6) hx hb dX1_ownerOf_5 (by decide) ?_
      refine lv_icmp_ge (tgt := 32) hx hb dX1_ownerOf_7 (by decide) (fun c_7 => ?_) (fun c_7 => ?_)
      · skip
        have h6 : 6 ≤ j := ge_of (N := 6) e3 (by omega) rfl c_7
        refine lv_iload_n hx hb dX1_ownerOf_32 rfl (lv_at hl 1 rfl) ?_
        exact W.iret (v := i2) hx hb hr (fun t ht hW => ⟨_, rfl, by rw [e2, show j = 6 by omega], ht⟩) (fun q h => by cases h) dX1_ownerOf_33
      · skip
        have h6 : j < 6 := lt_of (N := 6) e3 (by omega) rfl c_7
        refine lv_aload_n hx hb dX1_ownerOf_10 rfl (lv_at hl 2 rfl) ?_
        have hf16 := hts (.fieldLink RX1 16 "ClockmaskModel" "costumes" "[I") (by decide +kernel)
        refine va_get (D := D) (ci := 1) (v := .ref (b 0)) (C := RX1) (T := TX1) (N := 18) hx hb hts hin hown hK hP 0 rfl rfl 2 (by decide) hf16 (fun _ h9 => h9) rfl dX1_ownerOf_11 ?_
        refine lv_iload_n hx hb dX1_ownerOf_14 rfl (lv_at hl 0 rfl) ?_
        refine va_iald (f := S 0) (n := 6) hx hb hK hP 3 0 rfl rfl (by rw [e3]; exact vp_in_nI h6 (by decide)) dX1_ownerOf_15 ?_
        refine lv_iload_n hx hb dX1_ownerOf_16 rfl (lv_at hl 3 rfl) ?_
        refine lv_icmp_ne (tgt := 24) hx hb dX1_ownerOf_17 (by decide) (fun c_17 => ?_) (fun c_17 => ?_)
        · skip
          have c9 : ¬ S 0 j = c := by rwa [e3, nI_clamp (by omega)] at c_17
          refine lv_iload_n hx hb dX1_ownerOf_24 rfl (lv_at hl 1 rfl) ?_
          refine lv_istore_n (lv' := [(2, .int i2), (3, .int i3), (0, .ref y), (1, .int c)]) hx hb dX1_ownerOf_25 rfl hl (by decide) rfl (fun ls hl => ?_)
          refine lv_iinc (v := i3 + 1) (lv' := [(3, .int (i3 + 1)), (2, .int i2), (0, .ref y), (1, .int c)]) hx hb dX1_ownerOf_26 hl (k := 1) rfl rfl (by decide) rfl (fun ls hl => ?_)
          refine lv_goto (tgt := 4) hx hb dX1_ownerOf_29 (by decide) ?_
          exact ih (j + 1) i2 (i3 + 1) (by omega) (by omega) (by rw [e3]; exact nI_1 j) (by rw [e2, lI, cif_f c9]) _ (lv_sub hl [0, 1, 2, 3] rfl)
        · skip
          have c9 : S 0 j = c := by rwa [e3, nI_clamp (by omega)] at c_17
          refine lv_iload_n hx hb dX1_ownerOf_20 rfl (lv_at hl 0 rfl) ?_
          refine lv_goto (tgt := 25) hx hb dX1_ownerOf_21 (by decide) ?_
          refine lv_istore_n (lv' := [(2, .int i3), (3, .int i3), (0, .ref y), (1, .int c)]) hx hb dX1_ownerOf_25 rfl hl (by decide) rfl (fun ls hl => ?_)
          refine lv_iinc (v := i3 + 1) (lv' := [(3, .int (i3 + 1)), (2, .int i3), (0, .ref y), (1, .int c)]) hx hb dX1_ownerOf_26 hl (k := 1) rfl rfl (by decide) rfl (fun ls hl => ?_)
          refine lv_goto (tgt := 4) hx hb dX1_ownerOf_29 (by decide) ?_
          exact ih (j + 1) i3 (i3 + 1) (by omega) (by omega) (by rw [e3]; exact nI_1 j) (by rw [e3, lI, cif_t c9]) _ (lv_sub hl [0, 1, 2, 3] rfl)
  exact loop_4 7 0 (-1) 0 (Nat.zero_le _) (by omega) nI_0.symm rfl _ (lv_sub hl [0, 1, 2, 3] rfl)
set_option maxHeartbeats 4000000 in
set_option maxRecDepth 100000 in
theorem c_X1_wearer (l : Launch) (D : va_G) (cI : ClassId) (y : Nat) (b : Nat → Nat) (S : ST) (t : Int32) (m : Int32) : Met l yX1_wearer wsX1_wearer rmX1_wearer (va_Pc [.ref y, .int m] (pR D (tyM cI) (wM cI y b S t))) (vp_Si (fun r => r = lI (S 1) m 6)) 0 0 (fun _ => False) := by
  refine Met.ofW (cc := cX1_wearer) (maxL := 4) (ret := (some .int)) (by decide) rfl ?_
  intro pr env s mid args below meth cod s₁ Bd hml hv
  obtain ⟨rfl, hP, hK⟩ := hv
  have hx := Bd.exec
  have hb := Bd.bytes
  have hr := Bd.returns
  have hts := atoms_spec (ws := wsX1_wearer) Bd.pre
  have hown : s.vm.findClass RX1 = some mid.cls := findClass_of_methodNamed Bd.named
  have hlocks := Bd.notSynchronized
  have hin : ∀ w ∈ wsX10, w ∈ wsX1_wearer := fun _ h => List.mem_cons_of_mem _ (List.mem_append_right _ h)
  have hl := lv_entry ([.ref y, .int m]) (n := 4) (Nat.le_of_ble_eq_true rfl)
  rw [lg_entry_eq]
  generalize (lg_sl ([.ref y, .int m]) ++ List.replicate (4 - (lg_sl ([.ref y, .int m])).length) Slot.unset).toArray = ls at hl ⊢
  have hl : lv_has ls 4 [(0, .ref y), (1, .int m)] := hl
  refine lv_iconst (v := (-1)) hx hb dX1_wearer_0 (by decide) ?_
  refine lv_istore_n (lv' := [(2, .int (-1)), (0, .ref y), (1, .int m)]) hx hb dX1_wearer_1 rfl hl (by decide) rfl (fun ls hl => ?_)
  refine lv_iconst (v := 0) hx hb dX1_wearer_2 (by decide) ?_
  refine lv_istore_n (lv' := [(3, .int 0), (2, .int (-1)), (0, .ref y), (1, .int m)]) hx hb dX1_wearer_3 rfl hl (by decide) rfl (fun ls hl => ?_)
  refine W_gen (fun R Q hR hQ => ?_)
  have loop_4 : ∀ (n : Nat) (j : Nat) (i2 : Int32) (i3 : Int32), (j ≤ 6) → (7 ≤ j + n) → (i3 = nI j) → (i2 = lI (S 1) m j) → ∀ ls : Array Slot, lv_has ls 4 [(3, .int i3), (2, .int i2), (0, .ref y), (1, .int m)] → W pr l env R s mid ([.ref y, .int m] : List Value).toArray below meth cod s.heap [] 0 0 Q (F0 mid 4 ls []) := by
    subst hR; subst hQ
    intro n
    induction n with
    | zero =>
      intro j i2 i3 hj hn e3 e2 ls hl
      exfalso; omega
    | succ n ih =>
      intro j i2 i3 hj hn e3 e2 ls hl
      refine lv_iload_n hx hb dX1_wearer_4 rfl (lv_at hl 0 rfl) ?_
      refine lv_bipush (v := 6) hx hb dX1_wearer_5 (by decide) ?_
      refine lv_icmp_ge (tgt := 32) hx hb dX1_wearer_7 (by decide) (fun c_7 => ?_) (fun c_7 => ?_)
      · skip
        have h6 : 6 ≤ j := ge_of (N := 6) e3 (by omega) rfl c_7
        refine lv_iload_n hx hb dX1_wearer_32 rfl (lv_at hl 1 rfl) ?_
        exact W.iret (v := i2) hx hb hr (fun t ht hW => ⟨_, rfl, by rw [e2, show j = 6 by omega], ht⟩) (fun q h => by cases h) dX1_wearer_33
      · skip
        have h6 : j < 6 := lt_of (N := 6) e3 (by omega) rfl c_7
        refine lv_aload_n hx hb dX1_wearer_10 rfl (lv_at hl 2 rfl) ?_
        have hf7 := hts (.fieldLink RX1 7 "ClockmaskModel" "masks" "[I") (by decide +kernel)
        refine va_get (D := D) (ci := 1) (v := .ref (b 1)) (C := RX1) (T := TX1) (N := 18) hx hb hts hin hown hK hP 0 rfl rfl 0 (by decide) hf7 (fun _ h9 => h9) rfl dX1_wearer_11 ?_
        refine lv_iload_n hx hb dX1_wearer_14 rfl (lv_at hl 0 rfl) ?_
        refine va_iald (f := S 1) (n := 6) hx hb hK hP 1 0 rfl rfl (by rw [e3]; exact vp_in_nI h6 (by decide)) dX1_wearer_15 ?_
        refine lv_iload_n hx hb dX1_wearer_16 rfl (lv_at hl 3 rfl) ?_
        refine lv_icmp_ne (tgt := 24) hx hb dX1_wearer_17 (by decide) (fun c_17 => ?_) (fun c_17 => ?_)
        · skip
          have c9 : ¬ S 1 j = m := by rwa [e3, nI_clamp (by omega)] at c_17
          refine lv_iload_n hx hb dX1_wearer_24 rfl (lv_at hl 1 rfl) ?_
          refine lv_istore_n (lv' := [(2, .int i2), (3, .int i3), (0, .ref y), (1, .int m)]) hx hb dX1_wearer_25 rfl hl (by decide) rfl (fun ls hl => ?_)
          refine lv_iinc (v := i3 + 1) (lv' := [(3, .int (i3 + 1)), (2, .int i2), (0, .ref y), (1, .int m)]) hx hb dX1_wearer_26 hl (k := 1) rfl rfl (by decide) rfl (fun ls hl => ?_)
          refine lv_goto (tgt := 4) hx hb dX1_wearer_29 (by decide) ?_
          exact ih (j + 1) i2 (i3 + 1) (by omega) (by omega) (by rw [e3]; exact nI_1 j) (by rw [e2, lI, cif_f c9]) _ (lv_sub hl [0, 1, 2, 3] rfl)
        · skip
          have c9 : S 1 j = m := by rwa [e3, nI_clamp (by omega)] at c_17
          refine lv_iload_n hx hb dX1_wearer_20 rfl (lv_at hl 0 rfl) ?_
          refine lv_goto (tgt := 25) hx hb dX1_wearer_21 (by decide) ?_
          refine lv_istore_n (lv' := [(2, .int i3), (3, .int i3), (0, .ref y), (1, .int m)]) hx hb dX1_wearer_25 rfl hl (by decide) rfl (fun ls hl => ?_)
          refine lv_iinc (v := i3 + 1) (lv' := [(3, .int (i3 + 1)), (2, .int i3), (0, .ref y), (1, .int m)]) hx hb dX1_wearer_26 hl (k := 1) rfl rfl (by decide) rfl (fun ls hl => ?_)
          refine lv_goto (tgt := 4) hx hb dX1_wearer_29 (by decide) ?_
          exact ih (j + 1) i3 (i3 + 1) (by omega) (by omega) (by rw [e3]; exact nI_1 j) (by rw [e3, lI, cif_t c9]) _ (lv_sub hl [0, 1, 2, 3] rfl)
  exact loop_4 7 0 (-1) 0 (Nat.zero_le _) (by omega) nI_0.symm rfl _ (lv_sub hl [0, 1, 2, 3] rfl)
set_option maxHeartbeats 4000000 in
set_option maxRecDepth 100000 in
theorem c_X1_canBeDone (l : Launch) (D : va_G) (cI : ClassId) (y : Nat) (b : Nat → Nat) (S : ST) (t : Int32) (q : Int32) (hq : vp_in q 24) (hc : cueOK S q.toNatClampNeg) (hm : mOK S q.toNatClampNeg) : Met l yX1_canBeDone wsX1_canBeDone rmX1_canBeDone (va_Pc [.ref y, .int q] (pR D (tyM cI) (wM cI y b S t))) (vp_Si (fun r => r = cif (done S q.toNatClampNeg) 1 0)) 0 0 (fun _ => False) := by
  refine Met.ofW (cc := cX1_canBeDone) (maxL := 4) (ret := (some .boolean)) (by decide) rfl ?_
  intro pr env s mid args below meth cod s₁ Bd hml hv
  obtain ⟨rfl, hP, hK⟩ := hv
  have hx := Bd.exec
  have hb := Bd.bytes
  have hr := Bd.returns
  have hts := atoms_spec (ws := wsX1_canBeDone) Bd.pre
  have hown : s.vm.findClass RX1 = some mid.cls := findClass_of_methodNamed Bd.named
  have hlocks := Bd.notSynchronized
  have hin : ∀ w ∈ wsX10, w ∈ wsX1_canBeDone := fun _ h => List.mem_cons_of_mem _ (List.mem_append_right _ h)
  have hl := lv_entry ([.ref y, .int q]) (n := 4) (Nat.le_of_ble_eq_true rfl)
  rw [lg_entry_eq]
  generalize (lg_sl ([.ref y, .int q]) ++ List.replicate (4 - (lg_sl ([.ref y, .int q])).length) Slot.unset).toArray = ls at hl ⊢
  have hl : lv_has ls 4 [(0, .ref y), (1, .int q)] := hl
  obtain ⟨hk, hp, ho, hw, hs⟩ := hc
  obtain ⟨hm2, hm4⟩ := hm
  refine lv_aload_n hx hb dX1_canBeDone_0 rfl (lv_at hl 0 rfl) ?_
  have hf25 := hts (.fieldLink RX1 25 "ClockmaskModel" "players" "[I") (by decide +kernel)
  refine va_get (D := D) (ci := 1) (v := .ref (b 5)) (C := RX1) (T := TX1) (N := 18) hx hb hts hin hown hK hP 0 rfl rfl 5 (by decide) hf25 (fun _ h9 => h9) rfl dX1_canBeDone_1 ?_
  refine lv_iload_n hx hb dX1_canBeDone_4 rfl (lv_at hl 1 rfl) ?_
  refine va_iald (f := S 5) (n := 24) hx hb hK hP 6 0 rfl rfl (by assumption) dX1_canBeDone_5 ?_
  refine lv_istore_n (lv' := [(2, .int (S 5 q.toNatClampNeg)), (0, .ref y), (1, .int q)]) hx hb dX1_canBeDone_6 rfl hl (by decide) rfl (fun ls hl => ?_)
  refine lv_aload_n hx hb dX1_canBeDone_7 rfl (lv_at hl 1 rfl) ?_
  have hf28 := hts (.fieldLink RX1 28 "ClockmaskModel" "others" "[I") (by decide +kernel)
  refine va_get (D := D) (ci := 1) (v := .ref (b 6)) (C := RX1) (T := TX1) (N := 18) hx hb hts hin hown hK hP 0 rfl rfl 6 (by decide) hf28 (fun _ h9 => h9) rfl dX1_canBeDone_8 ?_
  refine lv_iload_n hx hb dX1_canBeDone_11 rfl (lv_at hl 2 rfl) ?_
  refine va_iald (f := S 6) (n := 24) hx hb hK hP 7 0 rfl rfl (by assumption) dX1_canBeDone_12 ?_
  refine lv_istore_n (lv' := [(3, .int (S 6 q.toNatClampNeg)), (2, .int (S 5 q.toNatClampNeg)), (0, .ref y), (1, .int q)]) hx hb dX1_canBeDone_13 rfl hl (by decide) rfl (fun ls hl => ?_)
  refine lv_aload_n hx hb dX1_canBeDone_14 rfl (lv_at hl 2 rfl) ?_
  have hf22 := hts (.fieldLink RX1 22 "ClockmaskModel" "kinds" "[I") (by decide +kernel)
  refine va_get (D := D) (ci := 1) (v := .ref (b 4)) (C := RX1) (T := TX1) (N := 18) hx hb hts hin hown hK hP 0 rfl rfl 4 (by decide) hf22 (fun _ h9 => h9) rfl dX1_canBeDone_15 ?_
  refine lv_iload_n hx hb dX1_canBeDone_18 rfl (lv_at hl 3 rfl) ?_
  refine va_iald (f := S 4) (n := 24) hx hb hK hP 5 0 rfl rfl (by assumption) dX1_canBeDone_19 ?_
  refine lv_if_ne (tgt := 48) hx hb dX1_canBeDone_20 (by decide) (fun c_20 => ?_) (fun c_20 => ?_)
  · skip
    refine lv_aload_n hx hb dX1_canBeDone_48 rfl (lv_at hl 2 rfl) ?_
    refine va_get (D := D) (ci := 1) (v := .ref (b 4)) (C := RX1) (T := TX1) (N := 18) hx hb hts hin hown hK hP 0 rfl rfl 4 (by decide) hf22 (fun _ h9 => h9) rfl dX1_canBeDone_49 ?_
    refine lv_iload_n hx hb dX1_canBeDone_52 rfl (lv_at hl 3 rfl) ?_
    refine va_iald (f := S 4) (n := 24) hx hb hK hP 5 0 rfl rfl (by assumption) dX1_canBeDone_53 ?_
    refine lv_iconst (v := 1) hx hb dX1_canBeDone_54 (by decide) ?_
    refine lv_icmp_ne (tgt := 74) hx hb dX1_canBeDone_55 (by decide) (fun c_55 => ?_) (fun c_55 => ?_)
    · skip
      refine lv_aload_n hx hb dX1_canBeDone_74 rfl (lv_at hl 2 rfl) ?_
      refine va_get (D := D) (ci := 1) (v := .ref (b 4)) (C := RX1) (T := TX1) (N := 18) hx hb hts hin hown hK hP 0 rfl rfl 4 (by decide) hf22 (fun _ h9 => h9) rfl dX1_canBeDone_75 ?_
      refine lv_iload_n hx hb dX1_canBeDone_78 rfl (lv_at hl 3 rfl) ?_
      refine va_iald (f := S 4) (n := 24) hx hb hK hP 5 0 rfl rfl (by assumption) dX1_canBeDone_79 ?_
      refine lv_iconst (v := 2) hx hb dX1_canBeDone_80 (by decide) ?_
      refine lv_icmp_ne (tgt := 109) hx hb dX1_canBeDone_81 (by decide) (fun c_81 => ?_) (fun c_81 => ?_)
      · skip
        refine lv_aload_n hx hb dX1_canBeDone_109 rfl (lv_at hl 2 rfl) ?_
        refine va_get (D := D) (ci := 1) (v := .ref (b 4)) (C := RX1) (T := TX1) (N := 18) hx hb hts hin hown hK hP 0 rfl rfl 4 (by decide) hf22 (fun _ h9 => h9) rfl dX1_canBeDone_110 ?_
        refine lv_iload_n hx hb dX1_canBeDone_113 rfl (lv_at hl 3 rfl) ?_
        refine va_iald (f := S 4) (n := 24) hx hb hK hP 5 0 rfl rfl (by assumption) dX1_canBeDone_114 ?_
        refine lv_iconst (v := 3) hx hb dX1_canBeDone_115 (by decide) ?_
        refine lv_icmp_ne (tgt := 135) hx hb dX1_canBeDone_116 (by decide) (fun c_116 => ?_) (fun c_116 => ?_)
        · skip
          have k4 := kind4 hk c_20 c_55 c_81 c_116
          refine lv_aload_n hx hb dX1_canBeDone_135 rfl (lv_at hl 2 rfl) ?_
          have hf13 := hts (.fieldLink RX1 13 "ClockmaskModel" "stage" "[I") (by decide +kernel)
          refine va_get (D := D) (ci := 1) (v := .ref (b 2)) (C := RX1) (T := TX1) (N := 18) hx hb hts hin hown hK hP 0 rfl rfl 1 (by decide) hf13 (fun _ h9 => h9) rfl dX1_canBeDone_136 ?_
          refine lv_iload_n hx hb dX1_canBeDone_139 rfl (lv_at hl 1 rfl) ?_
          refine va_iald (f := S 2) (n := 6) hx hb hK hP 2 0 rfl rfl hp dX1_canBeDone_140 ?_
          refine lv_iconst (v := 1) hx hb dX1_canBeDone_141 (by decide) ?_
          refine lv_icmp_ne (tgt := 179) hx hb dX1_canBeDone_142 (by decide) (fun c_142 => ?_) (fun c_142 => ?_)
          · skip
            refine lv_iconst (v := 0) hx hb dX1_canBeDone_179 (by decide) ?_
            exact W.zret (v := 0) (ty := .boolean) hx hb hr rfl (fun t ht hW => ⟨_, rfl, by rw [done4 c_20 c_55 c_81 c_116]; exact (cif_f (fun h => hs.elim h.1 c_142)).symm, ht⟩) (fun q h => by cases h) dX1_canBeDone_180
          · skip
            refine lv_aload_n hx hb dX1_canBeDone_145 rfl (lv_at hl 2 rfl) ?_
            refine va_get (D := D) (ci := 1) (v := .ref (b 2)) (C := RX1) (T := TX1) (N := 18) hx hb hts hin hown hK hP 0 rfl rfl 1 (by decide) hf13 (fun _ h9 => h9) rfl dX1_canBeDone_146 ?_
            refine lv_iload_n hx hb dX1_canBeDone_149 rfl (lv_at hl 0 rfl) ?_
            refine va_iald (f := S 2) (n := 6) hx hb hK hP 2 0 rfl rfl ((hm4 k4).1) dX1_canBeDone_150 ?_
            refine lv_iconst (v := 1) hx hb dX1_canBeDone_151 (by decide) ?_
            refine lv_icmp_ne (tgt := 179) hx hb dX1_canBeDone_152 (by decide) (fun c_152 => ?_) (fun c_152 => ?_)
            · skip
              refine lv_iconst (v := 0) hx hb dX1_canBeDone_179 (by decide) ?_
              exact W.zret (v := 0) (ty := .boolean) hx hb hr rfl (fun t ht hW => ⟨_, rfl, by rw [done4 c_20 c_55 c_81 c_116]; exact (cif_f (fun h => (hm4 k4).2.elim h.2.1 c_152)).symm, ht⟩) (fun q h => by cases h) dX1_canBeDone_180
            · skip
              refine lv_aload_n hx hb dX1_canBeDone_155 rfl (lv_at hl 2 rfl) ?_
              have hf7 := hts (.fieldLink RX1 7 "ClockmaskModel" "masks" "[I") (by decide +kernel)
              refine va_get (D := D) (ci := 1) (v := .ref (b 1)) (C := RX1) (T := TX1) (N := 18) hx hb hts hin hown hK hP 0 rfl rfl 0 (by decide) hf7 (fun _ h9 => h9) rfl dX1_canBeDone_156 ?_
              refine lv_iload_n hx hb dX1_canBeDone_159 rfl (lv_at hl 1 rfl) ?_
              refine va_iald (f := S 1) (n := 6) hx hb hK hP 1 0 rfl rfl hp dX1_canBeDone_160 ?_
              refine lv_iconst (v := (-1)) hx hb dX1_canBeDone_161 (by decide) ?_
              refine lv_icmp_ne (tgt := 175) hx hb dX1_canBeDone_162 (by decide) (fun c_162 => ?_) (fun c_162 => ?_)
              · skip
                refine lv_iconst (v := 1) hx hb dX1_canBeDone_175 (by decide) ?_
                refine lv_goto (tgt := 180) hx hb dX1_canBeDone_176 (by decide) ?_
                exact W.zret (v := 1) (ty := .boolean) hx hb hr rfl (fun t ht hW => ⟨_, rfl, by rw [done4 c_20 c_55 c_81 c_116]; exact (cif_t ⟨by rw [c_142]; decide, by rw [c_152]; decide, Or.inl c_162⟩).symm, ht⟩) (fun q h => by cases h) dX1_canBeDone_180
              · skip
                refine lv_aload_n hx hb dX1_canBeDone_165 rfl (lv_at hl 2 rfl) ?_
                refine va_get (D := D) (ci := 1) (v := .ref (b 1)) (C := RX1) (T := TX1) (N := 18) hx hb hts hin hown hK hP 0 rfl rfl 0 (by decide) hf7 (fun _ h9 => h9) rfl dX1_canBeDone_166 ?_
                refine lv_iload_n hx hb dX1_canBeDone_169 rfl (lv_at hl 0 rfl) ?_
                refine va_iald (f := S 1) (n := 6) hx hb hK hP 1 0 rfl rfl ((hm4 k4).1) dX1_canBeDone_170 ?_
                refine lv_iconst (v := (-1)) hx hb dX1_canBeDone_171 (by decide) ?_
                refine lv_icmp_eq (tgt := 179) hx hb dX1_canBeDone_172 (by decide) (fun c_172 => ?_) (fun c_172 => ?_)
                · skip
                  refine lv_iconst (v := 0) hx hb dX1_canBeDone_179 (by decide) ?_
                  exact W.zret (v := 0) (ty := .boolean) hx hb hr rfl (fun t ht hW => ⟨_, rfl, by rw [done4 c_20 c_55 c_81 c_116]; exact (cif_f (fun h => h.2.2.elim (fun z => z c_162) (fun z => z c_172))).symm, ht⟩) (fun q h => by cases h) dX1_canBeDone_180
                · skip
                  refine lv_iconst (v := 1) hx hb dX1_canBeDone_175 (by decide) ?_
                  refine lv_goto (tgt := 180) hx hb dX1_canBeDone_176 (by decide) ?_
                  exact W.zret (v := 1) (ty := .boolean) hx hb hr rfl (fun t ht hW => ⟨_, rfl, by rw [done4 c_20 c_55 c_81 c_116]; exact (cif_t ⟨by rw [c_142]; decide, by rw [c_152]; decide, Or.inr c_172⟩).symm, ht⟩) (fun q h => by cases h) dX1_canBeDone_180
        · skip
          refine lv_aload_n hx hb dX1_canBeDone_119 rfl (lv_at hl 2 rfl) ?_
          have hf7 := hts (.fieldLink RX1 7 "ClockmaskModel" "masks" "[I") (by decide +kernel)
          refine va_get (D := D) (ci := 1) (v := .ref (b 1)) (C := RX1) (T := TX1) (N := 18) hx hb hts hin hown hK hP 0 rfl rfl 0 (by decide) hf7 (fun _ h9 => h9) rfl dX1_canBeDone_120 ?_
          refine lv_iload_n hx hb dX1_canBeDone_123 rfl (lv_at hl 1 rfl) ?_
          refine va_iald (f := S 1) (n := 6) hx hb hK hP 1 0 rfl rfl hp dX1_canBeDone_124 ?_
          refine lv_iconst (v := (-1)) hx hb dX1_canBeDone_125 (by decide) ?_
          refine lv_icmp_eq (tgt := 133) hx hb dX1_canBeDone_126 (by decide) (fun c_126 => ?_) (fun c_126 => ?_)
          · skip
            refine lv_iconst (v := 0) hx hb dX1_canBeDone_133 (by decide) ?_
            exact W.zret (v := 0) (ty := .boolean) hx hb hr rfl (fun t ht hW => ⟨_, rfl, by rw [done3 c_116]; exact (cif_f (fun h => h c_126)).symm, ht⟩) (fun q h => by cases h) dX1_canBeDone_134
          · skip
            refine lv_iconst (v := 1) hx hb dX1_canBeDone_129 (by decide) ?_
            refine lv_goto (tgt := 134) hx hb dX1_canBeDone_130 (by decide) ?_
            exact W.zret (v := 1) (ty := .boolean) hx hb hr rfl (fun t ht hW => ⟨_, rfl, by rw [done3 c_116]; exact (cif_t c_126).symm, ht⟩) (fun q h => by cases h) dX1_canBeDone_134
      · skip
        refine lv_aload_n hx hb dX1_canBeDone_84 rfl (lv_at hl 2 rfl) ?_
        have hf7 := hts (.fieldLink RX1 7 "ClockmaskModel" "masks" "[I") (by decide +kernel)
        refine va_get (D := D) (ci := 1) (v := .ref (b 1)) (C := RX1) (T := TX1) (N := 18) hx hb hts hin hown hK hP 0 rfl rfl 0 (by decide) hf7 (fun _ h9 => h9) rfl dX1_canBeDone_85 ?_
        refine lv_iload_n hx hb dX1_canBeDone_88 rfl (lv_at hl 1 rfl) ?_
        refine va_iald (f := S 1) (n := 6) hx hb hK hP 1 0 rfl rfl hp dX1_canBeDone_89 ?_
        refine lv_iconst (v := (-1)) hx hb dX1_canBeDone_90 (by decide) ?_
        refine lv_icmp_ne (tgt := 107) hx hb dX1_canBeDone_91 (by decide) (fun c_91 => ?_) (fun c_91 => ?_)
        · skip
          refine lv_iconst (v := 0) hx hb dX1_canBeDone_107 (by decide) ?_
          exact W.zret (v := 0) (ty := .boolean) hx hb hr rfl (fun t ht hW => ⟨_, rfl, by rw [done2 c_81]; exact (cif_f (fun h => c_91 h.1)).symm, ht⟩) (fun q h => by cases h) dX1_canBeDone_108
        · skip
          refine lv_aload_n hx hb dX1_canBeDone_94 rfl (lv_at hl 2 rfl) ?_
          refine lv_iload_n hx hb dX1_canBeDone_95 rfl (lv_at hl 0 rfl) ?_
          refine vp_callSi (W.runV (As := [.int (S 6 q.toNatClampNeg)]) (rest := []) ⟨hx, hb, hml, hown, hts⟩ (c_X1_wearer l D cI y b S t (S 6 q.toNatClampNeg)) (cwV 1 hts gX1_canBeDone_X1_wearer rfl rfl rfl (by decide +kernel) ⟨Nat.le_of_ble_eq_true rfl, Nat.le_of_ble_eq_true rfl⟩) (pR_V (ci := 1) hP hK rfl rfl) rfl rfl hl.1 rfl (lv_room (Nat.le_of_ble_eq_true rfl)) dX1_canBeDone_96 ⟨Nat.zero_le _, Nat.zero_le _⟩) (fun r_96 h_96 => ?_)
          subst h_96
          refine lv_iconst (v := (-1)) hx hb dX1_canBeDone_99 (by decide) ?_
          refine lv_icmp_ne (tgt := 107) hx hb dX1_canBeDone_100 (by decide) (fun c_100 => ?_) (fun c_100 => ?_)
          · skip
            refine lv_iconst (v := 0) hx hb dX1_canBeDone_107 (by decide) ?_
            exact W.zret (v := 0) (ty := .boolean) hx hb hr rfl (fun t ht hW => ⟨_, rfl, by rw [done2 c_81]; exact (cif_f (fun h => c_100 ((hm2 c_81).trans h.2))).symm, ht⟩) (fun q h => by cases h) dX1_canBeDone_108
          · skip
            refine lv_iconst (v := 1) hx hb dX1_canBeDone_103 (by decide) ?_
            refine lv_goto (tgt := 108) hx hb dX1_canBeDone_104 (by decide) ?_
            exact W.zret (v := 1) (ty := .boolean) hx hb hr rfl (fun t ht hW => ⟨_, rfl, by rw [done2 c_81]; exact (cif_t ⟨c_91, (hm2 c_81).symm.trans c_100⟩).symm, ht⟩) (fun q h => by cases h) dX1_canBeDone_108
    · skip
      refine lv_aload_n hx hb dX1_canBeDone_58 rfl (lv_at hl 2 rfl) ?_
      have hf13 := hts (.fieldLink RX1 13 "ClockmaskModel" "stage" "[I") (by decide +kernel)
      refine va_get (D := D) (ci := 1) (v := .ref (b 2)) (C := RX1) (T := TX1) (N := 18) hx hb hts hin hown hK hP 0 rfl rfl 1 (by decide) hf13 (fun _ h9 => h9) rfl dX1_canBeDone_59 ?_
      refine lv_iload_n hx hb dX1_canBeDone_62 rfl (lv_at hl 1 rfl) ?_
      refine va_iald (f := S 2) (n := 6) hx hb hK hP 2 0 rfl rfl hp dX1_canBeDone_63 ?_
      refine lv_iconst (v := 1) hx hb dX1_canBeDone_64 (by decide) ?_
      refine lv_icmp_ne (tgt := 72) hx hb dX1_canBeDone_65 (by decide) (fun c_65 => ?_) (fun c_65 => ?_)
      · skip
        refine lv_iconst (v := 0) hx hb dX1_canBeDone_72 (by decide) ?_
        exact W.zret (v := 0) (ty := .boolean) hx hb hr rfl (fun t ht hW => ⟨_, rfl, by rw [done1 c_55]; exact (cif_f (fun h => hs.elim h c_65)).symm, ht⟩) (fun q h => by cases h) dX1_canBeDone_73
      · skip
        refine lv_iconst (v := 1) hx hb dX1_canBeDone_68 (by decide) ?_
        refine lv_goto (tgt := 73) hx hb dX1_canBeDone_69 (by decide) ?_
        exact W.zret (v := 1) (ty := .boolean) hx hb hr rfl (fun t ht hW => ⟨_, rfl, by rw [done1 c_55]; exact (cif_t (by rw [c_65]; decide)).symm, ht⟩) (fun q h => by cases h) dX1_canBeDone_73
  · skip
    refine lv_aload_n hx hb dX1_canBeDone_23 rfl (lv_at hl 2 rfl) ?_
    have hf13 := hts (.fieldLink RX1 13 "ClockmaskModel" "stage" "[I") (by decide +kernel)
    refine va_get (D := D) (ci := 1) (v := .ref (b 2)) (C := RX1) (T := TX1) (N := 18) hx hb hts hin hown hK hP 0 rfl rfl 1 (by decide) hf13 (fun _ h9 => h9) rfl dX1_canBeDone_24 ?_
    refine lv_iload_n hx hb dX1_canBeDone_27 rfl (lv_at hl 1 rfl) ?_
    refine va_iald (f := S 2) (n := 6) hx hb hK hP 2 0 rfl rfl hp dX1_canBeDone_28 ?_
    refine lv_if_ne (tgt := 46) hx hb dX1_canBeDone_29 (by decide) (fun c_29 => ?_) (fun c_29 => ?_)
    · skip
      refine lv_iconst (v := 0) hx hb dX1_canBeDone_46 (by decide) ?_
      exact W.zret (v := 0) (ty := .boolean) hx hb hr rfl (fun t ht hW => ⟨_, rfl, by rw [done0 c_20]; exact (cif_f (fun h => c_29 h.1)).symm, ht⟩) (fun q h => by cases h) dX1_canBeDone_47
    · skip
      refine lv_aload_n hx hb dX1_canBeDone_32 rfl (lv_at hl 2 rfl) ?_
      have hf16 := hts (.fieldLink RX1 16 "ClockmaskModel" "costumes" "[I") (by decide +kernel)
      refine va_get (D := D) (ci := 1) (v := .ref (b 0)) (C := RX1) (T := TX1) (N := 18) hx hb hts hin hown hK hP 0 rfl rfl 2 (by decide) hf16 (fun _ h9 => h9) rfl dX1_canBeDone_33 ?_
      refine lv_iload_n hx hb dX1_canBeDone_36 rfl (lv_at hl 1 rfl) ?_
      refine va_iald (f := S 0) (n := 6) hx hb hK hP 3 0 rfl rfl hp dX1_canBeDone_37 ?_
      refine lv_iconst (v := (-1)) hx hb dX1_canBeDone_38 (by decide) ?_
      refine lv_icmp_eq (tgt := 46) hx hb dX1_canBeDone_39 (by decide) (fun c_39 => ?_) (fun c_39 => ?_)
      · skip
        refine lv_iconst (v := 0) hx hb dX1_canBeDone_46 (by decide) ?_
        exact W.zret (v := 0) (ty := .boolean) hx hb hr rfl (fun t ht hW => ⟨_, rfl, by rw [done0 c_20]; exact (cif_f (fun h => h.2 c_39)).symm, ht⟩) (fun q h => by cases h) dX1_canBeDone_47
      · skip
        refine lv_iconst (v := 1) hx hb dX1_canBeDone_42 (by decide) ?_
        refine lv_goto (tgt := 47) hx hb dX1_canBeDone_43 (by decide) ?_
        exact W.zret (v := 1) (ty := .boolean) hx hb hr rfl (fun t ht hW => ⟨_, rfl, by rw [done0 c_20]; exact (cif_t ⟨c_29, c_39⟩).symm, ht⟩) (fun q h => by cases h) dX1_canBeDone_47
set_option maxHeartbeats 4000000 in
set_option maxRecDepth 100000 in
theorem c_X1_isReady (l : Launch) (D : va_G) (cI : ClassId) (y : Nat) (b : Nat → Nat) (S : ST) (t : Int32) (q : Int32) (hq : vp_in q 24) (hc : cueOK S q.toNatClampNeg) (hm : mOK S q.toNatClampNeg) : Met l yX1_isReady wsX1_isReady rmX1_isReady (va_Pc [.ref y, .int q] (pR D (tyM cI) (wM cI y b S t))) (vp_Si (fun r => r = cif (cal S q.toNatClampNeg) 1 0)) 0 0 (fun _ => False) := by
  refine Met.ofW (cc := cX1_isReady) (maxL := 3) (ret := (some .boolean)) (by decide) rfl ?_
  intro pr env s mid args below meth cod s₁ Bd hml hv
  obtain ⟨rfl, hP, hK⟩ := hv
  have hx := Bd.exec
  have hb := Bd.bytes
  have hr := Bd.returns
  have hts := atoms_spec (ws := wsX1_isReady) Bd.pre
  have hown : s.vm.findClass RX1 = some mid.cls := findClass_of_methodNamed Bd.named
  have hlocks := Bd.notSynchronized
  have hin : ∀ w ∈ wsX10, w ∈ wsX1_isReady := fun _ h => List.mem_cons_of_mem _ (List.mem_append_right _ h)
  have hl := lv_entry ([.ref y, .int q]) (n := 3) (Nat.le_of_ble_eq_true rfl)
  rw [lg_entry_eq]
  generalize (lg_sl ([.ref y, .int q]) ++ List.replicate (3 - (lg_sl ([.ref y, .int q])).length) Slot.unset).toArray = ls at hl ⊢
  have hl : lv_has ls 3 [(0, .ref y), (1, .int q)] := hl
  refine lv_aload_n hx hb dX1_isReady_0 rfl (lv_at hl 0 rfl) ?_
  have hf31 := hts (.fieldLink RX1 31 "ClockmaskModel" "waitsFor" "[I") (by decide +kernel)
  refine va_get (D := D) (ci := 1) (v := .ref (b 7)) (C := RX1) (T := TX1) (N := 18) hx hb hts hin hown hK hP 0 rfl rfl 7 (by decide) hf31 (fun _ h9 => h9) rfl dX1_isReady_1 ?_
  refine lv_iload_n hx hb dX1_isReady_4 rfl (lv_at hl 1 rfl) ?_
  refine va_iald (f := S 7) (n := 24) hx hb hK hP 8 0 rfl rfl (by assumption) dX1_isReady_5 ?_
  refine lv_iconst (v := (-1)) hx hb dX1_isReady_6 (by decide) ?_
  refine lv_icmp_eq (tgt := 25) hx hb dX1_isReady_7 (by decide) (fun c_7 => ?_) (fun c_7 => ?_)
  · skip
    refine lv_iconst (v := 1) hx hb dX1_isReady_25 (by decide) ?_
    refine lv_goto (tgt := 30) hx hb dX1_isReady_26 (by decide) ?_
    refine lv_istore_n (lv' := [(2, .int 1), (0, .ref y), (1, .int q)]) hx hb dX1_isReady_30 rfl hl (by decide) rfl (fun ls hl => ?_)
    refine lv_aload_n hx hb dX1_isReady_31 rfl (lv_at hl 1 rfl) ?_
    have hf34 := hts (.fieldLink RX1 34 "ClockmaskModel" "states" "[I") (by decide +kernel)
    refine va_get (D := D) (ci := 1) (v := .ref (b 8)) (C := RX1) (T := TX1) (N := 18) hx hb hts hin hown hK hP 0 rfl rfl 8 (by decide) hf34 (fun _ h9 => h9) rfl dX1_isReady_32 ?_
    refine lv_iload_n hx hb dX1_isReady_35 rfl (lv_at hl 2 rfl) ?_
    refine va_iald (f := S 8) (n := 24) hx hb hK hP 9 0 rfl rfl (by assumption) dX1_isReady_36 ?_
    refine lv_if_ne (tgt := 56) hx hb dX1_isReady_37 (by decide) (fun c_37 => ?_) (fun c_37 => ?_)
    · skip
      refine lv_iconst (v := 0) hx hb dX1_isReady_56 (by decide) ?_
      exact W.zret (v := 0) (ty := .boolean) hx hb hr rfl (fun t ht hW => ⟨_, rfl, (cif_f (fun h => c_37 h.1)).symm, ht⟩) (fun q h => by cases h) dX1_isReady_57
    · skip
      refine lv_iload_n hx hb dX1_isReady_40 rfl (lv_at hl 0 rfl) ?_
      refine lv_if_eq (tgt := 56) hx hb dX1_isReady_41 (by decide) (fun c_41 => ?_) (fun c_41 => ?_)
      · skip
        exact absurd c_41 (by decide)
      · skip
        refine lv_aload_n hx hb dX1_isReady_44 rfl (lv_at hl 1 rfl) ?_
        refine lv_iload_n hx hb dX1_isReady_45 rfl (lv_at hl 2 rfl) ?_
        refine vp_callSi (W.runV (As := [.int q]) (rest := []) ⟨hx, hb, hml, hown, hts⟩ (c_X1_canBeDone l D cI y b S t q hq hc hm) (cwV 1 hts gX1_isReady_X1_canBeDone rfl rfl rfl (by decide +kernel) ⟨Nat.le_of_ble_eq_true rfl, Nat.le_of_ble_eq_true rfl⟩) (pR_V (ci := 1) hP hK rfl rfl) rfl rfl hl.1 rfl (lv_room (Nat.le_of_ble_eq_true rfl)) dX1_isReady_46 ⟨Nat.zero_le _, Nat.zero_le _⟩) (fun r_46 h_46 => ?_)
        refine lv_if_eq (tgt := 56) hx hb dX1_isReady_49 (by decide) (fun c_49 => ?_) (fun c_49 => ?_)
        · skip
          have b_46 := cif_b0 h_46 c_49
          refine lv_iconst (v := 0) hx hb dX1_isReady_56 (by decide) ?_
          exact W.zret (v := 0) (ty := .boolean) hx hb hr rfl (fun t ht hW => ⟨_, rfl, (cif_f (fun h => b_46 h.2.2)).symm, ht⟩) (fun q h => by cases h) dX1_isReady_57
        · skip
          have b_46 := cif_b1 h_46 c_49
          refine lv_iconst (v := 1) hx hb dX1_isReady_52 (by decide) ?_
          refine lv_goto (tgt := 57) hx hb dX1_isReady_53 (by decide) ?_
          exact W.zret (v := 1) (ty := .boolean) hx hb hr rfl (fun t ht hW => ⟨_, rfl, (cif_t ⟨c_37, Or.inl c_7, b_46⟩).symm, ht⟩) (fun q h => by cases h) dX1_isReady_57
  · skip
    refine lv_aload_n hx hb dX1_isReady_10 rfl (lv_at hl 0 rfl) ?_
    have hf34 := hts (.fieldLink RX1 34 "ClockmaskModel" "states" "[I") (by decide +kernel)
    refine va_get (D := D) (ci := 1) (v := .ref (b 8)) (C := RX1) (T := TX1) (N := 18) hx hb hts hin hown hK hP 0 rfl rfl 8 (by decide) hf34 (fun _ h9 => h9) rfl dX1_isReady_11 ?_
    refine lv_aload_n hx hb dX1_isReady_14 rfl (lv_at hl 0 rfl) ?_
    refine va_get (D := D) (ci := 1) (v := .ref (b 7)) (C := RX1) (T := TX1) (N := 18) hx hb hts hin hown hK hP 0 rfl rfl 7 (by decide) hf31 (fun _ h9 => h9) rfl dX1_isReady_15 ?_
    refine lv_iload_n hx hb dX1_isReady_18 rfl (lv_at hl 1 rfl) ?_
    refine va_iald (f := S 7) (n := 24) hx hb hK hP 8 0 rfl rfl (by assumption) dX1_isReady_19 ?_
    refine va_iald (f := S 8) (n := 24) hx hb hK hP 9 0 rfl rfl (hc.2.2.2.1.resolve_left c_7) dX1_isReady_20 ?_
    refine lv_iconst (v := 1) hx hb dX1_isReady_21 (by decide) ?_
    refine lv_icmp_ne (tgt := 29) hx hb dX1_isReady_22 (by decide) (fun c_22 => ?_) (fun c_22 => ?_)
    · skip
      refine lv_iconst (v := 0) hx hb dX1_isReady_29 (by decide) ?_
      refine lv_istore_n (lv' := [(2, .int 0), (0, .ref y), (1, .int q)]) hx hb dX1_isReady_30 rfl hl (by decide) rfl (fun ls hl => ?_)
      refine lv_aload_n hx hb dX1_isReady_31 rfl (lv_at hl 1 rfl) ?_
      refine va_get (D := D) (ci := 1) (v := .ref (b 8)) (C := RX1) (T := TX1) (N := 18) hx hb hts hin hown hK hP 0 rfl rfl 8 (by decide) hf34 (fun _ h9 => h9) rfl dX1_isReady_32 ?_
      refine lv_iload_n hx hb dX1_isReady_35 rfl (lv_at hl 2 rfl) ?_
      refine va_iald (f := S 8) (n := 24) hx hb hK hP 9 0 rfl rfl (by assumption) dX1_isReady_36 ?_
      refine lv_if_ne (tgt := 56) hx hb dX1_isReady_37 (by decide) (fun c_37 => ?_) (fun c_37 => ?_)
      · skip
        refine lv_iconst (v := 0) hx hb dX1_isReady_56 (by decide) ?_
        exact W.zret (v := 0) (ty := .boolean) hx hb hr rfl (fun t ht hW => ⟨_, rfl, (cif_f (fun h => c_37 h.1)).symm, ht⟩) (fun q h => by cases h) dX1_isReady_57
      · skip
        refine lv_iload_n hx hb dX1_isReady_40 rfl (lv_at hl 0 rfl) ?_
        refine lv_if_eq (tgt := 56) hx hb dX1_isReady_41 (by decide) (fun c_41 => ?_) (fun c_41 => ?_)
        · skip
          refine lv_iconst (v := 0) hx hb dX1_isReady_56 (by decide) ?_
          exact W.zret (v := 0) (ty := .boolean) hx hb hr rfl (fun t ht hW => ⟨_, rfl, (cif_f (fun h => h.2.1.elim c_7 c_22)).symm, ht⟩) (fun q h => by cases h) dX1_isReady_57
        · skip
          exact absurd c_41 (by decide)
    · skip
      refine lv_iconst (v := 1) hx hb dX1_isReady_25 (by decide) ?_
      refine lv_goto (tgt := 30) hx hb dX1_isReady_26 (by decide) ?_
      refine lv_istore_n (lv' := [(2, .int 1), (0, .ref y), (1, .int q)]) hx hb dX1_isReady_30 rfl hl (by decide) rfl (fun ls hl => ?_)
      refine lv_aload_n hx hb dX1_isReady_31 rfl (lv_at hl 1 rfl) ?_
      refine va_get (D := D) (ci := 1) (v := .ref (b 8)) (C := RX1) (T := TX1) (N := 18) hx hb hts hin hown hK hP 0 rfl rfl 8 (by decide) hf34 (fun _ h9 => h9) rfl dX1_isReady_32 ?_
      refine lv_iload_n hx hb dX1_isReady_35 rfl (lv_at hl 2 rfl) ?_
      refine va_iald (f := S 8) (n := 24) hx hb hK hP 9 0 rfl rfl (by assumption) dX1_isReady_36 ?_
      refine lv_if_ne (tgt := 56) hx hb dX1_isReady_37 (by decide) (fun c_37 => ?_) (fun c_37 => ?_)
      · skip
        refine lv_iconst (v := 0) hx hb dX1_isReady_56 (by decide) ?_
        exact W.zret (v := 0) (ty := .boolean) hx hb hr rfl (fun t ht hW => ⟨_, rfl, (cif_f (fun h => c_37 h.1)).symm, ht⟩) (fun q h => by cases h) dX1_isReady_57
      · skip
        refine lv_iload_n hx hb dX1_isReady_40 rfl (lv_at hl 0 rfl) ?_
        refine lv_if_eq (tgt := 56) hx hb dX1_isReady_41 (by decide) (fun c_41 => ?_) (fun c_41 => ?_)
        · skip
          exact absurd c_41 (by decide)
        · skip
          refine lv_aload_n hx hb dX1_isReady_44 rfl (lv_at hl 1 rfl) ?_
          refine lv_iload_n hx hb dX1_isReady_45 rfl (lv_at hl 2 rfl) ?_
          refine vp_callSi (W.runV (As := [.int q]) (rest := []) ⟨hx, hb, hml, hown, hts⟩ (c_X1_canBeDone l D cI y b S t q hq hc hm) (cwV 1 hts gX1_isReady_X1_canBeDone rfl rfl rfl (by decide +kernel) ⟨Nat.le_of_ble_eq_true rfl, Nat.le_of_ble_eq_true rfl⟩) (pR_V (ci := 1) hP hK rfl rfl) rfl rfl hl.1 rfl (lv_room (Nat.le_of_ble_eq_true rfl)) dX1_isReady_46 ⟨Nat.zero_le _, Nat.zero_le _⟩) (fun r_46 h_46 => ?_)
          refine lv_if_eq (tgt := 56) hx hb dX1_isReady_49 (by decide) (fun c_49 => ?_) (fun c_49 => ?_)
          · skip
            have b_46 := cif_b0 h_46 c_49
            refine lv_iconst (v := 0) hx hb dX1_isReady_56 (by decide) ?_
            exact W.zret (v := 0) (ty := .boolean) hx hb hr rfl (fun t ht hW => ⟨_, rfl, (cif_f (fun h => b_46 h.2.2)).symm, ht⟩) (fun q h => by cases h) dX1_isReady_57
          · skip
            have b_46 := cif_b1 h_46 c_49
            refine lv_iconst (v := 1) hx hb dX1_isReady_52 (by decide) ?_
            refine lv_goto (tgt := 57) hx hb dX1_isReady_53 (by decide) ?_
            exact W.zret (v := 1) (ty := .boolean) hx hb hr rfl (fun t ht hW => ⟨_, rfl, (cif_t ⟨c_37, Or.inr c_22, b_46⟩).symm, ht⟩) (fun q h => by cases h) dX1_isReady_57
set_option maxHeartbeats 4000000 in
set_option maxRecDepth 100000 in
theorem c_X1_thrown (l : Launch) (D : va_G) (cI : ClassId) (y : Nat) (b : Nat → Nat) (S : ST) (t : Int32) : Met l yX1_thrown wsX1_thrown rmX1_thrown (va_Pc [.ref y] (pR D (tyM cI) (wM cI y b S t))) (vp_Si (fun r => r = t)) 0 0 (fun _ => False) := by
  refine Met.ofW (cc := cX1_thrown) (maxL := 1) (ret := (some .int)) (by decide) rfl ?_
  intro pr env s mid args below meth cod s₁ Bd hml hv
  obtain ⟨rfl, hP, hK⟩ := hv
  have hx := Bd.exec
  have hb := Bd.bytes
  have hr := Bd.returns
  have hts := atoms_spec (ws := wsX1_thrown) Bd.pre
  have hown : s.vm.findClass RX1 = some mid.cls := findClass_of_methodNamed Bd.named
  have hlocks := Bd.notSynchronized
  have hin : ∀ w ∈ wsX10, w ∈ wsX1_thrown := fun _ h => List.mem_cons_of_mem _ (List.mem_append_right _ h)
  have hl := lv_entry ([.ref y]) (n := 1) (Nat.le_of_ble_eq_true rfl)
  rw [lg_entry_eq]
  generalize (lg_sl ([.ref y]) ++ List.replicate (1 - (lg_sl ([.ref y])).length) Slot.unset).toArray = ls at hl ⊢
  have hl : lv_has ls 1 [(0, .ref y)] := hl
  refine lv_aload_n hx hb dX1_thrown_0 rfl (lv_at hl 0 rfl) ?_
  have hf53 := hts (.fieldLink RX1 53 "ClockmaskModel" "thrown" "I") (by decide +kernel)
  refine va_get (D := D) (ci := 1) (v := .int t) (C := RX1) (T := TX1) (N := 18) hx hb hts hin hown hK hP 0 rfl rfl 17 (by decide) hf53 (fun _ h9 => h9) rfl dX1_thrown_1 ?_
  exact W.iret (v := t) hx hb hr (fun t ht hW => ⟨_, rfl, rfl, ht⟩) (fun q h => by cases h) dX1_thrown_4
set_option maxHeartbeats 4000000 in
set_option maxRecDepth 100000 in
theorem c_X1_fails (l : Launch) (D : va_G) (cI : ClassId) (y : Nat) (b : Nat → Nat) (S : ST) (t : Int32) (sz : Nat) (k : Int32) : Met l yX1_fails wsX1_fails rmX1_fails (va_Pc [.ref y, .int k] (pW D (tyM cI) (wM cI y b S t) sz)) (va_Qi (fun (r : Int32) (u : ST × Int32) => r = 0 ∧ u = (S, k)) (fun (u : ST × Int32) t => atW D (wM cI y b u.1 u.2) (va_A (wM cI y b S t) sz) t) (va_A (wM cI y b S t) sz)) 0 0 (va_A (wM cI y b S t) sz) := by
  refine Met.ofW (cc := cX1_fails) (maxL := 2) (ret := (some .int)) (by decide) rfl ?_
  intro pr env s mid args below meth cod s₁ Bd hml hv
  obtain ⟨rfl, hsz, hP, hK, hD0⟩ := hv
  have hx := Bd.exec
  have hb := Bd.bytes
  have hr := Bd.returns
  have hts := atoms_spec (ws := wsX1_fails) Bd.pre
  have hown : s.vm.findClass RX1 = some mid.cls := findClass_of_methodNamed Bd.named
  have hlocks := Bd.notSynchronized
  have hin : ∀ w ∈ wsX10, w ∈ wsX1_fails := fun _ h => List.mem_cons_of_mem _ (List.mem_append_right _ h)
  subst hsz
  have hD := hD0.self (sz := s.heap.size)
  generalize hAe : va_A (wM cI y b S t) s.heap.size = A at hD ⊢
  have hA : ∀ q : Nat, s.heap.size ≤ q → A q := fun q h => by rw [← hAe]; exact Or.inr h
  have hS : va_S A s.heap s.heap [] := va_S.rf
  have hP : va_P D vwCl (wM cI y b S t) s.heap := hP
  have hD : va_D A (wM cI y b S t) := hD
  have hl := lv_entry ([.ref y, .int k]) (n := 2) (Nat.le_of_ble_eq_true rfl)
  rw [lg_entry_eq]
  generalize (lg_sl ([.ref y, .int k]) ++ List.replicate (2 - (lg_sl ([.ref y, .int k])).length) Slot.unset).toArray = ls at hl ⊢
  have hl : lv_has ls 2 [(0, .ref y), (1, .int k)] := hl
  refine lv_aload_n hx hb dX1_fails_0 rfl (lv_at hl 0 rfl) ?_
  refine lv_iload_n hx hb dX1_fails_1 rfl (lv_at hl 1 rfl) ?_
  have hf53 := hts (.fieldLink RX1 53 "ClockmaskModel" "thrown" "I") (by decide +kernel)
  refine va_put (D := D) (ci := 1) (v := .int k) (ty := .int) (C := RX1) (T := TX1) (N := 18) hx hb hts hin tyX1 tyX1_ok nmX1 hown hK hP hD hS 0 rfl rfl 17 (by decide) hf53 (fun _ h9 => h9) rfl (by decide +kernel) rfl rfl (Nat.le_of_ble_eq_true rfl) dX1_fails_2 (fun H locs hP hD hS => ?_)
  have hP : va_P D vwCl (wM cI y b S k) H := hP
  have hD : va_D A (wM cI y b S k) := hD
  refine lv_iconst (v := 0) hx hb dX1_fails_5 (by decide) ?_
  exact W.iret (v := 0) hx hb hr (fun t ht hW => ⟨⟨_, (S, k), rfl, ⟨rfl, rfl⟩, by rw [ht]; exact hP, hD⟩, hS.F ht⟩) hS.2.2 dX1_fails_6
set_option maxHeartbeats 4000000 in
set_option maxRecDepth 100000 in
theorem c_X1_change_1 (l : Launch) (D : va_G) (cI : ClassId) (y : Nat) (b : Nat → Nat) (S : ST) (t : Int32) (sz : Nat) (q : Int32) (hq : vp_in q 24) (hp : vp_in (S 5 q.toNatClampNeg) 6) (ho : S 4 q.toNatClampNeg = 2 ∨ S 4 q.toNatClampNeg = 4 → vp_in (S 6 q.toNatClampNeg) 6) : Met l yX1_change wsX1_change rmX1_change (va_Pc [.ref y, .int q, .ref (b 1)] (pW D (tyM cI) (wM cI y b S t) sz)) (va_Qv (fun (u : ST × Int32) => u = (row S 1 (mv S q.toNatClampNeg (S 1)), t)) (fun (u : ST × Int32) t => atW D (wM cI y b u.1 u.2) (va_A (wM cI y b S t) sz) t) (va_A (wM cI y b S t) sz)) 0 0 (va_A (wM cI y b S t) sz) := by
  refine Met.ofW (cc := cX1_change) (maxL := 6) (ret := none) (by decide) rfl ?_
  intro pr env s mid args below meth cod s₁ Bd hml hv
  obtain ⟨rfl, hsz, hP, hK, hD0⟩ := hv
  have hx := Bd.exec
  have hb := Bd.bytes
  have hr := Bd.returns
  have hts := atoms_spec (ws := wsX1_change) Bd.pre
  have hown : s.vm.findClass RX1 = some mid.cls := findClass_of_methodNamed Bd.named
  have hlocks := Bd.notSynchronized
  have hin : ∀ w ∈ wsX10, w ∈ wsX1_change := fun _ h => List.mem_cons_of_mem _ (List.mem_append_right _ h)
  subst hsz
  have hD := hD0.self (sz := s.heap.size)
  generalize hAe : va_A (wM cI y b S t) s.heap.size = A at hD ⊢
  have hA : ∀ q : Nat, s.heap.size ≤ q → A q := fun q h => by rw [← hAe]; exact Or.inr h
  have hS : va_S A s.heap s.heap [] := va_S.rf
  have hP : va_P D vwCl (wM cI y b S t) s.heap := hP
  have hD : va_D A (wM cI y b S t) := hD
  have hl := lv_entry ([.ref y, .int q, .ref (b 1)]) (n := 6) (Nat.le_of_ble_eq_true rfl)
  rw [lg_entry_eq]
  generalize (lg_sl ([.ref y, .int q, .ref (b 1)]) ++ List.replicate (6 - (lg_sl ([.ref y, .int q, .ref (b 1)])).length) Slot.unset).toArray = ls at hl ⊢
  have hl : lv_has ls 6 [(0, .ref y), (1, .int q), (2, .ref (b 1))] := hl
  refine lv_aload_n hx hb dX1_change_0 rfl (lv_at hl 0 rfl) ?_
  have hf25 := hts (.fieldLink RX1 25 "ClockmaskModel" "players" "[I") (by decide +kernel)
  refine va_get (D := D) (ci := 1) (v := .ref (b 5)) (C := RX1) (T := TX1) (N := 18) hx hb hts hin hown hK hP 0 rfl rfl 5 (by decide) hf25 (fun _ h9 => h9) rfl dX1_change_1 ?_
  refine lv_iload_n hx hb dX1_change_4 rfl (lv_at hl 1 rfl) ?_
  refine va_iald (f := S 5) (n := 24) hx hb hK hP 6 0 rfl rfl (by assumption) dX1_change_5 ?_
  refine lv_istore_n (lv' := [(3, .int (S 5 q.toNatClampNeg)), (0, .ref y), (1, .int q), (2, .ref (b 1))]) hx hb dX1_change_6 rfl hl (by decide) rfl (fun ls hl => ?_)
  refine lv_aload_n hx hb dX1_change_7 rfl (lv_at hl 1 rfl) ?_
  have hf28 := hts (.fieldLink RX1 28 "ClockmaskModel" "others" "[I") (by decide +kernel)
  refine va_get (D := D) (ci := 1) (v := .ref (b 6)) (C := RX1) (T := TX1) (N := 18) hx hb hts hin hown hK hP 0 rfl rfl 6 (by decide) hf28 (fun _ h9 => h9) rfl dX1_change_8 ?_
  refine lv_iload_n hx hb dX1_change_11 rfl (lv_at hl 2 rfl) ?_
  refine va_iald (f := S 6) (n := 24) hx hb hK hP 7 0 rfl rfl (by assumption) dX1_change_12 ?_
  refine lv_istore (lv' := [(4, .int (S 6 q.toNatClampNeg)), (3, .int (S 5 q.toNatClampNeg)), (0, .ref y), (1, .int q), (2, .ref (b 1))]) hx hb dX1_change_13 hl (by decide) rfl (fun ls hl => ?_)
  refine lv_aload_n hx hb dX1_change_15 rfl (lv_at hl 2 rfl) ?_
  have hf22 := hts (.fieldLink RX1 22 "ClockmaskModel" "kinds" "[I") (by decide +kernel)
  refine va_get (D := D) (ci := 1) (v := .ref (b 4)) (C := RX1) (T := TX1) (N := 18) hx hb hts hin hown hK hP 0 rfl rfl 4 (by decide) hf22 (fun _ h9 => h9) rfl dX1_change_16 ?_
  refine lv_iload_n hx hb dX1_change_19 rfl (lv_at hl 3 rfl) ?_
  refine va_iald (f := S 4) (n := 24) hx hb hK hP 5 0 rfl rfl (by assumption) dX1_change_20 ?_
  refine lv_iconst (v := 2) hx hb dX1_change_21 (by decide) ?_
  refine lv_icmp_ne (tgt := 30) hx hb dX1_change_22 (by decide) (fun c_22 => ?_) (fun c_22 => ?_)
  · skip
    refine lv_aload_n hx hb dX1_change_30 rfl (lv_at hl 2 rfl) ?_
    refine va_get (D := D) (ci := 1) (v := .ref (b 4)) (C := RX1) (T := TX1) (N := 18) hx hb hts hin hown hK hP 0 rfl rfl 4 (by decide) hf22 (fun _ h9 => h9) rfl dX1_change_31 ?_
    refine lv_iload_n hx hb dX1_change_34 rfl (lv_at hl 3 rfl) ?_
    refine va_iald (f := S 4) (n := 24) hx hb hK hP 5 0 rfl rfl (by assumption) dX1_change_35 ?_
    refine lv_iconst (v := 3) hx hb dX1_change_36 (by decide) ?_
    refine lv_icmp_ne (tgt := 44) hx hb dX1_change_37 (by decide) (fun c_37 => ?_) (fun c_37 => ?_)
    · skip
      refine lv_aload_n hx hb dX1_change_44 rfl (lv_at hl 2 rfl) ?_
      refine va_get (D := D) (ci := 1) (v := .ref (b 4)) (C := RX1) (T := TX1) (N := 18) hx hb hts hin hown hK hP 0 rfl rfl 4 (by decide) hf22 (fun _ h9 => h9) rfl dX1_change_45 ?_
      refine lv_iload_n hx hb dX1_change_48 rfl (lv_at hl 3 rfl) ?_
      refine va_iald (f := S 4) (n := 24) hx hb hK hP 5 0 rfl rfl (by assumption) dX1_change_49 ?_
      refine lv_iconst (v := 4) hx hb dX1_change_50 (by decide) ?_
      refine lv_icmp_ne (tgt := 72) hx hb dX1_change_51 (by decide) (fun c_51 => ?_) (fun c_51 => ?_)
      · skip
        exact W.vret hx hb hr (fun t ht hW => ⟨⟨(S, t), rfl, by rw [row_self' (mvn c_22 c_37 c_51)], by rw [ht]; exact hP, hD⟩, hS.F ht⟩) hS.2.2 dX1_change_72
      · skip
        refine lv_aload_n hx hb dX1_change_54 rfl (lv_at hl 4 rfl) ?_
        refine lv_iload_n hx hb dX1_change_55 rfl (lv_at hl 1 rfl) ?_
        refine va_iald (f := S 1) (n := 6) hx hb hK hP 1 0 rfl rfl hp dX1_change_56 ?_
        refine lv_istore (lv' := [(5, .int (S 1 (S 5 q.toNatClampNeg).toNatClampNeg)), (4, .int (S 6 q.toNatClampNeg)), (3, .int (S 5 q.toNatClampNeg)), (0, .ref y), (1, .int q), (2, .ref (b 1))]) hx hb dX1_change_57 hl (by decide) rfl (fun ls hl => ?_)
        refine lv_aload_n hx hb dX1_change_59 rfl (lv_at hl 5 rfl) ?_
        refine lv_iload_n hx hb dX1_change_60 rfl (lv_at hl 2 rfl) ?_
        refine lv_aload_n hx hb dX1_change_61 rfl (lv_at hl 5 rfl) ?_
        refine lv_iload hx hb dX1_change_62 (lv_at hl 1 rfl) ?_
        refine va_iald (f := S 1) (n := 6) hx hb hK hP 1 0 rfl rfl (ho (Or.inr c_51)) dX1_change_64 ?_
        refine va_iast (f := S 1) (n := 6) hx hb hK hP hD hS 1 0 rfl rfl hp dX1_change_65 (fun H locs hP hD hS => ?_)
        have hP : va_P D vwCl (wMr cI y b (S 0) (upd (S 1) (S 5 q.toNatClampNeg).toNatClampNeg (S 1 (S 6 q.toNatClampNeg).toNatClampNeg)) (S 2) (S 3) (S 4) (S 5) (S 6) (S 7) (S 8) (S 9) (S 10 0) (S 11 0) (S 12) (S 13) (S 14 0) (S 15 0) (S 16) t) H := hP
        have hD : va_D A (wMr cI y b (S 0) (upd (S 1) (S 5 q.toNatClampNeg).toNatClampNeg (S 1 (S 6 q.toNatClampNeg).toNatClampNeg)) (S 2) (S 3) (S 4) (S 5) (S 6) (S 7) (S 8) (S 9) (S 10 0) (S 11 0) (S 12) (S 13) (S 14 0) (S 15 0) (S 16) t) := hD
        refine lv_aload_n hx hb dX1_change_66 rfl (lv_at hl 5 rfl) ?_
        refine lv_iload hx hb dX1_change_67 (lv_at hl 1 rfl) ?_
        refine lv_iload hx hb dX1_change_69 (lv_at hl 0 rfl) ?_
        refine va_iast (f := upd (S 1) (S 5 q.toNatClampNeg).toNatClampNeg (S 1 (S 6 q.toNatClampNeg).toNatClampNeg)) (n := 6) hx hb hK hP hD hS 1 0 rfl rfl (ho (Or.inr c_51)) dX1_change_71 (fun H locs hP hD hS => ?_)
        have hP : va_P D vwCl (wMr cI y b (S 0) (upd (upd (S 1) (S 5 q.toNatClampNeg).toNatClampNeg (S 1 (S 6 q.toNatClampNeg).toNatClampNeg)) (S 6 q.toNatClampNeg).toNatClampNeg (S 1 (S 5 q.toNatClampNeg).toNatClampNeg)) (S 2) (S 3) (S 4) (S 5) (S 6) (S 7) (S 8) (S 9) (S 10 0) (S 11 0) (S 12) (S 13) (S 14 0) (S 15 0) (S 16) t) H := hP
        have hD : va_D A (wMr cI y b (S 0) (upd (upd (S 1) (S 5 q.toNatClampNeg).toNatClampNeg (S 1 (S 6 q.toNatClampNeg).toNatClampNeg)) (S 6 q.toNatClampNeg).toNatClampNeg (S 1 (S 5 q.toNatClampNeg).toNatClampNeg)) (S 2) (S 3) (S 4) (S 5) (S 6) (S 7) (S 8) (S 9) (S 10 0) (S 11 0) (S 12) (S 13) (S 14 0) (S 15 0) (S 16) t) := hD
        exact W.vret hx hb hr (fun t ht hW => ⟨⟨(row S 1 (upd (upd (S 1) (S 5 q.toNatClampNeg).toNatClampNeg (S 1 (S 6 q.toNatClampNeg).toNatClampNeg)) (S 6 q.toNatClampNeg).toNatClampNeg (S 1 (S 5 q.toNatClampNeg).toNatClampNeg)), t), rfl, by rw [mv4 c_51], by rw [ht]; exact hP, hD⟩, hS.F ht⟩) hS.2.2 dX1_change_72
    · skip
      refine lv_aload_n hx hb dX1_change_40 rfl (lv_at hl 4 rfl) ?_
      refine lv_iload_n hx hb dX1_change_41 rfl (lv_at hl 1 rfl) ?_
      refine lv_iconst (v := (-1)) hx hb dX1_change_42 (by decide) ?_
      refine va_iast (f := S 1) (n := 6) hx hb hK hP hD hS 1 0 rfl rfl hp dX1_change_43 (fun H locs hP hD hS => ?_)
      have hP : va_P D vwCl (wMr cI y b (S 0) (upd (S 1) (S 5 q.toNatClampNeg).toNatClampNeg (-1)) (S 2) (S 3) (S 4) (S 5) (S 6) (S 7) (S 8) (S 9) (S 10 0) (S 11 0) (S 12) (S 13) (S 14 0) (S 15 0) (S 16) t) H := hP
      have hD : va_D A (wMr cI y b (S 0) (upd (S 1) (S 5 q.toNatClampNeg).toNatClampNeg (-1)) (S 2) (S 3) (S 4) (S 5) (S 6) (S 7) (S 8) (S 9) (S 10 0) (S 11 0) (S 12) (S 13) (S 14 0) (S 15 0) (S 16) t) := hD
      refine lv_aload_n hx hb dX1_change_44 rfl (lv_at hl 2 rfl) ?_
      refine va_get (D := D) (ci := 1) (v := .ref (b 4)) (C := RX1) (T := TX1) (N := 18) hx hb hts hin hown hK hP 0 rfl rfl 4 (by decide) hf22 (fun _ h9 => h9) rfl dX1_change_45 ?_
      refine lv_iload_n hx hb dX1_change_48 rfl (lv_at hl 3 rfl) ?_
      refine va_iald (f := S 4) (n := 24) hx hb hK hP 5 0 rfl rfl (by assumption) dX1_change_49 ?_
      refine lv_iconst (v := 4) hx hb dX1_change_50 (by decide) ?_
      refine lv_icmp_ne (tgt := 72) hx hb dX1_change_51 (by decide) (fun c_51 => ?_) (fun c_51 => ?_)
      · skip
        exact W.vret hx hb hr (fun t ht hW => ⟨⟨(row S 1 (upd (S 1) (S 5 q.toNatClampNeg).toNatClampNeg (-1)), t), rfl, by rw [mv3 c_37], by rw [ht]; exact hP, hD⟩, hS.F ht⟩) hS.2.2 dX1_change_72
      · skip
        exact absurd (c_37.symm.trans c_51) (by decide)
  · skip
    refine lv_aload_n hx hb dX1_change_25 rfl (lv_at hl 4 rfl) ?_
    refine lv_iload_n hx hb dX1_change_26 rfl (lv_at hl 1 rfl) ?_
    refine lv_iload hx hb dX1_change_27 (lv_at hl 0 rfl) ?_
    refine va_iast (f := S 1) (n := 6) hx hb hK hP hD hS 1 0 rfl rfl hp dX1_change_29 (fun H locs hP hD hS => ?_)
    have hP : va_P D vwCl (wMr cI y b (S 0) (upd (S 1) (S 5 q.toNatClampNeg).toNatClampNeg (S 6 q.toNatClampNeg)) (S 2) (S 3) (S 4) (S 5) (S 6) (S 7) (S 8) (S 9) (S 10 0) (S 11 0) (S 12) (S 13) (S 14 0) (S 15 0) (S 16) t) H := hP
    have hD : va_D A (wMr cI y b (S 0) (upd (S 1) (S 5 q.toNatClampNeg).toNatClampNeg (S 6 q.toNatClampNeg)) (S 2) (S 3) (S 4) (S 5) (S 6) (S 7) (S 8) (S 9) (S 10 0) (S 11 0) (S 12) (S 13) (S 14 0) (S 15 0) (S 16) t) := hD
    refine lv_aload_n hx hb dX1_change_30 rfl (lv_at hl 2 rfl) ?_
    refine va_get (D := D) (ci := 1) (v := .ref (b 4)) (C := RX1) (T := TX1) (N := 18) hx hb hts hin hown hK hP 0 rfl rfl 4 (by decide) hf22 (fun _ h9 => h9) rfl dX1_change_31 ?_
    refine lv_iload_n hx hb dX1_change_34 rfl (lv_at hl 3 rfl) ?_
    refine va_iald (f := S 4) (n := 24) hx hb hK hP 5 0 rfl rfl (by assumption) dX1_change_35 ?_
    refine lv_iconst (v := 3) hx hb dX1_change_36 (by decide) ?_
    refine lv_icmp_ne (tgt := 44) hx hb dX1_change_37 (by decide) (fun c_37 => ?_) (fun c_37 => ?_)
    · skip
      refine lv_aload_n hx hb dX1_change_44 rfl (lv_at hl 2 rfl) ?_
      refine va_get (D := D) (ci := 1) (v := .ref (b 4)) (C := RX1) (T := TX1) (N := 18) hx hb hts hin hown hK hP 0 rfl rfl 4 (by decide) hf22 (fun _ h9 => h9) rfl dX1_change_45 ?_
      refine lv_iload_n hx hb dX1_change_48 rfl (lv_at hl 3 rfl) ?_
      refine va_iald (f := S 4) (n := 24) hx hb hK hP 5 0 rfl rfl (by assumption) dX1_change_49 ?_
      refine lv_iconst (v := 4) hx hb dX1_change_50 (by decide) ?_
      refine lv_icmp_ne (tgt := 72) hx hb dX1_change_51 (by decide) (fun c_51 => ?_) (fun c_51 => ?_)
      · skip
        exact W.vret hx hb hr (fun t ht hW => ⟨⟨(row S 1 (upd (S 1) (S 5 q.toNatClampNeg).toNatClampNeg (S 6 q.toNatClampNeg)), t), rfl, by rw [mv2 c_22], by rw [ht]; exact hP, hD⟩, hS.F ht⟩) hS.2.2 dX1_change_72
      · skip
        exact absurd (c_22.symm.trans c_51) (by decide)
    · skip
      exact absurd (c_22.symm.trans c_37) (by decide)
set_option maxHeartbeats 4000000 in
set_option maxRecDepth 100000 in
theorem c_X1_change_16 (l : Launch) (D : va_G) (cI : ClassId) (y : Nat) (b : Nat → Nat) (S : ST) (t : Int32) (sz : Nat) (q : Int32) (hq : vp_in q 24) (hp : vp_in (S 5 q.toNatClampNeg) 6) (ho : S 4 q.toNatClampNeg = 2 ∨ S 4 q.toNatClampNeg = 4 → vp_in (S 6 q.toNatClampNeg) 6) : Met l yX1_change wsX1_change rmX1_change (va_Pc [.ref y, .int q, .ref (b 16)] (pW D (tyM cI) (wM cI y b S t) sz)) (va_Qv (fun (u : ST × Int32) => u = (row S 16 (mv S q.toNatClampNeg (S 16)), t)) (fun (u : ST × Int32) t => atW D (wM cI y b u.1 u.2) (va_A (wM cI y b S t) sz) t) (va_A (wM cI y b S t) sz)) 0 0 (va_A (wM cI y b S t) sz) := by
  refine Met.ofW (cc := cX1_change) (maxL := 6) (ret := none) (by decide) rfl ?_
  intro pr env s mid args below meth cod s₁ Bd hml hv
  obtain ⟨rfl, hsz, hP, hK, hD0⟩ := hv
  have hx := Bd.exec
  have hb := Bd.bytes
  have hr := Bd.returns
  have hts := atoms_spec (ws := wsX1_change) Bd.pre
  have hown : s.vm.findClass RX1 = some mid.cls := findClass_of_methodNamed Bd.named
  have hlocks := Bd.notSynchronized
  have hin : ∀ w ∈ wsX10, w ∈ wsX1_change := fun _ h => List.mem_cons_of_mem _ (List.mem_append_right _ h)
  subst hsz
  have hD := hD0.self (sz := s.heap.size)
  generalize hAe : va_A (wM cI y b S t) s.heap.size = A at hD ⊢
  have hA : ∀ q : Nat, s.heap.size ≤ q → A q := fun q h => by rw [← hAe]; exact Or.inr h
  have hS : va_S A s.heap s.heap [] := va_S.rf
  have hP : va_P D vwCl (wM cI y b S t) s.heap := hP
  have hD : va_D A (wM cI y b S t) := hD
  have hl := lv_entry ([.ref y, .int q, .ref (b 16)]) (n := 6) (Nat.le_of_ble_eq_true rfl)
  rw [lg_entry_eq]
  generalize (lg_sl ([.ref y, .int q, .ref (b 16)]) ++ List.replicate (6 - (lg_sl ([.ref y, .int q, .ref (b 16)])).length) Slot.unset).toArray = ls at hl ⊢
  have hl : lv_has ls 6 [(0, .ref y), (1, .int q), (2, .ref (b 16))] := hl
  refine lv_aload_n hx hb dX1_change_0 rfl (lv_at hl 0 rfl) ?_
  have hf25 := hts (.fieldLink RX1 25 "ClockmaskModel" "players" "[I") (by decide +kernel)
  refine va_get (D := D) (ci := 1) (v := .ref (b 5)) (C := RX1) (T := TX1) (N := 18) hx hb hts hin hown hK hP 0 rfl rfl 5 (by decide) hf25 (fun _ h9 => h9) rfl dX1_change_1 ?_
  refine lv_iload_n hx hb dX1_change_4 rfl (lv_at hl 1 rfl) ?_
  refine va_iald (f := S 5) (n := 24) hx hb hK hP 6 0 rfl rfl (by assumption) dX1_change_5 ?_
  refine lv_istore_n (lv' := [(3, .int (S 5 q.toNatClampNeg)), (0, .ref y), (1, .int q), (2, .ref (b 16))]) hx hb dX1_change_6 rfl hl (by decide) rfl (fun ls hl => ?_)
  refine lv_aload_n hx hb dX1_change_7 rfl (lv_at hl 1 rfl) ?_
  have hf28 := hts (.fieldLink RX1 28 "ClockmaskModel" "others" "[I") (by decide +kernel)
  refine va_get (D := D) (ci := 1) (v := .ref (b 6)) (C := RX1) (T := TX1) (N := 18) hx hb hts hin hown hK hP 0 rfl rfl 6 (by decide) hf28 (fun _ h9 => h9) rfl dX1_change_8 ?_
  refine lv_iload_n hx hb dX1_change_11 rfl (lv_at hl 2 rfl) ?_
  refine va_iald (f := S 6) (n := 24) hx hb hK hP 7 0 rfl rfl (by assumption) dX1_change_12 ?_
  refine lv_istore (lv' := [(4, .int (S 6 q.toNatClampNeg)), (3, .int (S 5 q.toNatClampNeg)), (0, .ref y), (1, .int q), (2, .ref (b 16))]) hx hb dX1_change_13 hl (by decide) rfl (fun ls hl => ?_)
  refine lv_aload_n hx hb dX1_change_15 rfl (lv_at hl 2 rfl) ?_
  have hf22 := hts (.fieldLink RX1 22 "ClockmaskModel" "kinds" "[I") (by decide +kernel)
  refine va_get (D := D) (ci := 1) (v := .ref (b 4)) (C := RX1) (T := TX1) (N := 18) hx hb hts hin hown hK hP 0 rfl rfl 4 (by decide) hf22 (fun _ h9 => h9) rfl dX1_change_16 ?_
  refine lv_iload_n hx hb dX1_change_19 rfl (lv_at hl 3 rfl) ?_
  refine va_iald (f := S 4) (n := 24) hx hb hK hP 5 0 rfl rfl (by assumption) dX1_change_20 ?_
  refine lv_iconst (v := 2) hx hb dX1_change_21 (by decide) ?_
  refine lv_icmp_ne (tgt := 30) hx hb dX1_change_22 (by decide) (fun c_22 => ?_) (fun c_22 => ?_)
  · skip
    refine lv_aload_n hx hb dX1_change_30 rfl (lv_at hl 2 rfl) ?_
    refine va_get (D := D) (ci := 1) (v := .ref (b 4)) (C := RX1) (T := TX1) (N := 18) hx hb hts hin hown hK hP 0 rfl rfl 4 (by decide) hf22 (fun _ h9 => h9) rfl dX1_change_31 ?_
    refine lv_iload_n hx hb dX1_change_34 rfl (lv_at hl 3 rfl) ?_
    refine va_iald (f := S 4) (n := 24) hx hb hK hP 5 0 rfl rfl (by assumption) dX1_change_35 ?_
    refine lv_iconst (v := 3) hx hb dX1_change_36 (by decide) ?_
    refine lv_icmp_ne (tgt := 44) hx hb dX1_change_37 (by decide) (fun c_37 => ?_) (fun c_37 => ?_)
    · skip
      refine lv_aload_n hx hb dX1_change_44 rfl (lv_at hl 2 rfl) ?_
      refine va_get (D := D) (ci := 1) (v := .ref (b 4)) (C := RX1) (T := TX1) (N := 18) hx hb hts hin hown hK hP 0 rfl rfl 4 (by decide) hf22 (fun _ h9 => h9) rfl dX1_change_45 ?_
      refine lv_iload_n hx hb dX1_change_48 rfl (lv_at hl 3 rfl) ?_
      refine va_iald (f := S 4) (n := 24) hx hb hK hP 5 0 rfl rfl (by assumption) dX1_change_49 ?_
      refine lv_iconst (v := 4) hx hb dX1_change_50 (by decide) ?_
      refine lv_icmp_ne (tgt := 72) hx hb dX1_change_51 (by decide) (fun c_51 => ?_) (fun c_51 => ?_)
      · skip
        exact W.vret hx hb hr (fun t ht hW => ⟨⟨(S, t), rfl, by rw [row_self' (mvn c_22 c_37 c_51)], by rw [ht]; exact hP, hD⟩, hS.F ht⟩) hS.2.2 dX1_change_72
      · skip
        refine lv_aload_n hx hb dX1_change_54 rfl (lv_at hl 4 rfl) ?_
        refine lv_iload_n hx hb dX1_change_55 rfl (lv_at hl 1 rfl) ?_
        refine va_iald (f := S 16) (n := 6) hx hb hK hP 13 0 rfl rfl hp dX1_change_56 ?_
        refine lv_istore (lv' := [(5, .int (S 16 (S 5 q.toNatClampNeg).toNatClampNeg)), (4, .int (S 6 q.toNatClampNeg)), (3, .int (S 5 q.toNatClampNeg)), (0, .ref y), (1, .int q), (2, .ref (b 16))]) hx hb dX1_change_57 hl (by decide) rfl (fun ls hl => ?_)
        refine lv_aload_n hx hb dX1_change_59 rfl (lv_at hl 5 rfl) ?_
        refine lv_iload_n hx hb dX1_change_60 rfl (lv_at hl 2 rfl) ?_
        refine lv_aload_n hx hb dX1_change_61 rfl (lv_at hl 5 rfl) ?_
        refine lv_iload hx hb dX1_change_62 (lv_at hl 1 rfl) ?_
        refine va_iald (f := S 16) (n := 6) hx hb hK hP 13 0 rfl rfl (ho (Or.inr c_51)) dX1_change_64 ?_
        refine va_iast (f := S 16) (n := 6) hx hb hK hP hD hS 13 0 rfl rfl hp dX1_change_65 (fun H locs hP hD hS => ?_)
        have hP : va_P D vwCl (wMr cI y b (S 0) (S 1) (S 2) (S 3) (S 4) (S 5) (S 6) (S 7) (S 8) (S 9) (S 10 0) (S 11 0) (S 12) (S 13) (S 14 0) (S 15 0) (upd (S 16) (S 5 q.toNatClampNeg).toNatClampNeg (S 16 (S 6 q.toNatClampNeg).toNatClampNeg)) t) H := hP
        have hD : va_D A (wMr cI y b (S 0) (S 1) (S 2) (S 3) (S 4) (S 5) (S 6) (S 7) (S 8) (S 9) (S 10 0) (S 11 0) (S 12) (S 13) (S 14 0) (S 15 0) (upd (S 16) (S 5 q.toNatClampNeg).toNatClampNeg (S 16 (S 6 q.toNatClampNeg).toNatClampNeg)) t) := hD
        refine lv_aload_n hx hb dX1_change_66 rfl (lv_at hl 5 rfl) ?_
        refine lv_iload hx hb dX1_change_67 (lv_at hl 1 rfl) ?_
        refine lv_iload hx hb dX1_change_69 (lv_at hl 0 rfl) ?_
        refine va_iast (f := upd (S 16) (S 5 q.toNatClampNeg).toNatClampNeg (S 16 (S 6 q.toNatClampNeg).toNatClampNeg)) (n := 6) hx hb hK hP hD hS 13 0 rfl rfl (ho (Or.inr c_51)) dX1_change_71 (fun H locs hP hD hS => ?_)
        have hP : va_P D vwCl (wMr cI y b (S 0) (S 1) (S 2) (S 3) (S 4) (S 5) (S 6) (S 7) (S 8) (S 9) (S 10 0) (S 11 0) (S 12) (S 13) (S 14 0) (S 15 0) (upd (upd (S 16) (S 5 q.toNatClampNeg).toNatClampNeg (S 16 (S 6 q.toNatClampNeg).toNatClampNeg)) (S 6 q.toNatClampNeg).toNatClampNeg (S 16 (S 5 q.toNatClampNeg).toNatClampNeg)) t) H := hP
        have hD : va_D A (wMr cI y b (S 0) (S 1) (S 2) (S 3) (S 4) (S 5) (S 6) (S 7) (S 8) (S 9) (S 10 0) (S 11 0) (S 12) (S 13) (S 14 0) (S 15 0) (upd (upd (S 16) (S 5 q.toNatClampNeg).toNatClampNeg (S 16 (S 6 q.toNatClampNeg).toNatClampNeg)) (S 6 q.toNatClampNeg).toNatClampNeg (S 16 (S 5 q.toNatClampNeg).toNatClampNeg)) t) := hD
        exact W.vret hx hb hr (fun t ht hW => ⟨⟨(row S 16 (upd (upd (S 16) (S 5 q.toNatClampNeg).toNatClampNeg (S 16 (S 6 q.toNatClampNeg).toNatClampNeg)) (S 6 q.toNatClampNeg).toNatClampNeg (S 16 (S 5 q.toNatClampNeg).toNatClampNeg)), t), rfl, by rw [mv4 c_51], by rw [ht]; exact hP, hD⟩, hS.F ht⟩) hS.2.2 dX1_change_72
    · skip
      refine lv_aload_n hx hb dX1_change_40 rfl (lv_at hl 4 rfl) ?_
      refine lv_iload_n hx hb dX1_change_41 rfl (lv_at hl 1 rfl) ?_
      refine lv_iconst (v := (-1)) hx hb dX1_change_42 (by decide) ?_
      refine va_iast (f := S 16) (n := 6) hx hb hK hP hD hS 13 0 rfl rfl hp dX1_change_43 (fun H locs hP hD hS => ?_)
      have hP : va_P D vwCl (wMr cI y b (S 0) (S 1) (S 2) (S 3) (S 4) (S 5) (S 6) (S 7) (S 8) (S 9) (S 10 0) (S 11 0) (S 12) (S 13) (S 14 0) (S 15 0) (upd (S 16) (S 5 q.toNatClampNeg).toNatClampNeg (-1)) t) H := hP
      have hD : va_D A (wMr cI y b (S 0) (S 1) (S 2) (S 3) (S 4) (S 5) (S 6) (S 7) (S 8) (S 9) (S 10 0) (S 11 0) (S 12) (S 13) (S 14 0) (S 15 0) (upd (S 16) (S 5 q.toNatClampNeg).toNatClampNeg (-1)) t) := hD
      refine lv_aload_n hx hb dX1_change_44 rfl (lv_at hl 2 rfl) ?_
      refine va_get (D := D) (ci := 1) (v := .ref (b 4)) (C := RX1) (T := TX1) (N := 18) hx hb hts hin hown hK hP 0 rfl rfl 4 (by decide) hf22 (fun _ h9 => h9) rfl dX1_change_45 ?_
      refine lv_iload_n hx hb dX1_change_48 rfl (lv_at hl 3 rfl) ?_
      refine va_iald (f := S 4) (n := 24) hx hb hK hP 5 0 rfl rfl (by assumption) dX1_change_49 ?_
      refine lv_iconst (v := 4) hx hb dX1_change_50 (by decide) ?_
      refine lv_icmp_ne (tgt := 72) hx hb dX1_change_51 (by decide) (fun c_51 => ?_) (fun c_51 => ?_)
      · skip
        exact W.vret hx hb hr (fun t ht hW => ⟨⟨(row S 16 (upd (S 16) (S 5 q.toNatClampNeg).toNatClampNeg (-1)), t), rfl, by rw [mv3 c_37], by rw [ht]; exact hP, hD⟩, hS.F ht⟩) hS.2.2 dX1_change_72
      · skip
        exact absurd (c_37.symm.trans c_51) (by decide)
  · skip
    refine lv_aload_n hx hb dX1_change_25 rfl (lv_at hl 4 rfl) ?_
    refine lv_iload_n hx hb dX1_change_26 rfl (lv_at hl 1 rfl) ?_
    refine lv_iload hx hb dX1_change_27 (lv_at hl 0 rfl) ?_
    refine va_iast (f := S 16) (n := 6) hx hb hK hP hD hS 13 0 rfl rfl hp dX1_change_29 (fun H locs hP hD hS => ?_)
    have hP : va_P D vwCl (wMr cI y b (S 0) (S 1) (S 2) (S 3) (S 4) (S 5) (S 6) (S 7) (S 8) (S 9) (S 10 0) (S 11 0) (S 12) (S 13) (S 14 0) (S 15 0) (upd (S 16) (S 5 q.toNatClampNeg).toNatClampNeg (S 6 q.toNatClampNeg)) t) H := hP
    have hD : va_D A (wMr cI y b (S 0) (S 1) (S 2) (S 3) (S 4) (S 5) (S 6) (S 7) (S 8) (S 9) (S 10 0) (S 11 0) (S 12) (S 13) (S 14 0) (S 15 0) (upd (S 16) (S 5 q.toNatClampNeg).toNatClampNeg (S 6 q.toNatClampNeg)) t) := hD
    refine lv_aload_n hx hb dX1_change_30 rfl (lv_at hl 2 rfl) ?_
    refine va_get (D := D) (ci := 1) (v := .ref (b 4)) (C := RX1) (T := TX1) (N := 18) hx hb hts hin hown hK hP 0 rfl rfl 4 (by decide) hf22 (fun _ h9 => h9) rfl dX1_change_31 ?_
    refine lv_iload_n hx hb dX1_change_34 rfl (lv_at hl 3 rfl) ?_
    refine va_iald (f := S 4) (n := 24) hx hb hK hP 5 0 rfl rfl (by assumption) dX1_change_35 ?_
    refine lv_iconst (v := 3) hx hb dX1_change_36 (by decide) ?_
    refine lv_icmp_ne (tgt := 44) hx hb dX1_change_37 (by decide) (fun c_37 => ?_) (fun c_37 => ?_)
    · skip
      refine lv_aload_n hx hb dX1_change_44 rfl (lv_at hl 2 rfl) ?_
      refine va_get (D := D) (ci := 1) (v := .ref (b 4)) (C := RX1) (T := TX1) (N := 18) hx hb hts hin hown hK hP 0 rfl rfl 4 (by decide) hf22 (fun _ h9 => h9) rfl dX1_change_45 ?_
      refine lv_iload_n hx hb dX1_change_48 rfl (lv_at hl 3 rfl) ?_
      refine va_iald (f := S 4) (n := 24) hx hb hK hP 5 0 rfl rfl (by assumption) dX1_change_49 ?_
      refine lv_iconst (v := 4) hx hb dX1_change_50 (by decide) ?_
      refine lv_icmp_ne (tgt := 72) hx hb dX1_change_51 (by decide) (fun c_51 => ?_) (fun c_51 => ?_)
      · skip
        exact W.vret hx hb hr (fun t ht hW => ⟨⟨(row S 16 (upd (S 16) (S 5 q.toNatClampNeg).toNatClampNeg (S 6 q.toNatClampNeg)), t), rfl, by rw [mv2 c_22], by rw [ht]; exact hP, hD⟩, hS.F ht⟩) hS.2.2 dX1_change_72
      · skip
        exact absurd (c_22.symm.trans c_51) (by decide)
    · skip
      exact absurd (c_22.symm.trans c_37) (by decide)
set_option maxHeartbeats 4000000 in
set_option maxRecDepth 100000 in
theorem c_X1_exit (l : Launch) (D : va_G) (cI : ClassId) (y : Nat) (b : Nat → Nat) (S : ST) (t : Int32) (sz : Nat) (p : Int32) (hp : vp_in p 6) (hc : vp_in (S 0 p.toNatClampNeg) 8) : Met l yX1_exit wsX1_exit rmX1_exit (va_Pc [.ref y, .int p] (pW D (tyM cI) (wM cI y b S t) sz)) (va_Qv (fun (u : ST × Int32) => u = (leave S p.toNatClampNeg, t)) (fun (u : ST × Int32) t => atW D (wM cI y b u.1 u.2) (va_A (wM cI y b S t) sz) t) (va_A (wM cI y b S t) sz)) 0 0 (va_A (wM cI y b S t) sz) := by
  refine Met.ofW (cc := cX1_exit) (maxL := 3) (ret := none) (by decide) rfl ?_
  intro pr env s mid args below meth cod s₁ Bd hml hv
  obtain ⟨rfl, hsz, hP, hK, hD0⟩ := hv
  have hx := Bd.exec
  have hb := Bd.bytes
  have hr := Bd.returns
  have hts := atoms_spec (ws := wsX1_exit) Bd.pre
  have hown : s.vm.findClass RX1 = some mid.cls := findClass_of_methodNamed Bd.named
  have hlocks := Bd.notSynchronized
  have hin : ∀ w ∈ wsX10, w ∈ wsX1_exit := fun _ h => List.mem_cons_of_mem _ (List.mem_append_right _ h)
  subst hsz
  have hD := hD0.self (sz := s.heap.size)
  generalize hAe : va_A (wM cI y b S t) s.heap.size = A at hD ⊢
  have hA : ∀ q : Nat, s.heap.size ≤ q → A q := fun q h => by rw [← hAe]; exact Or.inr h
  have hS : va_S A s.heap s.heap [] := va_S.rf
  have hP : va_P D vwCl (wM cI y b S t) s.heap := hP
  have hD : va_D A (wM cI y b S t) := hD
  have hl := lv_entry ([.ref y, .int p]) (n := 3) (Nat.le_of_ble_eq_true rfl)
  rw [lg_entry_eq]
  generalize (lg_sl ([.ref y, .int p]) ++ List.replicate (3 - (lg_sl ([.ref y, .int p])).length) Slot.unset).toArray = ls at hl ⊢
  have hl : lv_has ls 3 [(0, .ref y), (1, .int p)] := hl
  refine lv_aload_n hx hb dX1_exit_0 rfl (lv_at hl 0 rfl) ?_
  have hf16 := hts (.fieldLink RX1 16 "ClockmaskModel" "costumes" "[I") (by decide +kernel)
  refine va_get (D := D) (ci := 1) (v := .ref (b 0)) (C := RX1) (T := TX1) (N := 18) hx hb hts hin hown hK hP 0 rfl rfl 2 (by decide) hf16 (fun _ h9 => h9) rfl dX1_exit_1 ?_
  refine lv_iload_n hx hb dX1_exit_4 rfl (lv_at hl 1 rfl) ?_
  refine va_iald (f := S 0) (n := 6) hx hb hK hP 3 0 rfl rfl (by assumption) dX1_exit_5 ?_
  refine lv_istore_n (lv' := [(2, .int (S 0 p.toNatClampNeg)), (0, .ref y), (1, .int p)]) hx hb dX1_exit_6 rfl hl (by decide) rfl (fun ls hl => ?_)
  refine lv_aload_n hx hb dX1_exit_7 rfl (lv_at hl 1 rfl) ?_
  have hf13 := hts (.fieldLink RX1 13 "ClockmaskModel" "stage" "[I") (by decide +kernel)
  refine va_get (D := D) (ci := 1) (v := .ref (b 2)) (C := RX1) (T := TX1) (N := 18) hx hb hts hin hown hK hP 0 rfl rfl 1 (by decide) hf13 (fun _ h9 => h9) rfl dX1_exit_8 ?_
  refine lv_iload_n hx hb dX1_exit_11 rfl (lv_at hl 2 rfl) ?_
  refine lv_iconst (v := 0) hx hb dX1_exit_12 (by decide) ?_
  refine va_iast (f := S 2) (n := 6) hx hb hK hP hD hS 2 0 rfl rfl (by assumption) dX1_exit_13 (fun H locs hP hD hS => ?_)
  have hP : va_P D vwCl (wMr cI y b (S 0) (S 1) (upd (S 2) p.toNatClampNeg 0) (S 3) (S 4) (S 5) (S 6) (S 7) (S 8) (S 9) (S 10 0) (S 11 0) (S 12) (S 13) (S 14 0) (S 15 0) (S 16) t) H := hP
  have hD : va_D A (wMr cI y b (S 0) (S 1) (upd (S 2) p.toNatClampNeg 0) (S 3) (S 4) (S 5) (S 6) (S 7) (S 8) (S 9) (S 10 0) (S 11 0) (S 12) (S 13) (S 14 0) (S 15 0) (S 16) t) := hD
  refine lv_aload_n hx hb dX1_exit_14 rfl (lv_at hl 1 rfl) ?_
  have hf19 := hts (.fieldLink RX1 19 "ClockmaskModel" "wears" "[I") (by decide +kernel)
  refine va_get (D := D) (ci := 1) (v := .ref (b 3)) (C := RX1) (T := TX1) (N := 18) hx hb hts hin hown hK hP 0 rfl rfl 3 (by decide) hf19 (fun _ h9 => h9) rfl dX1_exit_15 ?_
  refine lv_iload_n hx hb dX1_exit_18 rfl (lv_at hl 0 rfl) ?_
  refine lv_dup2_11 hx hb dX1_exit_19 rfl rfl ?_
  refine va_iald (f := S 3) (n := 8) hx hb hK hP 4 0 rfl rfl (by assumption) dX1_exit_20 ?_
  refine lv_iconst (v := 1) hx hb dX1_exit_21 (by decide) ?_
  refine lv_iadd hx hb dX1_exit_22 ?_
  refine va_iast (f := S 3) (n := 8) hx hb hK hP hD hS 4 0 rfl rfl (by assumption) dX1_exit_23 (fun H locs hP hD hS => ?_)
  have hP : va_P D vwCl (wMr cI y b (S 0) (S 1) (upd (S 2) p.toNatClampNeg 0) (upd (S 3) (S 0 p.toNatClampNeg).toNatClampNeg ((S 3 (S 0 p.toNatClampNeg).toNatClampNeg) + 1)) (S 4) (S 5) (S 6) (S 7) (S 8) (S 9) (S 10 0) (S 11 0) (S 12) (S 13) (S 14 0) (S 15 0) (S 16) t) H := hP
  have hD : va_D A (wMr cI y b (S 0) (S 1) (upd (S 2) p.toNatClampNeg 0) (upd (S 3) (S 0 p.toNatClampNeg).toNatClampNeg ((S 3 (S 0 p.toNatClampNeg).toNatClampNeg) + 1)) (S 4) (S 5) (S 6) (S 7) (S 8) (S 9) (S 10 0) (S 11 0) (S 12) (S 13) (S 14 0) (S 15 0) (S 16) t) := hD
  refine lv_aload_n hx hb dX1_exit_24 rfl (lv_at hl 1 rfl) ?_
  refine va_get (D := D) (ci := 1) (v := .ref (b 0)) (C := RX1) (T := TX1) (N := 18) hx hb hts hin hown hK hP 0 rfl rfl 2 (by decide) hf16 (fun _ h9 => h9) rfl dX1_exit_25 ?_
  refine lv_iload_n hx hb dX1_exit_28 rfl (lv_at hl 2 rfl) ?_
  refine lv_aload_n hx hb dX1_exit_29 rfl (lv_at hl 1 rfl) ?_
  refine va_get (D := D) (ci := 1) (v := .ref (b 3)) (C := RX1) (T := TX1) (N := 18) hx hb hts hin hown hK hP 0 rfl rfl 3 (by decide) hf19 (fun _ h9 => h9) rfl dX1_exit_30 ?_
  refine lv_iload_n hx hb dX1_exit_33 rfl (lv_at hl 0 rfl) ?_
  refine va_iald (f := upd (S 3) (S 0 p.toNatClampNeg).toNatClampNeg ((S 3 (S 0 p.toNatClampNeg).toNatClampNeg) + 1)) (n := 8) hx hb hK hP 4 0 rfl rfl (by assumption) dX1_exit_34 ?_
  refine lv_iconst (v := 3) hx hb dX1_exit_35 (by decide) ?_
  rw [pk_us]
  refine lv_icmp_lt (tgt := 43) hx hb dX1_exit_36 (by decide) (fun c_36 => ?_) (fun c_36 => ?_)
  · skip
    refine lv_iload_n hx hb dX1_exit_43 rfl (lv_at hl 0 rfl) ?_
    refine va_iast (f := S 0) (n := 6) hx hb hK hP hD hS 3 0 rfl rfl (by assumption) dX1_exit_44 (fun H locs hP hD hS => ?_)
    have hP : va_P D vwCl (wMr cI y b (upd (S 0) p.toNatClampNeg (S 0 p.toNatClampNeg)) (S 1) (upd (S 2) p.toNatClampNeg 0) (upd (S 3) (S 0 p.toNatClampNeg).toNatClampNeg ((S 3 (S 0 p.toNatClampNeg).toNatClampNeg) + 1)) (S 4) (S 5) (S 6) (S 7) (S 8) (S 9) (S 10 0) (S 11 0) (S 12) (S 13) (S 14 0) (S 15 0) (S 16) t) H := hP
    have hD : va_D A (wMr cI y b (upd (S 0) p.toNatClampNeg (S 0 p.toNatClampNeg)) (S 1) (upd (S 2) p.toNatClampNeg 0) (upd (S 3) (S 0 p.toNatClampNeg).toNatClampNeg ((S 3 (S 0 p.toNatClampNeg).toNatClampNeg) + 1)) (S 4) (S 5) (S 6) (S 7) (S 8) (S 9) (S 10 0) (S 11 0) (S 12) (S 13) (S 14 0) (S 15 0) (S 16) t) := hD
    exact W.vret hx hb hr (fun t ht hW => ⟨⟨(row (row (row S 2 (upd (S 2) p.toNatClampNeg 0)) 3 (upd (S 3) (S 0 p.toNatClampNeg).toNatClampNeg ((S 3 (S 0 p.toNatClampNeg).toNatClampNeg) + 1))) 0 (upd (S 0) p.toNatClampNeg (S 0 p.toNatClampNeg)), t), rfl, by rw [leave_m (fun h => le_nlt h c_36)], by rw [ht]; exact hP, hD⟩, hS.F ht⟩) hS.2.2 dX1_exit_45
  · skip
    refine lv_iconst (v := (-1)) hx hb dX1_exit_39 (by decide) ?_
    refine lv_goto (tgt := 44) hx hb dX1_exit_40 (by decide) ?_
    refine va_iast (f := S 0) (n := 6) hx hb hK hP hD hS 3 0 rfl rfl (by assumption) dX1_exit_44 (fun H locs hP hD hS => ?_)
    have hP : va_P D vwCl (wMr cI y b (upd (S 0) p.toNatClampNeg (-1)) (S 1) (upd (S 2) p.toNatClampNeg 0) (upd (S 3) (S 0 p.toNatClampNeg).toNatClampNeg ((S 3 (S 0 p.toNatClampNeg).toNatClampNeg) + 1)) (S 4) (S 5) (S 6) (S 7) (S 8) (S 9) (S 10 0) (S 11 0) (S 12) (S 13) (S 14 0) (S 15 0) (S 16) t) H := hP
    have hD : va_D A (wMr cI y b (upd (S 0) p.toNatClampNeg (-1)) (S 1) (upd (S 2) p.toNatClampNeg 0) (upd (S 3) (S 0 p.toNatClampNeg).toNatClampNeg ((S 3 (S 0 p.toNatClampNeg).toNatClampNeg) + 1)) (S 4) (S 5) (S 6) (S 7) (S 8) (S 9) (S 10 0) (S 11 0) (S 12) (S 13) (S 14 0) (S 15 0) (S 16) t) := hD
    exact W.vret hx hb hr (fun t ht hW => ⟨⟨(row (row (row S 2 (upd (S 2) p.toNatClampNeg 0)) 3 (upd (S 3) (S 0 p.toNatClampNeg).toNatClampNeg ((S 3 (S 0 p.toNatClampNeg).toNatClampNeg) + 1))) 0 (upd (S 0) p.toNatClampNeg (-1)), t), rfl, by rw [leave_t (Int32.not_lt.mp c_36)], by rw [ht]; exact hP, hD⟩, hS.F ht⟩) hS.2.2 dX1_exit_45
set_option maxHeartbeats 4000000 in
set_option maxRecDepth 100000 in
theorem c_X1_callOne (l : Launch) (D : va_G) (cI : ClassId) (y : Nat) (b : Nat → Nat) (S : ST) (t : Int32) (sz : Nat) (q : Int32) (hq : vp_in q 24) (hc : cueOK S q.toNatClampNeg) (hcl : vp_in (S 11 0) 24) (hex : S 4 q.toNatClampNeg = 1 → S 0 (S 5 q.toNatClampNeg).toNatClampNeg ≠ -1 ∧ vp_in (S 0 (S 5 q.toNatClampNeg).toNatClampNeg) 8) : Met l yX1_callOne wsX1_callOne rmX1_callOne (va_Pc [.ref y, .int q] (pW D (tyM cI) (wM cI y b S t) sz)) (va_Qv (fun (u : ST × Int32) => u = (callQ S q, t)) (fun (u : ST × Int32) t => atW D (wM cI y b u.1 u.2) (va_A (wM cI y b S t) sz) t) (va_A (wM cI y b S t) sz)) 0 0 (va_A (wM cI y b S t) sz) := by
  refine Met.ofW (cc := cX1_callOne) (maxL := 2) (ret := none) (by decide) rfl ?_
  intro pr env s mid args below meth cod s₁ Bd hml hv
  obtain ⟨rfl, hsz, hP, hK, hD0⟩ := hv
  have hx := Bd.exec
  have hb := Bd.bytes
  have hr := Bd.returns
  have hts := atoms_spec (ws := wsX1_callOne) Bd.pre
  have hown : s.vm.findClass RX1 = some mid.cls := findClass_of_methodNamed Bd.named
  have hlocks := Bd.notSynchronized
  have hin : ∀ w ∈ wsX10, w ∈ wsX1_callOne := fun _ h => List.mem_cons_of_mem _ (List.mem_append_right _ h)
  subst hsz
  have hD := hD0.self (sz := s.heap.size)
  generalize hAe : va_A (wM cI y b S t) s.heap.size = A at hD ⊢
  have hA : ∀ q : Nat, s.heap.size ≤ q → A q := fun q h => by rw [← hAe]; exact Or.inr h
  have hS : va_S A s.heap s.heap [] := va_S.rf
  have hP : va_P D vwCl (wM cI y b S t) s.heap := hP
  have hD : va_D A (wM cI y b S t) := hD
  have hl := lv_entry ([.ref y, .int q]) (n := 2) (Nat.le_of_ble_eq_true rfl)
  rw [lg_entry_eq]
  generalize (lg_sl ([.ref y, .int q]) ++ List.replicate (2 - (lg_sl ([.ref y, .int q])).length) Slot.unset).toArray = ls at hl ⊢
  have hl : lv_has ls 2 [(0, .ref y), (1, .int q)] := hl
  refine lv_aload_n hx hb dX1_callOne_0 rfl (lv_at hl 0 rfl) ?_
  have hf34 := hts (.fieldLink RX1 34 "ClockmaskModel" "states" "[I") (by decide +kernel)
  refine va_get (D := D) (ci := 1) (v := .ref (b 8)) (C := RX1) (T := TX1) (N := 18) hx hb hts hin hown hK hP 0 rfl rfl 8 (by decide) hf34 (fun _ h9 => h9) rfl dX1_callOne_1 ?_
  refine lv_iload_n hx hb dX1_callOne_4 rfl (lv_at hl 1 rfl) ?_
  refine lv_iconst (v := 1) hx hb dX1_callOne_5 (by decide) ?_
  refine va_iast (f := S 8) (n := 24) hx hb hK hP hD hS 9 0 rfl rfl (by assumption) dX1_callOne_6 (fun H locs hP hD hS => ?_)
  have hP : va_P D vwCl (wMr cI y b (S 0) (S 1) (S 2) (S 3) (S 4) (S 5) (S 6) (S 7) (upd (S 8) q.toNatClampNeg 1) (S 9) (S 10 0) (S 11 0) (S 12) (S 13) (S 14 0) (S 15 0) (S 16) t) H := hP
  have hD : va_D A (wMr cI y b (S 0) (S 1) (S 2) (S 3) (S 4) (S 5) (S 6) (S 7) (upd (S 8) q.toNatClampNeg 1) (S 9) (S 10 0) (S 11 0) (S 12) (S 13) (S 14 0) (S 15 0) (S 16) t) := hD
  refine lv_aload_n hx hb dX1_callOne_7 rfl (lv_at hl 0 rfl) ?_
  have hf37 := hts (.fieldLink RX1 37 "ClockmaskModel" "order" "[I") (by decide +kernel)
  refine va_get (D := D) (ci := 1) (v := .ref (b 9)) (C := RX1) (T := TX1) (N := 18) hx hb hts hin hown hK hP 0 rfl rfl 9 (by decide) hf37 (fun _ h9 => h9) rfl dX1_callOne_8 ?_
  refine lv_aload_n hx hb dX1_callOne_11 rfl (lv_at hl 0 rfl) ?_
  have hf89 := hts (.fieldLink RX1 89 "ClockmaskModel" "called" "I") (by decide +kernel)
  refine va_get (D := D) (ci := 1) (v := .int (S 11 0)) (C := RX1) (T := TX1) (N := 18) hx hb hts hin hown hK hP 0 rfl rfl 11 (by decide) hf89 (fun _ h9 => h9) rfl dX1_callOne_12 ?_
  refine lv_iload_n hx hb dX1_callOne_15 rfl (lv_at hl 1 rfl) ?_
  refine va_iast (f := S 9) (n := 24) hx hb hK hP hD hS 10 0 rfl rfl hcl dX1_callOne_16 (fun H locs hP hD hS => ?_)
  have hP : va_P D vwCl (wMr cI y b (S 0) (S 1) (S 2) (S 3) (S 4) (S 5) (S 6) (S 7) (upd (S 8) q.toNatClampNeg 1) (upd (S 9) (S 11 0).toNatClampNeg q) (S 10 0) (S 11 0) (S 12) (S 13) (S 14 0) (S 15 0) (S 16) t) H := hP
  have hD : va_D A (wMr cI y b (S 0) (S 1) (S 2) (S 3) (S 4) (S 5) (S 6) (S 7) (upd (S 8) q.toNatClampNeg 1) (upd (S 9) (S 11 0).toNatClampNeg q) (S 10 0) (S 11 0) (S 12) (S 13) (S 14 0) (S 15 0) (S 16) t) := hD
  refine lv_aload_n hx hb dX1_callOne_17 rfl (lv_at hl 0 rfl) ?_
  refine lv_dup hx hb dX1_callOne_18 rfl ?_
  refine va_get (D := D) (ci := 1) (v := .int (S 11 0)) (C := RX1) (T := TX1) (N := 18) hx hb hts hin hown hK hP 0 rfl rfl 11 (by decide) hf89 (fun _ h9 => h9) rfl dX1_callOne_19 ?_
  refine lv_iconst (v := 1) hx hb dX1_callOne_22 (by decide) ?_
  refine lv_iadd hx hb dX1_callOne_23 ?_
  refine va_put (D := D) (ci := 1) (v := .int ((S 11 0) + 1)) (ty := .int) (C := RX1) (T := TX1) (N := 18) hx hb hts hin tyX1 tyX1_ok nmX1 hown hK hP hD hS 0 rfl rfl 11 (by decide) hf89 (fun _ h9 => h9) rfl (by decide +kernel) rfl rfl (Nat.le_of_ble_eq_true rfl) dX1_callOne_24 (fun H locs hP hD hS => ?_)
  have hP : va_P D vwCl (wMr cI y b (S 0) (S 1) (S 2) (S 3) (S 4) (S 5) (S 6) (S 7) (upd (S 8) q.toNatClampNeg 1) (upd (S 9) (S 11 0).toNatClampNeg q) (S 10 0) ((S 11 0) + 1) (S 12) (S 13) (S 14 0) (S 15 0) (S 16) t) H := hP
  have hD : va_D A (wMr cI y b (S 0) (S 1) (S 2) (S 3) (S 4) (S 5) (S 6) (S 7) (upd (S 8) q.toNatClampNeg 1) (upd (S 9) (S 11 0).toNatClampNeg q) (S 10 0) ((S 11 0) + 1) (S 12) (S 13) (S 14 0) (S 15 0) (S 16) t) := hD
  refine lv_aload_n hx hb dX1_callOne_27 rfl (lv_at hl 0 rfl) ?_
  refine lv_iload_n hx hb dX1_callOne_28 rfl (lv_at hl 1 rfl) ?_
  refine lv_aload_n hx hb dX1_callOne_29 rfl (lv_at hl 0 rfl) ?_
  have hf7 := hts (.fieldLink RX1 7 "ClockmaskModel" "masks" "[I") (by decide +kernel)
  refine va_get (D := D) (ci := 1) (v := .ref (b 1)) (C := RX1) (T := TX1) (N := 18) hx hb hts hin hown hK hP 0 rfl rfl 0 (by decide) hf7 (fun _ h9 => h9) rfl dX1_callOne_30 ?_
  have hPs : va_P D vwCl (wM cI y b (row (row (row S 8 (upd (S 8) q.toNatClampNeg 1)) 9 (upd (S 9) (S 11 0).toNatClampNeg q)) 11 (kf ((S 11 0) + 1))) t) H := hP
  have hDs : va_D A (wM cI y b (row (row (row S 8 (upd (S 8) q.toNatClampNeg 1)) 9 (upd (S 9) (S 11 0).toNatClampNeg q)) 11 (kf ((S 11 0) + 1))) t) := hD
  have hFc := wfree hDs hS hA
  refine va_callv (va_runV (As := [.int q, .ref (b 1)]) (rest := []) ⟨hx, hb, hml, hown, hts⟩ (c_X1_change_1 l D cI y b (row (row (row S 8 (upd (S 8) q.toNatClampNeg 1)) 9 (upd (S 9) (S 11 0).toNatClampNeg q)) 11 (kf ((S 11 0) + 1))) t H.size q hq hc.2.1 hc.2.2.1) (cwV 2 hts gX1_callOne_X1_change rfl rfl rfl (by decide +kernel) ⟨Nat.le_of_ble_eq_true rfl, Nat.le_of_ble_eq_true rfl⟩) (pW_V (ci := 1) hPs hK hDs rfl rfl) rfl rfl hl.1 rfl (lv_room (Nat.le_of_ble_eq_true rfl)) dX1_callOne_33 ⟨Nat.zero_le _, Nat.zero_le _⟩) hS (fun q _ h => hFc q h) hFc (fun u_33 t9 H1 locs ht9 hvm9 h_33 hB9 hz9 hk9 hS => ?_)
  subst h_33
  have hP : va_P D vwCl (wMr cI y b (S 0) (mv (row (row (row S 8 (upd (S 8) q.toNatClampNeg 1)) 9 (upd (S 9) (S 11 0).toNatClampNeg q)) 11 (kf ((S 11 0) + 1))) q.toNatClampNeg (S 1)) (S 2) (S 3) (S 4) (S 5) (S 6) (S 7) (upd (S 8) q.toNatClampNeg 1) (upd (S 9) (S 11 0).toNatClampNeg q) (S 10 0) ((S 11 0) + 1) (S 12) (S 13) (S 14 0) (S 15 0) (S 16) t) H1 := atW_P hB9 ht9
  have hD : va_D A (wMr cI y b (S 0) (mv (row (row (row S 8 (upd (S 8) q.toNatClampNeg 1)) 9 (upd (S 9) (S 11 0).toNatClampNeg q)) 11 (kf ((S 11 0) + 1))) q.toNatClampNeg (S 1)) (S 2) (S 3) (S 4) (S 5) (S 6) (S 7) (upd (S 8) q.toNatClampNeg 1) (upd (S 9) (S 11 0).toNatClampNeg q) (S 10 0) ((S 11 0) + 1) (S 12) (S 13) (S 14 0) (S 15 0) (S 16) t) := atW_D hB9 hFc
  generalize H1 = H at hP hS ⊢
  refine lv_aload_n hx hb dX1_callOne_36 rfl (lv_at hl 0 rfl) ?_
  have hf22 := hts (.fieldLink RX1 22 "ClockmaskModel" "kinds" "[I") (by decide +kernel)
  refine va_get (D := D) (ci := 1) (v := .ref (b 4)) (C := RX1) (T := TX1) (N := 18) hx hb hts hin hown hK hP 0 rfl rfl 4 (by decide) hf22 (fun _ h9 => h9) rfl dX1_callOne_37 ?_
  refine lv_iload_n hx hb dX1_callOne_40 rfl (lv_at hl 1 rfl) ?_
  refine va_iald (f := S 4) (n := 24) hx hb hK hP 5 0 rfl rfl (by assumption) dX1_callOne_41 ?_
  refine lv_if_ne (tgt := 57) hx hb dX1_callOne_42 (by decide) (fun c_42 => ?_) (fun c_42 => ?_)
  · skip
    refine lv_aload_n hx hb dX1_callOne_57 rfl (lv_at hl 0 rfl) ?_
    refine va_get (D := D) (ci := 1) (v := .ref (b 4)) (C := RX1) (T := TX1) (N := 18) hx hb hts hin hown hK hP 0 rfl rfl 4 (by decide) hf22 (fun _ h9 => h9) rfl dX1_callOne_58 ?_
    refine lv_iload_n hx hb dX1_callOne_61 rfl (lv_at hl 1 rfl) ?_
    refine va_iald (f := S 4) (n := 24) hx hb hK hP 5 0 rfl rfl (by assumption) dX1_callOne_62 ?_
    refine lv_iconst (v := 1) hx hb dX1_callOne_63 (by decide) ?_
    refine lv_icmp_ne (tgt := 77) hx hb dX1_callOne_64 (by decide) (fun c_64 => ?_) (fun c_64 => ?_)
    · skip
      exact W.vret hx hb hr (fun t ht hW => ⟨⟨(row (row (row (row S 8 (upd (S 8) q.toNatClampNeg 1)) 9 (upd (S 9) (S 11 0).toNatClampNeg q)) 11 (kf ((S 11 0) + 1))) 1 (mv (row (row (row S 8 (upd (S 8) q.toNatClampNeg 1)) 9 (upd (S 9) (S 11 0).toNatClampNeg q)) 11 (kf ((S 11 0) + 1))) q.toNatClampNeg (S 1)), t), rfl, by rw [callM_m c_42 c_64], by rw [ht]; exact hP, hD⟩, hS.F ht⟩) hS.2.2 dX1_callOne_77
    · skip
      refine lv_aload_n hx hb dX1_callOne_67 rfl (lv_at hl 0 rfl) ?_
      refine lv_aload_n hx hb dX1_callOne_68 rfl (lv_at hl 0 rfl) ?_
      have hf25 := hts (.fieldLink RX1 25 "ClockmaskModel" "players" "[I") (by decide +kernel)
      refine va_get (D := D) (ci := 1) (v := .ref (b 5)) (C := RX1) (T := TX1) (N := 18) hx hb hts hin hown hK hP 0 rfl rfl 5 (by decide) hf25 (fun _ h9 => h9) rfl dX1_callOne_69 ?_
      refine lv_iload_n hx hb dX1_callOne_72 rfl (lv_at hl 1 rfl) ?_
      refine va_iald (f := S 5) (n := 24) hx hb hK hP 6 0 rfl rfl (by assumption) dX1_callOne_73 ?_
      have hPs : va_P D vwCl (wM cI y b (row (row (row (row S 8 (upd (S 8) q.toNatClampNeg 1)) 9 (upd (S 9) (S 11 0).toNatClampNeg q)) 11 (kf ((S 11 0) + 1))) 1 (mv (row (row (row S 8 (upd (S 8) q.toNatClampNeg 1)) 9 (upd (S 9) (S 11 0).toNatClampNeg q)) 11 (kf ((S 11 0) + 1))) q.toNatClampNeg (S 1))) t) H := hP
      have hDs : va_D A (wM cI y b (row (row (row (row S 8 (upd (S 8) q.toNatClampNeg 1)) 9 (upd (S 9) (S 11 0).toNatClampNeg q)) 11 (kf ((S 11 0) + 1))) 1 (mv (row (row (row S 8 (upd (S 8) q.toNatClampNeg 1)) 9 (upd (S 9) (S 11 0).toNatClampNeg q)) 11 (kf ((S 11 0) + 1))) q.toNatClampNeg (S 1))) t) := hD
      have hFc := wfree hDs hS hA
      refine va_callv (va_runV (As := [.int (S 5 q.toNatClampNeg)]) (rest := []) ⟨hx, hb, hml, hown, hts⟩ (c_X1_exit l D cI y b (row (row (row (row S 8 (upd (S 8) q.toNatClampNeg 1)) 9 (upd (S 9) (S 11 0).toNatClampNeg q)) 11 (kf ((S 11 0) + 1))) 1 (mv (row (row (row S 8 (upd (S 8) q.toNatClampNeg 1)) 9 (upd (S 9) (S 11 0).toNatClampNeg q)) 11 (kf ((S 11 0) + 1))) q.toNatClampNeg (S 1))) t H.size (S 5 q.toNatClampNeg) hc.2.1 (hex c_64).2) (cwV 1 hts gX1_callOne_X1_exit rfl rfl rfl (by decide +kernel) ⟨Nat.le_of_ble_eq_true rfl, Nat.le_of_ble_eq_true rfl⟩) (pW_V (ci := 1) hPs hK hDs rfl rfl) rfl rfl hl.1 rfl (lv_room (Nat.le_of_ble_eq_true rfl)) dX1_callOne_74 ⟨Nat.zero_le _, Nat.zero_le _⟩) hS (fun q _ h => hFc q h) hFc (fun u_74 t9 H1 locs ht9 hvm9 h_74 hB9 hz9 hk9 hS => ?_)
      obtain ⟨v_74, w_74⟩ := u_74
      obtain ⟨h_74, k_74⟩ := Prod.mk.inj h_74
      subst k_74
      have hP : va_P D vwCl (wM cI y b v_74 t) H1 := atW_P hB9 ht9
      have hD : va_D A (wM cI y b v_74 t) := atW_D hB9 hFc
      generalize H1 = H at hP hS ⊢
      exact W.vret hx hb hr (fun t ht hW => ⟨⟨(v_74, t), rfl, by rw [h_74, callM_1 c_64], by rw [ht]; exact hP, hD⟩, hS.F ht⟩) hS.2.2 dX1_callOne_77
  · skip
    refine lv_aload_n hx hb dX1_callOne_45 rfl (lv_at hl 0 rfl) ?_
    have hf13 := hts (.fieldLink RX1 13 "ClockmaskModel" "stage" "[I") (by decide +kernel)
    refine va_get (D := D) (ci := 1) (v := .ref (b 2)) (C := RX1) (T := TX1) (N := 18) hx hb hts hin hown hK hP 0 rfl rfl 1 (by decide) hf13 (fun _ h9 => h9) rfl dX1_callOne_46 ?_
    refine lv_aload_n hx hb dX1_callOne_49 rfl (lv_at hl 0 rfl) ?_
    have hf25 := hts (.fieldLink RX1 25 "ClockmaskModel" "players" "[I") (by decide +kernel)
    refine va_get (D := D) (ci := 1) (v := .ref (b 5)) (C := RX1) (T := TX1) (N := 18) hx hb hts hin hown hK hP 0 rfl rfl 5 (by decide) hf25 (fun _ h9 => h9) rfl dX1_callOne_50 ?_
    refine lv_iload_n hx hb dX1_callOne_53 rfl (lv_at hl 1 rfl) ?_
    refine va_iald (f := S 5) (n := 24) hx hb hK hP 6 0 rfl rfl (by assumption) dX1_callOne_54 ?_
    refine lv_iconst (v := 1) hx hb dX1_callOne_55 (by decide) ?_
    refine va_iast (f := S 2) (n := 6) hx hb hK hP hD hS 2 0 rfl rfl hc.2.1 dX1_callOne_56 (fun H locs hP hD hS => ?_)
    have hP : va_P D vwCl (wMr cI y b (S 0) (mv (row (row (row S 8 (upd (S 8) q.toNatClampNeg 1)) 9 (upd (S 9) (S 11 0).toNatClampNeg q)) 11 (kf ((S 11 0) + 1))) q.toNatClampNeg (S 1)) (upd (S 2) (S 5 q.toNatClampNeg).toNatClampNeg 1) (S 3) (S 4) (S 5) (S 6) (S 7) (upd (S 8) q.toNatClampNeg 1) (upd (S 9) (S 11 0).toNatClampNeg q) (S 10 0) ((S 11 0) + 1) (S 12) (S 13) (S 14 0) (S 15 0) (S 16) t) H := hP
    have hD : va_D A (wMr cI y b (S 0) (mv (row (row (row S 8 (upd (S 8) q.toNatClampNeg 1)) 9 (upd (S 9) (S 11 0).toNatClampNeg q)) 11 (kf ((S 11 0) + 1))) q.toNatClampNeg (S 1)) (upd (S 2) (S 5 q.toNatClampNeg).toNatClampNeg 1) (S 3) (S 4) (S 5) (S 6) (S 7) (upd (S 8) q.toNatClampNeg 1) (upd (S 9) (S 11 0).toNatClampNeg q) (S 10 0) ((S 11 0) + 1) (S 12) (S 13) (S 14 0) (S 15 0) (S 16) t) := hD
    refine lv_aload_n hx hb dX1_callOne_57 rfl (lv_at hl 0 rfl) ?_
    refine va_get (D := D) (ci := 1) (v := .ref (b 4)) (C := RX1) (T := TX1) (N := 18) hx hb hts hin hown hK hP 0 rfl rfl 4 (by decide) hf22 (fun _ h9 => h9) rfl dX1_callOne_58 ?_
    refine lv_iload_n hx hb dX1_callOne_61 rfl (lv_at hl 1 rfl) ?_
    refine va_iald (f := S 4) (n := 24) hx hb hK hP 5 0 rfl rfl (by assumption) dX1_callOne_62 ?_
    refine lv_iconst (v := 1) hx hb dX1_callOne_63 (by decide) ?_
    refine lv_icmp_ne (tgt := 77) hx hb dX1_callOne_64 (by decide) (fun c_64 => ?_) (fun c_64 => ?_)
    · skip
      exact W.vret hx hb hr (fun t ht hW => ⟨⟨(row (row (row (row (row S 8 (upd (S 8) q.toNatClampNeg 1)) 9 (upd (S 9) (S 11 0).toNatClampNeg q)) 11 (kf ((S 11 0) + 1))) 1 (mv (row (row (row S 8 (upd (S 8) q.toNatClampNeg 1)) 9 (upd (S 9) (S 11 0).toNatClampNeg q)) 11 (kf ((S 11 0) + 1))) q.toNatClampNeg (S 1))) 2 (upd (S 2) (S 5 q.toNatClampNeg).toNatClampNeg 1), t), rfl, by rw [callM_0 c_42], by rw [ht]; exact hP, hD⟩, hS.F ht⟩) hS.2.2 dX1_callOne_77
    · skip
      exact absurd (c_42.symm.trans c_64) (by decide)
