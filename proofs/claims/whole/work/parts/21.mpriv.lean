set_option maxHeartbeats 4000000 in
set_option maxRecDepth 100000 in
theorem c_X1_in (l : Launch) (v_ : Int32) (lo_ : Int32) (hi_ : Int32) : Met l yX1_in wsX1_in rmX1_in (va_Pc [.int v_, .int lo_, .int hi_] (pN)) (vp_Si (fun r_ => r_ = cif (¬ v_ < lo_ ∧ ¬ hi_ < v_) 1 0)) 0 0 (fun _ => False) := by
  refine Met.ofW (cc := cX1_in) (maxL := 3) (ret := (some .boolean)) (by decide) rfl ?_
  intro pr env s_ mid args below meth cod s₁ Bd hml hv
  obtain ⟨rfl, -⟩ := hv
  have hx := Bd.exec
  have hb_ := Bd.bytes
  have hr := Bd.returns
  have hts := atoms_spec (ws := wsX1_in) Bd.pre
  have hown : s_.vm.findClass RX1 = some mid.cls := findClass_of_methodNamed Bd.named
  have hlocks := Bd.notSynchronized
  have hl := lv_entry ([.int v_, .int lo_, .int hi_]) (n := 3) (Nat.le_of_ble_eq_true rfl)
  rw [lg_entry_eq]
  generalize (lg_sl ([.int v_, .int lo_, .int hi_]) ++ List.replicate (3 - (lg_sl ([.int v_, .int lo_, .int hi_])).length) Slot.unset).toArray = ls at hl ⊢
  have hl : lv_has ls 3 [(0, .int v_), (1, .int lo_), (2, .int hi_)] := hl
  refine lv_iload_n hx hb_ dX1_in_0 rfl (lv_at hl 0 rfl) ?_
  refine lv_iload_n hx hb_ dX1_in_1 rfl (lv_at hl 1 rfl) ?_
  refine lv_icmp_lt (tgt := 14) hx hb_ dX1_in_2 (by decide) (fun c_2 => ?_) (fun c_2 => ?_)
  · skip
    refine lv_iconst (v := 0) hx hb_ dX1_in_14 (by decide) ?_
    exact W.zret (v := 0) (ty := .boolean) hx hb_ hr rfl (fun t_ ht hW => ⟨_, rfl, (cif_f (fun h_ => h_.1 c_2)).symm, ht⟩) (fun q_ h_ => by cases h_) dX1_in_15
  · skip
    refine lv_iload_n hx hb_ dX1_in_5 rfl (lv_at hl 0 rfl) ?_
    refine lv_iload_n hx hb_ dX1_in_6 rfl (lv_at hl 2 rfl) ?_
    refine lv_icmp_gt (tgt := 14) hx hb_ dX1_in_7 (by decide) (fun c_7 => ?_) (fun c_7 => ?_)
    · skip
      refine lv_iconst (v := 0) hx hb_ dX1_in_14 (by decide) ?_
      exact W.zret (v := 0) (ty := .boolean) hx hb_ hr rfl (fun t_ ht hW => ⟨_, rfl, (cif_f (fun h_ => h_.2 c_7)).symm, ht⟩) (fun q_ h_ => by cases h_) dX1_in_15
    · skip
      refine lv_iconst (v := 1) hx hb_ dX1_in_10 (by decide) ?_
      refine lv_goto (tgt := 15) hx hb_ dX1_in_11 (by decide) ?_
      exact W.zret (v := 1) (ty := .boolean) hx hb_ hr rfl (fun t_ ht hW => ⟨_, rfl, (cif_t ⟨c_2, c_7⟩).symm, ht⟩) (fun q_ h_ => by cases h_) dX1_in_15
set_option maxHeartbeats 4000000 in
set_option maxRecDepth 100000 in
theorem c_X1_isPlayer (l : Launch) (p_ : Int32) : Met l yX1_isPlayer wsX1_isPlayer rmX1_isPlayer (va_Pc [.int p_] (pN)) (vp_Si (fun r_ => r_ = cif (vp_in p_ 6) 1 0)) 0 0 (fun _ => False) := by
  refine Met.ofW (cc := cX1_isPlayer) (maxL := 1) (ret := (some .boolean)) (by decide) rfl ?_
  intro pr env s_ mid args below meth cod s₁ Bd hml hv
  obtain ⟨rfl, -⟩ := hv
  have hx := Bd.exec
  have hb_ := Bd.bytes
  have hr := Bd.returns
  have hts := atoms_spec (ws := wsX1_isPlayer) Bd.pre
  have hown : s_.vm.findClass RX1 = some mid.cls := findClass_of_methodNamed Bd.named
  have hlocks := Bd.notSynchronized
  have hl := lv_entry ([.int p_]) (n := 1) (Nat.le_of_ble_eq_true rfl)
  rw [lg_entry_eq]
  generalize (lg_sl ([.int p_]) ++ List.replicate (1 - (lg_sl ([.int p_])).length) Slot.unset).toArray = ls at hl ⊢
  have hl : lv_has ls 1 [(0, .int p_)] := hl
  refine lv_iload_n hx hb_ dX1_isPlayer_0 rfl (lv_at hl 0 rfl) ?_
  refine lv_iconst (v := 0) hx hb_ dX1_isPlayer_1 (by decide) ?_
  refine lv_iconst (v := 5) hx hb_ dX1_isPlayer_2 (by decide) ?_
  refine vp_callSi (W.runS (As := [.int p_, .int 0, .int 5]) (rest := []) ⟨hx, hb_, hml, hown, hts⟩ (c_X1_in l p_ 0 5) (va_cwS 3 hts gX1_isPlayer_X1_in rfl rfl rfl (by decide +kernel) ⟨Nat.le_of_ble_eq_true rfl, Nat.le_of_ble_eq_true rfl⟩) (pN_S) rfl rfl hl.1 rfl (lv_room (Nat.le_of_ble_eq_true rfl)) dX1_isPlayer_3 ⟨Nat.zero_le _, Nat.zero_le _⟩) (fun r_3 h_3 => ?_)
  exact W.zret (v := r_3) (ty := .boolean) hx hb_ hr (by rw [h_3]; exact cif_nar) (fun t_ ht hW => ⟨_, rfl, by rw [h_3]; exact cif_iff (inm_iff (by decide)), ht⟩) (fun q_ h_ => by cases h_) dX1_isPlayer_6
set_option maxHeartbeats 4000000 in
set_option maxRecDepth 100000 in
theorem c_X1_isCostume (l : Launch) (c_ : Int32) : Met l yX1_isCostume wsX1_isCostume rmX1_isCostume (va_Pc [.int c_] (pN)) (vp_Si (fun r_ => r_ = cif (vp_in c_ 8) 1 0)) 0 0 (fun _ => False) := by
  refine Met.ofW (cc := cX1_isCostume) (maxL := 1) (ret := (some .boolean)) (by decide) rfl ?_
  intro pr env s_ mid args below meth cod s₁ Bd hml hv
  obtain ⟨rfl, -⟩ := hv
  have hx := Bd.exec
  have hb_ := Bd.bytes
  have hr := Bd.returns
  have hts := atoms_spec (ws := wsX1_isCostume) Bd.pre
  have hown : s_.vm.findClass RX1 = some mid.cls := findClass_of_methodNamed Bd.named
  have hlocks := Bd.notSynchronized
  have hl := lv_entry ([.int c_]) (n := 1) (Nat.le_of_ble_eq_true rfl)
  rw [lg_entry_eq]
  generalize (lg_sl ([.int c_]) ++ List.replicate (1 - (lg_sl ([.int c_])).length) Slot.unset).toArray = ls at hl ⊢
  have hl : lv_has ls 1 [(0, .int c_)] := hl
  refine lv_iload_n hx hb_ dX1_isCostume_0 rfl (lv_at hl 0 rfl) ?_
  refine lv_iconst (v := 0) hx hb_ dX1_isCostume_1 (by decide) ?_
  refine lv_bipush (v := 7) hx hb_ dX1_isCostume_2 (by decide) ?_
  refine vp_callSi (W.runS (As := [.int c_, .int 0, .int 7]) (rest := []) ⟨hx, hb_, hml, hown, hts⟩ (c_X1_in l c_ 0 7) (va_cwS 3 hts gX1_isCostume_X1_in rfl rfl rfl (by decide +kernel) ⟨Nat.le_of_ble_eq_true rfl, Nat.le_of_ble_eq_true rfl⟩) (pN_S) rfl rfl hl.1 rfl (lv_room (Nat.le_of_ble_eq_true rfl)) dX1_isCostume_4 ⟨Nat.zero_le _, Nat.zero_le _⟩) (fun r_4 h_4 => ?_)
  exact W.zret (v := r_4) (ty := .boolean) hx hb_ hr (by rw [h_4]; exact cif_nar) (fun t_ ht hW => ⟨_, rfl, by rw [h_4]; exact cif_iff (inm_iff (by decide)), ht⟩) (fun q_ h_ => by cases h_) dX1_isCostume_7
set_option maxHeartbeats 4000000 in
set_option maxRecDepth 100000 in
theorem c_X1_isCue (l : Launch) (D : va_G) (cI : ClassId) (y_ : Nat) (b_ : Nat → Nat) (S : ST) (tq : Int32) (q_ : Int32) (B : Nat) (hI_ : Inv B S) : Met l yX1_isCue wsX1_isCue rmX1_isCue (va_Pc [.ref y_, .int q_] (pR D (tyM cI) (wM cI y_ b_ S tq))) (vp_Si (fun r_ => r_ = cif (vp_in q_ (many S)) 1 0)) 0 0 (fun _ => False) := by
  refine Met.ofW (cc := cX1_isCue) (maxL := 2) (ret := (some .boolean)) (by decide) rfl ?_
  intro pr env s_ mid args below meth cod s₁ Bd hml hv
  obtain ⟨rfl, hP, hK_⟩ := hv
  have hx := Bd.exec
  have hb_ := Bd.bytes
  have hr := Bd.returns
  have hts := atoms_spec (ws := wsX1_isCue) Bd.pre
  have hown : s_.vm.findClass RX1 = some mid.cls := findClass_of_methodNamed Bd.named
  have hlocks := Bd.notSynchronized
  have hin : ∀ w_ ∈ wsX10, w_ ∈ wsX1_isCue := fun _ h_ => List.mem_cons_of_mem _ (List.mem_append_right _ h_)
  have hl := lv_entry ([.ref y_, .int q_]) (n := 2) (Nat.le_of_ble_eq_true rfl)
  rw [lg_entry_eq]
  generalize (lg_sl ([.ref y_, .int q_]) ++ List.replicate (2 - (lg_sl ([.ref y_, .int q_])).length) Slot.unset).toArray = ls at hl ⊢
  have hl : lv_has ls 2 [(0, .ref y_), (1, .int q_)] := hl
  refine lv_iload_n hx hb_ dX1_isCue_0 rfl (lv_at hl 1 rfl) ?_
  refine lv_iconst (v := 0) hx hb_ dX1_isCue_1 (by decide) ?_
  refine lv_aload_n hx hb_ dX1_isCue_2 rfl (lv_at hl 0 rfl) ?_
  have hf60 := hts (.fieldLink RX1 60 "ClockmaskModel" "many" "I") (by decide +kernel)
  refine va_get (D := D) (ci := 1) (v := .int (S 10 0)) (C := RX1) (T := TX1) (N := 18) hx hb_ hts hin hown hK_ hP 0 rfl rfl 10 (by decide) hf60 (fun _ h9 => h9) rfl dX1_isCue_3 ?_
  refine lv_iconst (v := 1) hx hb_ dX1_isCue_6 (by decide) ?_
  refine lv_isub hx hb_ dX1_isCue_7 ?_
  refine vp_callSi (W.runS (As := [.int q_, .int 0, .int ((S 10 0) - 1)]) (rest := []) ⟨hx, hb_, hml, hown, hts⟩ (c_X1_in l q_ 0 ((S 10 0) - 1)) (va_cwS 3 hts gX1_isCue_X1_in rfl rfl rfl (by decide +kernel) ⟨Nat.le_of_ble_eq_true rfl, Nat.le_of_ble_eq_true rfl⟩) (pN_S) rfl rfl hl.1 rfl (lv_room (Nat.le_of_ble_eq_true rfl)) dX1_isCue_8 ⟨Nat.zero_le _, Nat.zero_le _⟩) (fun r_8 h_8 => ?_)
  exact W.zret (v := r_8) (ty := .boolean) hx hb_ hr (by rw [h_8]; exact cif_nar) (fun t_ ht hW => ⟨_, rfl, by rw [h_8]; exact cif_iff (isQ_iff hI_.me hI_.m24), ht⟩) (fun q_ h_ => by cases h_) dX1_isCue_11
set_option maxHeartbeats 4000000 in
set_option maxRecDepth 100000 in
theorem c_X1_ownerOf (l : Launch) (D : va_G) (cI : ClassId) (y_ : Nat) (b_ : Nat → Nat) (S : ST) (tq : Int32) (c_ : Int32) : Met l yX1_ownerOf wsX1_ownerOf rmX1_ownerOf (va_Pc [.ref y_, .int c_] (pR D (tyM cI) (wM cI y_ b_ S tq))) (vp_Si (fun r_ => r_ = lI (S 0) c_ 6)) 0 0 (fun _ => False) := by
  refine Met.ofW (cc := cX1_ownerOf) (maxL := 4) (ret := (some .int)) (by decide) rfl ?_
  intro pr env s_ mid args below meth cod s₁ Bd hml hv
  obtain ⟨rfl, hP, hK_⟩ := hv
  have hx := Bd.exec
  have hb_ := Bd.bytes
  have hr := Bd.returns
  have hts := atoms_spec (ws := wsX1_ownerOf) Bd.pre
  have hown : s_.vm.findClass RX1 = some mid.cls := findClass_of_methodNamed Bd.named
  have hlocks := Bd.notSynchronized
  have hin : ∀ w_ ∈ wsX10, w_ ∈ wsX1_ownerOf := fun _ h_ => List.mem_cons_of_mem _ (List.mem_append_right _ h_)
  have hl := lv_entry ([.ref y_, .int c_]) (n := 4) (Nat.le_of_ble_eq_true rfl)
  rw [lg_entry_eq]
  generalize (lg_sl ([.ref y_, .int c_]) ++ List.replicate (4 - (lg_sl ([.ref y_, .int c_])).length) Slot.unset).toArray = ls at hl ⊢
  have hl : lv_has ls 4 [(0, .ref y_), (1, .int c_)] := hl
  refine lv_iconst (v := (-1)) hx hb_ dX1_ownerOf_0 (by decide) ?_
  refine lv_istore_n (lv' := [(2, .int (-1)), (0, .ref y_), (1, .int c_)]) hx hb_ dX1_ownerOf_1 rfl hl (by decide) rfl (fun ls hl => ?_)
  refine lv_iconst (v := 0) hx hb_ dX1_ownerOf_2 (by decide) ?_
  refine lv_istore_n (lv' := [(3, .int 0), (2, .int (-1)), (0, .ref y_), (1, .int c_)]) hx hb_ dX1_ownerOf_3 rfl hl (by decide) rfl (fun ls hl => ?_)
  refine W_gen (fun R Q hR hQ => ?_)
  have loop_4 : ∀ (n_ : Nat) (j_ : Nat) (i2_ : Int32) (i3_ : Int32), (j_ ≤ 6) → (7 ≤ j_ + n_) → (i3_ = nI j_) → (i2_ = lI (S 0) c_ j_) → ∀ ls : Array Slot, lv_has ls 4 [(3, .int i3_), (2, .int i2_), (0, .ref y_), (1, .int c_)] → W pr l env R s_ mid ([.ref y_, .int c_] : List Value).toArray below meth cod s_.heap [] 0 0 Q (F0 mid 4 ls []) := by
    subst hR; subst hQ
    intro n_
    induction n_ with
    | zero =>
      intro j_ i2_ i3_ hj hn e3_ e2_ ls hl
      exfalso; omega
    | succ n_ ih_ =>
      intro j_ i2_ i3_ hj hn e3_ e2_ ls hl
      refine lv_iload_n hx hb_ dX1_ownerOf_4 rfl (lv_at hl 0 rfl) ?_
      refine lv_bipush (v := 6) hx hb_ dX1_ownerOf_5 (by decide) ?_
      refine lv_icmp_ge (tgt := 32) hx hb_ dX1_ownerOf_7 (by decide) (fun c_7 => ?_) (fun c_7 => ?_)
      · skip
        have h6 : 6 ≤ j_ := ge_of (N := 6) e3_ (by omega) rfl c_7
        refine lv_iload_n hx hb_ dX1_ownerOf_32 rfl (lv_at hl 1 rfl) ?_
        exact W.iret (v := i2_) hx hb_ hr (fun t_ ht hW => ⟨_, rfl, by rw [e2_, show j_ = 6 by omega], ht⟩) (fun q_ h_ => by cases h_) dX1_ownerOf_33
      · skip
        have h6 : j_ < 6 := lt_of (N := 6) e3_ (by omega) rfl c_7
        refine lv_aload_n hx hb_ dX1_ownerOf_10 rfl (lv_at hl 2 rfl) ?_
        have hf16 := hts (.fieldLink RX1 16 "ClockmaskModel" "costumes" "[I") (by decide +kernel)
        refine va_get (D := D) (ci := 1) (v := .ref (b_ 0)) (C := RX1) (T := TX1) (N := 18) hx hb_ hts hin hown hK_ hP 0 rfl rfl 2 (by decide) hf16 (fun _ h9 => h9) rfl dX1_ownerOf_11 ?_
        refine lv_iload_n hx hb_ dX1_ownerOf_14 rfl (lv_at hl 0 rfl) ?_
        refine va_iald (f := S 0) (n := 6) hx hb_ hK_ hP 3 0 rfl rfl (by rw [e3_]; exact vp_in_nI h6 (by decide)) dX1_ownerOf_15 ?_
        refine lv_iload_n hx hb_ dX1_ownerOf_16 rfl (lv_at hl 3 rfl) ?_
        refine lv_icmp_ne (tgt := 24) hx hb_ dX1_ownerOf_17 (by decide) (fun c_17 => ?_) (fun c_17 => ?_)
        · skip
          have c9_ : ¬ S 0 j_ = c_ := by rwa [e3_, nI_clamp (by omega)] at c_17
          refine lv_iload_n hx hb_ dX1_ownerOf_24 rfl (lv_at hl 1 rfl) ?_
          refine lv_istore_n (lv' := [(2, .int i2_), (3, .int i3_), (0, .ref y_), (1, .int c_)]) hx hb_ dX1_ownerOf_25 rfl hl (by decide) rfl (fun ls hl => ?_)
          refine lv_iinc (v := i3_ + 1) (lv' := [(3, .int (i3_ + 1)), (2, .int i2_), (0, .ref y_), (1, .int c_)]) hx hb_ dX1_ownerOf_26 hl (k := 1) rfl rfl (by decide) rfl (fun ls hl => ?_)
          refine lv_goto (tgt := 4) hx hb_ dX1_ownerOf_29 (by decide) ?_
          exact ih_ (j_ + 1) i2_ (i3_ + 1) (by omega) (by omega) (by rw [e3_]; exact nI_1 j_) (by rw [e2_, lI, cif_f c9_]) _ (lv_sub hl [0, 1, 2, 3] rfl)
        · skip
          have c9_ : S 0 j_ = c_ := by rwa [e3_, nI_clamp (by omega)] at c_17
          refine lv_iload_n hx hb_ dX1_ownerOf_20 rfl (lv_at hl 0 rfl) ?_
          refine lv_goto (tgt := 25) hx hb_ dX1_ownerOf_21 (by decide) ?_
          refine lv_istore_n (lv' := [(2, .int i3_), (3, .int i3_), (0, .ref y_), (1, .int c_)]) hx hb_ dX1_ownerOf_25 rfl hl (by decide) rfl (fun ls hl => ?_)
          refine lv_iinc (v := i3_ + 1) (lv' := [(3, .int (i3_ + 1)), (2, .int i3_), (0, .ref y_), (1, .int c_)]) hx hb_ dX1_ownerOf_26 hl (k := 1) rfl rfl (by decide) rfl (fun ls hl => ?_)
          refine lv_goto (tgt := 4) hx hb_ dX1_ownerOf_29 (by decide) ?_
          exact ih_ (j_ + 1) i3_ (i3_ + 1) (by omega) (by omega) (by rw [e3_]; exact nI_1 j_) (by rw [e3_, lI, cif_t c9_]) _ (lv_sub hl [0, 1, 2, 3] rfl)
  exact loop_4 7 0 (-1) 0 (Nat.zero_le _) (by omega) nI_0.symm rfl _ (lv_sub hl [0, 1, 2, 3] rfl)
set_option maxHeartbeats 4000000 in
set_option maxRecDepth 100000 in
theorem c_X1_wearer (l : Launch) (D : va_G) (cI : ClassId) (y_ : Nat) (b_ : Nat → Nat) (S : ST) (tq : Int32) (m_ : Int32) : Met l yX1_wearer wsX1_wearer rmX1_wearer (va_Pc [.ref y_, .int m_] (pR D (tyM cI) (wM cI y_ b_ S tq))) (vp_Si (fun r_ => r_ = lI (S 1) m_ 6)) 0 0 (fun _ => False) := by
  refine Met.ofW (cc := cX1_wearer) (maxL := 4) (ret := (some .int)) (by decide) rfl ?_
  intro pr env s_ mid args below meth cod s₁ Bd hml hv
  obtain ⟨rfl, hP, hK_⟩ := hv
  have hx := Bd.exec
  have hb_ := Bd.bytes
  have hr := Bd.returns
  have hts := atoms_spec (ws := wsX1_wearer) Bd.pre
  have hown : s_.vm.findClass RX1 = some mid.cls := findClass_of_methodNamed Bd.named
  have hlocks := Bd.notSynchronized
  have hin : ∀ w_ ∈ wsX10, w_ ∈ wsX1_wearer := fun _ h_ => List.mem_cons_of_mem _ (List.mem_append_right _ h_)
  have hl := lv_entry ([.ref y_, .int m_]) (n := 4) (Nat.le_of_ble_eq_true rfl)
  rw [lg_entry_eq]
  generalize (lg_sl ([.ref y_, .int m_]) ++ List.replicate (4 - (lg_sl ([.ref y_, .int m_])).length) Slot.unset).toArray = ls at hl ⊢
  have hl : lv_has ls 4 [(0, .ref y_), (1, .int m_)] := hl
  refine lv_iconst (v := (-1)) hx hb_ dX1_wearer_0 (by decide) ?_
  refine lv_istore_n (lv' := [(2, .int (-1)), (0, .ref y_), (1, .int m_)]) hx hb_ dX1_wearer_1 rfl hl (by decide) rfl (fun ls hl => ?_)
  refine lv_iconst (v := 0) hx hb_ dX1_wearer_2 (by decide) ?_
  refine lv_istore_n (lv' := [(3, .int 0), (2, .int (-1)), (0, .ref y_), (1, .int m_)]) hx hb_ dX1_wearer_3 rfl hl (by decide) rfl (fun ls hl => ?_)
  refine W_gen (fun R Q hR hQ => ?_)
  have loop_4 : ∀ (n_ : Nat) (j_ : Nat) (i2_ : Int32) (i3_ : Int32), (j_ ≤ 6) → (7 ≤ j_ + n_) → (i3_ = nI j_) → (i2_ = lI (S 1) m_ j_) → ∀ ls : Array Slot, lv_has ls 4 [(3, .int i3_), (2, .int i2_), (0, .ref y_), (1, .int m_)] → W pr l env R s_ mid ([.ref y_, .int m_] : List Value).toArray below meth cod s_.heap [] 0 0 Q (F0 mid 4 ls []) := by
    subst hR; subst hQ
    intro n_
    induction n_ with
    | zero =>
      intro j_ i2_ i3_ hj hn e3_ e2_ ls hl
      exfalso; omega
    | succ n_ ih_ =>
      intro j_ i2_ i3_ hj hn e3_ e2_ ls hl
      refine lv_iload_n hx hb_ dX1_wearer_4 rfl (lv_at hl 0 rfl) ?_
      refine lv_bipush (v := 6) hx hb_ dX1_wearer_5 (by decide) ?_
      refine lv_icmp_ge (tgt := 32) hx hb_ dX1_wearer_7 (by decide) (fun c_7 => ?_) (fun c_7 => ?_)
      · skip
        have h6 : 6 ≤ j_ := ge_of (N := 6) e3_ (by omega) rfl c_7
        refine lv_iload_n hx hb_ dX1_wearer_32 rfl (lv_at hl 1 rfl) ?_
        exact W.iret (v := i2_) hx hb_ hr (fun t_ ht hW => ⟨_, rfl, by rw [e2_, show j_ = 6 by omega], ht⟩) (fun q_ h_ => by cases h_) dX1_wearer_33
      · skip
        have h6 : j_ < 6 := lt_of (N := 6) e3_ (by omega) rfl c_7
        refine lv_aload_n hx hb_ dX1_wearer_10 rfl (lv_at hl 2 rfl) ?_
        have hf7 := hts (.fieldLink RX1 7 "ClockmaskModel" "masks" "[I") (by decide +kernel)
        refine va_get (D := D) (ci := 1) (v := .ref (b_ 1)) (C := RX1) (T := TX1) (N := 18) hx hb_ hts hin hown hK_ hP 0 rfl rfl 0 (by decide) hf7 (fun _ h9 => h9) rfl dX1_wearer_11 ?_
        refine lv_iload_n hx hb_ dX1_wearer_14 rfl (lv_at hl 0 rfl) ?_
        refine va_iald (f := S 1) (n := 6) hx hb_ hK_ hP 1 0 rfl rfl (by rw [e3_]; exact vp_in_nI h6 (by decide)) dX1_wearer_15 ?_
        refine lv_iload_n hx hb_ dX1_wearer_16 rfl (lv_at hl 3 rfl) ?_
        refine lv_icmp_ne (tgt := 24) hx hb_ dX1_wearer_17 (by decide) (fun c_17 => ?_) (fun c_17 => ?_)
        · skip
          have c9_ : ¬ S 1 j_ = m_ := by rwa [e3_, nI_clamp (by omega)] at c_17
          refine lv_iload_n hx hb_ dX1_wearer_24 rfl (lv_at hl 1 rfl) ?_
          refine lv_istore_n (lv' := [(2, .int i2_), (3, .int i3_), (0, .ref y_), (1, .int m_)]) hx hb_ dX1_wearer_25 rfl hl (by decide) rfl (fun ls hl => ?_)
          refine lv_iinc (v := i3_ + 1) (lv' := [(3, .int (i3_ + 1)), (2, .int i2_), (0, .ref y_), (1, .int m_)]) hx hb_ dX1_wearer_26 hl (k := 1) rfl rfl (by decide) rfl (fun ls hl => ?_)
          refine lv_goto (tgt := 4) hx hb_ dX1_wearer_29 (by decide) ?_
          exact ih_ (j_ + 1) i2_ (i3_ + 1) (by omega) (by omega) (by rw [e3_]; exact nI_1 j_) (by rw [e2_, lI, cif_f c9_]) _ (lv_sub hl [0, 1, 2, 3] rfl)
        · skip
          have c9_ : S 1 j_ = m_ := by rwa [e3_, nI_clamp (by omega)] at c_17
          refine lv_iload_n hx hb_ dX1_wearer_20 rfl (lv_at hl 0 rfl) ?_
          refine lv_goto (tgt := 25) hx hb_ dX1_wearer_21 (by decide) ?_
          refine lv_istore_n (lv' := [(2, .int i3_), (3, .int i3_), (0, .ref y_), (1, .int m_)]) hx hb_ dX1_wearer_25 rfl hl (by decide) rfl (fun ls hl => ?_)
          refine lv_iinc (v := i3_ + 1) (lv' := [(3, .int (i3_ + 1)), (2, .int i3_), (0, .ref y_), (1, .int m_)]) hx hb_ dX1_wearer_26 hl (k := 1) rfl rfl (by decide) rfl (fun ls hl => ?_)
          refine lv_goto (tgt := 4) hx hb_ dX1_wearer_29 (by decide) ?_
          exact ih_ (j_ + 1) i3_ (i3_ + 1) (by omega) (by omega) (by rw [e3_]; exact nI_1 j_) (by rw [e3_, lI, cif_t c9_]) _ (lv_sub hl [0, 1, 2, 3] rfl)
  exact loop_4 7 0 (-1) 0 (Nat.zero_le _) (by omega) nI_0.symm rfl _ (lv_sub hl [0, 1, 2, 3] rfl)
set_option maxHeartbeats 4000000 in
set_option maxRecDepth 100000 in
theorem c_X1_canBeDone (l : Launch) (D : va_G) (cI : ClassId) (y_ : Nat) (b_ : Nat → Nat) (S : ST) (tq : Int32) (q_ : Int32) (hq : vp_in q_ 24) (hc_ : cueOK S q_.toNatClampNeg) (hm_ : mOK S q_.toNatClampNeg) : Met l yX1_canBeDone wsX1_canBeDone rmX1_canBeDone (va_Pc [.ref y_, .int q_] (pR D (tyM cI) (wM cI y_ b_ S tq))) (vp_Si (fun r_ => r_ = cif (done S q_.toNatClampNeg) 1 0)) 0 0 (fun _ => False) := by
  refine Met.ofW (cc := cX1_canBeDone) (maxL := 4) (ret := (some .boolean)) (by decide) rfl ?_
  intro pr env s_ mid args below meth cod s₁ Bd hml hv
  obtain ⟨rfl, hP, hK_⟩ := hv
  have hx := Bd.exec
  have hb_ := Bd.bytes
  have hr := Bd.returns
  have hts := atoms_spec (ws := wsX1_canBeDone) Bd.pre
  have hown : s_.vm.findClass RX1 = some mid.cls := findClass_of_methodNamed Bd.named
  have hlocks := Bd.notSynchronized
  have hin : ∀ w_ ∈ wsX10, w_ ∈ wsX1_canBeDone := fun _ h_ => List.mem_cons_of_mem _ (List.mem_append_right _ h_)
  have hl := lv_entry ([.ref y_, .int q_]) (n := 4) (Nat.le_of_ble_eq_true rfl)
  rw [lg_entry_eq]
  generalize (lg_sl ([.ref y_, .int q_]) ++ List.replicate (4 - (lg_sl ([.ref y_, .int q_])).length) Slot.unset).toArray = ls at hl ⊢
  have hl : lv_has ls 4 [(0, .ref y_), (1, .int q_)] := hl
  obtain ⟨hk, hp, ho, hw, hs⟩ := hc_
  obtain ⟨hm2, hm4⟩ := hm_
  refine lv_aload_n hx hb_ dX1_canBeDone_0 rfl (lv_at hl 0 rfl) ?_
  have hf25 := hts (.fieldLink RX1 25 "ClockmaskModel" "players" "[I") (by decide +kernel)
  refine va_get (D := D) (ci := 1) (v := .ref (b_ 5)) (C := RX1) (T := TX1) (N := 18) hx hb_ hts hin hown hK_ hP 0 rfl rfl 5 (by decide) hf25 (fun _ h9 => h9) rfl dX1_canBeDone_1 ?_
  refine lv_iload_n hx hb_ dX1_canBeDone_4 rfl (lv_at hl 1 rfl) ?_
  refine va_iald (f := S 5) (n := 24) hx hb_ hK_ hP 6 0 rfl rfl (by assumption) dX1_canBeDone_5 ?_
  refine lv_istore_n (lv' := [(2, .int (S 5 q_.toNatClampNeg)), (0, .ref y_), (1, .int q_)]) hx hb_ dX1_canBeDone_6 rfl hl (by decide) rfl (fun ls hl => ?_)
  refine lv_aload_n hx hb_ dX1_canBeDone_7 rfl (lv_at hl 1 rfl) ?_
  have hf28 := hts (.fieldLink RX1 28 "ClockmaskModel" "others" "[I") (by decide +kernel)
  refine va_get (D := D) (ci := 1) (v := .ref (b_ 6)) (C := RX1) (T := TX1) (N := 18) hx hb_ hts hin hown hK_ hP 0 rfl rfl 6 (by decide) hf28 (fun _ h9 => h9) rfl dX1_canBeDone_8 ?_
  refine lv_iload_n hx hb_ dX1_canBeDone_11 rfl (lv_at hl 2 rfl) ?_
  refine va_iald (f := S 6) (n := 24) hx hb_ hK_ hP 7 0 rfl rfl (by assumption) dX1_canBeDone_12 ?_
  refine lv_istore_n (lv' := [(3, .int (S 6 q_.toNatClampNeg)), (2, .int (S 5 q_.toNatClampNeg)), (0, .ref y_), (1, .int q_)]) hx hb_ dX1_canBeDone_13 rfl hl (by decide) rfl (fun ls hl => ?_)
  refine lv_aload_n hx hb_ dX1_canBeDone_14 rfl (lv_at hl 2 rfl) ?_
  have hf22 := hts (.fieldLink RX1 22 "ClockmaskModel" "kinds" "[I") (by decide +kernel)
  refine va_get (D := D) (ci := 1) (v := .ref (b_ 4)) (C := RX1) (T := TX1) (N := 18) hx hb_ hts hin hown hK_ hP 0 rfl rfl 4 (by decide) hf22 (fun _ h9 => h9) rfl dX1_canBeDone_15 ?_
  refine lv_iload_n hx hb_ dX1_canBeDone_18 rfl (lv_at hl 3 rfl) ?_
  refine va_iald (f := S 4) (n := 24) hx hb_ hK_ hP 5 0 rfl rfl (by assumption) dX1_canBeDone_19 ?_
  refine lv_if_ne (tgt := 48) hx hb_ dX1_canBeDone_20 (by decide) (fun c_20 => ?_) (fun c_20 => ?_)
  · skip
    refine lv_aload_n hx hb_ dX1_canBeDone_48 rfl (lv_at hl 2 rfl) ?_
    refine va_get (D := D) (ci := 1) (v := .ref (b_ 4)) (C := RX1) (T := TX1) (N := 18) hx hb_ hts hin hown hK_ hP 0 rfl rfl 4 (by decide) hf22 (fun _ h9 => h9) rfl dX1_canBeDone_49 ?_
    refine lv_iload_n hx hb_ dX1_canBeDone_52 rfl (lv_at hl 3 rfl) ?_
    refine va_iald (f := S 4) (n := 24) hx hb_ hK_ hP 5 0 rfl rfl (by assumption) dX1_canBeDone_53 ?_
    refine lv_iconst (v := 1) hx hb_ dX1_canBeDone_54 (by decide) ?_
    refine lv_icmp_ne (tgt := 74) hx hb_ dX1_canBeDone_55 (by decide) (fun c_55 => ?_) (fun c_55 => ?_)
    · skip
      refine lv_aload_n hx hb_ dX1_canBeDone_74 rfl (lv_at hl 2 rfl) ?_
      refine va_get (D := D) (ci := 1) (v := .ref (b_ 4)) (C := RX1) (T := TX1) (N := 18) hx hb_ hts hin hown hK_ hP 0 rfl rfl 4 (by decide) hf22 (fun _ h9 => h9) rfl dX1_canBeDone_75 ?_
      refine lv_iload_n hx hb_ dX1_canBeDone_78 rfl (lv_at hl 3 rfl) ?_
      refine va_iald (f := S 4) (n := 24) hx hb_ hK_ hP 5 0 rfl rfl (by assumption) dX1_canBeDone_79 ?_
      refine lv_iconst (v := 2) hx hb_ dX1_canBeDone_80 (by decide) ?_
      refine lv_icmp_ne (tgt := 109) hx hb_ dX1_canBeDone_81 (by decide) (fun c_81 => ?_) (fun c_81 => ?_)
      · skip
        refine lv_aload_n hx hb_ dX1_canBeDone_109 rfl (lv_at hl 2 rfl) ?_
        refine va_get (D := D) (ci := 1) (v := .ref (b_ 4)) (C := RX1) (T := TX1) (N := 18) hx hb_ hts hin hown hK_ hP 0 rfl rfl 4 (by decide) hf22 (fun _ h9 => h9) rfl dX1_canBeDone_110 ?_
        refine lv_iload_n hx hb_ dX1_canBeDone_113 rfl (lv_at hl 3 rfl) ?_
        refine va_iald (f := S 4) (n := 24) hx hb_ hK_ hP 5 0 rfl rfl (by assumption) dX1_canBeDone_114 ?_
        refine lv_iconst (v := 3) hx hb_ dX1_canBeDone_115 (by decide) ?_
        refine lv_icmp_ne (tgt := 135) hx hb_ dX1_canBeDone_116 (by decide) (fun c_116 => ?_) (fun c_116 => ?_)
        · skip
          have k4_ := kind4 hk c_20 c_55 c_81 c_116
          refine lv_aload_n hx hb_ dX1_canBeDone_135 rfl (lv_at hl 2 rfl) ?_
          have hf13 := hts (.fieldLink RX1 13 "ClockmaskModel" "stage" "[I") (by decide +kernel)
          refine va_get (D := D) (ci := 1) (v := .ref (b_ 2)) (C := RX1) (T := TX1) (N := 18) hx hb_ hts hin hown hK_ hP 0 rfl rfl 1 (by decide) hf13 (fun _ h9 => h9) rfl dX1_canBeDone_136 ?_
          refine lv_iload_n hx hb_ dX1_canBeDone_139 rfl (lv_at hl 1 rfl) ?_
          refine va_iald (f := S 2) (n := 6) hx hb_ hK_ hP 2 0 rfl rfl hp dX1_canBeDone_140 ?_
          refine lv_iconst (v := 1) hx hb_ dX1_canBeDone_141 (by decide) ?_
          refine lv_icmp_ne (tgt := 179) hx hb_ dX1_canBeDone_142 (by decide) (fun c_142 => ?_) (fun c_142 => ?_)
          · skip
            refine lv_iconst (v := 0) hx hb_ dX1_canBeDone_179 (by decide) ?_
            exact W.zret (v := 0) (ty := .boolean) hx hb_ hr rfl (fun t_ ht hW => ⟨_, rfl, by rw [done4 c_20 c_55 c_81 c_116]; exact (cif_f (fun h_ => hs.elim h_.1 c_142)).symm, ht⟩) (fun q_ h_ => by cases h_) dX1_canBeDone_180
          · skip
            refine lv_aload_n hx hb_ dX1_canBeDone_145 rfl (lv_at hl 2 rfl) ?_
            refine va_get (D := D) (ci := 1) (v := .ref (b_ 2)) (C := RX1) (T := TX1) (N := 18) hx hb_ hts hin hown hK_ hP 0 rfl rfl 1 (by decide) hf13 (fun _ h9 => h9) rfl dX1_canBeDone_146 ?_
            refine lv_iload_n hx hb_ dX1_canBeDone_149 rfl (lv_at hl 0 rfl) ?_
            refine va_iald (f := S 2) (n := 6) hx hb_ hK_ hP 2 0 rfl rfl ((hm4 k4_).1) dX1_canBeDone_150 ?_
            refine lv_iconst (v := 1) hx hb_ dX1_canBeDone_151 (by decide) ?_
            refine lv_icmp_ne (tgt := 179) hx hb_ dX1_canBeDone_152 (by decide) (fun c_152 => ?_) (fun c_152 => ?_)
            · skip
              refine lv_iconst (v := 0) hx hb_ dX1_canBeDone_179 (by decide) ?_
              exact W.zret (v := 0) (ty := .boolean) hx hb_ hr rfl (fun t_ ht hW => ⟨_, rfl, by rw [done4 c_20 c_55 c_81 c_116]; exact (cif_f (fun h_ => (hm4 k4_).2.elim h_.2.1 c_152)).symm, ht⟩) (fun q_ h_ => by cases h_) dX1_canBeDone_180
            · skip
              refine lv_aload_n hx hb_ dX1_canBeDone_155 rfl (lv_at hl 2 rfl) ?_
              have hf7 := hts (.fieldLink RX1 7 "ClockmaskModel" "masks" "[I") (by decide +kernel)
              refine va_get (D := D) (ci := 1) (v := .ref (b_ 1)) (C := RX1) (T := TX1) (N := 18) hx hb_ hts hin hown hK_ hP 0 rfl rfl 0 (by decide) hf7 (fun _ h9 => h9) rfl dX1_canBeDone_156 ?_
              refine lv_iload_n hx hb_ dX1_canBeDone_159 rfl (lv_at hl 1 rfl) ?_
              refine va_iald (f := S 1) (n := 6) hx hb_ hK_ hP 1 0 rfl rfl hp dX1_canBeDone_160 ?_
              refine lv_iconst (v := (-1)) hx hb_ dX1_canBeDone_161 (by decide) ?_
              refine lv_icmp_ne (tgt := 175) hx hb_ dX1_canBeDone_162 (by decide) (fun c_162 => ?_) (fun c_162 => ?_)
              · skip
                refine lv_iconst (v := 1) hx hb_ dX1_canBeDone_175 (by decide) ?_
                refine lv_goto (tgt := 180) hx hb_ dX1_canBeDone_176 (by decide) ?_
                exact W.zret (v := 1) (ty := .boolean) hx hb_ hr rfl (fun t_ ht hW => ⟨_, rfl, by rw [done4 c_20 c_55 c_81 c_116]; exact (cif_t ⟨by rw [c_142]; decide, by rw [c_152]; decide, Or.inl c_162⟩).symm, ht⟩) (fun q_ h_ => by cases h_) dX1_canBeDone_180
              · skip
                refine lv_aload_n hx hb_ dX1_canBeDone_165 rfl (lv_at hl 2 rfl) ?_
                refine va_get (D := D) (ci := 1) (v := .ref (b_ 1)) (C := RX1) (T := TX1) (N := 18) hx hb_ hts hin hown hK_ hP 0 rfl rfl 0 (by decide) hf7 (fun _ h9 => h9) rfl dX1_canBeDone_166 ?_
                refine lv_iload_n hx hb_ dX1_canBeDone_169 rfl (lv_at hl 0 rfl) ?_
                refine va_iald (f := S 1) (n := 6) hx hb_ hK_ hP 1 0 rfl rfl ((hm4 k4_).1) dX1_canBeDone_170 ?_
                refine lv_iconst (v := (-1)) hx hb_ dX1_canBeDone_171 (by decide) ?_
                refine lv_icmp_eq (tgt := 179) hx hb_ dX1_canBeDone_172 (by decide) (fun c_172 => ?_) (fun c_172 => ?_)
                · skip
                  refine lv_iconst (v := 0) hx hb_ dX1_canBeDone_179 (by decide) ?_
                  exact W.zret (v := 0) (ty := .boolean) hx hb_ hr rfl (fun t_ ht hW => ⟨_, rfl, by rw [done4 c_20 c_55 c_81 c_116]; exact (cif_f (fun h_ => h_.2.2.elim (fun z_ => z_ c_162) (fun z_ => z_ c_172))).symm, ht⟩) (fun q_ h_ => by cases h_) dX1_canBeDone_180
                · skip
                  refine lv_iconst (v := 1) hx hb_ dX1_canBeDone_175 (by decide) ?_
                  refine lv_goto (tgt := 180) hx hb_ dX1_canBeDone_176 (by decide) ?_
                  exact W.zret (v := 1) (ty := .boolean) hx hb_ hr rfl (fun t_ ht hW => ⟨_, rfl, by rw [done4 c_20 c_55 c_81 c_116]; exact (cif_t ⟨by rw [c_142]; decide, by rw [c_152]; decide, Or.inr c_172⟩).symm, ht⟩) (fun q_ h_ => by cases h_) dX1_canBeDone_180
        · skip
          refine lv_aload_n hx hb_ dX1_canBeDone_119 rfl (lv_at hl 2 rfl) ?_
          have hf7 := hts (.fieldLink RX1 7 "ClockmaskModel" "masks" "[I") (by decide +kernel)
          refine va_get (D := D) (ci := 1) (v := .ref (b_ 1)) (C := RX1) (T := TX1) (N := 18) hx hb_ hts hin hown hK_ hP 0 rfl rfl 0 (by decide) hf7 (fun _ h9 => h9) rfl dX1_canBeDone_120 ?_
          refine lv_iload_n hx hb_ dX1_canBeDone_123 rfl (lv_at hl 1 rfl) ?_
          refine va_iald (f := S 1) (n := 6) hx hb_ hK_ hP 1 0 rfl rfl hp dX1_canBeDone_124 ?_
          refine lv_iconst (v := (-1)) hx hb_ dX1_canBeDone_125 (by decide) ?_
          refine lv_icmp_eq (tgt := 133) hx hb_ dX1_canBeDone_126 (by decide) (fun c_126 => ?_) (fun c_126 => ?_)
          · skip
            refine lv_iconst (v := 0) hx hb_ dX1_canBeDone_133 (by decide) ?_
            exact W.zret (v := 0) (ty := .boolean) hx hb_ hr rfl (fun t_ ht hW => ⟨_, rfl, by rw [done3 c_116]; exact (cif_f (fun h_ => h_ c_126)).symm, ht⟩) (fun q_ h_ => by cases h_) dX1_canBeDone_134
          · skip
            refine lv_iconst (v := 1) hx hb_ dX1_canBeDone_129 (by decide) ?_
            refine lv_goto (tgt := 134) hx hb_ dX1_canBeDone_130 (by decide) ?_
            exact W.zret (v := 1) (ty := .boolean) hx hb_ hr rfl (fun t_ ht hW => ⟨_, rfl, by rw [done3 c_116]; exact (cif_t c_126).symm, ht⟩) (fun q_ h_ => by cases h_) dX1_canBeDone_134
      · skip
        refine lv_aload_n hx hb_ dX1_canBeDone_84 rfl (lv_at hl 2 rfl) ?_
        have hf7 := hts (.fieldLink RX1 7 "ClockmaskModel" "masks" "[I") (by decide +kernel)
        refine va_get (D := D) (ci := 1) (v := .ref (b_ 1)) (C := RX1) (T := TX1) (N := 18) hx hb_ hts hin hown hK_ hP 0 rfl rfl 0 (by decide) hf7 (fun _ h9 => h9) rfl dX1_canBeDone_85 ?_
        refine lv_iload_n hx hb_ dX1_canBeDone_88 rfl (lv_at hl 1 rfl) ?_
        refine va_iald (f := S 1) (n := 6) hx hb_ hK_ hP 1 0 rfl rfl hp dX1_canBeDone_89 ?_
        refine lv_iconst (v := (-1)) hx hb_ dX1_canBeDone_90 (by decide) ?_
        refine lv_icmp_ne (tgt := 107) hx hb_ dX1_canBeDone_91 (by decide) (fun c_91 => ?_) (fun c_91 => ?_)
        · skip
          refine lv_iconst (v := 0) hx hb_ dX1_canBeDone_107 (by decide) ?_
          exact W.zret (v := 0) (ty := .boolean) hx hb_ hr rfl (fun t_ ht hW => ⟨_, rfl, by rw [done2 c_81]; exact (cif_f (fun h_ => c_91 h_.1)).symm, ht⟩) (fun q_ h_ => by cases h_) dX1_canBeDone_108
        · skip
          refine lv_aload_n hx hb_ dX1_canBeDone_94 rfl (lv_at hl 2 rfl) ?_
          refine lv_iload_n hx hb_ dX1_canBeDone_95 rfl (lv_at hl 0 rfl) ?_
          refine vp_callSi (W.runV (As := [.int (S 6 q_.toNatClampNeg)]) (rest := []) ⟨hx, hb_, hml, hown, hts⟩ (c_X1_wearer l D cI y_ b_ S tq (S 6 q_.toNatClampNeg)) (cwV 1 hts gX1_canBeDone_X1_wearer rfl rfl rfl (by decide +kernel) ⟨Nat.le_of_ble_eq_true rfl, Nat.le_of_ble_eq_true rfl⟩) (pR_V (ci := 1) hP hK_ rfl rfl) rfl rfl hl.1 rfl (lv_room (Nat.le_of_ble_eq_true rfl)) dX1_canBeDone_96 ⟨Nat.zero_le _, Nat.zero_le _⟩) (fun r_96 h_96 => ?_)
          subst h_96
          refine lv_iconst (v := (-1)) hx hb_ dX1_canBeDone_99 (by decide) ?_
          refine lv_icmp_ne (tgt := 107) hx hb_ dX1_canBeDone_100 (by decide) (fun c_100 => ?_) (fun c_100 => ?_)
          · skip
            refine lv_iconst (v := 0) hx hb_ dX1_canBeDone_107 (by decide) ?_
            exact W.zret (v := 0) (ty := .boolean) hx hb_ hr rfl (fun t_ ht hW => ⟨_, rfl, by rw [done2 c_81]; exact (cif_f (fun h_ => c_100 ((hm2 c_81).trans h_.2))).symm, ht⟩) (fun q_ h_ => by cases h_) dX1_canBeDone_108
          · skip
            refine lv_iconst (v := 1) hx hb_ dX1_canBeDone_103 (by decide) ?_
            refine lv_goto (tgt := 108) hx hb_ dX1_canBeDone_104 (by decide) ?_
            exact W.zret (v := 1) (ty := .boolean) hx hb_ hr rfl (fun t_ ht hW => ⟨_, rfl, by rw [done2 c_81]; exact (cif_t ⟨c_91, (hm2 c_81).symm.trans c_100⟩).symm, ht⟩) (fun q_ h_ => by cases h_) dX1_canBeDone_108
    · skip
      refine lv_aload_n hx hb_ dX1_canBeDone_58 rfl (lv_at hl 2 rfl) ?_
      have hf13 := hts (.fieldLink RX1 13 "ClockmaskModel" "stage" "[I") (by decide +kernel)
      refine va_get (D := D) (ci := 1) (v := .ref (b_ 2)) (C := RX1) (T := TX1) (N := 18) hx hb_ hts hin hown hK_ hP 0 rfl rfl 1 (by decide) hf13 (fun _ h9 => h9) rfl dX1_canBeDone_59 ?_
      refine lv_iload_n hx hb_ dX1_canBeDone_62 rfl (lv_at hl 1 rfl) ?_
      refine va_iald (f := S 2) (n := 6) hx hb_ hK_ hP 2 0 rfl rfl hp dX1_canBeDone_63 ?_
      refine lv_iconst (v := 1) hx hb_ dX1_canBeDone_64 (by decide) ?_
      refine lv_icmp_ne (tgt := 72) hx hb_ dX1_canBeDone_65 (by decide) (fun c_65 => ?_) (fun c_65 => ?_)
      · skip
        refine lv_iconst (v := 0) hx hb_ dX1_canBeDone_72 (by decide) ?_
        exact W.zret (v := 0) (ty := .boolean) hx hb_ hr rfl (fun t_ ht hW => ⟨_, rfl, by rw [done1 c_55]; exact (cif_f (fun h_ => hs.elim h_ c_65)).symm, ht⟩) (fun q_ h_ => by cases h_) dX1_canBeDone_73
      · skip
        refine lv_iconst (v := 1) hx hb_ dX1_canBeDone_68 (by decide) ?_
        refine lv_goto (tgt := 73) hx hb_ dX1_canBeDone_69 (by decide) ?_
        exact W.zret (v := 1) (ty := .boolean) hx hb_ hr rfl (fun t_ ht hW => ⟨_, rfl, by rw [done1 c_55]; exact (cif_t (by rw [c_65]; decide)).symm, ht⟩) (fun q_ h_ => by cases h_) dX1_canBeDone_73
  · skip
    refine lv_aload_n hx hb_ dX1_canBeDone_23 rfl (lv_at hl 2 rfl) ?_
    have hf13 := hts (.fieldLink RX1 13 "ClockmaskModel" "stage" "[I") (by decide +kernel)
    refine va_get (D := D) (ci := 1) (v := .ref (b_ 2)) (C := RX1) (T := TX1) (N := 18) hx hb_ hts hin hown hK_ hP 0 rfl rfl 1 (by decide) hf13 (fun _ h9 => h9) rfl dX1_canBeDone_24 ?_
    refine lv_iload_n hx hb_ dX1_canBeDone_27 rfl (lv_at hl 1 rfl) ?_
    refine va_iald (f := S 2) (n := 6) hx hb_ hK_ hP 2 0 rfl rfl hp dX1_canBeDone_28 ?_
    refine lv_if_ne (tgt := 46) hx hb_ dX1_canBeDone_29 (by decide) (fun c_29 => ?_) (fun c_29 => ?_)
    · skip
      refine lv_iconst (v := 0) hx hb_ dX1_canBeDone_46 (by decide) ?_
      exact W.zret (v := 0) (ty := .boolean) hx hb_ hr rfl (fun t_ ht hW => ⟨_, rfl, by rw [done0 c_20]; exact (cif_f (fun h_ => c_29 h_.1)).symm, ht⟩) (fun q_ h_ => by cases h_) dX1_canBeDone_47
    · skip
      refine lv_aload_n hx hb_ dX1_canBeDone_32 rfl (lv_at hl 2 rfl) ?_
      have hf16 := hts (.fieldLink RX1 16 "ClockmaskModel" "costumes" "[I") (by decide +kernel)
      refine va_get (D := D) (ci := 1) (v := .ref (b_ 0)) (C := RX1) (T := TX1) (N := 18) hx hb_ hts hin hown hK_ hP 0 rfl rfl 2 (by decide) hf16 (fun _ h9 => h9) rfl dX1_canBeDone_33 ?_
      refine lv_iload_n hx hb_ dX1_canBeDone_36 rfl (lv_at hl 1 rfl) ?_
      refine va_iald (f := S 0) (n := 6) hx hb_ hK_ hP 3 0 rfl rfl hp dX1_canBeDone_37 ?_
      refine lv_iconst (v := (-1)) hx hb_ dX1_canBeDone_38 (by decide) ?_
      refine lv_icmp_eq (tgt := 46) hx hb_ dX1_canBeDone_39 (by decide) (fun c_39 => ?_) (fun c_39 => ?_)
      · skip
        refine lv_iconst (v := 0) hx hb_ dX1_canBeDone_46 (by decide) ?_
        exact W.zret (v := 0) (ty := .boolean) hx hb_ hr rfl (fun t_ ht hW => ⟨_, rfl, by rw [done0 c_20]; exact (cif_f (fun h_ => h_.2 c_39)).symm, ht⟩) (fun q_ h_ => by cases h_) dX1_canBeDone_47
      · skip
        refine lv_iconst (v := 1) hx hb_ dX1_canBeDone_42 (by decide) ?_
        refine lv_goto (tgt := 47) hx hb_ dX1_canBeDone_43 (by decide) ?_
        exact W.zret (v := 1) (ty := .boolean) hx hb_ hr rfl (fun t_ ht hW => ⟨_, rfl, by rw [done0 c_20]; exact (cif_t ⟨c_29, c_39⟩).symm, ht⟩) (fun q_ h_ => by cases h_) dX1_canBeDone_47
set_option maxHeartbeats 4000000 in
set_option maxRecDepth 100000 in
theorem c_X1_isReady (l : Launch) (D : va_G) (cI : ClassId) (y_ : Nat) (b_ : Nat → Nat) (S : ST) (tq : Int32) (q_ : Int32) (hq : vp_in q_ 24) (hc_ : cueOK S q_.toNatClampNeg) (hm_ : mOK S q_.toNatClampNeg) : Met l yX1_isReady wsX1_isReady rmX1_isReady (va_Pc [.ref y_, .int q_] (pR D (tyM cI) (wM cI y_ b_ S tq))) (vp_Si (fun r_ => r_ = cif (cal S q_.toNatClampNeg) 1 0)) 0 0 (fun _ => False) := by
  refine Met.ofW (cc := cX1_isReady) (maxL := 3) (ret := (some .boolean)) (by decide) rfl ?_
  intro pr env s_ mid args below meth cod s₁ Bd hml hv
  obtain ⟨rfl, hP, hK_⟩ := hv
  have hx := Bd.exec
  have hb_ := Bd.bytes
  have hr := Bd.returns
  have hts := atoms_spec (ws := wsX1_isReady) Bd.pre
  have hown : s_.vm.findClass RX1 = some mid.cls := findClass_of_methodNamed Bd.named
  have hlocks := Bd.notSynchronized
  have hin : ∀ w_ ∈ wsX10, w_ ∈ wsX1_isReady := fun _ h_ => List.mem_cons_of_mem _ (List.mem_append_right _ h_)
  have hl := lv_entry ([.ref y_, .int q_]) (n := 3) (Nat.le_of_ble_eq_true rfl)
  rw [lg_entry_eq]
  generalize (lg_sl ([.ref y_, .int q_]) ++ List.replicate (3 - (lg_sl ([.ref y_, .int q_])).length) Slot.unset).toArray = ls at hl ⊢
  have hl : lv_has ls 3 [(0, .ref y_), (1, .int q_)] := hl
  refine lv_aload_n hx hb_ dX1_isReady_0 rfl (lv_at hl 0 rfl) ?_
  have hf31 := hts (.fieldLink RX1 31 "ClockmaskModel" "waitsFor" "[I") (by decide +kernel)
  refine va_get (D := D) (ci := 1) (v := .ref (b_ 7)) (C := RX1) (T := TX1) (N := 18) hx hb_ hts hin hown hK_ hP 0 rfl rfl 7 (by decide) hf31 (fun _ h9 => h9) rfl dX1_isReady_1 ?_
  refine lv_iload_n hx hb_ dX1_isReady_4 rfl (lv_at hl 1 rfl) ?_
  refine va_iald (f := S 7) (n := 24) hx hb_ hK_ hP 8 0 rfl rfl (by assumption) dX1_isReady_5 ?_
  refine lv_iconst (v := (-1)) hx hb_ dX1_isReady_6 (by decide) ?_
  refine lv_icmp_eq (tgt := 25) hx hb_ dX1_isReady_7 (by decide) (fun c_7 => ?_) (fun c_7 => ?_)
  · skip
    refine lv_iconst (v := 1) hx hb_ dX1_isReady_25 (by decide) ?_
    refine lv_goto (tgt := 30) hx hb_ dX1_isReady_26 (by decide) ?_
    refine lv_istore_n (lv' := [(2, .int 1), (0, .ref y_), (1, .int q_)]) hx hb_ dX1_isReady_30 rfl hl (by decide) rfl (fun ls hl => ?_)
    refine lv_aload_n hx hb_ dX1_isReady_31 rfl (lv_at hl 1 rfl) ?_
    have hf34 := hts (.fieldLink RX1 34 "ClockmaskModel" "states" "[I") (by decide +kernel)
    refine va_get (D := D) (ci := 1) (v := .ref (b_ 8)) (C := RX1) (T := TX1) (N := 18) hx hb_ hts hin hown hK_ hP 0 rfl rfl 8 (by decide) hf34 (fun _ h9 => h9) rfl dX1_isReady_32 ?_
    refine lv_iload_n hx hb_ dX1_isReady_35 rfl (lv_at hl 2 rfl) ?_
    refine va_iald (f := S 8) (n := 24) hx hb_ hK_ hP 9 0 rfl rfl (by assumption) dX1_isReady_36 ?_
    refine lv_if_ne (tgt := 56) hx hb_ dX1_isReady_37 (by decide) (fun c_37 => ?_) (fun c_37 => ?_)
    · skip
      refine lv_iconst (v := 0) hx hb_ dX1_isReady_56 (by decide) ?_
      exact W.zret (v := 0) (ty := .boolean) hx hb_ hr rfl (fun t_ ht hW => ⟨_, rfl, (cif_f (fun h_ => c_37 h_.1)).symm, ht⟩) (fun q_ h_ => by cases h_) dX1_isReady_57
    · skip
      refine lv_iload_n hx hb_ dX1_isReady_40 rfl (lv_at hl 0 rfl) ?_
      refine lv_if_eq (tgt := 56) hx hb_ dX1_isReady_41 (by decide) (fun c_41 => ?_) (fun c_41 => ?_)
      · skip
        exact absurd c_41 (by decide)
      · skip
        refine lv_aload_n hx hb_ dX1_isReady_44 rfl (lv_at hl 1 rfl) ?_
        refine lv_iload_n hx hb_ dX1_isReady_45 rfl (lv_at hl 2 rfl) ?_
        refine vp_callSi (W.runV (As := [.int q_]) (rest := []) ⟨hx, hb_, hml, hown, hts⟩ (c_X1_canBeDone l D cI y_ b_ S tq q_ hq hc_ hm_) (cwV 1 hts gX1_isReady_X1_canBeDone rfl rfl rfl (by decide +kernel) ⟨Nat.le_of_ble_eq_true rfl, Nat.le_of_ble_eq_true rfl⟩) (pR_V (ci := 1) hP hK_ rfl rfl) rfl rfl hl.1 rfl (lv_room (Nat.le_of_ble_eq_true rfl)) dX1_isReady_46 ⟨Nat.zero_le _, Nat.zero_le _⟩) (fun r_46 h_46 => ?_)
        refine lv_if_eq (tgt := 56) hx hb_ dX1_isReady_49 (by decide) (fun c_49 => ?_) (fun c_49 => ?_)
        · skip
          have b_46 := cif_b0 h_46 c_49
          refine lv_iconst (v := 0) hx hb_ dX1_isReady_56 (by decide) ?_
          exact W.zret (v := 0) (ty := .boolean) hx hb_ hr rfl (fun t_ ht hW => ⟨_, rfl, (cif_f (fun h_ => b_46 h_.2.2)).symm, ht⟩) (fun q_ h_ => by cases h_) dX1_isReady_57
        · skip
          have b_46 := cif_b1 h_46 c_49
          refine lv_iconst (v := 1) hx hb_ dX1_isReady_52 (by decide) ?_
          refine lv_goto (tgt := 57) hx hb_ dX1_isReady_53 (by decide) ?_
          exact W.zret (v := 1) (ty := .boolean) hx hb_ hr rfl (fun t_ ht hW => ⟨_, rfl, (cif_t ⟨c_37, Or.inl c_7, b_46⟩).symm, ht⟩) (fun q_ h_ => by cases h_) dX1_isReady_57
  · skip
    refine lv_aload_n hx hb_ dX1_isReady_10 rfl (lv_at hl 0 rfl) ?_
    have hf34 := hts (.fieldLink RX1 34 "ClockmaskModel" "states" "[I") (by decide +kernel)
    refine va_get (D := D) (ci := 1) (v := .ref (b_ 8)) (C := RX1) (T := TX1) (N := 18) hx hb_ hts hin hown hK_ hP 0 rfl rfl 8 (by decide) hf34 (fun _ h9 => h9) rfl dX1_isReady_11 ?_
    refine lv_aload_n hx hb_ dX1_isReady_14 rfl (lv_at hl 0 rfl) ?_
    refine va_get (D := D) (ci := 1) (v := .ref (b_ 7)) (C := RX1) (T := TX1) (N := 18) hx hb_ hts hin hown hK_ hP 0 rfl rfl 7 (by decide) hf31 (fun _ h9 => h9) rfl dX1_isReady_15 ?_
    refine lv_iload_n hx hb_ dX1_isReady_18 rfl (lv_at hl 1 rfl) ?_
    refine va_iald (f := S 7) (n := 24) hx hb_ hK_ hP 8 0 rfl rfl (by assumption) dX1_isReady_19 ?_
    refine va_iald (f := S 8) (n := 24) hx hb_ hK_ hP 9 0 rfl rfl (hc_.2.2.2.1.resolve_left c_7) dX1_isReady_20 ?_
    refine lv_iconst (v := 1) hx hb_ dX1_isReady_21 (by decide) ?_
    refine lv_icmp_ne (tgt := 29) hx hb_ dX1_isReady_22 (by decide) (fun c_22 => ?_) (fun c_22 => ?_)
    · skip
      refine lv_iconst (v := 0) hx hb_ dX1_isReady_29 (by decide) ?_
      refine lv_istore_n (lv' := [(2, .int 0), (0, .ref y_), (1, .int q_)]) hx hb_ dX1_isReady_30 rfl hl (by decide) rfl (fun ls hl => ?_)
      refine lv_aload_n hx hb_ dX1_isReady_31 rfl (lv_at hl 1 rfl) ?_
      refine va_get (D := D) (ci := 1) (v := .ref (b_ 8)) (C := RX1) (T := TX1) (N := 18) hx hb_ hts hin hown hK_ hP 0 rfl rfl 8 (by decide) hf34 (fun _ h9 => h9) rfl dX1_isReady_32 ?_
      refine lv_iload_n hx hb_ dX1_isReady_35 rfl (lv_at hl 2 rfl) ?_
      refine va_iald (f := S 8) (n := 24) hx hb_ hK_ hP 9 0 rfl rfl (by assumption) dX1_isReady_36 ?_
      refine lv_if_ne (tgt := 56) hx hb_ dX1_isReady_37 (by decide) (fun c_37 => ?_) (fun c_37 => ?_)
      · skip
        refine lv_iconst (v := 0) hx hb_ dX1_isReady_56 (by decide) ?_
        exact W.zret (v := 0) (ty := .boolean) hx hb_ hr rfl (fun t_ ht hW => ⟨_, rfl, (cif_f (fun h_ => c_37 h_.1)).symm, ht⟩) (fun q_ h_ => by cases h_) dX1_isReady_57
      · skip
        refine lv_iload_n hx hb_ dX1_isReady_40 rfl (lv_at hl 0 rfl) ?_
        refine lv_if_eq (tgt := 56) hx hb_ dX1_isReady_41 (by decide) (fun c_41 => ?_) (fun c_41 => ?_)
        · skip
          refine lv_iconst (v := 0) hx hb_ dX1_isReady_56 (by decide) ?_
          exact W.zret (v := 0) (ty := .boolean) hx hb_ hr rfl (fun t_ ht hW => ⟨_, rfl, (cif_f (fun h_ => h_.2.1.elim c_7 c_22)).symm, ht⟩) (fun q_ h_ => by cases h_) dX1_isReady_57
        · skip
          exact absurd c_41 (by decide)
    · skip
      refine lv_iconst (v := 1) hx hb_ dX1_isReady_25 (by decide) ?_
      refine lv_goto (tgt := 30) hx hb_ dX1_isReady_26 (by decide) ?_
      refine lv_istore_n (lv' := [(2, .int 1), (0, .ref y_), (1, .int q_)]) hx hb_ dX1_isReady_30 rfl hl (by decide) rfl (fun ls hl => ?_)
      refine lv_aload_n hx hb_ dX1_isReady_31 rfl (lv_at hl 1 rfl) ?_
      refine va_get (D := D) (ci := 1) (v := .ref (b_ 8)) (C := RX1) (T := TX1) (N := 18) hx hb_ hts hin hown hK_ hP 0 rfl rfl 8 (by decide) hf34 (fun _ h9 => h9) rfl dX1_isReady_32 ?_
      refine lv_iload_n hx hb_ dX1_isReady_35 rfl (lv_at hl 2 rfl) ?_
      refine va_iald (f := S 8) (n := 24) hx hb_ hK_ hP 9 0 rfl rfl (by assumption) dX1_isReady_36 ?_
      refine lv_if_ne (tgt := 56) hx hb_ dX1_isReady_37 (by decide) (fun c_37 => ?_) (fun c_37 => ?_)
      · skip
        refine lv_iconst (v := 0) hx hb_ dX1_isReady_56 (by decide) ?_
        exact W.zret (v := 0) (ty := .boolean) hx hb_ hr rfl (fun t_ ht hW => ⟨_, rfl, (cif_f (fun h_ => c_37 h_.1)).symm, ht⟩) (fun q_ h_ => by cases h_) dX1_isReady_57
      · skip
        refine lv_iload_n hx hb_ dX1_isReady_40 rfl (lv_at hl 0 rfl) ?_
        refine lv_if_eq (tgt := 56) hx hb_ dX1_isReady_41 (by decide) (fun c_41 => ?_) (fun c_41 => ?_)
        · skip
          exact absurd c_41 (by decide)
        · skip
          refine lv_aload_n hx hb_ dX1_isReady_44 rfl (lv_at hl 1 rfl) ?_
          refine lv_iload_n hx hb_ dX1_isReady_45 rfl (lv_at hl 2 rfl) ?_
          refine vp_callSi (W.runV (As := [.int q_]) (rest := []) ⟨hx, hb_, hml, hown, hts⟩ (c_X1_canBeDone l D cI y_ b_ S tq q_ hq hc_ hm_) (cwV 1 hts gX1_isReady_X1_canBeDone rfl rfl rfl (by decide +kernel) ⟨Nat.le_of_ble_eq_true rfl, Nat.le_of_ble_eq_true rfl⟩) (pR_V (ci := 1) hP hK_ rfl rfl) rfl rfl hl.1 rfl (lv_room (Nat.le_of_ble_eq_true rfl)) dX1_isReady_46 ⟨Nat.zero_le _, Nat.zero_le _⟩) (fun r_46 h_46 => ?_)
          refine lv_if_eq (tgt := 56) hx hb_ dX1_isReady_49 (by decide) (fun c_49 => ?_) (fun c_49 => ?_)
          · skip
            have b_46 := cif_b0 h_46 c_49
            refine lv_iconst (v := 0) hx hb_ dX1_isReady_56 (by decide) ?_
            exact W.zret (v := 0) (ty := .boolean) hx hb_ hr rfl (fun t_ ht hW => ⟨_, rfl, (cif_f (fun h_ => b_46 h_.2.2)).symm, ht⟩) (fun q_ h_ => by cases h_) dX1_isReady_57
          · skip
            have b_46 := cif_b1 h_46 c_49
            refine lv_iconst (v := 1) hx hb_ dX1_isReady_52 (by decide) ?_
            refine lv_goto (tgt := 57) hx hb_ dX1_isReady_53 (by decide) ?_
            exact W.zret (v := 1) (ty := .boolean) hx hb_ hr rfl (fun t_ ht hW => ⟨_, rfl, (cif_t ⟨c_37, Or.inr c_22, b_46⟩).symm, ht⟩) (fun q_ h_ => by cases h_) dX1_isReady_57
set_option maxHeartbeats 4000000 in
set_option maxRecDepth 100000 in
theorem c_X1_thrown (l : Launch) (D : va_G) (cI : ClassId) (y_ : Nat) (b_ : Nat → Nat) (S : ST) (tq : Int32) : Met l yX1_thrown wsX1_thrown rmX1_thrown (va_Pc [.ref y_] (pR D (tyM cI) (wM cI y_ b_ S tq))) (vp_Si (fun r_ => r_ = tq)) 0 0 (fun _ => False) := by
  refine Met.ofW (cc := cX1_thrown) (maxL := 1) (ret := (some .int)) (by decide) rfl ?_
  intro pr env s_ mid args below meth cod s₁ Bd hml hv
  obtain ⟨rfl, hP, hK_⟩ := hv
  have hx := Bd.exec
  have hb_ := Bd.bytes
  have hr := Bd.returns
  have hts := atoms_spec (ws := wsX1_thrown) Bd.pre
  have hown : s_.vm.findClass RX1 = some mid.cls := findClass_of_methodNamed Bd.named
  have hlocks := Bd.notSynchronized
  have hin : ∀ w_ ∈ wsX10, w_ ∈ wsX1_thrown := fun _ h_ => List.mem_cons_of_mem _ (List.mem_append_right _ h_)
  have hl := lv_entry ([.ref y_]) (n := 1) (Nat.le_of_ble_eq_true rfl)
  rw [lg_entry_eq]
  generalize (lg_sl ([.ref y_]) ++ List.replicate (1 - (lg_sl ([.ref y_])).length) Slot.unset).toArray = ls at hl ⊢
  have hl : lv_has ls 1 [(0, .ref y_)] := hl
  refine lv_aload_n hx hb_ dX1_thrown_0 rfl (lv_at hl 0 rfl) ?_
  have hf53 := hts (.fieldLink RX1 53 "ClockmaskModel" "thrown" "I") (by decide +kernel)
  refine va_get (D := D) (ci := 1) (v := .int tq) (C := RX1) (T := TX1) (N := 18) hx hb_ hts hin hown hK_ hP 0 rfl rfl 17 (by decide) hf53 (fun _ h9 => h9) rfl dX1_thrown_1 ?_
  exact W.iret (v := tq) hx hb_ hr (fun t_ ht hW => ⟨_, rfl, rfl, ht⟩) (fun q_ h_ => by cases h_) dX1_thrown_4
set_option maxHeartbeats 4000000 in
set_option maxRecDepth 100000 in
theorem c_X1_fails (l : Launch) (D : va_G) (cI : ClassId) (y_ : Nat) (b_ : Nat → Nat) (S : ST) (tq : Int32) (sz : Nat) (k_ : Int32) : Met l yX1_fails wsX1_fails rmX1_fails (va_Pc [.ref y_, .int k_] (pW D (tyM cI) (wM cI y_ b_ S tq) sz)) (va_Qi (fun (r_ : Int32) (u_ : ST × Int32) => r_ = 0 ∧ u_ = (S, k_)) (fun (u_ : ST × Int32) t_ => atW D (wM cI y_ b_ u_.1 u_.2) (va_A (wM cI y_ b_ S tq) sz) t_) (va_A (wM cI y_ b_ S tq) sz)) 0 0 (va_A (wM cI y_ b_ S tq) sz) := by
  refine Met.ofW (cc := cX1_fails) (maxL := 2) (ret := (some .int)) (by decide) rfl ?_
  intro pr env s_ mid args below meth cod s₁ Bd hml hv
  obtain ⟨rfl, hsz, hP, hK_, hD0⟩ := hv
  have hx := Bd.exec
  have hb_ := Bd.bytes
  have hr := Bd.returns
  have hts := atoms_spec (ws := wsX1_fails) Bd.pre
  have hown : s_.vm.findClass RX1 = some mid.cls := findClass_of_methodNamed Bd.named
  have hlocks := Bd.notSynchronized
  have hin : ∀ w_ ∈ wsX10, w_ ∈ wsX1_fails := fun _ h_ => List.mem_cons_of_mem _ (List.mem_append_right _ h_)
  subst hsz
  have hD := hD0.self (sz := s_.heap.size)
  generalize hAe : va_A (wM cI y_ b_ S tq) s_.heap.size = A at hD ⊢
  have hA : ∀ q_ : Nat, s_.heap.size ≤ q_ → A q_ := fun q_ h_ => by rw [← hAe]; exact Or.inr h_
  have hS_ : va_S A s_.heap s_.heap [] := va_S.rf
  have hP : va_P D vwCl (wM cI y_ b_ S tq) s_.heap := hP
  have hD : va_D A (wM cI y_ b_ S tq) := hD
  have hl := lv_entry ([.ref y_, .int k_]) (n := 2) (Nat.le_of_ble_eq_true rfl)
  rw [lg_entry_eq]
  generalize (lg_sl ([.ref y_, .int k_]) ++ List.replicate (2 - (lg_sl ([.ref y_, .int k_])).length) Slot.unset).toArray = ls at hl ⊢
  have hl : lv_has ls 2 [(0, .ref y_), (1, .int k_)] := hl
  refine lv_aload_n hx hb_ dX1_fails_0 rfl (lv_at hl 0 rfl) ?_
  refine lv_iload_n hx hb_ dX1_fails_1 rfl (lv_at hl 1 rfl) ?_
  have hf53 := hts (.fieldLink RX1 53 "ClockmaskModel" "thrown" "I") (by decide +kernel)
  refine va_put (D := D) (ci := 1) (v := .int k_) (ty := .int) (C := RX1) (T := TX1) (N := 18) hx hb_ hts hin tyX1 tyX1_ok nmX1 hown hK_ hP hD hS_ 0 rfl rfl 17 (by decide) hf53 (fun _ h9 => h9) rfl (by decide +kernel) rfl rfl (Nat.le_of_ble_eq_true rfl) dX1_fails_2 (fun H locs hP hD hS_ => ?_)
  have hP : va_P D vwCl (wM cI y_ b_ S k_) H := hP
  have hD : va_D A (wM cI y_ b_ S k_) := hD
  refine lv_iconst (v := 0) hx hb_ dX1_fails_5 (by decide) ?_
  exact W.iret (v := 0) hx hb_ hr (fun t_ ht hW => ⟨⟨_, (S, k_), rfl, ⟨rfl, rfl⟩, by rw [ht]; exact hP, hD⟩, hS_.F ht⟩) hS_.2.2 dX1_fails_6
set_option maxHeartbeats 4000000 in
set_option maxRecDepth 100000 in
theorem c_X1_change_1 (l : Launch) (D : va_G) (cI : ClassId) (y_ : Nat) (b_ : Nat → Nat) (S : ST) (tq : Int32) (sz : Nat) (q_ : Int32) (hq : vp_in q_ 24) (hp : vp_in (S 5 q_.toNatClampNeg) 6) (ho : S 4 q_.toNatClampNeg = 2 ∨ S 4 q_.toNatClampNeg = 4 → vp_in (S 6 q_.toNatClampNeg) 6) : Met l yX1_change wsX1_change rmX1_change (va_Pc [.ref y_, .int q_, .ref (b_ 1)] (pW D (tyM cI) (wM cI y_ b_ S tq) sz)) (va_Qv (fun (u_ : ST × Int32) => u_ = (row S 1 (mv S q_.toNatClampNeg (S 1)), tq)) (fun (u_ : ST × Int32) t_ => atW D (wM cI y_ b_ u_.1 u_.2) (va_A (wM cI y_ b_ S tq) sz) t_) (va_A (wM cI y_ b_ S tq) sz)) 0 0 (va_A (wM cI y_ b_ S tq) sz) := by
  refine Met.ofW (cc := cX1_change) (maxL := 6) (ret := none) (by decide) rfl ?_
  intro pr env s_ mid args below meth cod s₁ Bd hml hv
  obtain ⟨rfl, hsz, hP, hK_, hD0⟩ := hv
  have hx := Bd.exec
  have hb_ := Bd.bytes
  have hr := Bd.returns
  have hts := atoms_spec (ws := wsX1_change) Bd.pre
  have hown : s_.vm.findClass RX1 = some mid.cls := findClass_of_methodNamed Bd.named
  have hlocks := Bd.notSynchronized
  have hin : ∀ w_ ∈ wsX10, w_ ∈ wsX1_change := fun _ h_ => List.mem_cons_of_mem _ (List.mem_append_right _ h_)
  subst hsz
  have hD := hD0.self (sz := s_.heap.size)
  generalize hAe : va_A (wM cI y_ b_ S tq) s_.heap.size = A at hD ⊢
  have hA : ∀ q_ : Nat, s_.heap.size ≤ q_ → A q_ := fun q_ h_ => by rw [← hAe]; exact Or.inr h_
  have hS_ : va_S A s_.heap s_.heap [] := va_S.rf
  have hP : va_P D vwCl (wM cI y_ b_ S tq) s_.heap := hP
  have hD : va_D A (wM cI y_ b_ S tq) := hD
  have hl := lv_entry ([.ref y_, .int q_, .ref (b_ 1)]) (n := 6) (Nat.le_of_ble_eq_true rfl)
  rw [lg_entry_eq]
  generalize (lg_sl ([.ref y_, .int q_, .ref (b_ 1)]) ++ List.replicate (6 - (lg_sl ([.ref y_, .int q_, .ref (b_ 1)])).length) Slot.unset).toArray = ls at hl ⊢
  have hl : lv_has ls 6 [(0, .ref y_), (1, .int q_), (2, .ref (b_ 1))] := hl
  refine lv_aload_n hx hb_ dX1_change_0 rfl (lv_at hl 0 rfl) ?_
  have hf25 := hts (.fieldLink RX1 25 "ClockmaskModel" "players" "[I") (by decide +kernel)
  refine va_get (D := D) (ci := 1) (v := .ref (b_ 5)) (C := RX1) (T := TX1) (N := 18) hx hb_ hts hin hown hK_ hP 0 rfl rfl 5 (by decide) hf25 (fun _ h9 => h9) rfl dX1_change_1 ?_
  refine lv_iload_n hx hb_ dX1_change_4 rfl (lv_at hl 1 rfl) ?_
  refine va_iald (f := S 5) (n := 24) hx hb_ hK_ hP 6 0 rfl rfl (by assumption) dX1_change_5 ?_
  refine lv_istore_n (lv' := [(3, .int (S 5 q_.toNatClampNeg)), (0, .ref y_), (1, .int q_), (2, .ref (b_ 1))]) hx hb_ dX1_change_6 rfl hl (by decide) rfl (fun ls hl => ?_)
  refine lv_aload_n hx hb_ dX1_change_7 rfl (lv_at hl 1 rfl) ?_
  have hf28 := hts (.fieldLink RX1 28 "ClockmaskModel" "others" "[I") (by decide +kernel)
  refine va_get (D := D) (ci := 1) (v := .ref (b_ 6)) (C := RX1) (T := TX1) (N := 18) hx hb_ hts hin hown hK_ hP 0 rfl rfl 6 (by decide) hf28 (fun _ h9 => h9) rfl dX1_change_8 ?_
  refine lv_iload_n hx hb_ dX1_change_11 rfl (lv_at hl 2 rfl) ?_
  refine va_iald (f := S 6) (n := 24) hx hb_ hK_ hP 7 0 rfl rfl (by assumption) dX1_change_12 ?_
  refine lv_istore (lv' := [(4, .int (S 6 q_.toNatClampNeg)), (3, .int (S 5 q_.toNatClampNeg)), (0, .ref y_), (1, .int q_), (2, .ref (b_ 1))]) hx hb_ dX1_change_13 hl (by decide) rfl (fun ls hl => ?_)
  refine lv_aload_n hx hb_ dX1_change_15 rfl (lv_at hl 2 rfl) ?_
  have hf22 := hts (.fieldLink RX1 22 "ClockmaskModel" "kinds" "[I") (by decide +kernel)
  refine va_get (D := D) (ci := 1) (v := .ref (b_ 4)) (C := RX1) (T := TX1) (N := 18) hx hb_ hts hin hown hK_ hP 0 rfl rfl 4 (by decide) hf22 (fun _ h9 => h9) rfl dX1_change_16 ?_
  refine lv_iload_n hx hb_ dX1_change_19 rfl (lv_at hl 3 rfl) ?_
  refine va_iald (f := S 4) (n := 24) hx hb_ hK_ hP 5 0 rfl rfl (by assumption) dX1_change_20 ?_
  refine lv_iconst (v := 2) hx hb_ dX1_change_21 (by decide) ?_
  refine lv_icmp_ne (tgt := 30) hx hb_ dX1_change_22 (by decide) (fun c_22 => ?_) (fun c_22 => ?_)
  · skip
    refine lv_aload_n hx hb_ dX1_change_30 rfl (lv_at hl 2 rfl) ?_
    refine va_get (D := D) (ci := 1) (v := .ref (b_ 4)) (C := RX1) (T := TX1) (N := 18) hx hb_ hts hin hown hK_ hP 0 rfl rfl 4 (by decide) hf22 (fun _ h9 => h9) rfl dX1_change_31 ?_
    refine lv_iload_n hx hb_ dX1_change_34 rfl (lv_at hl 3 rfl) ?_
    refine va_iald (f := S 4) (n := 24) hx hb_ hK_ hP 5 0 rfl rfl (by assumption) dX1_change_35 ?_
    refine lv_iconst (v := 3) hx hb_ dX1_change_36 (by decide) ?_
    refine lv_icmp_ne (tgt := 44) hx hb_ dX1_change_37 (by decide) (fun c_37 => ?_) (fun c_37 => ?_)
    · skip
      refine lv_aload_n hx hb_ dX1_change_44 rfl (lv_at hl 2 rfl) ?_
      refine va_get (D := D) (ci := 1) (v := .ref (b_ 4)) (C := RX1) (T := TX1) (N := 18) hx hb_ hts hin hown hK_ hP 0 rfl rfl 4 (by decide) hf22 (fun _ h9 => h9) rfl dX1_change_45 ?_
      refine lv_iload_n hx hb_ dX1_change_48 rfl (lv_at hl 3 rfl) ?_
      refine va_iald (f := S 4) (n := 24) hx hb_ hK_ hP 5 0 rfl rfl (by assumption) dX1_change_49 ?_
      refine lv_iconst (v := 4) hx hb_ dX1_change_50 (by decide) ?_
      refine lv_icmp_ne (tgt := 72) hx hb_ dX1_change_51 (by decide) (fun c_51 => ?_) (fun c_51 => ?_)
      · skip
        exact W.vret hx hb_ hr (fun t_ ht hW => ⟨⟨(S, tq), rfl, by rw [row_self' (mvn c_22 c_37 c_51)], by rw [ht]; exact hP, hD⟩, hS_.F ht⟩) hS_.2.2 dX1_change_72
      · skip
        refine lv_aload_n hx hb_ dX1_change_54 rfl (lv_at hl 4 rfl) ?_
        refine lv_iload_n hx hb_ dX1_change_55 rfl (lv_at hl 1 rfl) ?_
        refine va_iald (f := S 1) (n := 6) hx hb_ hK_ hP 1 0 rfl rfl hp dX1_change_56 ?_
        refine lv_istore (lv' := [(5, .int (S 1 (S 5 q_.toNatClampNeg).toNatClampNeg)), (4, .int (S 6 q_.toNatClampNeg)), (3, .int (S 5 q_.toNatClampNeg)), (0, .ref y_), (1, .int q_), (2, .ref (b_ 1))]) hx hb_ dX1_change_57 hl (by decide) rfl (fun ls hl => ?_)
        refine lv_aload_n hx hb_ dX1_change_59 rfl (lv_at hl 5 rfl) ?_
        refine lv_iload_n hx hb_ dX1_change_60 rfl (lv_at hl 2 rfl) ?_
        refine lv_aload_n hx hb_ dX1_change_61 rfl (lv_at hl 5 rfl) ?_
        refine lv_iload hx hb_ dX1_change_62 (lv_at hl 1 rfl) ?_
        refine va_iald (f := S 1) (n := 6) hx hb_ hK_ hP 1 0 rfl rfl (ho (Or.inr c_51)) dX1_change_64 ?_
        refine va_iast (f := S 1) (n := 6) hx hb_ hK_ hP hD hS_ 1 0 rfl rfl hp dX1_change_65 (fun H locs hP hD hS_ => ?_)
        have hP : va_P D vwCl (wMr cI y_ b_ (S 0) (upd (S 1) (S 5 q_.toNatClampNeg).toNatClampNeg (S 1 (S 6 q_.toNatClampNeg).toNatClampNeg)) (S 2) (S 3) (S 4) (S 5) (S 6) (S 7) (S 8) (S 9) (S 10 0) (S 11 0) (S 12) (S 13) (S 14 0) (S 15 0) (S 16) tq) H := hP
        have hD : va_D A (wMr cI y_ b_ (S 0) (upd (S 1) (S 5 q_.toNatClampNeg).toNatClampNeg (S 1 (S 6 q_.toNatClampNeg).toNatClampNeg)) (S 2) (S 3) (S 4) (S 5) (S 6) (S 7) (S 8) (S 9) (S 10 0) (S 11 0) (S 12) (S 13) (S 14 0) (S 15 0) (S 16) tq) := hD
        refine lv_aload_n hx hb_ dX1_change_66 rfl (lv_at hl 5 rfl) ?_
        refine lv_iload hx hb_ dX1_change_67 (lv_at hl 1 rfl) ?_
        refine lv_iload hx hb_ dX1_change_69 (lv_at hl 0 rfl) ?_
        refine va_iast (f := upd (S 1) (S 5 q_.toNatClampNeg).toNatClampNeg (S 1 (S 6 q_.toNatClampNeg).toNatClampNeg)) (n := 6) hx hb_ hK_ hP hD hS_ 1 0 rfl rfl (ho (Or.inr c_51)) dX1_change_71 (fun H locs hP hD hS_ => ?_)
        have hP : va_P D vwCl (wMr cI y_ b_ (S 0) (upd (upd (S 1) (S 5 q_.toNatClampNeg).toNatClampNeg (S 1 (S 6 q_.toNatClampNeg).toNatClampNeg)) (S 6 q_.toNatClampNeg).toNatClampNeg (S 1 (S 5 q_.toNatClampNeg).toNatClampNeg)) (S 2) (S 3) (S 4) (S 5) (S 6) (S 7) (S 8) (S 9) (S 10 0) (S 11 0) (S 12) (S 13) (S 14 0) (S 15 0) (S 16) tq) H := hP
        have hD : va_D A (wMr cI y_ b_ (S 0) (upd (upd (S 1) (S 5 q_.toNatClampNeg).toNatClampNeg (S 1 (S 6 q_.toNatClampNeg).toNatClampNeg)) (S 6 q_.toNatClampNeg).toNatClampNeg (S 1 (S 5 q_.toNatClampNeg).toNatClampNeg)) (S 2) (S 3) (S 4) (S 5) (S 6) (S 7) (S 8) (S 9) (S 10 0) (S 11 0) (S 12) (S 13) (S 14 0) (S 15 0) (S 16) tq) := hD
        exact W.vret hx hb_ hr (fun t_ ht hW => ⟨⟨(row S 1 (upd (upd (S 1) (S 5 q_.toNatClampNeg).toNatClampNeg (S 1 (S 6 q_.toNatClampNeg).toNatClampNeg)) (S 6 q_.toNatClampNeg).toNatClampNeg (S 1 (S 5 q_.toNatClampNeg).toNatClampNeg)), tq), rfl, by rw [mv4 c_51], by rw [ht]; exact hP, hD⟩, hS_.F ht⟩) hS_.2.2 dX1_change_72
    · skip
      refine lv_aload_n hx hb_ dX1_change_40 rfl (lv_at hl 4 rfl) ?_
      refine lv_iload_n hx hb_ dX1_change_41 rfl (lv_at hl 1 rfl) ?_
      refine lv_iconst (v := (-1)) hx hb_ dX1_change_42 (by decide) ?_
      refine va_iast (f := S 1) (n := 6) hx hb_ hK_ hP hD hS_ 1 0 rfl rfl hp dX1_change_43 (fun H locs hP hD hS_ => ?_)
      have hP : va_P D vwCl (wMr cI y_ b_ (S 0) (upd (S 1) (S 5 q_.toNatClampNeg).toNatClampNeg (-1)) (S 2) (S 3) (S 4) (S 5) (S 6) (S 7) (S 8) (S 9) (S 10 0) (S 11 0) (S 12) (S 13) (S 14 0) (S 15 0) (S 16) tq) H := hP
      have hD : va_D A (wMr cI y_ b_ (S 0) (upd (S 1) (S 5 q_.toNatClampNeg).toNatClampNeg (-1)) (S 2) (S 3) (S 4) (S 5) (S 6) (S 7) (S 8) (S 9) (S 10 0) (S 11 0) (S 12) (S 13) (S 14 0) (S 15 0) (S 16) tq) := hD
      refine lv_aload_n hx hb_ dX1_change_44 rfl (lv_at hl 2 rfl) ?_
      refine va_get (D := D) (ci := 1) (v := .ref (b_ 4)) (C := RX1) (T := TX1) (N := 18) hx hb_ hts hin hown hK_ hP 0 rfl rfl 4 (by decide) hf22 (fun _ h9 => h9) rfl dX1_change_45 ?_
      refine lv_iload_n hx hb_ dX1_change_48 rfl (lv_at hl 3 rfl) ?_
      refine va_iald (f := S 4) (n := 24) hx hb_ hK_ hP 5 0 rfl rfl (by assumption) dX1_change_49 ?_
      refine lv_iconst (v := 4) hx hb_ dX1_change_50 (by decide) ?_
      refine lv_icmp_ne (tgt := 72) hx hb_ dX1_change_51 (by decide) (fun c_51 => ?_) (fun c_51 => ?_)
      · skip
        exact W.vret hx hb_ hr (fun t_ ht hW => ⟨⟨(row S 1 (upd (S 1) (S 5 q_.toNatClampNeg).toNatClampNeg (-1)), tq), rfl, by rw [mv3 c_37], by rw [ht]; exact hP, hD⟩, hS_.F ht⟩) hS_.2.2 dX1_change_72
      · skip
        exact absurd (c_37.symm.trans c_51) (by decide)
  · skip
    refine lv_aload_n hx hb_ dX1_change_25 rfl (lv_at hl 4 rfl) ?_
    refine lv_iload_n hx hb_ dX1_change_26 rfl (lv_at hl 1 rfl) ?_
    refine lv_iload hx hb_ dX1_change_27 (lv_at hl 0 rfl) ?_
    refine va_iast (f := S 1) (n := 6) hx hb_ hK_ hP hD hS_ 1 0 rfl rfl hp dX1_change_29 (fun H locs hP hD hS_ => ?_)
    have hP : va_P D vwCl (wMr cI y_ b_ (S 0) (upd (S 1) (S 5 q_.toNatClampNeg).toNatClampNeg (S 6 q_.toNatClampNeg)) (S 2) (S 3) (S 4) (S 5) (S 6) (S 7) (S 8) (S 9) (S 10 0) (S 11 0) (S 12) (S 13) (S 14 0) (S 15 0) (S 16) tq) H := hP
    have hD : va_D A (wMr cI y_ b_ (S 0) (upd (S 1) (S 5 q_.toNatClampNeg).toNatClampNeg (S 6 q_.toNatClampNeg)) (S 2) (S 3) (S 4) (S 5) (S 6) (S 7) (S 8) (S 9) (S 10 0) (S 11 0) (S 12) (S 13) (S 14 0) (S 15 0) (S 16) tq) := hD
    refine lv_aload_n hx hb_ dX1_change_30 rfl (lv_at hl 2 rfl) ?_
    refine va_get (D := D) (ci := 1) (v := .ref (b_ 4)) (C := RX1) (T := TX1) (N := 18) hx hb_ hts hin hown hK_ hP 0 rfl rfl 4 (by decide) hf22 (fun _ h9 => h9) rfl dX1_change_31 ?_
    refine lv_iload_n hx hb_ dX1_change_34 rfl (lv_at hl 3 rfl) ?_
    refine va_iald (f := S 4) (n := 24) hx hb_ hK_ hP 5 0 rfl rfl (by assumption) dX1_change_35 ?_
    refine lv_iconst (v := 3) hx hb_ dX1_change_36 (by decide) ?_
    refine lv_icmp_ne (tgt := 44) hx hb_ dX1_change_37 (by decide) (fun c_37 => ?_) (fun c_37 => ?_)
    · skip
      refine lv_aload_n hx hb_ dX1_change_44 rfl (lv_at hl 2 rfl) ?_
      refine va_get (D := D) (ci := 1) (v := .ref (b_ 4)) (C := RX1) (T := TX1) (N := 18) hx hb_ hts hin hown hK_ hP 0 rfl rfl 4 (by decide) hf22 (fun _ h9 => h9) rfl dX1_change_45 ?_
      refine lv_iload_n hx hb_ dX1_change_48 rfl (lv_at hl 3 rfl) ?_
      refine va_iald (f := S 4) (n := 24) hx hb_ hK_ hP 5 0 rfl rfl (by assumption) dX1_change_49 ?_
      refine lv_iconst (v := 4) hx hb_ dX1_change_50 (by decide) ?_
      refine lv_icmp_ne (tgt := 72) hx hb_ dX1_change_51 (by decide) (fun c_51 => ?_) (fun c_51 => ?_)
      · skip
        exact W.vret hx hb_ hr (fun t_ ht hW => ⟨⟨(row S 1 (upd (S 1) (S 5 q_.toNatClampNeg).toNatClampNeg (S 6 q_.toNatClampNeg)), tq), rfl, by rw [mv2 c_22], by rw [ht]; exact hP, hD⟩, hS_.F ht⟩) hS_.2.2 dX1_change_72
      · skip
        exact absurd (c_22.symm.trans c_51) (by decide)
    · skip
      exact absurd (c_22.symm.trans c_37) (by decide)
set_option maxHeartbeats 4000000 in
set_option maxRecDepth 100000 in
theorem c_X1_change_16 (l : Launch) (D : va_G) (cI : ClassId) (y_ : Nat) (b_ : Nat → Nat) (S : ST) (tq : Int32) (sz : Nat) (q_ : Int32) (hq : vp_in q_ 24) (hp : vp_in (S 5 q_.toNatClampNeg) 6) (ho : S 4 q_.toNatClampNeg = 2 ∨ S 4 q_.toNatClampNeg = 4 → vp_in (S 6 q_.toNatClampNeg) 6) : Met l yX1_change wsX1_change rmX1_change (va_Pc [.ref y_, .int q_, .ref (b_ 16)] (pW D (tyM cI) (wM cI y_ b_ S tq) sz)) (va_Qv (fun (u_ : ST × Int32) => u_ = (row S 16 (mv S q_.toNatClampNeg (S 16)), tq)) (fun (u_ : ST × Int32) t_ => atW D (wM cI y_ b_ u_.1 u_.2) (va_A (wM cI y_ b_ S tq) sz) t_) (va_A (wM cI y_ b_ S tq) sz)) 0 0 (va_A (wM cI y_ b_ S tq) sz) := by
  refine Met.ofW (cc := cX1_change) (maxL := 6) (ret := none) (by decide) rfl ?_
  intro pr env s_ mid args below meth cod s₁ Bd hml hv
  obtain ⟨rfl, hsz, hP, hK_, hD0⟩ := hv
  have hx := Bd.exec
  have hb_ := Bd.bytes
  have hr := Bd.returns
  have hts := atoms_spec (ws := wsX1_change) Bd.pre
  have hown : s_.vm.findClass RX1 = some mid.cls := findClass_of_methodNamed Bd.named
  have hlocks := Bd.notSynchronized
  have hin : ∀ w_ ∈ wsX10, w_ ∈ wsX1_change := fun _ h_ => List.mem_cons_of_mem _ (List.mem_append_right _ h_)
  subst hsz
  have hD := hD0.self (sz := s_.heap.size)
  generalize hAe : va_A (wM cI y_ b_ S tq) s_.heap.size = A at hD ⊢
  have hA : ∀ q_ : Nat, s_.heap.size ≤ q_ → A q_ := fun q_ h_ => by rw [← hAe]; exact Or.inr h_
  have hS_ : va_S A s_.heap s_.heap [] := va_S.rf
  have hP : va_P D vwCl (wM cI y_ b_ S tq) s_.heap := hP
  have hD : va_D A (wM cI y_ b_ S tq) := hD
  have hl := lv_entry ([.ref y_, .int q_, .ref (b_ 16)]) (n := 6) (Nat.le_of_ble_eq_true rfl)
  rw [lg_entry_eq]
  generalize (lg_sl ([.ref y_, .int q_, .ref (b_ 16)]) ++ List.replicate (6 - (lg_sl ([.ref y_, .int q_, .ref (b_ 16)])).length) Slot.unset).toArray = ls at hl ⊢
  have hl : lv_has ls 6 [(0, .ref y_), (1, .int q_), (2, .ref (b_ 16))] := hl
  refine lv_aload_n hx hb_ dX1_change_0 rfl (lv_at hl 0 rfl) ?_
  have hf25 := hts (.fieldLink RX1 25 "ClockmaskModel" "players" "[I") (by decide +kernel)
  refine va_get (D := D) (ci := 1) (v := .ref (b_ 5)) (C := RX1) (T := TX1) (N := 18) hx hb_ hts hin hown hK_ hP 0 rfl rfl 5 (by decide) hf25 (fun _ h9 => h9) rfl dX1_change_1 ?_
  refine lv_iload_n hx hb_ dX1_change_4 rfl (lv_at hl 1 rfl) ?_
  refine va_iald (f := S 5) (n := 24) hx hb_ hK_ hP 6 0 rfl rfl (by assumption) dX1_change_5 ?_
  refine lv_istore_n (lv' := [(3, .int (S 5 q_.toNatClampNeg)), (0, .ref y_), (1, .int q_), (2, .ref (b_ 16))]) hx hb_ dX1_change_6 rfl hl (by decide) rfl (fun ls hl => ?_)
  refine lv_aload_n hx hb_ dX1_change_7 rfl (lv_at hl 1 rfl) ?_
  have hf28 := hts (.fieldLink RX1 28 "ClockmaskModel" "others" "[I") (by decide +kernel)
  refine va_get (D := D) (ci := 1) (v := .ref (b_ 6)) (C := RX1) (T := TX1) (N := 18) hx hb_ hts hin hown hK_ hP 0 rfl rfl 6 (by decide) hf28 (fun _ h9 => h9) rfl dX1_change_8 ?_
  refine lv_iload_n hx hb_ dX1_change_11 rfl (lv_at hl 2 rfl) ?_
  refine va_iald (f := S 6) (n := 24) hx hb_ hK_ hP 7 0 rfl rfl (by assumption) dX1_change_12 ?_
  refine lv_istore (lv' := [(4, .int (S 6 q_.toNatClampNeg)), (3, .int (S 5 q_.toNatClampNeg)), (0, .ref y_), (1, .int q_), (2, .ref (b_ 16))]) hx hb_ dX1_change_13 hl (by decide) rfl (fun ls hl => ?_)
  refine lv_aload_n hx hb_ dX1_change_15 rfl (lv_at hl 2 rfl) ?_
  have hf22 := hts (.fieldLink RX1 22 "ClockmaskModel" "kinds" "[I") (by decide +kernel)
  refine va_get (D := D) (ci := 1) (v := .ref (b_ 4)) (C := RX1) (T := TX1) (N := 18) hx hb_ hts hin hown hK_ hP 0 rfl rfl 4 (by decide) hf22 (fun _ h9 => h9) rfl dX1_change_16 ?_
  refine lv_iload_n hx hb_ dX1_change_19 rfl (lv_at hl 3 rfl) ?_
  refine va_iald (f := S 4) (n := 24) hx hb_ hK_ hP 5 0 rfl rfl (by assumption) dX1_change_20 ?_
  refine lv_iconst (v := 2) hx hb_ dX1_change_21 (by decide) ?_
  refine lv_icmp_ne (tgt := 30) hx hb_ dX1_change_22 (by decide) (fun c_22 => ?_) (fun c_22 => ?_)
  · skip
    refine lv_aload_n hx hb_ dX1_change_30 rfl (lv_at hl 2 rfl) ?_
    refine va_get (D := D) (ci := 1) (v := .ref (b_ 4)) (C := RX1) (T := TX1) (N := 18) hx hb_ hts hin hown hK_ hP 0 rfl rfl 4 (by decide) hf22 (fun _ h9 => h9) rfl dX1_change_31 ?_
    refine lv_iload_n hx hb_ dX1_change_34 rfl (lv_at hl 3 rfl) ?_
    refine va_iald (f := S 4) (n := 24) hx hb_ hK_ hP 5 0 rfl rfl (by assumption) dX1_change_35 ?_
    refine lv_iconst (v := 3) hx hb_ dX1_change_36 (by decide) ?_
    refine lv_icmp_ne (tgt := 44) hx hb_ dX1_change_37 (by decide) (fun c_37 => ?_) (fun c_37 => ?_)
    · skip
      refine lv_aload_n hx hb_ dX1_change_44 rfl (lv_at hl 2 rfl) ?_
      refine va_get (D := D) (ci := 1) (v := .ref (b_ 4)) (C := RX1) (T := TX1) (N := 18) hx hb_ hts hin hown hK_ hP 0 rfl rfl 4 (by decide) hf22 (fun _ h9 => h9) rfl dX1_change_45 ?_
      refine lv_iload_n hx hb_ dX1_change_48 rfl (lv_at hl 3 rfl) ?_
      refine va_iald (f := S 4) (n := 24) hx hb_ hK_ hP 5 0 rfl rfl (by assumption) dX1_change_49 ?_
      refine lv_iconst (v := 4) hx hb_ dX1_change_50 (by decide) ?_
      refine lv_icmp_ne (tgt := 72) hx hb_ dX1_change_51 (by decide) (fun c_51 => ?_) (fun c_51 => ?_)
      · skip
        exact W.vret hx hb_ hr (fun t_ ht hW => ⟨⟨(S, tq), rfl, by rw [row_self' (mvn c_22 c_37 c_51)], by rw [ht]; exact hP, hD⟩, hS_.F ht⟩) hS_.2.2 dX1_change_72
      · skip
        refine lv_aload_n hx hb_ dX1_change_54 rfl (lv_at hl 4 rfl) ?_
        refine lv_iload_n hx hb_ dX1_change_55 rfl (lv_at hl 1 rfl) ?_
        refine va_iald (f := S 16) (n := 6) hx hb_ hK_ hP 13 0 rfl rfl hp dX1_change_56 ?_
        refine lv_istore (lv' := [(5, .int (S 16 (S 5 q_.toNatClampNeg).toNatClampNeg)), (4, .int (S 6 q_.toNatClampNeg)), (3, .int (S 5 q_.toNatClampNeg)), (0, .ref y_), (1, .int q_), (2, .ref (b_ 16))]) hx hb_ dX1_change_57 hl (by decide) rfl (fun ls hl => ?_)
        refine lv_aload_n hx hb_ dX1_change_59 rfl (lv_at hl 5 rfl) ?_
        refine lv_iload_n hx hb_ dX1_change_60 rfl (lv_at hl 2 rfl) ?_
        refine lv_aload_n hx hb_ dX1_change_61 rfl (lv_at hl 5 rfl) ?_
        refine lv_iload hx hb_ dX1_change_62 (lv_at hl 1 rfl) ?_
        refine va_iald (f := S 16) (n := 6) hx hb_ hK_ hP 13 0 rfl rfl (ho (Or.inr c_51)) dX1_change_64 ?_
        refine va_iast (f := S 16) (n := 6) hx hb_ hK_ hP hD hS_ 13 0 rfl rfl hp dX1_change_65 (fun H locs hP hD hS_ => ?_)
        have hP : va_P D vwCl (wMr cI y_ b_ (S 0) (S 1) (S 2) (S 3) (S 4) (S 5) (S 6) (S 7) (S 8) (S 9) (S 10 0) (S 11 0) (S 12) (S 13) (S 14 0) (S 15 0) (upd (S 16) (S 5 q_.toNatClampNeg).toNatClampNeg (S 16 (S 6 q_.toNatClampNeg).toNatClampNeg)) tq) H := hP
        have hD : va_D A (wMr cI y_ b_ (S 0) (S 1) (S 2) (S 3) (S 4) (S 5) (S 6) (S 7) (S 8) (S 9) (S 10 0) (S 11 0) (S 12) (S 13) (S 14 0) (S 15 0) (upd (S 16) (S 5 q_.toNatClampNeg).toNatClampNeg (S 16 (S 6 q_.toNatClampNeg).toNatClampNeg)) tq) := hD
        refine lv_aload_n hx hb_ dX1_change_66 rfl (lv_at hl 5 rfl) ?_
        refine lv_iload hx hb_ dX1_change_67 (lv_at hl 1 rfl) ?_
        refine lv_iload hx hb_ dX1_change_69 (lv_at hl 0 rfl) ?_
        refine va_iast (f := upd (S 16) (S 5 q_.toNatClampNeg).toNatClampNeg (S 16 (S 6 q_.toNatClampNeg).toNatClampNeg)) (n := 6) hx hb_ hK_ hP hD hS_ 13 0 rfl rfl (ho (Or.inr c_51)) dX1_change_71 (fun H locs hP hD hS_ => ?_)
        have hP : va_P D vwCl (wMr cI y_ b_ (S 0) (S 1) (S 2) (S 3) (S 4) (S 5) (S 6) (S 7) (S 8) (S 9) (S 10 0) (S 11 0) (S 12) (S 13) (S 14 0) (S 15 0) (upd (upd (S 16) (S 5 q_.toNatClampNeg).toNatClampNeg (S 16 (S 6 q_.toNatClampNeg).toNatClampNeg)) (S 6 q_.toNatClampNeg).toNatClampNeg (S 16 (S 5 q_.toNatClampNeg).toNatClampNeg)) tq) H := hP
        have hD : va_D A (wMr cI y_ b_ (S 0) (S 1) (S 2) (S 3) (S 4) (S 5) (S 6) (S 7) (S 8) (S 9) (S 10 0) (S 11 0) (S 12) (S 13) (S 14 0) (S 15 0) (upd (upd (S 16) (S 5 q_.toNatClampNeg).toNatClampNeg (S 16 (S 6 q_.toNatClampNeg).toNatClampNeg)) (S 6 q_.toNatClampNeg).toNatClampNeg (S 16 (S 5 q_.toNatClampNeg).toNatClampNeg)) tq) := hD
        exact W.vret hx hb_ hr (fun t_ ht hW => ⟨⟨(row S 16 (upd (upd (S 16) (S 5 q_.toNatClampNeg).toNatClampNeg (S 16 (S 6 q_.toNatClampNeg).toNatClampNeg)) (S 6 q_.toNatClampNeg).toNatClampNeg (S 16 (S 5 q_.toNatClampNeg).toNatClampNeg)), tq), rfl, by rw [mv4 c_51], by rw [ht]; exact hP, hD⟩, hS_.F ht⟩) hS_.2.2 dX1_change_72
    · skip
      refine lv_aload_n hx hb_ dX1_change_40 rfl (lv_at hl 4 rfl) ?_
      refine lv_iload_n hx hb_ dX1_change_41 rfl (lv_at hl 1 rfl) ?_
      refine lv_iconst (v := (-1)) hx hb_ dX1_change_42 (by decide) ?_
      refine va_iast (f := S 16) (n := 6) hx hb_ hK_ hP hD hS_ 13 0 rfl rfl hp dX1_change_43 (fun H locs hP hD hS_ => ?_)
      have hP : va_P D vwCl (wMr cI y_ b_ (S 0) (S 1) (S 2) (S 3) (S 4) (S 5) (S 6) (S 7) (S 8) (S 9) (S 10 0) (S 11 0) (S 12) (S 13) (S 14 0) (S 15 0) (upd (S 16) (S 5 q_.toNatClampNeg).toNatClampNeg (-1)) tq) H := hP
      have hD : va_D A (wMr cI y_ b_ (S 0) (S 1) (S 2) (S 3) (S 4) (S 5) (S 6) (S 7) (S 8) (S 9) (S 10 0) (S 11 0) (S 12) (S 13) (S 14 0) (S 15 0) (upd (S 16) (S 5 q_.toNatClampNeg).toNatClampNeg (-1)) tq) := hD
      refine lv_aload_n hx hb_ dX1_change_44 rfl (lv_at hl 2 rfl) ?_
      refine va_get (D := D) (ci := 1) (v := .ref (b_ 4)) (C := RX1) (T := TX1) (N := 18) hx hb_ hts hin hown hK_ hP 0 rfl rfl 4 (by decide) hf22 (fun _ h9 => h9) rfl dX1_change_45 ?_
      refine lv_iload_n hx hb_ dX1_change_48 rfl (lv_at hl 3 rfl) ?_
      refine va_iald (f := S 4) (n := 24) hx hb_ hK_ hP 5 0 rfl rfl (by assumption) dX1_change_49 ?_
      refine lv_iconst (v := 4) hx hb_ dX1_change_50 (by decide) ?_
      refine lv_icmp_ne (tgt := 72) hx hb_ dX1_change_51 (by decide) (fun c_51 => ?_) (fun c_51 => ?_)
      · skip
        exact W.vret hx hb_ hr (fun t_ ht hW => ⟨⟨(row S 16 (upd (S 16) (S 5 q_.toNatClampNeg).toNatClampNeg (-1)), tq), rfl, by rw [mv3 c_37], by rw [ht]; exact hP, hD⟩, hS_.F ht⟩) hS_.2.2 dX1_change_72
      · skip
        exact absurd (c_37.symm.trans c_51) (by decide)
  · skip
    refine lv_aload_n hx hb_ dX1_change_25 rfl (lv_at hl 4 rfl) ?_
    refine lv_iload_n hx hb_ dX1_change_26 rfl (lv_at hl 1 rfl) ?_
    refine lv_iload hx hb_ dX1_change_27 (lv_at hl 0 rfl) ?_
    refine va_iast (f := S 16) (n := 6) hx hb_ hK_ hP hD hS_ 13 0 rfl rfl hp dX1_change_29 (fun H locs hP hD hS_ => ?_)
    have hP : va_P D vwCl (wMr cI y_ b_ (S 0) (S 1) (S 2) (S 3) (S 4) (S 5) (S 6) (S 7) (S 8) (S 9) (S 10 0) (S 11 0) (S 12) (S 13) (S 14 0) (S 15 0) (upd (S 16) (S 5 q_.toNatClampNeg).toNatClampNeg (S 6 q_.toNatClampNeg)) tq) H := hP
    have hD : va_D A (wMr cI y_ b_ (S 0) (S 1) (S 2) (S 3) (S 4) (S 5) (S 6) (S 7) (S 8) (S 9) (S 10 0) (S 11 0) (S 12) (S 13) (S 14 0) (S 15 0) (upd (S 16) (S 5 q_.toNatClampNeg).toNatClampNeg (S 6 q_.toNatClampNeg)) tq) := hD
    refine lv_aload_n hx hb_ dX1_change_30 rfl (lv_at hl 2 rfl) ?_
    refine va_get (D := D) (ci := 1) (v := .ref (b_ 4)) (C := RX1) (T := TX1) (N := 18) hx hb_ hts hin hown hK_ hP 0 rfl rfl 4 (by decide) hf22 (fun _ h9 => h9) rfl dX1_change_31 ?_
    refine lv_iload_n hx hb_ dX1_change_34 rfl (lv_at hl 3 rfl) ?_
    refine va_iald (f := S 4) (n := 24) hx hb_ hK_ hP 5 0 rfl rfl (by assumption) dX1_change_35 ?_
    refine lv_iconst (v := 3) hx hb_ dX1_change_36 (by decide) ?_
    refine lv_icmp_ne (tgt := 44) hx hb_ dX1_change_37 (by decide) (fun c_37 => ?_) (fun c_37 => ?_)
    · skip
      refine lv_aload_n hx hb_ dX1_change_44 rfl (lv_at hl 2 rfl) ?_
      refine va_get (D := D) (ci := 1) (v := .ref (b_ 4)) (C := RX1) (T := TX1) (N := 18) hx hb_ hts hin hown hK_ hP 0 rfl rfl 4 (by decide) hf22 (fun _ h9 => h9) rfl dX1_change_45 ?_
      refine lv_iload_n hx hb_ dX1_change_48 rfl (lv_at hl 3 rfl) ?_
      refine va_iald (f := S 4) (n := 24) hx hb_ hK_ hP 5 0 rfl rfl (by assumption) dX1_change_49 ?_
      refine lv_iconst (v := 4) hx hb_ dX1_change_50 (by decide) ?_
      refine lv_icmp_ne (tgt := 72) hx hb_ dX1_change_51 (by decide) (fun c_51 => ?_) (fun c_51 => ?_)
      · skip
        exact W.vret hx hb_ hr (fun t_ ht hW => ⟨⟨(row S 16 (upd (S 16) (S 5 q_.toNatClampNeg).toNatClampNeg (S 6 q_.toNatClampNeg)), tq), rfl, by rw [mv2 c_22], by rw [ht]; exact hP, hD⟩, hS_.F ht⟩) hS_.2.2 dX1_change_72
      · skip
        exact absurd (c_22.symm.trans c_51) (by decide)
    · skip
      exact absurd (c_22.symm.trans c_37) (by decide)
set_option maxHeartbeats 4000000 in
set_option maxRecDepth 100000 in
theorem c_X1_exit (l : Launch) (D : va_G) (cI : ClassId) (y_ : Nat) (b_ : Nat → Nat) (S : ST) (tq : Int32) (sz : Nat) (p_ : Int32) (hp : vp_in p_ 6) (hc_ : vp_in (S 0 p_.toNatClampNeg) 8) : Met l yX1_exit wsX1_exit rmX1_exit (va_Pc [.ref y_, .int p_] (pW D (tyM cI) (wM cI y_ b_ S tq) sz)) (va_Qv (fun (u_ : ST × Int32) => u_ = (leave S p_.toNatClampNeg, tq)) (fun (u_ : ST × Int32) t_ => atW D (wM cI y_ b_ u_.1 u_.2) (va_A (wM cI y_ b_ S tq) sz) t_) (va_A (wM cI y_ b_ S tq) sz)) 0 0 (va_A (wM cI y_ b_ S tq) sz) := by
  refine Met.ofW (cc := cX1_exit) (maxL := 3) (ret := none) (by decide) rfl ?_
  intro pr env s_ mid args below meth cod s₁ Bd hml hv
  obtain ⟨rfl, hsz, hP, hK_, hD0⟩ := hv
  have hx := Bd.exec
  have hb_ := Bd.bytes
  have hr := Bd.returns
  have hts := atoms_spec (ws := wsX1_exit) Bd.pre
  have hown : s_.vm.findClass RX1 = some mid.cls := findClass_of_methodNamed Bd.named
  have hlocks := Bd.notSynchronized
  have hin : ∀ w_ ∈ wsX10, w_ ∈ wsX1_exit := fun _ h_ => List.mem_cons_of_mem _ (List.mem_append_right _ h_)
  subst hsz
  have hD := hD0.self (sz := s_.heap.size)
  generalize hAe : va_A (wM cI y_ b_ S tq) s_.heap.size = A at hD ⊢
  have hA : ∀ q_ : Nat, s_.heap.size ≤ q_ → A q_ := fun q_ h_ => by rw [← hAe]; exact Or.inr h_
  have hS_ : va_S A s_.heap s_.heap [] := va_S.rf
  have hP : va_P D vwCl (wM cI y_ b_ S tq) s_.heap := hP
  have hD : va_D A (wM cI y_ b_ S tq) := hD
  have hl := lv_entry ([.ref y_, .int p_]) (n := 3) (Nat.le_of_ble_eq_true rfl)
  rw [lg_entry_eq]
  generalize (lg_sl ([.ref y_, .int p_]) ++ List.replicate (3 - (lg_sl ([.ref y_, .int p_])).length) Slot.unset).toArray = ls at hl ⊢
  have hl : lv_has ls 3 [(0, .ref y_), (1, .int p_)] := hl
  refine lv_aload_n hx hb_ dX1_exit_0 rfl (lv_at hl 0 rfl) ?_
  have hf16 := hts (.fieldLink RX1 16 "ClockmaskModel" "costumes" "[I") (by decide +kernel)
  refine va_get (D := D) (ci := 1) (v := .ref (b_ 0)) (C := RX1) (T := TX1) (N := 18) hx hb_ hts hin hown hK_ hP 0 rfl rfl 2 (by decide) hf16 (fun _ h9 => h9) rfl dX1_exit_1 ?_
  refine lv_iload_n hx hb_ dX1_exit_4 rfl (lv_at hl 1 rfl) ?_
  refine va_iald (f := S 0) (n := 6) hx hb_ hK_ hP 3 0 rfl rfl (by assumption) dX1_exit_5 ?_
  refine lv_istore_n (lv' := [(2, .int (S 0 p_.toNatClampNeg)), (0, .ref y_), (1, .int p_)]) hx hb_ dX1_exit_6 rfl hl (by decide) rfl (fun ls hl => ?_)
  refine lv_aload_n hx hb_ dX1_exit_7 rfl (lv_at hl 1 rfl) ?_
  have hf13 := hts (.fieldLink RX1 13 "ClockmaskModel" "stage" "[I") (by decide +kernel)
  refine va_get (D := D) (ci := 1) (v := .ref (b_ 2)) (C := RX1) (T := TX1) (N := 18) hx hb_ hts hin hown hK_ hP 0 rfl rfl 1 (by decide) hf13 (fun _ h9 => h9) rfl dX1_exit_8 ?_
  refine lv_iload_n hx hb_ dX1_exit_11 rfl (lv_at hl 2 rfl) ?_
  refine lv_iconst (v := 0) hx hb_ dX1_exit_12 (by decide) ?_
  refine va_iast (f := S 2) (n := 6) hx hb_ hK_ hP hD hS_ 2 0 rfl rfl (by assumption) dX1_exit_13 (fun H locs hP hD hS_ => ?_)
  have hP : va_P D vwCl (wMr cI y_ b_ (S 0) (S 1) (upd (S 2) p_.toNatClampNeg 0) (S 3) (S 4) (S 5) (S 6) (S 7) (S 8) (S 9) (S 10 0) (S 11 0) (S 12) (S 13) (S 14 0) (S 15 0) (S 16) tq) H := hP
  have hD : va_D A (wMr cI y_ b_ (S 0) (S 1) (upd (S 2) p_.toNatClampNeg 0) (S 3) (S 4) (S 5) (S 6) (S 7) (S 8) (S 9) (S 10 0) (S 11 0) (S 12) (S 13) (S 14 0) (S 15 0) (S 16) tq) := hD
  refine lv_aload_n hx hb_ dX1_exit_14 rfl (lv_at hl 1 rfl) ?_
  have hf19 := hts (.fieldLink RX1 19 "ClockmaskModel" "wears" "[I") (by decide +kernel)
  refine va_get (D := D) (ci := 1) (v := .ref (b_ 3)) (C := RX1) (T := TX1) (N := 18) hx hb_ hts hin hown hK_ hP 0 rfl rfl 3 (by decide) hf19 (fun _ h9 => h9) rfl dX1_exit_15 ?_
  refine lv_iload_n hx hb_ dX1_exit_18 rfl (lv_at hl 0 rfl) ?_
  refine lv_dup2_11 hx hb_ dX1_exit_19 rfl rfl ?_
  refine va_iald (f := S 3) (n := 8) hx hb_ hK_ hP 4 0 rfl rfl (by assumption) dX1_exit_20 ?_
  refine lv_iconst (v := 1) hx hb_ dX1_exit_21 (by decide) ?_
  refine lv_iadd hx hb_ dX1_exit_22 ?_
  refine va_iast (f := S 3) (n := 8) hx hb_ hK_ hP hD hS_ 4 0 rfl rfl (by assumption) dX1_exit_23 (fun H locs hP hD hS_ => ?_)
  have hP : va_P D vwCl (wMr cI y_ b_ (S 0) (S 1) (upd (S 2) p_.toNatClampNeg 0) (upd (S 3) (S 0 p_.toNatClampNeg).toNatClampNeg ((S 3 (S 0 p_.toNatClampNeg).toNatClampNeg) + 1)) (S 4) (S 5) (S 6) (S 7) (S 8) (S 9) (S 10 0) (S 11 0) (S 12) (S 13) (S 14 0) (S 15 0) (S 16) tq) H := hP
  have hD : va_D A (wMr cI y_ b_ (S 0) (S 1) (upd (S 2) p_.toNatClampNeg 0) (upd (S 3) (S 0 p_.toNatClampNeg).toNatClampNeg ((S 3 (S 0 p_.toNatClampNeg).toNatClampNeg) + 1)) (S 4) (S 5) (S 6) (S 7) (S 8) (S 9) (S 10 0) (S 11 0) (S 12) (S 13) (S 14 0) (S 15 0) (S 16) tq) := hD
  refine lv_aload_n hx hb_ dX1_exit_24 rfl (lv_at hl 1 rfl) ?_
  refine va_get (D := D) (ci := 1) (v := .ref (b_ 0)) (C := RX1) (T := TX1) (N := 18) hx hb_ hts hin hown hK_ hP 0 rfl rfl 2 (by decide) hf16 (fun _ h9 => h9) rfl dX1_exit_25 ?_
  refine lv_iload_n hx hb_ dX1_exit_28 rfl (lv_at hl 2 rfl) ?_
  refine lv_aload_n hx hb_ dX1_exit_29 rfl (lv_at hl 1 rfl) ?_
  refine va_get (D := D) (ci := 1) (v := .ref (b_ 3)) (C := RX1) (T := TX1) (N := 18) hx hb_ hts hin hown hK_ hP 0 rfl rfl 3 (by decide) hf19 (fun _ h9 => h9) rfl dX1_exit_30 ?_
  refine lv_iload_n hx hb_ dX1_exit_33 rfl (lv_at hl 0 rfl) ?_
  refine va_iald (f := upd (S 3) (S 0 p_.toNatClampNeg).toNatClampNeg ((S 3 (S 0 p_.toNatClampNeg).toNatClampNeg) + 1)) (n := 8) hx hb_ hK_ hP 4 0 rfl rfl (by assumption) dX1_exit_34 ?_
  refine lv_iconst (v := 3) hx hb_ dX1_exit_35 (by decide) ?_
  rw [pk_us]
  refine lv_icmp_lt (tgt := 43) hx hb_ dX1_exit_36 (by decide) (fun c_36 => ?_) (fun c_36 => ?_)
  · skip
    refine lv_iload_n hx hb_ dX1_exit_43 rfl (lv_at hl 0 rfl) ?_
    refine va_iast (f := S 0) (n := 6) hx hb_ hK_ hP hD hS_ 3 0 rfl rfl (by assumption) dX1_exit_44 (fun H locs hP hD hS_ => ?_)
    have hP : va_P D vwCl (wMr cI y_ b_ (upd (S 0) p_.toNatClampNeg (S 0 p_.toNatClampNeg)) (S 1) (upd (S 2) p_.toNatClampNeg 0) (upd (S 3) (S 0 p_.toNatClampNeg).toNatClampNeg ((S 3 (S 0 p_.toNatClampNeg).toNatClampNeg) + 1)) (S 4) (S 5) (S 6) (S 7) (S 8) (S 9) (S 10 0) (S 11 0) (S 12) (S 13) (S 14 0) (S 15 0) (S 16) tq) H := hP
    have hD : va_D A (wMr cI y_ b_ (upd (S 0) p_.toNatClampNeg (S 0 p_.toNatClampNeg)) (S 1) (upd (S 2) p_.toNatClampNeg 0) (upd (S 3) (S 0 p_.toNatClampNeg).toNatClampNeg ((S 3 (S 0 p_.toNatClampNeg).toNatClampNeg) + 1)) (S 4) (S 5) (S 6) (S 7) (S 8) (S 9) (S 10 0) (S 11 0) (S 12) (S 13) (S 14 0) (S 15 0) (S 16) tq) := hD
    exact W.vret hx hb_ hr (fun t_ ht hW => ⟨⟨(row (row (row S 2 (upd (S 2) p_.toNatClampNeg 0)) 3 (upd (S 3) (S 0 p_.toNatClampNeg).toNatClampNeg ((S 3 (S 0 p_.toNatClampNeg).toNatClampNeg) + 1))) 0 (upd (S 0) p_.toNatClampNeg (S 0 p_.toNatClampNeg)), tq), rfl, by rw [leave_m (fun h_ => le_nlt h_ c_36)], by rw [ht]; exact hP, hD⟩, hS_.F ht⟩) hS_.2.2 dX1_exit_45
  · skip
    refine lv_iconst (v := (-1)) hx hb_ dX1_exit_39 (by decide) ?_
    refine lv_goto (tgt := 44) hx hb_ dX1_exit_40 (by decide) ?_
    refine va_iast (f := S 0) (n := 6) hx hb_ hK_ hP hD hS_ 3 0 rfl rfl (by assumption) dX1_exit_44 (fun H locs hP hD hS_ => ?_)
    have hP : va_P D vwCl (wMr cI y_ b_ (upd (S 0) p_.toNatClampNeg (-1)) (S 1) (upd (S 2) p_.toNatClampNeg 0) (upd (S 3) (S 0 p_.toNatClampNeg).toNatClampNeg ((S 3 (S 0 p_.toNatClampNeg).toNatClampNeg) + 1)) (S 4) (S 5) (S 6) (S 7) (S 8) (S 9) (S 10 0) (S 11 0) (S 12) (S 13) (S 14 0) (S 15 0) (S 16) tq) H := hP
    have hD : va_D A (wMr cI y_ b_ (upd (S 0) p_.toNatClampNeg (-1)) (S 1) (upd (S 2) p_.toNatClampNeg 0) (upd (S 3) (S 0 p_.toNatClampNeg).toNatClampNeg ((S 3 (S 0 p_.toNatClampNeg).toNatClampNeg) + 1)) (S 4) (S 5) (S 6) (S 7) (S 8) (S 9) (S 10 0) (S 11 0) (S 12) (S 13) (S 14 0) (S 15 0) (S 16) tq) := hD
    exact W.vret hx hb_ hr (fun t_ ht hW => ⟨⟨(row (row (row S 2 (upd (S 2) p_.toNatClampNeg 0)) 3 (upd (S 3) (S 0 p_.toNatClampNeg).toNatClampNeg ((S 3 (S 0 p_.toNatClampNeg).toNatClampNeg) + 1))) 0 (upd (S 0) p_.toNatClampNeg (-1)), tq), rfl, by rw [leave_t (Int32.not_lt.mp c_36)], by rw [ht]; exact hP, hD⟩, hS_.F ht⟩) hS_.2.2 dX1_exit_45
set_option maxHeartbeats 4000000 in
set_option maxRecDepth 100000 in
theorem c_X1_callOne (l : Launch) (D : va_G) (cI : ClassId) (y_ : Nat) (b_ : Nat → Nat) (S : ST) (tq : Int32) (sz : Nat) (q_ : Int32) (hq : vp_in q_ 24) (hc_ : cueOK S q_.toNatClampNeg) (hcl : vp_in (S 11 0) 24) (hex_ : S 4 q_.toNatClampNeg = 1 → S 0 (S 5 q_.toNatClampNeg).toNatClampNeg ≠ -1 ∧ vp_in (S 0 (S 5 q_.toNatClampNeg).toNatClampNeg) 8) : Met l yX1_callOne wsX1_callOne rmX1_callOne (va_Pc [.ref y_, .int q_] (pW D (tyM cI) (wM cI y_ b_ S tq) sz)) (va_Qv (fun (u_ : ST × Int32) => u_ = (callQ S q_, tq)) (fun (u_ : ST × Int32) t_ => atW D (wM cI y_ b_ u_.1 u_.2) (va_A (wM cI y_ b_ S tq) sz) t_) (va_A (wM cI y_ b_ S tq) sz)) 0 0 (va_A (wM cI y_ b_ S tq) sz) := by
  refine Met.ofW (cc := cX1_callOne) (maxL := 2) (ret := none) (by decide) rfl ?_
  intro pr env s_ mid args below meth cod s₁ Bd hml hv
  obtain ⟨rfl, hsz, hP, hK_, hD0⟩ := hv
  have hx := Bd.exec
  have hb_ := Bd.bytes
  have hr := Bd.returns
  have hts := atoms_spec (ws := wsX1_callOne) Bd.pre
  have hown : s_.vm.findClass RX1 = some mid.cls := findClass_of_methodNamed Bd.named
  have hlocks := Bd.notSynchronized
  have hin : ∀ w_ ∈ wsX10, w_ ∈ wsX1_callOne := fun _ h_ => List.mem_cons_of_mem _ (List.mem_append_right _ h_)
  subst hsz
  have hD := hD0.self (sz := s_.heap.size)
  generalize hAe : va_A (wM cI y_ b_ S tq) s_.heap.size = A at hD ⊢
  have hA : ∀ q_ : Nat, s_.heap.size ≤ q_ → A q_ := fun q_ h_ => by rw [← hAe]; exact Or.inr h_
  have hS_ : va_S A s_.heap s_.heap [] := va_S.rf
  have hP : va_P D vwCl (wM cI y_ b_ S tq) s_.heap := hP
  have hD : va_D A (wM cI y_ b_ S tq) := hD
  have hl := lv_entry ([.ref y_, .int q_]) (n := 2) (Nat.le_of_ble_eq_true rfl)
  rw [lg_entry_eq]
  generalize (lg_sl ([.ref y_, .int q_]) ++ List.replicate (2 - (lg_sl ([.ref y_, .int q_])).length) Slot.unset).toArray = ls at hl ⊢
  have hl : lv_has ls 2 [(0, .ref y_), (1, .int q_)] := hl
  refine lv_aload_n hx hb_ dX1_callOne_0 rfl (lv_at hl 0 rfl) ?_
  have hf34 := hts (.fieldLink RX1 34 "ClockmaskModel" "states" "[I") (by decide +kernel)
  refine va_get (D := D) (ci := 1) (v := .ref (b_ 8)) (C := RX1) (T := TX1) (N := 18) hx hb_ hts hin hown hK_ hP 0 rfl rfl 8 (by decide) hf34 (fun _ h9 => h9) rfl dX1_callOne_1 ?_
  refine lv_iload_n hx hb_ dX1_callOne_4 rfl (lv_at hl 1 rfl) ?_
  refine lv_iconst (v := 1) hx hb_ dX1_callOne_5 (by decide) ?_
  refine va_iast (f := S 8) (n := 24) hx hb_ hK_ hP hD hS_ 9 0 rfl rfl (by assumption) dX1_callOne_6 (fun H locs hP hD hS_ => ?_)
  have hP : va_P D vwCl (wMr cI y_ b_ (S 0) (S 1) (S 2) (S 3) (S 4) (S 5) (S 6) (S 7) (upd (S 8) q_.toNatClampNeg 1) (S 9) (S 10 0) (S 11 0) (S 12) (S 13) (S 14 0) (S 15 0) (S 16) tq) H := hP
  have hD : va_D A (wMr cI y_ b_ (S 0) (S 1) (S 2) (S 3) (S 4) (S 5) (S 6) (S 7) (upd (S 8) q_.toNatClampNeg 1) (S 9) (S 10 0) (S 11 0) (S 12) (S 13) (S 14 0) (S 15 0) (S 16) tq) := hD
  refine lv_aload_n hx hb_ dX1_callOne_7 rfl (lv_at hl 0 rfl) ?_
  have hf37 := hts (.fieldLink RX1 37 "ClockmaskModel" "order" "[I") (by decide +kernel)
  refine va_get (D := D) (ci := 1) (v := .ref (b_ 9)) (C := RX1) (T := TX1) (N := 18) hx hb_ hts hin hown hK_ hP 0 rfl rfl 9 (by decide) hf37 (fun _ h9 => h9) rfl dX1_callOne_8 ?_
  refine lv_aload_n hx hb_ dX1_callOne_11 rfl (lv_at hl 0 rfl) ?_
  have hf89 := hts (.fieldLink RX1 89 "ClockmaskModel" "called" "I") (by decide +kernel)
  refine va_get (D := D) (ci := 1) (v := .int (S 11 0)) (C := RX1) (T := TX1) (N := 18) hx hb_ hts hin hown hK_ hP 0 rfl rfl 11 (by decide) hf89 (fun _ h9 => h9) rfl dX1_callOne_12 ?_
  refine lv_iload_n hx hb_ dX1_callOne_15 rfl (lv_at hl 1 rfl) ?_
  refine va_iast (f := S 9) (n := 24) hx hb_ hK_ hP hD hS_ 10 0 rfl rfl hcl dX1_callOne_16 (fun H locs hP hD hS_ => ?_)
  have hP : va_P D vwCl (wMr cI y_ b_ (S 0) (S 1) (S 2) (S 3) (S 4) (S 5) (S 6) (S 7) (upd (S 8) q_.toNatClampNeg 1) (upd (S 9) (S 11 0).toNatClampNeg q_) (S 10 0) (S 11 0) (S 12) (S 13) (S 14 0) (S 15 0) (S 16) tq) H := hP
  have hD : va_D A (wMr cI y_ b_ (S 0) (S 1) (S 2) (S 3) (S 4) (S 5) (S 6) (S 7) (upd (S 8) q_.toNatClampNeg 1) (upd (S 9) (S 11 0).toNatClampNeg q_) (S 10 0) (S 11 0) (S 12) (S 13) (S 14 0) (S 15 0) (S 16) tq) := hD
  refine lv_aload_n hx hb_ dX1_callOne_17 rfl (lv_at hl 0 rfl) ?_
  refine lv_dup hx hb_ dX1_callOne_18 rfl ?_
  refine va_get (D := D) (ci := 1) (v := .int (S 11 0)) (C := RX1) (T := TX1) (N := 18) hx hb_ hts hin hown hK_ hP 0 rfl rfl 11 (by decide) hf89 (fun _ h9 => h9) rfl dX1_callOne_19 ?_
  refine lv_iconst (v := 1) hx hb_ dX1_callOne_22 (by decide) ?_
  refine lv_iadd hx hb_ dX1_callOne_23 ?_
  refine va_put (D := D) (ci := 1) (v := .int ((S 11 0) + 1)) (ty := .int) (C := RX1) (T := TX1) (N := 18) hx hb_ hts hin tyX1 tyX1_ok nmX1 hown hK_ hP hD hS_ 0 rfl rfl 11 (by decide) hf89 (fun _ h9 => h9) rfl (by decide +kernel) rfl rfl (Nat.le_of_ble_eq_true rfl) dX1_callOne_24 (fun H locs hP hD hS_ => ?_)
  have hP : va_P D vwCl (wMr cI y_ b_ (S 0) (S 1) (S 2) (S 3) (S 4) (S 5) (S 6) (S 7) (upd (S 8) q_.toNatClampNeg 1) (upd (S 9) (S 11 0).toNatClampNeg q_) (S 10 0) ((S 11 0) + 1) (S 12) (S 13) (S 14 0) (S 15 0) (S 16) tq) H := hP
  have hD : va_D A (wMr cI y_ b_ (S 0) (S 1) (S 2) (S 3) (S 4) (S 5) (S 6) (S 7) (upd (S 8) q_.toNatClampNeg 1) (upd (S 9) (S 11 0).toNatClampNeg q_) (S 10 0) ((S 11 0) + 1) (S 12) (S 13) (S 14 0) (S 15 0) (S 16) tq) := hD
  refine lv_aload_n hx hb_ dX1_callOne_27 rfl (lv_at hl 0 rfl) ?_
  refine lv_iload_n hx hb_ dX1_callOne_28 rfl (lv_at hl 1 rfl) ?_
  refine lv_aload_n hx hb_ dX1_callOne_29 rfl (lv_at hl 0 rfl) ?_
  have hf7 := hts (.fieldLink RX1 7 "ClockmaskModel" "masks" "[I") (by decide +kernel)
  refine va_get (D := D) (ci := 1) (v := .ref (b_ 1)) (C := RX1) (T := TX1) (N := 18) hx hb_ hts hin hown hK_ hP 0 rfl rfl 0 (by decide) hf7 (fun _ h9 => h9) rfl dX1_callOne_30 ?_
  have hPs : va_P D vwCl (wM cI y_ b_ (row (row (row S 8 (upd (S 8) q_.toNatClampNeg 1)) 9 (upd (S 9) (S 11 0).toNatClampNeg q_)) 11 (kf ((S 11 0) + 1))) tq) H := hP
  have hDs : va_D A (wM cI y_ b_ (row (row (row S 8 (upd (S 8) q_.toNatClampNeg 1)) 9 (upd (S 9) (S 11 0).toNatClampNeg q_)) 11 (kf ((S 11 0) + 1))) tq) := hD
  have hFc := wfree hDs hS_ hA
  refine va_callv (va_runV (As := [.int q_, .ref (b_ 1)]) (rest := []) ⟨hx, hb_, hml, hown, hts⟩ (c_X1_change_1 l D cI y_ b_ (row (row (row S 8 (upd (S 8) q_.toNatClampNeg 1)) 9 (upd (S 9) (S 11 0).toNatClampNeg q_)) 11 (kf ((S 11 0) + 1))) tq H.size q_ hq hc_.2.1 hc_.2.2.1) (cwV 2 hts gX1_callOne_X1_change rfl rfl rfl (by decide +kernel) ⟨Nat.le_of_ble_eq_true rfl, Nat.le_of_ble_eq_true rfl⟩) (pW_V (ci := 1) hPs hK_ hDs rfl rfl) rfl rfl hl.1 rfl (lv_room (Nat.le_of_ble_eq_true rfl)) dX1_callOne_33 ⟨Nat.zero_le _, Nat.zero_le _⟩) hS_ (fun q_ _ h_ => hFc q_ h_) hFc (fun u_33 t9 H1 locs ht9 hvm9 h_33 hB9 hz9 hk9 hS_ => ?_)
  subst h_33
  have hP : va_P D vwCl (wMr cI y_ b_ (S 0) (mv (row (row (row S 8 (upd (S 8) q_.toNatClampNeg 1)) 9 (upd (S 9) (S 11 0).toNatClampNeg q_)) 11 (kf ((S 11 0) + 1))) q_.toNatClampNeg (S 1)) (S 2) (S 3) (S 4) (S 5) (S 6) (S 7) (upd (S 8) q_.toNatClampNeg 1) (upd (S 9) (S 11 0).toNatClampNeg q_) (S 10 0) ((S 11 0) + 1) (S 12) (S 13) (S 14 0) (S 15 0) (S 16) tq) H1 := atW_P hB9 ht9
  have hD : va_D A (wMr cI y_ b_ (S 0) (mv (row (row (row S 8 (upd (S 8) q_.toNatClampNeg 1)) 9 (upd (S 9) (S 11 0).toNatClampNeg q_)) 11 (kf ((S 11 0) + 1))) q_.toNatClampNeg (S 1)) (S 2) (S 3) (S 4) (S 5) (S 6) (S 7) (upd (S 8) q_.toNatClampNeg 1) (upd (S 9) (S 11 0).toNatClampNeg q_) (S 10 0) ((S 11 0) + 1) (S 12) (S 13) (S 14 0) (S 15 0) (S 16) tq) := atW_D hB9 hFc
  generalize H1 = H at hP hS_ ⊢
  refine lv_aload_n hx hb_ dX1_callOne_36 rfl (lv_at hl 0 rfl) ?_
  have hf22 := hts (.fieldLink RX1 22 "ClockmaskModel" "kinds" "[I") (by decide +kernel)
  refine va_get (D := D) (ci := 1) (v := .ref (b_ 4)) (C := RX1) (T := TX1) (N := 18) hx hb_ hts hin hown hK_ hP 0 rfl rfl 4 (by decide) hf22 (fun _ h9 => h9) rfl dX1_callOne_37 ?_
  refine lv_iload_n hx hb_ dX1_callOne_40 rfl (lv_at hl 1 rfl) ?_
  refine va_iald (f := S 4) (n := 24) hx hb_ hK_ hP 5 0 rfl rfl (by assumption) dX1_callOne_41 ?_
  refine lv_if_ne (tgt := 57) hx hb_ dX1_callOne_42 (by decide) (fun c_42 => ?_) (fun c_42 => ?_)
  · skip
    refine lv_aload_n hx hb_ dX1_callOne_57 rfl (lv_at hl 0 rfl) ?_
    refine va_get (D := D) (ci := 1) (v := .ref (b_ 4)) (C := RX1) (T := TX1) (N := 18) hx hb_ hts hin hown hK_ hP 0 rfl rfl 4 (by decide) hf22 (fun _ h9 => h9) rfl dX1_callOne_58 ?_
    refine lv_iload_n hx hb_ dX1_callOne_61 rfl (lv_at hl 1 rfl) ?_
    refine va_iald (f := S 4) (n := 24) hx hb_ hK_ hP 5 0 rfl rfl (by assumption) dX1_callOne_62 ?_
    refine lv_iconst (v := 1) hx hb_ dX1_callOne_63 (by decide) ?_
    refine lv_icmp_ne (tgt := 77) hx hb_ dX1_callOne_64 (by decide) (fun c_64 => ?_) (fun c_64 => ?_)
    · skip
      exact W.vret hx hb_ hr (fun t_ ht hW => ⟨⟨(row (row (row (row S 8 (upd (S 8) q_.toNatClampNeg 1)) 9 (upd (S 9) (S 11 0).toNatClampNeg q_)) 11 (kf ((S 11 0) + 1))) 1 (mv (row (row (row S 8 (upd (S 8) q_.toNatClampNeg 1)) 9 (upd (S 9) (S 11 0).toNatClampNeg q_)) 11 (kf ((S 11 0) + 1))) q_.toNatClampNeg (S 1)), tq), rfl, by rw [callM_m c_42 c_64], by rw [ht]; exact hP, hD⟩, hS_.F ht⟩) hS_.2.2 dX1_callOne_77
    · skip
      refine lv_aload_n hx hb_ dX1_callOne_67 rfl (lv_at hl 0 rfl) ?_
      refine lv_aload_n hx hb_ dX1_callOne_68 rfl (lv_at hl 0 rfl) ?_
      have hf25 := hts (.fieldLink RX1 25 "ClockmaskModel" "players" "[I") (by decide +kernel)
      refine va_get (D := D) (ci := 1) (v := .ref (b_ 5)) (C := RX1) (T := TX1) (N := 18) hx hb_ hts hin hown hK_ hP 0 rfl rfl 5 (by decide) hf25 (fun _ h9 => h9) rfl dX1_callOne_69 ?_
      refine lv_iload_n hx hb_ dX1_callOne_72 rfl (lv_at hl 1 rfl) ?_
      refine va_iald (f := S 5) (n := 24) hx hb_ hK_ hP 6 0 rfl rfl (by assumption) dX1_callOne_73 ?_
      have hPs : va_P D vwCl (wM cI y_ b_ (row (row (row (row S 8 (upd (S 8) q_.toNatClampNeg 1)) 9 (upd (S 9) (S 11 0).toNatClampNeg q_)) 11 (kf ((S 11 0) + 1))) 1 (mv (row (row (row S 8 (upd (S 8) q_.toNatClampNeg 1)) 9 (upd (S 9) (S 11 0).toNatClampNeg q_)) 11 (kf ((S 11 0) + 1))) q_.toNatClampNeg (S 1))) tq) H := hP
      have hDs : va_D A (wM cI y_ b_ (row (row (row (row S 8 (upd (S 8) q_.toNatClampNeg 1)) 9 (upd (S 9) (S 11 0).toNatClampNeg q_)) 11 (kf ((S 11 0) + 1))) 1 (mv (row (row (row S 8 (upd (S 8) q_.toNatClampNeg 1)) 9 (upd (S 9) (S 11 0).toNatClampNeg q_)) 11 (kf ((S 11 0) + 1))) q_.toNatClampNeg (S 1))) tq) := hD
      have hFc := wfree hDs hS_ hA
      refine va_callv (va_runV (As := [.int (S 5 q_.toNatClampNeg)]) (rest := []) ⟨hx, hb_, hml, hown, hts⟩ (c_X1_exit l D cI y_ b_ (row (row (row (row S 8 (upd (S 8) q_.toNatClampNeg 1)) 9 (upd (S 9) (S 11 0).toNatClampNeg q_)) 11 (kf ((S 11 0) + 1))) 1 (mv (row (row (row S 8 (upd (S 8) q_.toNatClampNeg 1)) 9 (upd (S 9) (S 11 0).toNatClampNeg q_)) 11 (kf ((S 11 0) + 1))) q_.toNatClampNeg (S 1))) tq H.size (S 5 q_.toNatClampNeg) hc_.2.1 (hex_ c_64).2) (cwV 1 hts gX1_callOne_X1_exit rfl rfl rfl (by decide +kernel) ⟨Nat.le_of_ble_eq_true rfl, Nat.le_of_ble_eq_true rfl⟩) (pW_V (ci := 1) hPs hK_ hDs rfl rfl) rfl rfl hl.1 rfl (lv_room (Nat.le_of_ble_eq_true rfl)) dX1_callOne_74 ⟨Nat.zero_le _, Nat.zero_le _⟩) hS_ (fun q_ _ h_ => hFc q_ h_) hFc (fun u_74 t9 H1 locs ht9 hvm9 h_74 hB9 hz9 hk9 hS_ => ?_)
      obtain ⟨v_74, w_74⟩ := u_74
      replace h_74 := Prod.mk.inj h_74
      obtain ⟨h_74, k_74⟩ := h_74
      replace k_74 := k_74.symm
      subst k_74
      have hP : va_P D vwCl (wM cI y_ b_ v_74 tq) H1 := atW_P hB9 ht9
      have hD : va_D A (wM cI y_ b_ v_74 tq) := atW_D hB9 hFc
      generalize H1 = H at hP hS_ ⊢
      exact W.vret hx hb_ hr (fun t_ ht hW => ⟨⟨(v_74, tq), rfl, by rw [h_74, callM_1 c_64], by rw [ht]; exact hP, hD⟩, hS_.F ht⟩) hS_.2.2 dX1_callOne_77
  · skip
    refine lv_aload_n hx hb_ dX1_callOne_45 rfl (lv_at hl 0 rfl) ?_
    have hf13 := hts (.fieldLink RX1 13 "ClockmaskModel" "stage" "[I") (by decide +kernel)
    refine va_get (D := D) (ci := 1) (v := .ref (b_ 2)) (C := RX1) (T := TX1) (N := 18) hx hb_ hts hin hown hK_ hP 0 rfl rfl 1 (by decide) hf13 (fun _ h9 => h9) rfl dX1_callOne_46 ?_
    refine lv_aload_n hx hb_ dX1_callOne_49 rfl (lv_at hl 0 rfl) ?_
    have hf25 := hts (.fieldLink RX1 25 "ClockmaskModel" "players" "[I") (by decide +kernel)
    refine va_get (D := D) (ci := 1) (v := .ref (b_ 5)) (C := RX1) (T := TX1) (N := 18) hx hb_ hts hin hown hK_ hP 0 rfl rfl 5 (by decide) hf25 (fun _ h9 => h9) rfl dX1_callOne_50 ?_
    refine lv_iload_n hx hb_ dX1_callOne_53 rfl (lv_at hl 1 rfl) ?_
    refine va_iald (f := S 5) (n := 24) hx hb_ hK_ hP 6 0 rfl rfl (by assumption) dX1_callOne_54 ?_
    refine lv_iconst (v := 1) hx hb_ dX1_callOne_55 (by decide) ?_
    refine va_iast (f := S 2) (n := 6) hx hb_ hK_ hP hD hS_ 2 0 rfl rfl hc_.2.1 dX1_callOne_56 (fun H locs hP hD hS_ => ?_)
    have hP : va_P D vwCl (wMr cI y_ b_ (S 0) (mv (row (row (row S 8 (upd (S 8) q_.toNatClampNeg 1)) 9 (upd (S 9) (S 11 0).toNatClampNeg q_)) 11 (kf ((S 11 0) + 1))) q_.toNatClampNeg (S 1)) (upd (S 2) (S 5 q_.toNatClampNeg).toNatClampNeg 1) (S 3) (S 4) (S 5) (S 6) (S 7) (upd (S 8) q_.toNatClampNeg 1) (upd (S 9) (S 11 0).toNatClampNeg q_) (S 10 0) ((S 11 0) + 1) (S 12) (S 13) (S 14 0) (S 15 0) (S 16) tq) H := hP
    have hD : va_D A (wMr cI y_ b_ (S 0) (mv (row (row (row S 8 (upd (S 8) q_.toNatClampNeg 1)) 9 (upd (S 9) (S 11 0).toNatClampNeg q_)) 11 (kf ((S 11 0) + 1))) q_.toNatClampNeg (S 1)) (upd (S 2) (S 5 q_.toNatClampNeg).toNatClampNeg 1) (S 3) (S 4) (S 5) (S 6) (S 7) (upd (S 8) q_.toNatClampNeg 1) (upd (S 9) (S 11 0).toNatClampNeg q_) (S 10 0) ((S 11 0) + 1) (S 12) (S 13) (S 14 0) (S 15 0) (S 16) tq) := hD
    refine lv_aload_n hx hb_ dX1_callOne_57 rfl (lv_at hl 0 rfl) ?_
    refine va_get (D := D) (ci := 1) (v := .ref (b_ 4)) (C := RX1) (T := TX1) (N := 18) hx hb_ hts hin hown hK_ hP 0 rfl rfl 4 (by decide) hf22 (fun _ h9 => h9) rfl dX1_callOne_58 ?_
    refine lv_iload_n hx hb_ dX1_callOne_61 rfl (lv_at hl 1 rfl) ?_
    refine va_iald (f := S 4) (n := 24) hx hb_ hK_ hP 5 0 rfl rfl (by assumption) dX1_callOne_62 ?_
    refine lv_iconst (v := 1) hx hb_ dX1_callOne_63 (by decide) ?_
    refine lv_icmp_ne (tgt := 77) hx hb_ dX1_callOne_64 (by decide) (fun c_64 => ?_) (fun c_64 => ?_)
    · skip
      exact W.vret hx hb_ hr (fun t_ ht hW => ⟨⟨(row (row (row (row (row S 8 (upd (S 8) q_.toNatClampNeg 1)) 9 (upd (S 9) (S 11 0).toNatClampNeg q_)) 11 (kf ((S 11 0) + 1))) 1 (mv (row (row (row S 8 (upd (S 8) q_.toNatClampNeg 1)) 9 (upd (S 9) (S 11 0).toNatClampNeg q_)) 11 (kf ((S 11 0) + 1))) q_.toNatClampNeg (S 1))) 2 (upd (S 2) (S 5 q_.toNatClampNeg).toNatClampNeg 1), tq), rfl, by rw [callM_0 c_42], by rw [ht]; exact hP, hD⟩, hS_.F ht⟩) hS_.2.2 dX1_callOne_77
    · skip
      exact absurd (c_42.symm.trans c_64) (by decide)
