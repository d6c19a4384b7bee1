set_option maxHeartbeats 4000000 in
set_option maxRecDepth 100000 in
theorem c_X1_costumeOf (l : Launch) (D : va_G) (cI : ClassId) (y_ : Nat) (b_ : Nat → Nat) (S : ST) (tq : Int32) (sz : Nat) (p_ : Int32) : Met l yX1_costumeOf wsX1_costumeOf rmX1_costumeOf (va_Pc [.ref y_, .int p_] (pW D (tyM cI) (wM cI y_ b_ S tq) sz)) (va_Qi (fun (r_ : Int32) (u_ : ST × Int32) => k_costumeOf S p_ = (u_.2, r_, u_.1)) (fun (u_ : ST × Int32) t_ => atW D (wM cI y_ b_ u_.1 u_.2) (va_A (wM cI y_ b_ S tq) sz) t_) (va_A (wM cI y_ b_ S tq) sz)) 0 0 (va_A (wM cI y_ b_ S tq) sz) := by
  refine Met.ofW (cc := cX1_costumeOf) (maxL := 2) (ret := (some .int)) (by decide) rfl ?_
  intro pr env s_ mid args below meth cod s₁ Bd hml hv
  obtain ⟨rfl, hsz, hP, hK_, hD0⟩ := hv
  have hx := Bd.exec
  have hb_ := Bd.bytes
  have hr := Bd.returns
  have hts := atoms_spec (ws := wsX1_costumeOf) Bd.pre
  have hown : s_.vm.findClass RX1 = some mid.cls := findClass_of_methodNamed Bd.named
  have hlocks := Bd.notSynchronized
  have hin : ∀ w_ ∈ wsX10, w_ ∈ wsX1_costumeOf := fun _ h_ => List.mem_cons_of_mem _ (List.mem_append_right _ h_)
  subst hsz
  have hD := hD0.self (sz := s_.heap.size)
  generalize hAe : va_A (wM cI y_ b_ S tq) s_.heap.size = A at hD ⊢
  have hA : ∀ q_ : Nat, s_.heap.size ≤ q_ → A q_ := fun q_ h_ => by rw [← hAe]; exact Or.inr h_
  have hS_ : va_S A s_.heap s_.heap [] := va_S.rf
  have hP : va_P D vwCl (wM cI y_ b_ S tq) s_.heap := hP
  have hD : va_D A (wM cI y_ b_ S tq) := hD
  have hl := lv_entry ([.ref y_, .int p_]) (n := 2) (Nat.le_of_ble_eq_true rfl)
  rw [lg_entry_eq]
  generalize (lg_sl ([.ref y_, .int p_]) ++ List.replicate (2 - (lg_sl ([.ref y_, .int p_])).length) Slot.unset).toArray = ls at hl ⊢
  have hl : lv_has ls 2 [(0, .ref y_), (1, .int p_)] := hl
  refine lv_aload_n hx hb_ dX1_costumeOf_0 rfl (lv_at hl 0 rfl) ?_
  refine lv_iconst (v := 0) hx hb_ dX1_costumeOf_1 (by decide) ?_
  have hf53 := hts (.fieldLink RX1 53 "ClockmaskModel" "thrown" "I") (by decide +kernel)
  refine va_put (D := D) (ci := 1) (v := .int 0) (ty := .int) (C := RX1) (T := TX1) (N := 18) hx hb_ hts hin tyX1 tyX1_ok nmX1 hown hK_ hP hD hS_ 0 rfl rfl 17 (by decide) hf53 (fun _ h9 => h9) rfl (by decide +kernel) rfl rfl (Nat.le_of_ble_eq_true rfl) dX1_costumeOf_2 (fun H locs hP hD hS_ => ?_)
  have hP : va_P D vwCl (wM cI y_ b_ S 0) H := hP
  have hD : va_D A (wM cI y_ b_ S 0) := hD
  refine lv_iload_n hx hb_ dX1_costumeOf_5 rfl (lv_at hl 1 rfl) ?_
  refine vp_callSi (W.runS (As := [.int p_]) (rest := []) ⟨hx, hb_, hml, hown, hts⟩ (c_X1_isPlayer l p_) (va_cwS 1 hts gX1_costumeOf_X1_isPlayer rfl rfl rfl (by decide +kernel) ⟨Nat.le_of_ble_eq_true rfl, Nat.le_of_ble_eq_true rfl⟩) (pN_S) rfl rfl hl.1 rfl (lv_room (Nat.le_of_ble_eq_true rfl)) dX1_costumeOf_6 ⟨Nat.zero_le _, Nat.zero_le _⟩) (fun r_6 h_6 => ?_)
  refine lv_if_eq (tgt := 21) hx hb_ dX1_costumeOf_9 (by decide) (fun c_9 => ?_) (fun c_9 => ?_)
  · skip
    have b_6 := cif_b0 h_6 c_9
    refine lv_aload_n hx hb_ dX1_costumeOf_21 rfl (lv_at hl 0 rfl) ?_
    refine lv_iconst (v := 1) hx hb_ dX1_costumeOf_22 (by decide) ?_
    have hFc := wfree hD hS_ hA
    refine va_calli (va_runV (As := [.int 1]) (rest := []) ⟨hx, hb_, hml, hown, hts⟩ (c_X1_fails l D cI y_ b_ S 0 H.size 1) (cwV 1 hts gX1_costumeOf_X1_fails rfl rfl rfl (by decide +kernel) ⟨Nat.le_of_ble_eq_true rfl, Nat.le_of_ble_eq_true rfl⟩) (pW_V (ci := 1) hP hK_ hD rfl rfl) rfl rfl hl.1 rfl (lv_room (Nat.le_of_ble_eq_true rfl)) dX1_costumeOf_23 ⟨Nat.zero_le _, Nat.zero_le _⟩) hS_ (fun q_ _ h_ => hFc q_ h_) hFc (fun r_23 u_23 t9 H1 locs ht9 hvm9 h_23 hB9 hz9 hk9 hS_ => ?_)
    obtain ⟨e_23, h_23⟩ := h_23
    subst e_23
    subst h_23
    have hP : va_P D vwCl (wM cI y_ b_ S 1) H1 := atW_P hB9 ht9
    have hD : va_D A (wM cI y_ b_ S 1) := atW_D hB9 hFc
    generalize H1 = H at hP hS_ ⊢
    exact W.iret (v := 0) hx hb_ hr (fun t_ ht hW => ⟨⟨_, (S, 1), rfl, cif_f b_6, by rw [ht]; exact hP, hD⟩, hS_.F ht⟩) hS_.2.2 dX1_costumeOf_26
  · skip
    have b_6 := cif_b1 h_6 c_9
    refine lv_aload_n hx hb_ dX1_costumeOf_12 rfl (lv_at hl 0 rfl) ?_
    have hf16 := hts (.fieldLink RX1 16 "ClockmaskModel" "costumes" "[I") (by decide +kernel)
    refine va_get (D := D) (ci := 1) (v := .ref (b_ 0)) (C := RX1) (T := TX1) (N := 18) hx hb_ hts hin hown hK_ hP 0 rfl rfl 2 (by decide) hf16 (fun _ h9 => h9) rfl dX1_costumeOf_13 ?_
    refine lv_iload_n hx hb_ dX1_costumeOf_16 rfl (lv_at hl 1 rfl) ?_
    refine va_iald (f := S 0) (n := 6) hx hb_ hK_ hP 3 0 rfl rfl (by assumption) dX1_costumeOf_17 ?_
    refine lv_goto (tgt := 26) hx hb_ dX1_costumeOf_18 (by decide) ?_
    exact W.iret (v := S 0 p_.toNatClampNeg) hx hb_ hr (fun t_ ht hW => ⟨⟨_, (S, 0), rfl, cif_t b_6, by rw [ht]; exact hP, hD⟩, hS_.F ht⟩) hS_.2.2 dX1_costumeOf_26
set_option maxHeartbeats 4000000 in
set_option maxRecDepth 100000 in
theorem c_X1_wear (l : Launch) (D : va_G) (cI : ClassId) (y_ : Nat) (b_ : Nat → Nat) (S : ST) (tq : Int32) (sz : Nat) (c_ : Int32) : Met l yX1_wear wsX1_wear rmX1_wear (va_Pc [.ref y_, .int c_] (pW D (tyM cI) (wM cI y_ b_ S tq) sz)) (va_Qi (fun (r_ : Int32) (u_ : ST × Int32) => k_wear S c_ = (u_.2, r_, u_.1)) (fun (u_ : ST × Int32) t_ => atW D (wM cI y_ b_ u_.1 u_.2) (va_A (wM cI y_ b_ S tq) sz) t_) (va_A (wM cI y_ b_ S tq) sz)) 0 0 (va_A (wM cI y_ b_ S tq) sz) := by
  refine Met.ofW (cc := cX1_wear) (maxL := 2) (ret := (some .int)) (by decide) rfl ?_
  intro pr env s_ mid args below meth cod s₁ Bd hml hv
  obtain ⟨rfl, hsz, hP, hK_, hD0⟩ := hv
  have hx := Bd.exec
  have hb_ := Bd.bytes
  have hr := Bd.returns
  have hts := atoms_spec (ws := wsX1_wear) Bd.pre
  have hown : s_.vm.findClass RX1 = some mid.cls := findClass_of_methodNamed Bd.named
  have hlocks := Bd.notSynchronized
  have hin : ∀ w_ ∈ wsX10, w_ ∈ wsX1_wear := fun _ h_ => List.mem_cons_of_mem _ (List.mem_append_right _ h_)
  subst hsz
  have hD := hD0.self (sz := s_.heap.size)
  generalize hAe : va_A (wM cI y_ b_ S tq) s_.heap.size = A at hD ⊢
  have hA : ∀ q_ : Nat, s_.heap.size ≤ q_ → A q_ := fun q_ h_ => by rw [← hAe]; exact Or.inr h_
  have hS_ : va_S A s_.heap s_.heap [] := va_S.rf
  have hP : va_P D vwCl (wM cI y_ b_ S tq) s_.heap := hP
  have hD : va_D A (wM cI y_ b_ S tq) := hD
  have hl := lv_entry ([.ref y_, .int c_]) (n := 2) (Nat.le_of_ble_eq_true rfl)
  rw [lg_entry_eq]
  generalize (lg_sl ([.ref y_, .int c_]) ++ List.replicate (2 - (lg_sl ([.ref y_, .int c_])).length) Slot.unset).toArray = ls at hl ⊢
  have hl : lv_has ls 2 [(0, .ref y_), (1, .int c_)] := hl
  refine lv_aload_n hx hb_ dX1_wear_0 rfl (lv_at hl 0 rfl) ?_
  refine lv_iconst (v := 0) hx hb_ dX1_wear_1 (by decide) ?_
  have hf53 := hts (.fieldLink RX1 53 "ClockmaskModel" "thrown" "I") (by decide +kernel)
  refine va_put (D := D) (ci := 1) (v := .int 0) (ty := .int) (C := RX1) (T := TX1) (N := 18) hx hb_ hts hin tyX1 tyX1_ok nmX1 hown hK_ hP hD hS_ 0 rfl rfl 17 (by decide) hf53 (fun _ h9 => h9) rfl (by decide +kernel) rfl rfl (Nat.le_of_ble_eq_true rfl) dX1_wear_2 (fun H locs hP hD hS_ => ?_)
  have hP : va_P D vwCl (wM cI y_ b_ S 0) H := hP
  have hD : va_D A (wM cI y_ b_ S 0) := hD
  refine lv_iload_n hx hb_ dX1_wear_5 rfl (lv_at hl 1 rfl) ?_
  refine vp_callSi (W.runS (As := [.int c_]) (rest := []) ⟨hx, hb_, hml, hown, hts⟩ (c_X1_isCostume l c_) (va_cwS 1 hts gX1_wear_X1_isCostume rfl rfl rfl (by decide +kernel) ⟨Nat.le_of_ble_eq_true rfl, Nat.le_of_ble_eq_true rfl⟩) (pN_S) rfl rfl hl.1 rfl (lv_room (Nat.le_of_ble_eq_true rfl)) dX1_wear_6 ⟨Nat.zero_le _, Nat.zero_le _⟩) (fun r_6 h_6 => ?_)
  refine lv_if_eq (tgt := 21) hx hb_ dX1_wear_9 (by decide) (fun c_9 => ?_) (fun c_9 => ?_)
  · skip
    have b_6 := cif_b0 h_6 c_9
    refine lv_aload_n hx hb_ dX1_wear_21 rfl (lv_at hl 0 rfl) ?_
    refine lv_iconst (v := 1) hx hb_ dX1_wear_22 (by decide) ?_
    have hFc := wfree hD hS_ hA
    refine va_calli (va_runV (As := [.int 1]) (rest := []) ⟨hx, hb_, hml, hown, hts⟩ (c_X1_fails l D cI y_ b_ S 0 H.size 1) (cwV 1 hts gX1_wear_X1_fails rfl rfl rfl (by decide +kernel) ⟨Nat.le_of_ble_eq_true rfl, Nat.le_of_ble_eq_true rfl⟩) (pW_V (ci := 1) hP hK_ hD rfl rfl) rfl rfl hl.1 rfl (lv_room (Nat.le_of_ble_eq_true rfl)) dX1_wear_23 ⟨Nat.zero_le _, Nat.zero_le _⟩) hS_ (fun q_ _ h_ => hFc q_ h_) hFc (fun r_23 u_23 t9 H1 locs ht9 hvm9 h_23 hB9 hz9 hk9 hS_ => ?_)
    obtain ⟨e_23, h_23⟩ := h_23
    subst e_23
    subst h_23
    have hP : va_P D vwCl (wM cI y_ b_ S 1) H1 := atW_P hB9 ht9
    have hD : va_D A (wM cI y_ b_ S 1) := atW_D hB9 hFc
    generalize H1 = H at hP hS_ ⊢
    exact W.iret (v := 0) hx hb_ hr (fun t_ ht hW => ⟨⟨_, (S, 1), rfl, cif_f b_6, by rw [ht]; exact hP, hD⟩, hS_.F ht⟩) hS_.2.2 dX1_wear_26
  · skip
    have b_6 := cif_b1 h_6 c_9
    refine lv_aload_n hx hb_ dX1_wear_12 rfl (lv_at hl 0 rfl) ?_
    have hf19 := hts (.fieldLink RX1 19 "ClockmaskModel" "wears" "[I") (by decide +kernel)
    refine va_get (D := D) (ci := 1) (v := .ref (b_ 3)) (C := RX1) (T := TX1) (N := 18) hx hb_ hts hin hown hK_ hP 0 rfl rfl 3 (by decide) hf19 (fun _ h9 => h9) rfl dX1_wear_13 ?_
    refine lv_iload_n hx hb_ dX1_wear_16 rfl (lv_at hl 1 rfl) ?_
    refine va_iald (f := S 3) (n := 8) hx hb_ hK_ hP 4 0 rfl rfl (by assumption) dX1_wear_17 ?_
    refine lv_goto (tgt := 26) hx hb_ dX1_wear_18 (by decide) ?_
    exact W.iret (v := S 3 c_.toNatClampNeg) hx hb_ hr (fun t_ ht hW => ⟨⟨_, (S, 0), rfl, cif_t b_6, by rw [ht]; exact hP, hD⟩, hS_.F ht⟩) hS_.2.2 dX1_wear_26
set_option maxHeartbeats 4000000 in
set_option maxRecDepth 100000 in
theorem c_X1_maskOf (l : Launch) (D : va_G) (cI : ClassId) (y_ : Nat) (b_ : Nat → Nat) (S : ST) (tq : Int32) (sz : Nat) (p_ : Int32) : Met l yX1_maskOf wsX1_maskOf rmX1_maskOf (va_Pc [.ref y_, .int p_] (pW D (tyM cI) (wM cI y_ b_ S tq) sz)) (va_Qi (fun (r_ : Int32) (u_ : ST × Int32) => k_maskOf S p_ = (u_.2, r_, u_.1)) (fun (u_ : ST × Int32) t_ => atW D (wM cI y_ b_ u_.1 u_.2) (va_A (wM cI y_ b_ S tq) sz) t_) (va_A (wM cI y_ b_ S tq) sz)) 0 0 (va_A (wM cI y_ b_ S tq) sz) := by
  refine Met.ofW (cc := cX1_maskOf) (maxL := 2) (ret := (some .int)) (by decide) rfl ?_
  intro pr env s_ mid args below meth cod s₁ Bd hml hv
  obtain ⟨rfl, hsz, hP, hK_, hD0⟩ := hv
  have hx := Bd.exec
  have hb_ := Bd.bytes
  have hr := Bd.returns
  have hts := atoms_spec (ws := wsX1_maskOf) Bd.pre
  have hown : s_.vm.findClass RX1 = some mid.cls := findClass_of_methodNamed Bd.named
  have hlocks := Bd.notSynchronized
  have hin : ∀ w_ ∈ wsX10, w_ ∈ wsX1_maskOf := fun _ h_ => List.mem_cons_of_mem _ (List.mem_append_right _ h_)
  subst hsz
  have hD := hD0.self (sz := s_.heap.size)
  generalize hAe : va_A (wM cI y_ b_ S tq) s_.heap.size = A at hD ⊢
  have hA : ∀ q_ : Nat, s_.heap.size ≤ q_ → A q_ := fun q_ h_ => by rw [← hAe]; exact Or.inr h_
  have hS_ : va_S A s_.heap s_.heap [] := va_S.rf
  have hP : va_P D vwCl (wM cI y_ b_ S tq) s_.heap := hP
  have hD : va_D A (wM cI y_ b_ S tq) := hD
  have hl := lv_entry ([.ref y_, .int p_]) (n := 2) (Nat.le_of_ble_eq_true rfl)
  rw [lg_entry_eq]
  generalize (lg_sl ([.ref y_, .int p_]) ++ List.replicate (2 - (lg_sl ([.ref y_, .int p_])).length) Slot.unset).toArray = ls at hl ⊢
  have hl : lv_has ls 2 [(0, .ref y_), (1, .int p_)] := hl
  refine lv_aload_n hx hb_ dX1_maskOf_0 rfl (lv_at hl 0 rfl) ?_
  refine lv_iconst (v := 0) hx hb_ dX1_maskOf_1 (by decide) ?_
  have hf53 := hts (.fieldLink RX1 53 "ClockmaskModel" "thrown" "I") (by decide +kernel)
  refine va_put (D := D) (ci := 1) (v := .int 0) (ty := .int) (C := RX1) (T := TX1) (N := 18) hx hb_ hts hin tyX1 tyX1_ok nmX1 hown hK_ hP hD hS_ 0 rfl rfl 17 (by decide) hf53 (fun _ h9 => h9) rfl (by decide +kernel) rfl rfl (Nat.le_of_ble_eq_true rfl) dX1_maskOf_2 (fun H locs hP hD hS_ => ?_)
  have hP : va_P D vwCl (wM cI y_ b_ S 0) H := hP
  have hD : va_D A (wM cI y_ b_ S 0) := hD
  refine lv_iload_n hx hb_ dX1_maskOf_5 rfl (lv_at hl 1 rfl) ?_
  refine vp_callSi (W.runS (As := [.int p_]) (rest := []) ⟨hx, hb_, hml, hown, hts⟩ (c_X1_isPlayer l p_) (va_cwS 1 hts gX1_maskOf_X1_isPlayer rfl rfl rfl (by decide +kernel) ⟨Nat.le_of_ble_eq_true rfl, Nat.le_of_ble_eq_true rfl⟩) (pN_S) rfl rfl hl.1 rfl (lv_room (Nat.le_of_ble_eq_true rfl)) dX1_maskOf_6 ⟨Nat.zero_le _, Nat.zero_le _⟩) (fun r_6 h_6 => ?_)
  refine lv_if_eq (tgt := 21) hx hb_ dX1_maskOf_9 (by decide) (fun c_9 => ?_) (fun c_9 => ?_)
  · skip
    have b_6 := cif_b0 h_6 c_9
    refine lv_aload_n hx hb_ dX1_maskOf_21 rfl (lv_at hl 0 rfl) ?_
    refine lv_iconst (v := 1) hx hb_ dX1_maskOf_22 (by decide) ?_
    have hFc := wfree hD hS_ hA
    refine va_calli (va_runV (As := [.int 1]) (rest := []) ⟨hx, hb_, hml, hown, hts⟩ (c_X1_fails l D cI y_ b_ S 0 H.size 1) (cwV 1 hts gX1_maskOf_X1_fails rfl rfl rfl (by decide +kernel) ⟨Nat.le_of_ble_eq_true rfl, Nat.le_of_ble_eq_true rfl⟩) (pW_V (ci := 1) hP hK_ hD rfl rfl) rfl rfl hl.1 rfl (lv_room (Nat.le_of_ble_eq_true rfl)) dX1_maskOf_23 ⟨Nat.zero_le _, Nat.zero_le _⟩) hS_ (fun q_ _ h_ => hFc q_ h_) hFc (fun r_23 u_23 t9 H1 locs ht9 hvm9 h_23 hB9 hz9 hk9 hS_ => ?_)
    obtain ⟨e_23, h_23⟩ := h_23
    subst e_23
    subst h_23
    have hP : va_P D vwCl (wM cI y_ b_ S 1) H1 := atW_P hB9 ht9
    have hD : va_D A (wM cI y_ b_ S 1) := atW_D hB9 hFc
    generalize H1 = H at hP hS_ ⊢
    exact W.iret (v := 0) hx hb_ hr (fun t_ ht hW => ⟨⟨_, (S, 1), rfl, cif_f b_6, by rw [ht]; exact hP, hD⟩, hS_.F ht⟩) hS_.2.2 dX1_maskOf_26
  · skip
    have b_6 := cif_b1 h_6 c_9
    refine lv_aload_n hx hb_ dX1_maskOf_12 rfl (lv_at hl 0 rfl) ?_
    have hf7 := hts (.fieldLink RX1 7 "ClockmaskModel" "masks" "[I") (by decide +kernel)
    refine va_get (D := D) (ci := 1) (v := .ref (b_ 1)) (C := RX1) (T := TX1) (N := 18) hx hb_ hts hin hown hK_ hP 0 rfl rfl 0 (by decide) hf7 (fun _ h9 => h9) rfl dX1_maskOf_13 ?_
    refine lv_iload_n hx hb_ dX1_maskOf_16 rfl (lv_at hl 1 rfl) ?_
    refine va_iald (f := S 1) (n := 6) hx hb_ hK_ hP 1 0 rfl rfl (by assumption) dX1_maskOf_17 ?_
    refine lv_goto (tgt := 26) hx hb_ dX1_maskOf_18 (by decide) ?_
    exact W.iret (v := S 1 p_.toNatClampNeg) hx hb_ hr (fun t_ ht hW => ⟨⟨_, (S, 0), rfl, cif_t b_6, by rw [ht]; exact hP, hD⟩, hS_.F ht⟩) hS_.2.2 dX1_maskOf_26
set_option maxHeartbeats 4000000 in
set_option maxRecDepth 100000 in
theorem c_X1_points (l : Launch) (D : va_G) (cI : ClassId) (y_ : Nat) (b_ : Nat → Nat) (S : ST) (tq : Int32) (sz : Nat) (g_ : Int32) : Met l yX1_points wsX1_points rmX1_points (va_Pc [.ref y_, .int g_] (pW D (tyM cI) (wM cI y_ b_ S tq) sz)) (va_Qi (fun (r_ : Int32) (u_ : ST × Int32) => k_points S g_ = (u_.2, r_, u_.1)) (fun (u_ : ST × Int32) t_ => atW D (wM cI y_ b_ u_.1 u_.2) (va_A (wM cI y_ b_ S tq) sz) t_) (va_A (wM cI y_ b_ S tq) sz)) 0 0 (va_A (wM cI y_ b_ S tq) sz) := by
  refine Met.ofW (cc := cX1_points) (maxL := 2) (ret := (some .int)) (by decide) rfl ?_
  intro pr env s_ mid args below meth cod s₁ Bd hml hv
  obtain ⟨rfl, hsz, hP, hK_, hD0⟩ := hv
  have hx := Bd.exec
  have hb_ := Bd.bytes
  have hr := Bd.returns
  have hts := atoms_spec (ws := wsX1_points) Bd.pre
  have hown : s_.vm.findClass RX1 = some mid.cls := findClass_of_methodNamed Bd.named
  have hlocks := Bd.notSynchronized
  have hin : ∀ w_ ∈ wsX10, w_ ∈ wsX1_points := fun _ h_ => List.mem_cons_of_mem _ (List.mem_append_right _ h_)
  subst hsz
  have hD := hD0.self (sz := s_.heap.size)
  generalize hAe : va_A (wM cI y_ b_ S tq) s_.heap.size = A at hD ⊢
  have hA : ∀ q_ : Nat, s_.heap.size ≤ q_ → A q_ := fun q_ h_ => by rw [← hAe]; exact Or.inr h_
  have hS_ : va_S A s_.heap s_.heap [] := va_S.rf
  have hP : va_P D vwCl (wM cI y_ b_ S tq) s_.heap := hP
  have hD : va_D A (wM cI y_ b_ S tq) := hD
  have hl := lv_entry ([.ref y_, .int g_]) (n := 2) (Nat.le_of_ble_eq_true rfl)
  rw [lg_entry_eq]
  generalize (lg_sl ([.ref y_, .int g_]) ++ List.replicate (2 - (lg_sl ([.ref y_, .int g_])).length) Slot.unset).toArray = ls at hl ⊢
  have hl : lv_has ls 2 [(0, .ref y_), (1, .int g_)] := hl
  refine lv_aload_n hx hb_ dX1_points_0 rfl (lv_at hl 0 rfl) ?_
  refine lv_iconst (v := 0) hx hb_ dX1_points_1 (by decide) ?_
  have hf53 := hts (.fieldLink RX1 53 "ClockmaskModel" "thrown" "I") (by decide +kernel)
  refine va_put (D := D) (ci := 1) (v := .int 0) (ty := .int) (C := RX1) (T := TX1) (N := 18) hx hb_ hts hin tyX1 tyX1_ok nmX1 hown hK_ hP hD hS_ 0 rfl rfl 17 (by decide) hf53 (fun _ h9 => h9) rfl (by decide +kernel) rfl rfl (Nat.le_of_ble_eq_true rfl) dX1_points_2 (fun H locs hP hD hS_ => ?_)
  have hP : va_P D vwCl (wM cI y_ b_ S 0) H := hP
  have hD : va_D A (wM cI y_ b_ S 0) := hD
  refine lv_iload_n hx hb_ dX1_points_5 rfl (lv_at hl 1 rfl) ?_
  refine lv_iconst (v := 0) hx hb_ dX1_points_6 (by decide) ?_
  refine lv_iconst (v := 2) hx hb_ dX1_points_7 (by decide) ?_
  refine vp_callSi (W.runS (As := [.int g_, .int 0, .int 2]) (rest := []) ⟨hx, hb_, hml, hown, hts⟩ (c_X1_in l g_ 0 2) (va_cwS 3 hts gX1_points_X1_in rfl rfl rfl (by decide +kernel) ⟨Nat.le_of_ble_eq_true rfl, Nat.le_of_ble_eq_true rfl⟩) (pN_S) rfl rfl hl.1 rfl (lv_room (Nat.le_of_ble_eq_true rfl)) dX1_points_8 ⟨Nat.zero_le _, Nat.zero_le _⟩) (fun r_8 h_8 => ?_)
  refine lv_if_eq (tgt := 23) hx hb_ dX1_points_11 (by decide) (fun c_11 => ?_) (fun c_11 => ?_)
  · skip
    have b_8 := cif_b0 h_8 c_11
    refine lv_aload_n hx hb_ dX1_points_23 rfl (lv_at hl 0 rfl) ?_
    refine lv_iconst (v := 1) hx hb_ dX1_points_24 (by decide) ?_
    have hFc := wfree hD hS_ hA
    refine va_calli (va_runV (As := [.int 1]) (rest := []) ⟨hx, hb_, hml, hown, hts⟩ (c_X1_fails l D cI y_ b_ S 0 H.size 1) (cwV 1 hts gX1_points_X1_fails rfl rfl rfl (by decide +kernel) ⟨Nat.le_of_ble_eq_true rfl, Nat.le_of_ble_eq_true rfl⟩) (pW_V (ci := 1) hP hK_ hD rfl rfl) rfl rfl hl.1 rfl (lv_room (Nat.le_of_ble_eq_true rfl)) dX1_points_25 ⟨Nat.zero_le _, Nat.zero_le _⟩) hS_ (fun q_ _ h_ => hFc q_ h_) hFc (fun r_25 u_25 t9 H1 locs ht9 hvm9 h_25 hB9 hz9 hk9 hS_ => ?_)
    obtain ⟨e_25, h_25⟩ := h_25
    subst e_25
    subst h_25
    have hP : va_P D vwCl (wM cI y_ b_ S 1) H1 := atW_P hB9 ht9
    have hD : va_D A (wM cI y_ b_ S 1) := atW_D hB9 hFc
    generalize H1 = H at hP hS_ ⊢
    exact W.iret (v := 0) hx hb_ hr (fun t_ ht hW => ⟨⟨_, (S, 1), rfl, cif_f (fun h_ => b_8 ((inm_iff (n := 3) (by decide)).mpr h_)), by rw [ht]; exact hP, hD⟩, hS_.F ht⟩) hS_.2.2 dX1_points_28
  · skip
    have b_8 := cif_b1 h_8 c_11
    refine lv_aload_n hx hb_ dX1_points_14 rfl (lv_at hl 0 rfl) ?_
    have hf43 := hts (.fieldLink RX1 43 "ClockmaskModel" "pointsOf" "[I") (by decide +kernel)
    refine va_get (D := D) (ci := 1) (v := .ref (b_ 12)) (C := RX1) (T := TX1) (N := 18) hx hb_ hts hin hown hK_ hP 0 rfl rfl 13 (by decide) hf43 (fun _ h9 => h9) rfl dX1_points_15 ?_
    refine lv_iload_n hx hb_ dX1_points_18 rfl (lv_at hl 1 rfl) ?_
    refine va_iald (f := S 12) (n := 3) hx hb_ hK_ hP 12 0 rfl rfl ((inm_iff (n := 3) (by decide)).mp b_8) dX1_points_19 ?_
    refine lv_goto (tgt := 28) hx hb_ dX1_points_20 (by decide) ?_
    exact W.iret (v := S 12 g_.toNatClampNeg) hx hb_ hr (fun t_ ht hW => ⟨⟨_, (S, 0), rfl, cif_t ((inm_iff (n := 3) (by decide)).mp b_8), by rw [ht]; exact hP, hD⟩, hS_.F ht⟩) hS_.2.2 dX1_points_28
set_option maxHeartbeats 4000000 in
set_option maxRecDepth 100000 in
theorem c_X1_stateOf (l : Launch) (D : va_G) (cI : ClassId) (y_ : Nat) (b_ : Nat → Nat) (S : ST) (tq : Int32) (sz : Nat) (q_ : Int32) (B : Nat) (hI_ : Inv B S) : Met l yX1_stateOf wsX1_stateOf rmX1_stateOf (va_Pc [.ref y_, .int q_] (pW D (tyM cI) (wM cI y_ b_ S tq) sz)) (va_Qi (fun (r_ : Int32) (u_ : ST × Int32) => k_stateOf S q_ = (u_.2, r_, u_.1)) (fun (u_ : ST × Int32) t_ => atW D (wM cI y_ b_ u_.1 u_.2) (va_A (wM cI y_ b_ S tq) sz) t_) (va_A (wM cI y_ b_ S tq) sz)) 0 0 (va_A (wM cI y_ b_ S tq) sz) := by
  refine Met.ofW (cc := cX1_stateOf) (maxL := 2) (ret := (some .int)) (by decide) rfl ?_
  intro pr env s_ mid args below meth cod s₁ Bd hml hv
  obtain ⟨rfl, hsz, hP, hK_, hD0⟩ := hv
  have hx := Bd.exec
  have hb_ := Bd.bytes
  have hr := Bd.returns
  have hts := atoms_spec (ws := wsX1_stateOf) Bd.pre
  have hown : s_.vm.findClass RX1 = some mid.cls := findClass_of_methodNamed Bd.named
  have hlocks := Bd.notSynchronized
  have hin : ∀ w_ ∈ wsX10, w_ ∈ wsX1_stateOf := fun _ h_ => List.mem_cons_of_mem _ (List.mem_append_right _ h_)
  subst hsz
  have hD := hD0.self (sz := s_.heap.size)
  generalize hAe : va_A (wM cI y_ b_ S tq) s_.heap.size = A at hD ⊢
  have hA : ∀ q_ : Nat, s_.heap.size ≤ q_ → A q_ := fun q_ h_ => by rw [← hAe]; exact Or.inr h_
  have hS_ : va_S A s_.heap s_.heap [] := va_S.rf
  have hP : va_P D vwCl (wM cI y_ b_ S tq) s_.heap := hP
  have hD : va_D A (wM cI y_ b_ S tq) := hD
  have hl := lv_entry ([.ref y_, .int q_]) (n := 2) (Nat.le_of_ble_eq_true rfl)
  rw [lg_entry_eq]
  generalize (lg_sl ([.ref y_, .int q_]) ++ List.replicate (2 - (lg_sl ([.ref y_, .int q_])).length) Slot.unset).toArray = ls at hl ⊢
  have hl : lv_has ls 2 [(0, .ref y_), (1, .int q_)] := hl
  refine lv_aload_n hx hb_ dX1_stateOf_0 rfl (lv_at hl 0 rfl) ?_
  refine lv_iconst (v := 0) hx hb_ dX1_stateOf_1 (by decide) ?_
  have hf53 := hts (.fieldLink RX1 53 "ClockmaskModel" "thrown" "I") (by decide +kernel)
  refine va_put (D := D) (ci := 1) (v := .int 0) (ty := .int) (C := RX1) (T := TX1) (N := 18) hx hb_ hts hin tyX1 tyX1_ok nmX1 hown hK_ hP hD hS_ 0 rfl rfl 17 (by decide) hf53 (fun _ h9 => h9) rfl (by decide +kernel) rfl rfl (Nat.le_of_ble_eq_true rfl) dX1_stateOf_2 (fun H locs hP hD hS_ => ?_)
  have hP : va_P D vwCl (wM cI y_ b_ S 0) H := hP
  have hD : va_D A (wM cI y_ b_ S 0) := hD
  refine lv_aload_n hx hb_ dX1_stateOf_5 rfl (lv_at hl 0 rfl) ?_
  refine lv_iload_n hx hb_ dX1_stateOf_6 rfl (lv_at hl 1 rfl) ?_
  refine vp_callSi (W.runV (As := [.int q_]) (rest := []) ⟨hx, hb_, hml, hown, hts⟩ (c_X1_isCue l D cI y_ b_ S 0 q_ B hI_) (cwV 1 hts gX1_stateOf_X1_isCue rfl rfl rfl (by decide +kernel) ⟨Nat.le_of_ble_eq_true rfl, Nat.le_of_ble_eq_true rfl⟩) (pR_V (ci := 1) hP hK_ rfl rfl) rfl rfl hl.1 rfl (lv_room (Nat.le_of_ble_eq_true rfl)) dX1_stateOf_7 ⟨Nat.zero_le _, Nat.zero_le _⟩) (fun r_7 h_7 => ?_)
  refine lv_if_eq (tgt := 22) hx hb_ dX1_stateOf_10 (by decide) (fun c_10 => ?_) (fun c_10 => ?_)
  · skip
    have b_7 := cif_b0 h_7 c_10
    refine lv_aload_n hx hb_ dX1_stateOf_22 rfl (lv_at hl 0 rfl) ?_
    refine lv_iconst (v := 1) hx hb_ dX1_stateOf_23 (by decide) ?_
    have hFc := wfree hD hS_ hA
    refine va_calli (va_runV (As := [.int 1]) (rest := []) ⟨hx, hb_, hml, hown, hts⟩ (c_X1_fails l D cI y_ b_ S 0 H.size 1) (cwV 1 hts gX1_stateOf_X1_fails rfl rfl rfl (by decide +kernel) ⟨Nat.le_of_ble_eq_true rfl, Nat.le_of_ble_eq_true rfl⟩) (pW_V (ci := 1) hP hK_ hD rfl rfl) rfl rfl hl.1 rfl (lv_room (Nat.le_of_ble_eq_true rfl)) dX1_stateOf_24 ⟨Nat.zero_le _, Nat.zero_le _⟩) hS_ (fun q_ _ h_ => hFc q_ h_) hFc (fun r_24 u_24 t9 H1 locs ht9 hvm9 h_24 hB9 hz9 hk9 hS_ => ?_)
    obtain ⟨e_24, h_24⟩ := h_24
    subst e_24
    subst h_24
    have hP : va_P D vwCl (wM cI y_ b_ S 1) H1 := atW_P hB9 ht9
    have hD : va_D A (wM cI y_ b_ S 1) := atW_D hB9 hFc
    generalize H1 = H at hP hS_ ⊢
    exact W.iret (v := 0) hx hb_ hr (fun t_ ht hW => ⟨⟨_, (S, 1), rfl, cif_f b_7, by rw [ht]; exact hP, hD⟩, hS_.F ht⟩) hS_.2.2 dX1_stateOf_27
  · skip
    have b_7 := cif_b1 h_7 c_10
    refine lv_aload_n hx hb_ dX1_stateOf_13 rfl (lv_at hl 0 rfl) ?_
    have hf34 := hts (.fieldLink RX1 34 "ClockmaskModel" "states" "[I") (by decide +kernel)
    refine va_get (D := D) (ci := 1) (v := .ref (b_ 8)) (C := RX1) (T := TX1) (N := 18) hx hb_ hts hin hown hK_ hP 0 rfl rfl 8 (by decide) hf34 (fun _ h9 => h9) rfl dX1_stateOf_14 ?_
    refine lv_iload_n hx hb_ dX1_stateOf_17 rfl (lv_at hl 1 rfl) ?_
    refine va_iald (f := S 8) (n := 24) hx hb_ hK_ hP 9 0 rfl rfl (hI_.q24 b_7) dX1_stateOf_18 ?_
    refine lv_goto (tgt := 27) hx hb_ dX1_stateOf_19 (by decide) ?_
    exact W.iret (v := S 8 q_.toNatClampNeg) hx hb_ hr (fun t_ ht hW => ⟨⟨_, (S, 0), rfl, cif_t b_7, by rw [ht]; exact hP, hD⟩, hS_.F ht⟩) hS_.2.2 dX1_stateOf_27
set_option maxHeartbeats 4000000 in
set_option maxRecDepth 100000 in
theorem c_X1_wearerOf (l : Launch) (D : va_G) (cI : ClassId) (y_ : Nat) (b_ : Nat → Nat) (S : ST) (tq : Int32) (sz : Nat) (m_ : Int32) (B : Nat) (hI_ : Inv B S) : Met l yX1_wearerOf wsX1_wearerOf rmX1_wearerOf (va_Pc [.ref y_, .int m_] (pW D (tyM cI) (wM cI y_ b_ S tq) sz)) (va_Qi (fun (r_ : Int32) (u_ : ST × Int32) => k_wearerOf S m_ = (u_.2, r_, u_.1)) (fun (u_ : ST × Int32) t_ => atW D (wM cI y_ b_ u_.1 u_.2) (va_A (wM cI y_ b_ S tq) sz) t_) (va_A (wM cI y_ b_ S tq) sz)) 0 0 (va_A (wM cI y_ b_ S tq) sz) := by
  refine Met.ofW (cc := cX1_wearerOf) (maxL := 2) (ret := (some .int)) (by decide) rfl ?_
  intro pr env s_ mid args below meth cod s₁ Bd hml hv
  obtain ⟨rfl, hsz, hP, hK_, hD0⟩ := hv
  have hx := Bd.exec
  have hb_ := Bd.bytes
  have hr := Bd.returns
  have hts := atoms_spec (ws := wsX1_wearerOf) Bd.pre
  have hown : s_.vm.findClass RX1 = some mid.cls := findClass_of_methodNamed Bd.named
  have hlocks := Bd.notSynchronized
  have hin : ∀ w_ ∈ wsX10, w_ ∈ wsX1_wearerOf := fun _ h_ => List.mem_cons_of_mem _ (List.mem_append_right _ h_)
  subst hsz
  have hD := hD0.self (sz := s_.heap.size)
  generalize hAe : va_A (wM cI y_ b_ S tq) s_.heap.size = A at hD ⊢
  have hA : ∀ q_ : Nat, s_.heap.size ≤ q_ → A q_ := fun q_ h_ => by rw [← hAe]; exact Or.inr h_
  have hS_ : va_S A s_.heap s_.heap [] := va_S.rf
  have hP : va_P D vwCl (wM cI y_ b_ S tq) s_.heap := hP
  have hD : va_D A (wM cI y_ b_ S tq) := hD
  have hl := lv_entry ([.ref y_, .int m_]) (n := 2) (Nat.le_of_ble_eq_true rfl)
  rw [lg_entry_eq]
  generalize (lg_sl ([.ref y_, .int m_]) ++ List.replicate (2 - (lg_sl ([.ref y_, .int m_])).length) Slot.unset).toArray = ls at hl ⊢
  have hl : lv_has ls 2 [(0, .ref y_), (1, .int m_)] := hl
  refine lv_aload_n hx hb_ dX1_wearerOf_0 rfl (lv_at hl 0 rfl) ?_
  refine lv_iconst (v := 0) hx hb_ dX1_wearerOf_1 (by decide) ?_
  have hf53 := hts (.fieldLink RX1 53 "ClockmaskModel" "thrown" "I") (by decide +kernel)
  refine va_put (D := D) (ci := 1) (v := .int 0) (ty := .int) (C := RX1) (T := TX1) (N := 18) hx hb_ hts hin tyX1 tyX1_ok nmX1 hown hK_ hP hD hS_ 0 rfl rfl 17 (by decide) hf53 (fun _ h9 => h9) rfl (by decide +kernel) rfl rfl (Nat.le_of_ble_eq_true rfl) dX1_wearerOf_2 (fun H locs hP hD hS_ => ?_)
  have hP : va_P D vwCl (wM cI y_ b_ S 0) H := hP
  have hD : va_D A (wM cI y_ b_ S 0) := hD
  refine lv_iload_n hx hb_ dX1_wearerOf_5 rfl (lv_at hl 1 rfl) ?_
  refine vp_callSi (W.runS (As := [.int m_]) (rest := []) ⟨hx, hb_, hml, hown, hts⟩ (c_X1_isPlayer l m_) (va_cwS 1 hts gX1_wearerOf_X1_isPlayer rfl rfl rfl (by decide +kernel) ⟨Nat.le_of_ble_eq_true rfl, Nat.le_of_ble_eq_true rfl⟩) (pN_S) rfl rfl hl.1 rfl (lv_room (Nat.le_of_ble_eq_true rfl)) dX1_wearerOf_6 ⟨Nat.zero_le _, Nat.zero_le _⟩) (fun r_6 h_6 => ?_)
  refine lv_if_eq (tgt := 20) hx hb_ dX1_wearerOf_9 (by decide) (fun c_9 => ?_) (fun c_9 => ?_)
  · skip
    have b_6 := cif_b0 h_6 c_9
    refine lv_aload_n hx hb_ dX1_wearerOf_20 rfl (lv_at hl 0 rfl) ?_
    refine lv_iconst (v := 1) hx hb_ dX1_wearerOf_21 (by decide) ?_
    have hFc := wfree hD hS_ hA
    refine va_calli (va_runV (As := [.int 1]) (rest := []) ⟨hx, hb_, hml, hown, hts⟩ (c_X1_fails l D cI y_ b_ S 0 H.size 1) (cwV 1 hts gX1_wearerOf_X1_fails rfl rfl rfl (by decide +kernel) ⟨Nat.le_of_ble_eq_true rfl, Nat.le_of_ble_eq_true rfl⟩) (pW_V (ci := 1) hP hK_ hD rfl rfl) rfl rfl hl.1 rfl (lv_room (Nat.le_of_ble_eq_true rfl)) dX1_wearerOf_22 ⟨Nat.zero_le _, Nat.zero_le _⟩) hS_ (fun q_ _ h_ => hFc q_ h_) hFc (fun r_22 u_22 t9 H1 locs ht9 hvm9 h_22 hB9 hz9 hk9 hS_ => ?_)
    obtain ⟨e_22, h_22⟩ := h_22
    subst e_22
    subst h_22
    have hP : va_P D vwCl (wM cI y_ b_ S 1) H1 := atW_P hB9 ht9
    have hD : va_D A (wM cI y_ b_ S 1) := atW_D hB9 hFc
    generalize H1 = H at hP hS_ ⊢
    exact W.iret (v := 0) hx hb_ hr (fun t_ ht hW => ⟨⟨_, (S, 1), rfl, cif_f b_6, by rw [ht]; exact hP, hD⟩, hS_.F ht⟩) hS_.2.2 dX1_wearerOf_25
  · skip
    have b_6 := cif_b1 h_6 c_9
    refine lv_aload_n hx hb_ dX1_wearerOf_12 rfl (lv_at hl 0 rfl) ?_
    refine lv_iload_n hx hb_ dX1_wearerOf_13 rfl (lv_at hl 1 rfl) ?_
    refine vp_callSi (W.runV (As := [.int m_]) (rest := []) ⟨hx, hb_, hml, hown, hts⟩ (c_X1_wearer l D cI y_ b_ S 0 m_) (cwV 1 hts gX1_wearerOf_X1_wearer rfl rfl rfl (by decide +kernel) ⟨Nat.le_of_ble_eq_true rfl, Nat.le_of_ble_eq_true rfl⟩) (pR_V (ci := 1) hP hK_ rfl rfl) rfl rfl hl.1 rfl (lv_room (Nat.le_of_ble_eq_true rfl)) dX1_wearerOf_14 ⟨Nat.zero_le _, Nat.zero_le _⟩) (fun r_14 h_14 => ?_)
    subst h_14
    refine lv_goto (tgt := 25) hx hb_ dX1_wearerOf_17 (by decide) ?_
    exact W.iret (v := lI (S 1) m_ 6) hx hb_ hr (fun t_ ht hW => ⟨⟨_, (S, 0), rfl, by rw [lI_fI hI_.u1 (vin_ne b_6)]; exact cif_t b_6, by rw [ht]; exact hP, hD⟩, hS_.F ht⟩) hS_.2.2 dX1_wearerOf_25
set_option maxHeartbeats 4000000 in
set_option maxRecDepth 100000 in
theorem c_X1_purse (l : Launch) (D : va_G) (cI : ClassId) (y_ : Nat) (b_ : Nat → Nat) (S : ST) (tq : Int32) (sz : Nat) : Met l yX1_purse wsX1_purse rmX1_purse (va_Pc [.ref y_] (pW D (tyM cI) (wM cI y_ b_ S tq) sz)) (va_Qi (fun (r_ : Int32) (u_ : ST × Int32) => r_ = S 14 0 ∧ u_ = (S, 0)) (fun (u_ : ST × Int32) t_ => atW D (wM cI y_ b_ u_.1 u_.2) (va_A (wM cI y_ b_ S tq) sz) t_) (va_A (wM cI y_ b_ S tq) sz)) 0 0 (va_A (wM cI y_ b_ S tq) sz) := by
  refine Met.ofW (cc := cX1_purse) (maxL := 1) (ret := (some .int)) (by decide) rfl ?_
  intro pr env s_ mid args below meth cod s₁ Bd hml hv
  obtain ⟨rfl, hsz, hP, hK_, hD0⟩ := hv
  have hx := Bd.exec
  have hb_ := Bd.bytes
  have hr := Bd.returns
  have hts := atoms_spec (ws := wsX1_purse) Bd.pre
  have hown : s_.vm.findClass RX1 = some mid.cls := findClass_of_methodNamed Bd.named
  have hlocks := Bd.notSynchronized
  have hin : ∀ w_ ∈ wsX10, w_ ∈ wsX1_purse := fun _ h_ => List.mem_cons_of_mem _ (List.mem_append_right _ h_)
  subst hsz
  have hD := hD0.self (sz := s_.heap.size)
  generalize hAe : va_A (wM cI y_ b_ S tq) s_.heap.size = A at hD ⊢
  have hA : ∀ q_ : Nat, s_.heap.size ≤ q_ → A q_ := fun q_ h_ => by rw [← hAe]; exact Or.inr h_
  have hS_ : va_S A s_.heap s_.heap [] := va_S.rf
  have hP : va_P D vwCl (wM cI y_ b_ S tq) s_.heap := hP
  have hD : va_D A (wM cI y_ b_ S tq) := hD
  have hl := lv_entry ([.ref y_]) (n := 1) (Nat.le_of_ble_eq_true rfl)
  rw [lg_entry_eq]
  generalize (lg_sl ([.ref y_]) ++ List.replicate (1 - (lg_sl ([.ref y_])).length) Slot.unset).toArray = ls at hl ⊢
  have hl : lv_has ls 1 [(0, .ref y_)] := hl
  refine lv_aload_n hx hb_ dX1_purse_0 rfl (lv_at hl 0 rfl) ?_
  refine lv_iconst (v := 0) hx hb_ dX1_purse_1 (by decide) ?_
  have hf53 := hts (.fieldLink RX1 53 "ClockmaskModel" "thrown" "I") (by decide +kernel)
  refine va_put (D := D) (ci := 1) (v := .int 0) (ty := .int) (C := RX1) (T := TX1) (N := 18) hx hb_ hts hin tyX1 tyX1_ok nmX1 hown hK_ hP hD hS_ 0 rfl rfl 17 (by decide) hf53 (fun _ h9 => h9) rfl (by decide +kernel) rfl rfl (Nat.le_of_ble_eq_true rfl) dX1_purse_2 (fun H locs hP hD hS_ => ?_)
  have hP : va_P D vwCl (wM cI y_ b_ S 0) H := hP
  have hD : va_D A (wM cI y_ b_ S 0) := hD
  refine lv_aload_n hx hb_ dX1_purse_5 rfl (lv_at hl 0 rfl) ?_
  have hf49 := hts (.fieldLink RX1 49 "ClockmaskModel" "purseNow" "I") (by decide +kernel)
  refine va_get (D := D) (ci := 1) (v := .int (S 14 0)) (C := RX1) (T := TX1) (N := 18) hx hb_ hts hin hown hK_ hP 0 rfl rfl 15 (by decide) hf49 (fun _ h9 => h9) rfl dX1_purse_6 ?_
  exact W.iret (v := S 14 0) hx hb_ hr (fun t_ ht hW => ⟨⟨_, (S, 0), rfl, ⟨rfl, rfl⟩, by rw [ht]; exact hP, hD⟩, hS_.F ht⟩) hS_.2.2 dX1_purse_9
set_option maxHeartbeats 4000000 in
set_option maxRecDepth 100000 in
theorem c_X1_cues (l : Launch) (D : va_G) (cI : ClassId) (y_ : Nat) (b_ : Nat → Nat) (S : ST) (tq : Int32) (sz : Nat) : Met l yX1_cues wsX1_cues rmX1_cues (va_Pc [.ref y_] (pW D (tyM cI) (wM cI y_ b_ S tq) sz)) (va_Qi (fun (r_ : Int32) (u_ : ST × Int32) => r_ = S 10 0 ∧ u_ = (S, 0)) (fun (u_ : ST × Int32) t_ => atW D (wM cI y_ b_ u_.1 u_.2) (va_A (wM cI y_ b_ S tq) sz) t_) (va_A (wM cI y_ b_ S tq) sz)) 0 0 (va_A (wM cI y_ b_ S tq) sz) := by
  refine Met.ofW (cc := cX1_cues) (maxL := 1) (ret := (some .int)) (by decide) rfl ?_
  intro pr env s_ mid args below meth cod s₁ Bd hml hv
  obtain ⟨rfl, hsz, hP, hK_, hD0⟩ := hv
  have hx := Bd.exec
  have hb_ := Bd.bytes
  have hr := Bd.returns
  have hts := atoms_spec (ws := wsX1_cues) Bd.pre
  have hown : s_.vm.findClass RX1 = some mid.cls := findClass_of_methodNamed Bd.named
  have hlocks := Bd.notSynchronized
  have hin : ∀ w_ ∈ wsX10, w_ ∈ wsX1_cues := fun _ h_ => List.mem_cons_of_mem _ (List.mem_append_right _ h_)
  subst hsz
  have hD := hD0.self (sz := s_.heap.size)
  generalize hAe : va_A (wM cI y_ b_ S tq) s_.heap.size = A at hD ⊢
  have hA : ∀ q_ : Nat, s_.heap.size ≤ q_ → A q_ := fun q_ h_ => by rw [← hAe]; exact Or.inr h_
  have hS_ : va_S A s_.heap s_.heap [] := va_S.rf
  have hP : va_P D vwCl (wM cI y_ b_ S tq) s_.heap := hP
  have hD : va_D A (wM cI y_ b_ S tq) := hD
  have hl := lv_entry ([.ref y_]) (n := 1) (Nat.le_of_ble_eq_true rfl)
  rw [lg_entry_eq]
  generalize (lg_sl ([.ref y_]) ++ List.replicate (1 - (lg_sl ([.ref y_])).length) Slot.unset).toArray = ls at hl ⊢
  have hl : lv_has ls 1 [(0, .ref y_)] := hl
  refine lv_aload_n hx hb_ dX1_cues_0 rfl (lv_at hl 0 rfl) ?_
  refine lv_iconst (v := 0) hx hb_ dX1_cues_1 (by decide) ?_
  have hf53 := hts (.fieldLink RX1 53 "ClockmaskModel" "thrown" "I") (by decide +kernel)
  refine va_put (D := D) (ci := 1) (v := .int 0) (ty := .int) (C := RX1) (T := TX1) (N := 18) hx hb_ hts hin tyX1 tyX1_ok nmX1 hown hK_ hP hD hS_ 0 rfl rfl 17 (by decide) hf53 (fun _ h9 => h9) rfl (by decide +kernel) rfl rfl (Nat.le_of_ble_eq_true rfl) dX1_cues_2 (fun H locs hP hD hS_ => ?_)
  have hP : va_P D vwCl (wM cI y_ b_ S 0) H := hP
  have hD : va_D A (wM cI y_ b_ S 0) := hD
  refine lv_aload_n hx hb_ dX1_cues_5 rfl (lv_at hl 0 rfl) ?_
  have hf60 := hts (.fieldLink RX1 60 "ClockmaskModel" "many" "I") (by decide +kernel)
  refine va_get (D := D) (ci := 1) (v := .int (S 10 0)) (C := RX1) (T := TX1) (N := 18) hx hb_ hts hin hown hK_ hP 0 rfl rfl 10 (by decide) hf60 (fun _ h9 => h9) rfl dX1_cues_6 ?_
  exact W.iret (v := S 10 0) hx hb_ hr (fun t_ ht hW => ⟨⟨_, (S, 0), rfl, ⟨rfl, rfl⟩, by rw [ht]; exact hP, hD⟩, hS_.F ht⟩) hS_.2.2 dX1_cues_9
set_option maxHeartbeats 4000000 in
set_option maxRecDepth 100000 in
theorem c_X1_plays (l : Launch) (D : va_G) (cI : ClassId) (y_ : Nat) (b_ : Nat → Nat) (S : ST) (tq : Int32) (sz : Nat) : Met l yX1_plays wsX1_plays rmX1_plays (va_Pc [.ref y_] (pW D (tyM cI) (wM cI y_ b_ S tq) sz)) (va_Qi (fun (r_ : Int32) (u_ : ST × Int32) => r_ = S 15 0 ∧ u_ = (S, 0)) (fun (u_ : ST × Int32) t_ => atW D (wM cI y_ b_ u_.1 u_.2) (va_A (wM cI y_ b_ S tq) sz) t_) (va_A (wM cI y_ b_ S tq) sz)) 0 0 (va_A (wM cI y_ b_ S tq) sz) := by
  refine Met.ofW (cc := cX1_plays) (maxL := 1) (ret := (some .int)) (by decide) rfl ?_
  intro pr env s_ mid args below meth cod s₁ Bd hml hv
  obtain ⟨rfl, hsz, hP, hK_, hD0⟩ := hv
  have hx := Bd.exec
  have hb_ := Bd.bytes
  have hr := Bd.returns
  have hts := atoms_spec (ws := wsX1_plays) Bd.pre
  have hown : s_.vm.findClass RX1 = some mid.cls := findClass_of_methodNamed Bd.named
  have hlocks := Bd.notSynchronized
  have hin : ∀ w_ ∈ wsX10, w_ ∈ wsX1_plays := fun _ h_ => List.mem_cons_of_mem _ (List.mem_append_right _ h_)
  subst hsz
  have hD := hD0.self (sz := s_.heap.size)
  generalize hAe : va_A (wM cI y_ b_ S tq) s_.heap.size = A at hD ⊢
  have hA : ∀ q_ : Nat, s_.heap.size ≤ q_ → A q_ := fun q_ h_ => by rw [← hAe]; exact Or.inr h_
  have hS_ : va_S A s_.heap s_.heap [] := va_S.rf
  have hP : va_P D vwCl (wM cI y_ b_ S tq) s_.heap := hP
  have hD : va_D A (wM cI y_ b_ S tq) := hD
  have hl := lv_entry ([.ref y_]) (n := 1) (Nat.le_of_ble_eq_true rfl)
  rw [lg_entry_eq]
  generalize (lg_sl ([.ref y_]) ++ List.replicate (1 - (lg_sl ([.ref y_])).length) Slot.unset).toArray = ls at hl ⊢
  have hl : lv_has ls 1 [(0, .ref y_)] := hl
  refine lv_aload_n hx hb_ dX1_plays_0 rfl (lv_at hl 0 rfl) ?_
  refine lv_iconst (v := 0) hx hb_ dX1_plays_1 (by decide) ?_
  have hf53 := hts (.fieldLink RX1 53 "ClockmaskModel" "thrown" "I") (by decide +kernel)
  refine va_put (D := D) (ci := 1) (v := .int 0) (ty := .int) (C := RX1) (T := TX1) (N := 18) hx hb_ hts hin tyX1 tyX1_ok nmX1 hown hK_ hP hD hS_ 0 rfl rfl 17 (by decide) hf53 (fun _ h9 => h9) rfl (by decide +kernel) rfl rfl (Nat.le_of_ble_eq_true rfl) dX1_plays_2 (fun H locs hP hD hS_ => ?_)
  have hP : va_P D vwCl (wM cI y_ b_ S 0) H := hP
  have hD : va_D A (wM cI y_ b_ S 0) := hD
  refine lv_aload_n hx hb_ dX1_plays_5 rfl (lv_at hl 0 rfl) ?_
  have hf103 := hts (.fieldLink RX1 103 "ClockmaskModel" "ended" "I") (by decide +kernel)
  refine va_get (D := D) (ci := 1) (v := .int (S 15 0)) (C := RX1) (T := TX1) (N := 18) hx hb_ hts hin hown hK_ hP 0 rfl rfl 16 (by decide) hf103 (fun _ h9 => h9) rfl dX1_plays_6 ?_
  exact W.iret (v := S 15 0) hx hb_ hr (fun t_ ht hW => ⟨⟨_, (S, 0), rfl, ⟨rfl, rfl⟩, by rw [ht]; exact hP, hD⟩, hS_.F ht⟩) hS_.2.2 dX1_plays_9
set_option maxHeartbeats 4000000 in
set_option maxRecDepth 100000 in
theorem c_X1_isOn (l : Launch) (D : va_G) (cI : ClassId) (y_ : Nat) (b_ : Nat → Nat) (S : ST) (tq : Int32) (sz : Nat) (p_ : Int32) (B : Nat) (hI_ : Inv B S) : Met l yX1_isOn wsX1_isOn rmX1_isOn (va_Pc [.ref y_, .int p_] (pW D (tyM cI) (wM cI y_ b_ S tq) sz)) (va_Qi (fun (r_ : Int32) (u_ : ST × Int32) => k_isOn S p_ = (u_.2, r_, u_.1)) (fun (u_ : ST × Int32) t_ => atW D (wM cI y_ b_ u_.1 u_.2) (va_A (wM cI y_ b_ S tq) sz) t_) (va_A (wM cI y_ b_ S tq) sz)) 0 0 (va_A (wM cI y_ b_ S tq) sz) := by
  refine Met.ofW (cc := cX1_isOn) (maxL := 2) (ret := (some .boolean)) (by decide) rfl ?_
  intro pr env s_ mid args below meth cod s₁ Bd hml hv
  obtain ⟨rfl, hsz, hP, hK_, hD0⟩ := hv
  have hx := Bd.exec
  have hb_ := Bd.bytes
  have hr := Bd.returns
  have hts := atoms_spec (ws := wsX1_isOn) Bd.pre
  have hown : s_.vm.findClass RX1 = some mid.cls := findClass_of_methodNamed Bd.named
  have hlocks := Bd.notSynchronized
  have hin : ∀ w_ ∈ wsX10, w_ ∈ wsX1_isOn := fun _ h_ => List.mem_cons_of_mem _ (List.mem_append_right _ h_)
  subst hsz
  have hD := hD0.self (sz := s_.heap.size)
  generalize hAe : va_A (wM cI y_ b_ S tq) s_.heap.size = A at hD ⊢
  have hA : ∀ q_ : Nat, s_.heap.size ≤ q_ → A q_ := fun q_ h_ => by rw [← hAe]; exact Or.inr h_
  have hS_ : va_S A s_.heap s_.heap [] := va_S.rf
  have hP : va_P D vwCl (wM cI y_ b_ S tq) s_.heap := hP
  have hD : va_D A (wM cI y_ b_ S tq) := hD
  have hl := lv_entry ([.ref y_, .int p_]) (n := 2) (Nat.le_of_ble_eq_true rfl)
  rw [lg_entry_eq]
  generalize (lg_sl ([.ref y_, .int p_]) ++ List.replicate (2 - (lg_sl ([.ref y_, .int p_])).length) Slot.unset).toArray = ls at hl ⊢
  have hl : lv_has ls 2 [(0, .ref y_), (1, .int p_)] := hl
  refine lv_aload_n hx hb_ dX1_isOn_0 rfl (lv_at hl 0 rfl) ?_
  refine lv_iconst (v := 0) hx hb_ dX1_isOn_1 (by decide) ?_
  have hf53 := hts (.fieldLink RX1 53 "ClockmaskModel" "thrown" "I") (by decide +kernel)
  refine va_put (D := D) (ci := 1) (v := .int 0) (ty := .int) (C := RX1) (T := TX1) (N := 18) hx hb_ hts hin tyX1 tyX1_ok nmX1 hown hK_ hP hD hS_ 0 rfl rfl 17 (by decide) hf53 (fun _ h9 => h9) rfl (by decide +kernel) rfl rfl (Nat.le_of_ble_eq_true rfl) dX1_isOn_2 (fun H locs hP hD hS_ => ?_)
  have hP : va_P D vwCl (wM cI y_ b_ S 0) H := hP
  have hD : va_D A (wM cI y_ b_ S 0) := hD
  refine lv_iload_n hx hb_ dX1_isOn_5 rfl (lv_at hl 1 rfl) ?_
  refine vp_callSi (W.runS (As := [.int p_]) (rest := []) ⟨hx, hb_, hml, hown, hts⟩ (c_X1_isPlayer l p_) (va_cwS 1 hts gX1_isOn_X1_isPlayer rfl rfl rfl (by decide +kernel) ⟨Nat.le_of_ble_eq_true rfl, Nat.le_of_ble_eq_true rfl⟩) (pN_S) rfl rfl hl.1 rfl (lv_room (Nat.le_of_ble_eq_true rfl)) dX1_isOn_6 ⟨Nat.zero_le _, Nat.zero_le _⟩) (fun r_6 h_6 => ?_)
  refine lv_if_ne (tgt := 20) hx hb_ dX1_isOn_9 (by decide) (fun c_9 => ?_) (fun c_9 => ?_)
  · skip
    have b_6 := cif_b1 h_6 c_9
    refine lv_aload_n hx hb_ dX1_isOn_20 rfl (lv_at hl 0 rfl) ?_
    have hf13 := hts (.fieldLink RX1 13 "ClockmaskModel" "stage" "[I") (by decide +kernel)
    refine va_get (D := D) (ci := 1) (v := .ref (b_ 2)) (C := RX1) (T := TX1) (N := 18) hx hb_ hts hin hown hK_ hP 0 rfl rfl 1 (by decide) hf13 (fun _ h9 => h9) rfl dX1_isOn_21 ?_
    refine lv_iload_n hx hb_ dX1_isOn_24 rfl (lv_at hl 1 rfl) ?_
    refine va_iald (f := S 2) (n := 6) hx hb_ hK_ hP 2 0 rfl rfl (by assumption) dX1_isOn_25 ?_
    refine lv_iconst (v := 1) hx hb_ dX1_isOn_26 (by decide) ?_
    refine lv_icmp_ne (tgt := 34) hx hb_ dX1_isOn_27 (by decide) (fun c_27 => ?_) (fun c_27 => ?_)
    · skip
      refine lv_iconst (v := 0) hx hb_ dX1_isOn_34 (by decide) ?_
      exact W.zret (v := 0) (ty := .boolean) hx hb_ hr rfl (fun t_ ht hW => ⟨⟨_, (S, 0), rfl, by rw [k_isOn, cif_t b_6, (hI_.i2 _ (vin_lt b_6)).resolve_right c_27], by rw [ht]; exact hP, hD⟩, hS_.F ht⟩) hS_.2.2 dX1_isOn_35
    · skip
      refine lv_iconst (v := 1) hx hb_ dX1_isOn_30 (by decide) ?_
      refine lv_goto (tgt := 35) hx hb_ dX1_isOn_31 (by decide) ?_
      exact W.zret (v := 1) (ty := .boolean) hx hb_ hr rfl (fun t_ ht hW => ⟨⟨_, (S, 0), rfl, by rw [k_isOn, cif_t b_6, c_27], by rw [ht]; exact hP, hD⟩, hS_.F ht⟩) hS_.2.2 dX1_isOn_35
  · skip
    have b_6 := cif_b0 h_6 c_9
    refine lv_aload_n hx hb_ dX1_isOn_12 rfl (lv_at hl 0 rfl) ?_
    refine lv_iconst (v := 1) hx hb_ dX1_isOn_13 (by decide) ?_
    have hFc := wfree hD hS_ hA
    refine va_calli (va_runV (As := [.int 1]) (rest := []) ⟨hx, hb_, hml, hown, hts⟩ (c_X1_fails l D cI y_ b_ S 0 H.size 1) (cwV 1 hts gX1_isOn_X1_fails rfl rfl rfl (by decide +kernel) ⟨Nat.le_of_ble_eq_true rfl, Nat.le_of_ble_eq_true rfl⟩) (pW_V (ci := 1) hP hK_ hD rfl rfl) rfl rfl hl.1 rfl (lv_room (Nat.le_of_ble_eq_true rfl)) dX1_isOn_14 ⟨Nat.zero_le _, Nat.zero_le _⟩) hS_ (fun q_ _ h_ => hFc q_ h_) hFc (fun r_14 u_14 t9 H1 locs ht9 hvm9 h_14 hB9 hz9 hk9 hS_ => ?_)
    obtain ⟨e_14, h_14⟩ := h_14
    subst e_14
    subst h_14
    have hP : va_P D vwCl (wM cI y_ b_ S 1) H1 := atW_P hB9 ht9
    have hD : va_D A (wM cI y_ b_ S 1) := atW_D hB9 hFc
    generalize H1 = H at hP hS_ ⊢
    refine lv_pop hx hb_ dX1_isOn_17 rfl ?_
    refine lv_iconst (v := 0) hx hb_ dX1_isOn_18 (by decide) ?_
    exact W.zret (v := 0) (ty := .boolean) hx hb_ hr rfl (fun t_ ht hW => ⟨⟨_, (S, 1), rfl, cif_f b_6, by rw [ht]; exact hP, hD⟩, hS_.F ht⟩) hS_.2.2 dX1_isOn_19
set_option maxHeartbeats 4000000 in
set_option maxRecDepth 100000 in
theorem c_X1_canCall (l : Launch) (D : va_G) (cI : ClassId) (y_ : Nat) (b_ : Nat → Nat) (S : ST) (tq : Int32) (sz : Nat) (q_ : Int32) (B : Nat) (hI_ : Inv B S) : Met l yX1_canCall wsX1_canCall rmX1_canCall (va_Pc [.ref y_, .int q_] (pW D (tyM cI) (wM cI y_ b_ S tq) sz)) (va_Qi (fun (r_ : Int32) (u_ : ST × Int32) => k_canCall S q_ = (u_.2, r_, u_.1)) (fun (u_ : ST × Int32) t_ => atW D (wM cI y_ b_ u_.1 u_.2) (va_A (wM cI y_ b_ S tq) sz) t_) (va_A (wM cI y_ b_ S tq) sz)) 0 0 (va_A (wM cI y_ b_ S tq) sz) := by
  refine Met.ofW (cc := cX1_canCall) (maxL := 2) (ret := (some .boolean)) (by decide) rfl ?_
  intro pr env s_ mid args below meth cod s₁ Bd hml hv
  obtain ⟨rfl, hsz, hP, hK_, hD0⟩ := hv
  have hx := Bd.exec
  have hb_ := Bd.bytes
  have hr := Bd.returns
  have hts := atoms_spec (ws := wsX1_canCall) Bd.pre
  have hown : s_.vm.findClass RX1 = some mid.cls := findClass_of_methodNamed Bd.named
  have hlocks := Bd.notSynchronized
  have hin : ∀ w_ ∈ wsX10, w_ ∈ wsX1_canCall := fun _ h_ => List.mem_cons_of_mem _ (List.mem_append_right _ h_)
  subst hsz
  have hD := hD0.self (sz := s_.heap.size)
  generalize hAe : va_A (wM cI y_ b_ S tq) s_.heap.size = A at hD ⊢
  have hA : ∀ q_ : Nat, s_.heap.size ≤ q_ → A q_ := fun q_ h_ => by rw [← hAe]; exact Or.inr h_
  have hS_ : va_S A s_.heap s_.heap [] := va_S.rf
  have hP : va_P D vwCl (wM cI y_ b_ S tq) s_.heap := hP
  have hD : va_D A (wM cI y_ b_ S tq) := hD
  have hl := lv_entry ([.ref y_, .int q_]) (n := 2) (Nat.le_of_ble_eq_true rfl)
  rw [lg_entry_eq]
  generalize (lg_sl ([.ref y_, .int q_]) ++ List.replicate (2 - (lg_sl ([.ref y_, .int q_])).length) Slot.unset).toArray = ls at hl ⊢
  have hl : lv_has ls 2 [(0, .ref y_), (1, .int q_)] := hl
  refine lv_aload_n hx hb_ dX1_canCall_0 rfl (lv_at hl 0 rfl) ?_
  refine lv_iconst (v := 0) hx hb_ dX1_canCall_1 (by decide) ?_
  have hf53 := hts (.fieldLink RX1 53 "ClockmaskModel" "thrown" "I") (by decide +kernel)
  refine va_put (D := D) (ci := 1) (v := .int 0) (ty := .int) (C := RX1) (T := TX1) (N := 18) hx hb_ hts hin tyX1 tyX1_ok nmX1 hown hK_ hP hD hS_ 0 rfl rfl 17 (by decide) hf53 (fun _ h9 => h9) rfl (by decide +kernel) rfl rfl (Nat.le_of_ble_eq_true rfl) dX1_canCall_2 (fun H locs hP hD hS_ => ?_)
  have hP : va_P D vwCl (wM cI y_ b_ S 0) H := hP
  have hD : va_D A (wM cI y_ b_ S 0) := hD
  refine lv_aload_n hx hb_ dX1_canCall_5 rfl (lv_at hl 0 rfl) ?_
  refine lv_iload_n hx hb_ dX1_canCall_6 rfl (lv_at hl 1 rfl) ?_
  refine vp_callSi (W.runV (As := [.int q_]) (rest := []) ⟨hx, hb_, hml, hown, hts⟩ (c_X1_isCue l D cI y_ b_ S 0 q_ B hI_) (cwV 1 hts gX1_canCall_X1_isCue rfl rfl rfl (by decide +kernel) ⟨Nat.le_of_ble_eq_true rfl, Nat.le_of_ble_eq_true rfl⟩) (pR_V (ci := 1) hP hK_ rfl rfl) rfl rfl hl.1 rfl (lv_room (Nat.le_of_ble_eq_true rfl)) dX1_canCall_7 ⟨Nat.zero_le _, Nat.zero_le _⟩) (fun r_7 h_7 => ?_)
  refine lv_if_ne (tgt := 21) hx hb_ dX1_canCall_10 (by decide) (fun c_10 => ?_) (fun c_10 => ?_)
  · skip
    have b_7 := cif_b1 h_7 c_10
    refine lv_aload_n hx hb_ dX1_canCall_21 rfl (lv_at hl 0 rfl) ?_
    refine lv_iload_n hx hb_ dX1_canCall_22 rfl (lv_at hl 1 rfl) ?_
    refine vp_callSi (W.runV (As := [.int q_]) (rest := []) ⟨hx, hb_, hml, hown, hts⟩ (c_X1_isReady l D cI y_ b_ S 0 q_ (hI_.q24 b_7) (hI_.cueq b_7) (hI_.mok (vin_lt b_7))) (cwV 1 hts gX1_canCall_X1_isReady rfl rfl rfl (by decide +kernel) ⟨Nat.le_of_ble_eq_true rfl, Nat.le_of_ble_eq_true rfl⟩) (pR_V (ci := 1) hP hK_ rfl rfl) rfl rfl hl.1 rfl (lv_room (Nat.le_of_ble_eq_true rfl)) dX1_canCall_23 ⟨Nat.zero_le _, Nat.zero_le _⟩) (fun r_23 h_23 => ?_)
    exact W.zret (v := r_23) (ty := .boolean) hx hb_ hr (by rw [h_23]; exact cif_nar) (fun t_ ht hW => ⟨⟨_, (S, 0), rfl, by rw [h_23]; exact cif_t b_7, by rw [ht]; exact hP, hD⟩, hS_.F ht⟩) hS_.2.2 dX1_canCall_26
  · skip
    have b_7 := cif_b0 h_7 c_10
    refine lv_aload_n hx hb_ dX1_canCall_13 rfl (lv_at hl 0 rfl) ?_
    refine lv_iconst (v := 1) hx hb_ dX1_canCall_14 (by decide) ?_
    have hFc := wfree hD hS_ hA
    refine va_calli (va_runV (As := [.int 1]) (rest := []) ⟨hx, hb_, hml, hown, hts⟩ (c_X1_fails l D cI y_ b_ S 0 H.size 1) (cwV 1 hts gX1_canCall_X1_fails rfl rfl rfl (by decide +kernel) ⟨Nat.le_of_ble_eq_true rfl, Nat.le_of_ble_eq_true rfl⟩) (pW_V (ci := 1) hP hK_ hD rfl rfl) rfl rfl hl.1 rfl (lv_room (Nat.le_of_ble_eq_true rfl)) dX1_canCall_15 ⟨Nat.zero_le _, Nat.zero_le _⟩) hS_ (fun q_ _ h_ => hFc q_ h_) hFc (fun r_15 u_15 t9 H1 locs ht9 hvm9 h_15 hB9 hz9 hk9 hS_ => ?_)
    obtain ⟨e_15, h_15⟩ := h_15
    subst e_15
    subst h_15
    have hP : va_P D vwCl (wM cI y_ b_ S 1) H1 := atW_P hB9 ht9
    have hD : va_D A (wM cI y_ b_ S 1) := atW_D hB9 hFc
    generalize H1 = H at hP hS_ ⊢
    refine lv_pop hx hb_ dX1_canCall_18 rfl ?_
    refine lv_iconst (v := 0) hx hb_ dX1_canCall_19 (by decide) ?_
    exact W.zret (v := 0) (ty := .boolean) hx hb_ hr rfl (fun t_ ht hW => ⟨⟨_, (S, 1), rfl, cif_f b_7, by rw [ht]; exact hP, hD⟩, hS_.F ht⟩) hS_.2.2 dX1_canCall_20
set_option maxHeartbeats 4000000 in
set_option maxRecDepth 100000 in
theorem c_X1_call (l : Launch) (D : va_G) (cI : ClassId) (y_ : Nat) (b_ : Nat → Nat) (S : ST) (tq : Int32) (sz : Nat) (q_ : Int32) (B : Nat) (hI_ : Inv B S) : Met l yX1_call wsX1_call rmX1_call (va_Pc [.ref y_, .int q_] (pW D (tyM cI) (wM cI y_ b_ S tq) sz)) (va_Qi (fun (r_ : Int32) (u_ : ST × Int32) => k_call S q_ = (u_.2, r_, u_.1)) (fun (u_ : ST × Int32) t_ => atW D (wM cI y_ b_ u_.1 u_.2) (va_A (wM cI y_ b_ S tq) sz) t_) (va_A (wM cI y_ b_ S tq) sz)) 0 0 (va_A (wM cI y_ b_ S tq) sz) := by
  refine Met.ofW (cc := cX1_call) (maxL := 2) (ret := (some .int)) (by decide) rfl ?_
  intro pr env s_ mid args below meth cod s₁ Bd hml hv
  obtain ⟨rfl, hsz, hP, hK_, hD0⟩ := hv
  have hx := Bd.exec
  have hb_ := Bd.bytes
  have hr := Bd.returns
  have hts := atoms_spec (ws := wsX1_call) Bd.pre
  have hown : s_.vm.findClass RX1 = some mid.cls := findClass_of_methodNamed Bd.named
  have hlocks := Bd.notSynchronized
  have hin : ∀ w_ ∈ wsX10, w_ ∈ wsX1_call := fun _ h_ => List.mem_cons_of_mem _ (List.mem_append_right _ h_)
  subst hsz
  have hD := hD0.self (sz := s_.heap.size)
  generalize hAe : va_A (wM cI y_ b_ S tq) s_.heap.size = A at hD ⊢
  have hA : ∀ q_ : Nat, s_.heap.size ≤ q_ → A q_ := fun q_ h_ => by rw [← hAe]; exact Or.inr h_
  have hS_ : va_S A s_.heap s_.heap [] := va_S.rf
  have hP : va_P D vwCl (wM cI y_ b_ S tq) s_.heap := hP
  have hD : va_D A (wM cI y_ b_ S tq) := hD
  have hl := lv_entry ([.ref y_, .int q_]) (n := 2) (Nat.le_of_ble_eq_true rfl)
  rw [lg_entry_eq]
  generalize (lg_sl ([.ref y_, .int q_]) ++ List.replicate (2 - (lg_sl ([.ref y_, .int q_])).length) Slot.unset).toArray = ls at hl ⊢
  have hl : lv_has ls 2 [(0, .ref y_), (1, .int q_)] := hl
  refine lv_aload_n hx hb_ dX1_call_0 rfl (lv_at hl 0 rfl) ?_
  refine lv_iconst (v := 0) hx hb_ dX1_call_1 (by decide) ?_
  have hf53 := hts (.fieldLink RX1 53 "ClockmaskModel" "thrown" "I") (by decide +kernel)
  refine va_put (D := D) (ci := 1) (v := .int 0) (ty := .int) (C := RX1) (T := TX1) (N := 18) hx hb_ hts hin tyX1 tyX1_ok nmX1 hown hK_ hP hD hS_ 0 rfl rfl 17 (by decide) hf53 (fun _ h9 => h9) rfl (by decide +kernel) rfl rfl (Nat.le_of_ble_eq_true rfl) dX1_call_2 (fun H locs hP hD hS_ => ?_)
  have hP : va_P D vwCl (wM cI y_ b_ S 0) H := hP
  have hD : va_D A (wM cI y_ b_ S 0) := hD
  refine lv_aload_n hx hb_ dX1_call_5 rfl (lv_at hl 0 rfl) ?_
  refine lv_iload_n hx hb_ dX1_call_6 rfl (lv_at hl 1 rfl) ?_
  refine vp_callSi (W.runV (As := [.int q_]) (rest := []) ⟨hx, hb_, hml, hown, hts⟩ (c_X1_isCue l D cI y_ b_ S 0 q_ B hI_) (cwV 1 hts gX1_call_X1_isCue rfl rfl rfl (by decide +kernel) ⟨Nat.le_of_ble_eq_true rfl, Nat.le_of_ble_eq_true rfl⟩) (pR_V (ci := 1) hP hK_ rfl rfl) rfl rfl hl.1 rfl (lv_room (Nat.le_of_ble_eq_true rfl)) dX1_call_7 ⟨Nat.zero_le _, Nat.zero_le _⟩) (fun r_7 h_7 => ?_)
  refine lv_if_ne (tgt := 19) hx hb_ dX1_call_10 (by decide) (fun c_10 => ?_) (fun c_10 => ?_)
  · skip
    have b_7 := cif_b1 h_7 c_10
    refine lv_aload_n hx hb_ dX1_call_19 rfl (lv_at hl 0 rfl) ?_
    refine lv_iload_n hx hb_ dX1_call_20 rfl (lv_at hl 1 rfl) ?_
    refine vp_callSi (W.runV (As := [.int q_]) (rest := []) ⟨hx, hb_, hml, hown, hts⟩ (c_X1_isReady l D cI y_ b_ S 0 q_ (hI_.q24 b_7) (hI_.cueq b_7) (hI_.mok (vin_lt b_7))) (cwV 1 hts gX1_call_X1_isReady rfl rfl rfl (by decide +kernel) ⟨Nat.le_of_ble_eq_true rfl, Nat.le_of_ble_eq_true rfl⟩) (pR_V (ci := 1) hP hK_ rfl rfl) rfl rfl hl.1 rfl (lv_room (Nat.le_of_ble_eq_true rfl)) dX1_call_21 ⟨Nat.zero_le _, Nat.zero_le _⟩) (fun r_21 h_21 => ?_)
    refine lv_if_ne (tgt := 33) hx hb_ dX1_call_24 (by decide) (fun c_24 => ?_) (fun c_24 => ?_)
    · skip
      have b_21 := cif_b1 h_21 c_24
      refine lv_aload_n hx hb_ dX1_call_33 rfl (lv_at hl 0 rfl) ?_
      refine lv_iload_n hx hb_ dX1_call_34 rfl (lv_at hl 1 rfl) ?_
      have hFc := wfree hD hS_ hA
      refine va_callv (va_runV (As := [.int q_]) (rest := []) ⟨hx, hb_, hml, hown, hts⟩ (c_X1_callOne l D cI y_ b_ S 0 H.size q_ (hI_.q24 b_7) (hI_.cueq b_7) (hI_.cl (vin_lt b_7) (by rw [b_21.1]; decide)) (hI_.ex (vin_lt b_7) b_21)) (cwV 1 hts gX1_call_X1_callOne rfl rfl rfl (by decide +kernel) ⟨Nat.le_of_ble_eq_true rfl, Nat.le_of_ble_eq_true rfl⟩) (pW_V (ci := 1) hP hK_ hD rfl rfl) rfl rfl hl.1 rfl (lv_room (Nat.le_of_ble_eq_true rfl)) dX1_call_35 ⟨Nat.zero_le _, Nat.zero_le _⟩) hS_ (fun q_ _ h_ => hFc q_ h_) hFc (fun u_35 t9 H1 locs ht9 hvm9 h_35 hB9 hz9 hk9 hS_ => ?_)
      obtain ⟨v_35, w_35⟩ := u_35
      replace h_35 := Prod.mk.inj h_35
      obtain ⟨h_35, k_35⟩ := h_35
      replace k_35 := k_35.symm
      subst k_35
      have hP : va_P D vwCl (wM cI y_ b_ v_35 0) H1 := atW_P hB9 ht9
      have hD : va_D A (wM cI y_ b_ v_35 0) := atW_D hB9 hFc
      generalize H1 = H at hP hS_ ⊢
      refine lv_aload_n hx hb_ dX1_call_38 rfl (lv_at hl 0 rfl) ?_
      have hf89 := hts (.fieldLink RX1 89 "ClockmaskModel" "called" "I") (by decide +kernel)
      refine va_get (D := D) (ci := 1) (v := .int (v_35 11 0)) (C := RX1) (T := TX1) (N := 18) hx hb_ hts hin hown hK_ hP 0 rfl rfl 11 (by decide) hf89 (fun _ h9 => h9) rfl dX1_call_39 ?_
      exact W.iret (v := v_35 11 0) hx hb_ hr (fun t_ ht hW => ⟨⟨_, (v_35, 0), rfl, by rw [h_35, callQ_11]; exact (cif_t b_7).trans (cif_t b_21), by rw [ht]; exact hP, hD⟩, hS_.F ht⟩) hS_.2.2 dX1_call_42
    · skip
      have b_21 := cif_b0 h_21 c_24
      refine lv_aload_n hx hb_ dX1_call_27 rfl (lv_at hl 0 rfl) ?_
      refine lv_iconst (v := 2) hx hb_ dX1_call_28 (by decide) ?_
      have hFc := wfree hD hS_ hA
      refine va_calli (va_runV (As := [.int 2]) (rest := []) ⟨hx, hb_, hml, hown, hts⟩ (c_X1_fails l D cI y_ b_ S 0 H.size 2) (cwV 1 hts gX1_call_X1_fails rfl rfl rfl (by decide +kernel) ⟨Nat.le_of_ble_eq_true rfl, Nat.le_of_ble_eq_true rfl⟩) (pW_V (ci := 1) hP hK_ hD rfl rfl) rfl rfl hl.1 rfl (lv_room (Nat.le_of_ble_eq_true rfl)) dX1_call_29 ⟨Nat.zero_le _, Nat.zero_le _⟩) hS_ (fun q_ _ h_ => hFc q_ h_) hFc (fun r_29 u_29 t9 H1 locs ht9 hvm9 h_29 hB9 hz9 hk9 hS_ => ?_)
      obtain ⟨e_29, h_29⟩ := h_29
      subst e_29
      subst h_29
      have hP : va_P D vwCl (wM cI y_ b_ S 2) H1 := atW_P hB9 ht9
      have hD : va_D A (wM cI y_ b_ S 2) := atW_D hB9 hFc
      generalize H1 = H at hP hS_ ⊢
      exact W.iret (v := 0) hx hb_ hr (fun t_ ht hW => ⟨⟨_, (S, 2), rfl, (cif_t b_7).trans (cif_f b_21), by rw [ht]; exact hP, hD⟩, hS_.F ht⟩) hS_.2.2 dX1_call_32
  · skip
    have b_7 := cif_b0 h_7 c_10
    refine lv_aload_n hx hb_ dX1_call_13 rfl (lv_at hl 0 rfl) ?_
    refine lv_iconst (v := 1) hx hb_ dX1_call_14 (by decide) ?_
    have hFc := wfree hD hS_ hA
    refine va_calli (va_runV (As := [.int 1]) (rest := []) ⟨hx, hb_, hml, hown, hts⟩ (c_X1_fails l D cI y_ b_ S 0 H.size 1) (cwV 1 hts gX1_call_X1_fails rfl rfl rfl (by decide +kernel) ⟨Nat.le_of_ble_eq_true rfl, Nat.le_of_ble_eq_true rfl⟩) (pW_V (ci := 1) hP hK_ hD rfl rfl) rfl rfl hl.1 rfl (lv_room (Nat.le_of_ble_eq_true rfl)) dX1_call_15 ⟨Nat.zero_le _, Nat.zero_le _⟩) hS_ (fun q_ _ h_ => hFc q_ h_) hFc (fun r_15 u_15 t9 H1 locs ht9 hvm9 h_15 hB9 hz9 hk9 hS_ => ?_)
    obtain ⟨e_15, h_15⟩ := h_15
    subst e_15
    subst h_15
    have hP : va_P D vwCl (wM cI y_ b_ S 1) H1 := atW_P hB9 ht9
    have hD : va_D A (wM cI y_ b_ S 1) := atW_D hB9 hFc
    generalize H1 = H at hP hS_ ⊢
    exact W.iret (v := 0) hx hb_ hr (fun t_ ht hW => ⟨⟨_, (S, 1), rfl, cif_f b_7, by rw [ht]; exact hP, hD⟩, hS_.F ht⟩) hS_.2.2 dX1_call_18
set_option maxHeartbeats 4000000 in
set_option maxRecDepth 100000 in
theorem c_X1_run (l : Launch) (D : va_G) (cI : ClassId) (y_ : Nat) (b_ : Nat → Nat) (S : ST) (tq : Int32) (sz : Nat) (B : Nat) (hI_ : Inv B S) : Met l yX1_run wsX1_run rmX1_run (va_Pc [.ref y_] (pW D (tyM cI) (wM cI y_ b_ S tq) sz)) (va_Qi (fun (r_ : Int32) (u_ : ST × Int32) => k_run S = (u_.2, r_, u_.1)) (fun (u_ : ST × Int32) t_ => atW D (wM cI y_ b_ u_.1 u_.2) (va_A (wM cI y_ b_ S tq) sz) t_) (va_A (wM cI y_ b_ S tq) sz)) 0 0 (va_A (wM cI y_ b_ S tq) sz) := by
  refine Met.ofW (cc := cX1_run) (maxL := 3) (ret := (some .int)) (by decide) rfl ?_
  intro pr env s_ mid args below meth cod s₁ Bd hml hv
  obtain ⟨rfl, hsz, hP, hK_, hD0⟩ := hv
  have hx := Bd.exec
  have hb_ := Bd.bytes
  have hr := Bd.returns
  have hts := atoms_spec (ws := wsX1_run) Bd.pre
  have hown : s_.vm.findClass RX1 = some mid.cls := findClass_of_methodNamed Bd.named
  have hlocks := Bd.notSynchronized
  have hin : ∀ w_ ∈ wsX10, w_ ∈ wsX1_run := fun _ h_ => List.mem_cons_of_mem _ (List.mem_append_right _ h_)
  subst hsz
  have hD := hD0.self (sz := s_.heap.size)
  generalize hAe : va_A (wM cI y_ b_ S tq) s_.heap.size = A at hD ⊢
  have hA : ∀ q_ : Nat, s_.heap.size ≤ q_ → A q_ := fun q_ h_ => by rw [← hAe]; exact Or.inr h_
  have hS_ : va_S A s_.heap s_.heap [] := va_S.rf
  have hP : va_P D vwCl (wM cI y_ b_ S tq) s_.heap := hP
  have hD : va_D A (wM cI y_ b_ S tq) := hD
  have hl := lv_entry ([.ref y_]) (n := 3) (Nat.le_of_ble_eq_true rfl)
  rw [lg_entry_eq]
  generalize (lg_sl ([.ref y_]) ++ List.replicate (3 - (lg_sl ([.ref y_])).length) Slot.unset).toArray = ls at hl ⊢
  have hl : lv_has ls 3 [(0, .ref y_)] := hl
  refine lv_aload_n hx hb_ dX1_run_0 rfl (lv_at hl 0 rfl) ?_
  refine lv_iconst (v := 0) hx hb_ dX1_run_1 (by decide) ?_
  have hf53 := hts (.fieldLink RX1 53 "ClockmaskModel" "thrown" "I") (by decide +kernel)
  refine va_put (D := D) (ci := 1) (v := .int 0) (ty := .int) (C := RX1) (T := TX1) (N := 18) hx hb_ hts hin tyX1 tyX1_ok nmX1 hown hK_ hP hD hS_ 0 rfl rfl 17 (by decide) hf53 (fun _ h9 => h9) rfl (by decide +kernel) rfl rfl (Nat.le_of_ble_eq_true rfl) dX1_run_2 (fun H locs hP hD hS_ => ?_)
  have hP : va_P D vwCl (wM cI y_ b_ S 0) H := hP
  have hD : va_D A (wM cI y_ b_ S 0) := hD
  refine lv_aload_n hx hb_ dX1_run_5 rfl (lv_at hl 0 rfl) ?_
  have hf89 := hts (.fieldLink RX1 89 "ClockmaskModel" "called" "I") (by decide +kernel)
  refine va_get (D := D) (ci := 1) (v := .int (S 11 0)) (C := RX1) (T := TX1) (N := 18) hx hb_ hts hin hown hK_ hP 0 rfl rfl 11 (by decide) hf89 (fun _ h9 => h9) rfl dX1_run_6 ?_
  refine lv_istore_n (lv' := [(1, .int (S 11 0)), (0, .ref y_)]) hx hb_ dX1_run_9 rfl hl (by decide) rfl (fun ls hl => ?_)
  refine lv_iconst (v := 0) hx hb_ dX1_run_10 (by decide) ?_
  refine lv_istore_n (lv' := [(2, .int 0), (1, .int (S 11 0)), (0, .ref y_)]) hx hb_ dX1_run_11 rfl hl (by decide) rfl (fun ls hl => ?_)
  refine W_gen (fun R Q hR hQ => ?_)
  have loop_12 : ∀ (n_ : Nat) (j_ : Nat) (i2_ : Int32) (S1 : ST), (j_ ≤ many S1) → (cN (S1 8) 0 (many S1) * 25 + (many S1 - j_) < n_) → (i2_ = nI j_) → (∀ k_, k_ < j_ → ¬ cal S1 k_) → (∃ N, cN (S1 8) 0 (many S1) ≤ N ∧ runN N S1 = runN 24 S) → (Inv B S1) → ∀ (H : Heap) (locs : List Loc), va_P D vwCl (wM cI y_ b_ S1 0) H → va_D A (wM cI y_ b_ S1 0) → va_S A s_.heap H locs → ∀ ls : Array Slot, lv_has ls 3 [(2, .int i2_), (1, .int (S 11 0)), (0, .ref y_)] → W pr l env R s_ mid ([.ref y_] : List Value).toArray below meth cod H locs 0 0 Q (F0 mid 12 ls []) := by
    subst hR; subst hQ
    intro n_
    induction n_ with
    | zero =>
      intro j_ i2_ S1 hj hn e2_ hno eR hI1 H locs hP hD hS_ ls hl
      exfalso; omega
    | succ n_ ih_ =>
      intro j_ i2_ S1 hj hn e2_ hno eR hI1 H locs hP hD hS_ ls hl
      refine lv_iload_n hx hb_ dX1_run_12 rfl (lv_at hl 0 rfl) ?_
      refine lv_aload_n hx hb_ dX1_run_13 rfl (lv_at hl 2 rfl) ?_
      have hf60 := hts (.fieldLink RX1 60 "ClockmaskModel" "many" "I") (by decide +kernel)
      refine va_get (D := D) (ci := 1) (v := .int (S1 10 0)) (C := RX1) (T := TX1) (N := 18) hx hb_ hts hin hown hK_ hP 0 rfl rfl 10 (by decide) hf60 (fun _ h9 => h9) rfl dX1_run_14 ?_
      refine lv_icmp_ge (tgt := 44) hx hb_ dX1_run_17 (by decide) (fun c_17 => ?_) (fun c_17 => ?_)
      · skip
        have hm1 := hI1.m24
        have h6 : many S1 ≤ j_ := by rw [e2_, hI1.me] at c_17; exact (nI_leI (by omega) (by omega)).mp c_17
        refine lv_aload_n hx hb_ dX1_run_44 rfl (lv_at hl 2 rfl) ?_
        refine va_get (D := D) (ci := 1) (v := .int (S1 11 0)) (C := RX1) (T := TX1) (N := 18) hx hb_ hts hin hown hK_ hP 0 rfl rfl 11 (by decide) hf89 (fun _ h9 => h9) rfl dX1_run_45 ?_
        refine lv_iload_n hx hb_ dX1_run_48 rfl (lv_at hl 1 rfl) ?_
        refine lv_isub hx hb_ dX1_run_49 ?_
        exact W.iret (v := (S1 11 0) - (S 11 0)) hx hb_ hr (fun t_ ht hW => ⟨⟨_, (S1, 0), rfl, by unfold k_run; obtain ⟨N, -, eN⟩ := eR; rw [← eN, runN_stop (by rw [fstN_none (n := many S1) (fun k_ hk => hno k_ (by omega))]; exact Nat.lt_irrefl _)], by rw [ht]; exact hP, hD⟩, hS_.F ht⟩) hS_.2.2 dX1_run_50
      · skip
        have hm1 := hI1.m24
        have h6 : j_ < many S1 := by rw [e2_, hI1.me] at c_17; exact Nat.lt_of_not_le (fun z_ => c_17 ((nI_leI (by omega) (by omega)).mpr z_))
        have hq : vp_in i2_ (many S1) := by rw [e2_]; exact vp_in_nI h6 (by omega)
        refine lv_aload_n hx hb_ dX1_run_20 rfl (lv_at hl 2 rfl) ?_
        refine lv_iload_n hx hb_ dX1_run_21 rfl (lv_at hl 0 rfl) ?_
        refine vp_callSi (W.runV (As := [.int i2_]) (rest := []) ⟨hx, hb_, hml, hown, hts⟩ (c_X1_isReady l D cI y_ b_ S1 0 i2_ (hI1.q24 hq) (hI1.cueq hq) (hI1.mok (vin_lt hq))) (cwV 1 hts gX1_run_X1_isReady rfl rfl rfl (by decide +kernel) ⟨Nat.le_of_ble_eq_true rfl, Nat.le_of_ble_eq_true rfl⟩) (pR_V (ci := 1) hP hK_ rfl rfl) rfl rfl hl.1 rfl (lv_room (Nat.le_of_ble_eq_true rfl)) dX1_run_22 ⟨Nat.zero_le _, Nat.zero_le _⟩) (fun r_22 h_22 => ?_)
        refine lv_if_eq (tgt := 38) hx hb_ dX1_run_25 (by decide) (fun c_25 => ?_) (fun c_25 => ?_)
        · skip
          have b_22 := cif_b0 h_22 c_25
          have c9_ : ¬ cal S1 j_ := by rwa [e2_, nI_clamp (by omega)] at b_22
          refine lv_iinc (v := i2_ + 1) (lv' := [(2, .int (i2_ + 1)), (1, .int (S 11 0)), (0, .ref y_)]) hx hb_ dX1_run_38 hl (k := 0) rfl rfl (by decide) rfl (fun ls hl => ?_)
          refine lv_goto (tgt := 12) hx hb_ dX1_run_41 (by decide) ?_
          exact ih_ (j_ + 1) (i2_ + 1) S1 (by omega) (by omega) (by rw [e2_]; exact nI_1 j_) (lt_s hno c9_) eR hI1 _ _ hP hD hS_ _ (lv_sub hl [0, 1, 2] rfl)
        · skip
          have b_22 := cif_b1 h_22 c_25
          have c9_ : cal S1 j_ := by rwa [e2_, nI_clamp (by omega)] at b_22
          have hd9 := cN_drop (w := 1) (by decide) c9_.1 h6
          have e9_ : i2_.toNatClampNeg = j_ := by rw [e2_]; exact nI_clamp (by omega)
          rw [← e9_] at hd9
          refine lv_aload_n hx hb_ dX1_run_28 rfl (lv_at hl 2 rfl) ?_
          refine lv_iload_n hx hb_ dX1_run_29 rfl (lv_at hl 0 rfl) ?_
          have hFc := wfree hD hS_ hA
          refine va_callv (va_runV (As := [.int i2_]) (rest := []) ⟨hx, hb_, hml, hown, hts⟩ (c_X1_callOne l D cI y_ b_ S1 0 H.size i2_ (hI1.q24 hq) (hI1.cueq hq) (hI1.cl (vin_lt hq) (by rw [b_22.1]; decide)) (hI1.ex (vin_lt hq) b_22)) (cwV 1 hts gX1_run_X1_callOne rfl rfl rfl (by decide +kernel) ⟨Nat.le_of_ble_eq_true rfl, Nat.le_of_ble_eq_true rfl⟩) (pW_V (ci := 1) hP hK_ hD rfl rfl) rfl rfl hl.1 rfl (lv_room (Nat.le_of_ble_eq_true rfl)) dX1_run_30 ⟨Nat.zero_le _, Nat.zero_le _⟩) hS_ (fun q_ _ h_ => hFc q_ h_) hFc (fun u_30 t9 H1 locs ht9 hvm9 h_30 hB9 hz9 hk9 hS_ => ?_)
          obtain ⟨v_30, w_30⟩ := u_30
          replace h_30 := Prod.mk.inj h_30
          obtain ⟨h_30, k_30⟩ := h_30
          replace k_30 := k_30.symm
          subst k_30
          have hP : va_P D vwCl (wM cI y_ b_ v_30 0) H1 := atW_P hB9 ht9
          have hD : va_D A (wM cI y_ b_ v_30 0) := atW_D hB9 hFc
          generalize H1 = H at hP hS_ ⊢
          refine lv_iconst (v := 0) hx hb_ dX1_run_33 (by decide) ?_
          refine lv_istore_n (lv' := [(2, .int 0), (1, .int (S 11 0)), (0, .ref y_)]) hx hb_ dX1_run_34 rfl hl (by decide) rfl (fun ls hl => ?_)
          refine lv_goto (tgt := 12) hx hb_ dX1_run_35 (by decide) ?_
          exact ih_ 0 0 v_30 (Nat.zero_le _) (by rw [h_30, many_call, callQ_8]; omega) nI_0.symm (fun k_ hk => absurd hk (Nat.not_lt_zero k_)) (by rw [h_30]; exact run_step eR h6 hno c9_ e2_) (by rw [h_30]; exact hI1.call hq (by rw [e2_, nI_clamp (by omega)]; exact c9_)) _ _ hP hD hS_ _ (lv_sub hl [0, 1, 2] rfl)
  exact loop_12 (cN (S 8) 0 (many S) * 25 + many S + 1) 0 0 S (Nat.zero_le _) (by omega) nI_0.symm (fun k_ hk => absurd hk (Nat.not_lt_zero k_)) (⟨24, Nat.le_trans (cN_le _ _ _) hI_.m24, rfl⟩) hI_ _ _ hP hD hS_ _ (lv_sub hl [0, 1, 2] rfl)
set_option maxHeartbeats 4000000 in
set_option maxRecDepth 100000 in
theorem c_X1_miss (l : Launch) (D : va_G) (cI : ClassId) (y_ : Nat) (b_ : Nat → Nat) (S : ST) (tq : Int32) (sz : Nat) (q_ : Int32) (B : Nat) (hI_ : Inv B S) : Met l yX1_miss wsX1_miss rmX1_miss (va_Pc [.ref y_, .int q_] (pW D (tyM cI) (wM cI y_ b_ S tq) sz)) (va_Qi (fun (r_ : Int32) (u_ : ST × Int32) => k_miss S q_ = (u_.2, r_, u_.1)) (fun (u_ : ST × Int32) t_ => atW D (wM cI y_ b_ u_.1 u_.2) (va_A (wM cI y_ b_ S tq) sz) t_) (va_A (wM cI y_ b_ S tq) sz)) 0 0 (va_A (wM cI y_ b_ S tq) sz) := by
  refine Met.ofW (cc := cX1_miss) (maxL := 5) (ret := (some .int)) (by decide) rfl ?_
  intro pr env s_ mid args below meth cod s₁ Bd hml hv
  obtain ⟨rfl, hsz, hP, hK_, hD0⟩ := hv
  have hx := Bd.exec
  have hb_ := Bd.bytes
  have hr := Bd.returns
  have hts := atoms_spec (ws := wsX1_miss) Bd.pre
  have hown : s_.vm.findClass RX1 = some mid.cls := findClass_of_methodNamed Bd.named
  have hlocks := Bd.notSynchronized
  have hin : ∀ w_ ∈ wsX10, w_ ∈ wsX1_miss := fun _ h_ => List.mem_cons_of_mem _ (List.mem_append_right _ h_)
  subst hsz
  have hD := hD0.self (sz := s_.heap.size)
  generalize hAe : va_A (wM cI y_ b_ S tq) s_.heap.size = A at hD ⊢
  have hA : ∀ q_ : Nat, s_.heap.size ≤ q_ → A q_ := fun q_ h_ => by rw [← hAe]; exact Or.inr h_
  have hS_ : va_S A s_.heap s_.heap [] := va_S.rf
  have hP : va_P D vwCl (wM cI y_ b_ S tq) s_.heap := hP
  have hD : va_D A (wM cI y_ b_ S tq) := hD
  have hl := lv_entry ([.ref y_, .int q_]) (n := 5) (Nat.le_of_ble_eq_true rfl)
  rw [lg_entry_eq]
  generalize (lg_sl ([.ref y_, .int q_]) ++ List.replicate (5 - (lg_sl ([.ref y_, .int q_])).length) Slot.unset).toArray = ls at hl ⊢
  have hl : lv_has ls 5 [(0, .ref y_), (1, .int q_)] := hl
  refine lv_aload_n hx hb_ dX1_miss_0 rfl (lv_at hl 0 rfl) ?_
  refine lv_iconst (v := 0) hx hb_ dX1_miss_1 (by decide) ?_
  have hf53 := hts (.fieldLink RX1 53 "ClockmaskModel" "thrown" "I") (by decide +kernel)
  refine va_put (D := D) (ci := 1) (v := .int 0) (ty := .int) (C := RX1) (T := TX1) (N := 18) hx hb_ hts hin tyX1 tyX1_ok nmX1 hown hK_ hP hD hS_ 0 rfl rfl 17 (by decide) hf53 (fun _ h9 => h9) rfl (by decide +kernel) rfl rfl (Nat.le_of_ble_eq_true rfl) dX1_miss_2 (fun H locs hP hD hS_ => ?_)
  have hP : va_P D vwCl (wM cI y_ b_ S 0) H := hP
  have hD : va_D A (wM cI y_ b_ S 0) := hD
  refine lv_aload_n hx hb_ dX1_miss_5 rfl (lv_at hl 0 rfl) ?_
  refine lv_iload_n hx hb_ dX1_miss_6 rfl (lv_at hl 1 rfl) ?_
  refine vp_callSi (W.runV (As := [.int q_]) (rest := []) ⟨hx, hb_, hml, hown, hts⟩ (c_X1_isCue l D cI y_ b_ S 0 q_ B hI_) (cwV 1 hts gX1_miss_X1_isCue rfl rfl rfl (by decide +kernel) ⟨Nat.le_of_ble_eq_true rfl, Nat.le_of_ble_eq_true rfl⟩) (pR_V (ci := 1) hP hK_ rfl rfl) rfl rfl hl.1 rfl (lv_room (Nat.le_of_ble_eq_true rfl)) dX1_miss_7 ⟨Nat.zero_le _, Nat.zero_le _⟩) (fun r_7 h_7 => ?_)
  refine lv_if_ne (tgt := 19) hx hb_ dX1_miss_10 (by decide) (fun c_10 => ?_) (fun c_10 => ?_)
  · skip
    have b_7 := cif_b1 h_7 c_10
    refine lv_aload_n hx hb_ dX1_miss_19 rfl (lv_at hl 0 rfl) ?_
    have hf34 := hts (.fieldLink RX1 34 "ClockmaskModel" "states" "[I") (by decide +kernel)
    refine va_get (D := D) (ci := 1) (v := .ref (b_ 8)) (C := RX1) (T := TX1) (N := 18) hx hb_ hts hin hown hK_ hP 0 rfl rfl 8 (by decide) hf34 (fun _ h9 => h9) rfl dX1_miss_20 ?_
    refine lv_iload_n hx hb_ dX1_miss_23 rfl (lv_at hl 1 rfl) ?_
    refine va_iald (f := S 8) (n := 24) hx hb_ hK_ hP 9 0 rfl rfl (hI_.q24 b_7) dX1_miss_24 ?_
    refine lv_if_eq (tgt := 34) hx hb_ dX1_miss_25 (by decide) (fun c_25 => ?_) (fun c_25 => ?_)
    · skip
      refine lv_aload_n hx hb_ dX1_miss_34 rfl (lv_at hl 0 rfl) ?_
      refine va_get (D := D) (ci := 1) (v := .ref (b_ 8)) (C := RX1) (T := TX1) (N := 18) hx hb_ hts hin hown hK_ hP 0 rfl rfl 8 (by decide) hf34 (fun _ h9 => h9) rfl dX1_miss_35 ?_
      refine lv_iload_n hx hb_ dX1_miss_38 rfl (lv_at hl 1 rfl) ?_
      refine lv_iconst (v := 2) hx hb_ dX1_miss_39 (by decide) ?_
      refine va_iast (f := S 8) (n := 24) hx hb_ hK_ hP hD hS_ 9 0 rfl rfl (hI_.q24 b_7) dX1_miss_40 (fun H locs hP hD hS_ => ?_)
      have hP : va_P D vwCl (wMr cI y_ b_ (S 0) (S 1) (S 2) (S 3) (S 4) (S 5) (S 6) (S 7) (upd (S 8) q_.toNatClampNeg 2) (S 9) (S 10 0) (S 11 0) (S 12) (S 13) (S 14 0) (S 15 0) (S 16) 0) H := hP
      have hD : va_D A (wMr cI y_ b_ (S 0) (S 1) (S 2) (S 3) (S 4) (S 5) (S 6) (S 7) (upd (S 8) q_.toNatClampNeg 2) (S 9) (S 10 0) (S 11 0) (S 12) (S 13) (S 14 0) (S 15 0) (S 16) 0) := hD
      refine lv_iconst (v := 1) hx hb_ dX1_miss_41 (by decide) ?_
      refine lv_istore_n (lv' := [(2, .int 1), (0, .ref y_), (1, .int q_)]) hx hb_ dX1_miss_42 rfl hl (by decide) rfl (fun ls hl => ?_)
      refine lv_iload_n hx hb_ dX1_miss_43 rfl (lv_at hl 2 rfl) ?_
      refine lv_iconst (v := 1) hx hb_ dX1_miss_44 (by decide) ?_
      refine lv_iadd hx hb_ dX1_miss_45 ?_
      refine lv_istore_n (lv' := [(3, .int (q_ + 1)), (2, .int 1), (0, .ref y_), (1, .int q_)]) hx hb_ dX1_miss_46 rfl hl (by decide) rfl (fun ls hl => ?_)
      refine W_gen (fun R Q hR hQ => ?_)
      have loop_47 : ∀ (n_ : Nat) (j_ d : Nat) (i2_ : Int32) (i3_ : Int32) (g_ : Nat → Int32), (j_ + d = many S) → (d < n_) → (i3_ = nI j_) → (ms S g_ i2_ j_ d = ms S (upd (S 8) q_.toNatClampNeg 2) 1 (q_.toNatClampNeg + 1) (many S - (q_.toNatClampNeg + 1))) → ∀ (H : Heap) (locs : List Loc), va_P D vwCl (wMr cI y_ b_ (S 0) (S 1) (S 2) (S 3) (S 4) (S 5) (S 6) (S 7) g_ (S 9) (S 10 0) (S 11 0) (S 12) (S 13) (S 14 0) (S 15 0) (S 16) 0) H → va_D A (wMr cI y_ b_ (S 0) (S 1) (S 2) (S 3) (S 4) (S 5) (S 6) (S 7) g_ (S 9) (S 10 0) (S 11 0) (S 12) (S 13) (S 14 0) (S 15 0) (S 16) 0) → va_S A s_.heap H locs → ∀ ls : Array Slot, lv_has ls 5 [(3, .int i3_), (2, .int i2_), (0, .ref y_), (1, .int q_)] → W pr l env R s_ mid ([.ref y_, .int q_] : List Value).toArray below meth cod H locs 0 0 Q (F0 mid 47 ls []) := by
        subst hR; subst hQ
        intro n_
        induction n_ with
        | zero =>
          intro j_ d i2_ i3_ g_ hj hn e3_ eM H locs hP hD hS_ ls hl
          exfalso; omega
        | succ n_ ih_ =>
          intro j_ d i2_ i3_ g_ hj hn e3_ eM H locs hP hD hS_ ls hl
          refine lv_iload_n hx hb_ dX1_miss_47 rfl (lv_at hl 0 rfl) ?_
          refine lv_aload_n hx hb_ dX1_miss_48 rfl (lv_at hl 2 rfl) ?_
          have hf60 := hts (.fieldLink RX1 60 "ClockmaskModel" "many" "I") (by decide +kernel)
          refine va_get (D := D) (ci := 1) (v := .int (S 10 0)) (C := RX1) (T := TX1) (N := 18) hx hb_ hts hin hown hK_ hP 0 rfl rfl 10 (by decide) hf60 (fun _ h9 => h9) rfl dX1_miss_49 ?_
          refine lv_icmp_ge (tgt := 136) hx hb_ dX1_miss_52 (by decide) (fun c_52 => ?_) (fun c_52 => ?_)
          · skip
            have h6 : many S ≤ j_ := by rw [e3_, hI_.me] at c_52; exact (nI_leI (by have := hI_.m24; omega) (by have := hI_.m24; omega)).mp c_52
            refine lv_iload_n hx hb_ dX1_miss_136 rfl (lv_at hl 1 rfl) ?_
            exact W.iret (v := i2_) hx hb_ hr (fun t_ ht hW => ⟨⟨_, (row S 8 g_, 0), rfl, (cif_t b_7).trans ((cif_t c_25).trans (by rw [← eM, show d = 0 by omega]; rfl)), by rw [ht]; exact hP, hD⟩, hS_.F ht⟩) hS_.2.2 dX1_miss_137
          · skip
            have hm_ := hI_.m24
            have h6 : j_ < many S := by rw [e3_, hI_.me] at c_52; exact Nat.lt_of_not_le (fun z_ => c_52 ((nI_leI (by omega) (by omega)).mpr z_))
            obtain ⟨d1, rfl⟩ : ∃ d1, d = d1 + 1 := ⟨d - 1, by omega⟩
            have hi24 : vp_in i3_ 24 := by rw [e3_]; exact vp_in_nI (by omega) (by decide)
            have hw24 : S 7 i3_.toNatClampNeg = -1 ∨ vp_in (S 7 i3_.toNatClampNeg) 24 := by rw [e3_, nI_clamp (by omega)]; exact (hI_.cue h6).2.2.2.1
            refine lv_aload_n hx hb_ dX1_miss_55 rfl (lv_at hl 2 rfl) ?_
            refine va_get (D := D) (ci := 1) (v := .ref (b_ 8)) (C := RX1) (T := TX1) (N := 18) hx hb_ hts hin hown hK_ hP 0 rfl rfl 8 (by decide) hf34 (fun _ h9 => h9) rfl dX1_miss_56 ?_
            refine lv_iload_n hx hb_ dX1_miss_59 rfl (lv_at hl 0 rfl) ?_
            refine va_iald (f := g_) (n := 24) hx hb_ hK_ hP 9 0 rfl rfl hi24 dX1_miss_60 ?_
            refine lv_if_ne (tgt := 93) hx hb_ dX1_miss_61 (by decide) (fun c_61 => ?_) (fun c_61 => ?_)
            · skip
              have c61 : ¬ g_ j_ = 0 := by rwa [e3_, nI_clamp (by omega)] at c_61
              refine lv_iconst (v := 0) hx hb_ dX1_miss_93 (by decide) ?_
              refine lv_istore (lv' := [(4, .int 0), (3, .int i3_), (2, .int i2_), (0, .ref y_), (1, .int q_)]) hx hb_ dX1_miss_94 hl (by decide) rfl (fun ls hl => ?_)
              refine lv_aload_n hx hb_ dX1_miss_96 rfl (lv_at hl 3 rfl) ?_
              refine va_get (D := D) (ci := 1) (v := .ref (b_ 8)) (C := RX1) (T := TX1) (N := 18) hx hb_ hts hin hown hK_ hP 0 rfl rfl 8 (by decide) hf34 (fun _ h9 => h9) rfl dX1_miss_97 ?_
              refine lv_iload_n hx hb_ dX1_miss_100 rfl (lv_at hl 1 rfl) ?_
              refine lv_iload hx hb_ dX1_miss_101 (lv_at hl 0 rfl) ?_
              refine lv_if_eq (tgt := 110) hx hb_ dX1_miss_103 (by decide) (fun c_103 => ?_) (fun c_103 => ?_)
              · skip
                refine lv_aload_n hx hb_ dX1_miss_110 rfl (lv_at hl 3 rfl) ?_
                refine va_get (D := D) (ci := 1) (v := .ref (b_ 8)) (C := RX1) (T := TX1) (N := 18) hx hb_ hts hin hown hK_ hP 0 rfl rfl 8 (by decide) hf34 (fun _ h9 => h9) rfl dX1_miss_111 ?_
                refine lv_iload_n hx hb_ dX1_miss_114 rfl (lv_at hl 1 rfl) ?_
                refine va_iald (f := g_) (n := 24) hx hb_ hK_ hP 9 0 rfl rfl hi24 dX1_miss_115 ?_
                refine va_iast (f := g_) (n := 24) hx hb_ hK_ hP hD hS_ 9 0 rfl rfl hi24 dX1_miss_116 (fun H locs hP hD hS_ => ?_)
                have hP : va_P D vwCl (wMr cI y_ b_ (S 0) (S 1) (S 2) (S 3) (S 4) (S 5) (S 6) (S 7) (upd g_ i3_.toNatClampNeg (g_ i3_.toNatClampNeg)) (S 9) (S 10 0) (S 11 0) (S 12) (S 13) (S 14 0) (S 15 0) (S 16) 0) H := hP
                have hD : va_D A (wMr cI y_ b_ (S 0) (S 1) (S 2) (S 3) (S 4) (S 5) (S 6) (S 7) (upd g_ i3_.toNatClampNeg (g_ i3_.toNatClampNeg)) (S 9) (S 10 0) (S 11 0) (S 12) (S 13) (S 14 0) (S 15 0) (S 16) 0) := hD
                refine lv_iload_n hx hb_ dX1_miss_117 rfl (lv_at hl 2 rfl) ?_
                refine lv_iload hx hb_ dX1_miss_118 (lv_at hl 0 rfl) ?_
                refine lv_if_eq (tgt := 127) hx hb_ dX1_miss_120 (by decide) (fun c_120 => ?_) (fun c_120 => ?_)
                · skip
                  refine lv_iconst (v := 0) hx hb_ dX1_miss_127 (by decide) ?_
                  refine lv_iadd hx hb_ dX1_miss_128 ?_
                  refine lv_istore_n (lv' := [(2, .int (i2_ + 0)), (4, .int 0), (3, .int i3_), (0, .ref y_), (1, .int q_)]) hx hb_ dX1_miss_129 rfl hl (by decide) rfl (fun ls hl => ?_)
                  refine lv_iinc (v := i3_ + 1) (lv' := [(3, .int (i3_ + 1)), (2, .int (i2_ + 0)), (4, .int 0), (0, .ref y_), (1, .int q_)]) hx hb_ dX1_miss_130 hl (k := 2) rfl rfl (by decide) rfl (fun ls hl => ?_)
                  refine lv_goto (tgt := 47) hx hb_ dX1_miss_133 (by decide) ?_
                  exact ih_ (j_ + 1) d1 (i2_ + 0) (i3_ + 1) (upd g_ i3_.toNatClampNeg (g_ i3_.toNatClampNeg)) (by omega) (by omega) (by rw [e3_]; exact nI_1 j_) (by rw [fa_upd_same rfl, Int32.add_zero, ← eM, ms, cif_f (fun h_ => c61 h_.1)]) _ _ hP hD hS_ _ (lv_sub hl [0, 1, 3, 4] rfl)
                · skip
                  exact absurd c_120 (by decide)
              · skip
                exact absurd c_103 (by decide)
            · skip
              have c61 : g_ j_ = 0 := by rwa [e3_, nI_clamp (by omega)] at c_61
              refine lv_aload_n hx hb_ dX1_miss_64 rfl (lv_at hl 2 rfl) ?_
              have hf31 := hts (.fieldLink RX1 31 "ClockmaskModel" "waitsFor" "[I") (by decide +kernel)
              refine va_get (D := D) (ci := 1) (v := .ref (b_ 7)) (C := RX1) (T := TX1) (N := 18) hx hb_ hts hin hown hK_ hP 0 rfl rfl 7 (by decide) hf31 (fun _ h9 => h9) rfl dX1_miss_65 ?_
              refine lv_iload_n hx hb_ dX1_miss_68 rfl (lv_at hl 0 rfl) ?_
              refine va_iald (f := S 7) (n := 24) hx hb_ hK_ hP 8 0 rfl rfl hi24 dX1_miss_69 ?_
              refine lv_iconst (v := (-1)) hx hb_ dX1_miss_70 (by decide) ?_
              refine lv_icmp_eq (tgt := 93) hx hb_ dX1_miss_71 (by decide) (fun c_71 => ?_) (fun c_71 => ?_)
              · skip
                have c71 : S 7 j_ = -1 := by rwa [e3_, nI_clamp (by omega)] at c_71
                refine lv_iconst (v := 0) hx hb_ dX1_miss_93 (by decide) ?_
                refine lv_istore (lv' := [(4, .int 0), (3, .int i3_), (2, .int i2_), (0, .ref y_), (1, .int q_)]) hx hb_ dX1_miss_94 hl (by decide) rfl (fun ls hl => ?_)
                refine lv_aload_n hx hb_ dX1_miss_96 rfl (lv_at hl 3 rfl) ?_
                refine va_get (D := D) (ci := 1) (v := .ref (b_ 8)) (C := RX1) (T := TX1) (N := 18) hx hb_ hts hin hown hK_ hP 0 rfl rfl 8 (by decide) hf34 (fun _ h9 => h9) rfl dX1_miss_97 ?_
                refine lv_iload_n hx hb_ dX1_miss_100 rfl (lv_at hl 1 rfl) ?_
                refine lv_iload hx hb_ dX1_miss_101 (lv_at hl 0 rfl) ?_
                refine lv_if_eq (tgt := 110) hx hb_ dX1_miss_103 (by decide) (fun c_103 => ?_) (fun c_103 => ?_)
                · skip
                  refine lv_aload_n hx hb_ dX1_miss_110 rfl (lv_at hl 3 rfl) ?_
                  refine va_get (D := D) (ci := 1) (v := .ref (b_ 8)) (C := RX1) (T := TX1) (N := 18) hx hb_ hts hin hown hK_ hP 0 rfl rfl 8 (by decide) hf34 (fun _ h9 => h9) rfl dX1_miss_111 ?_
                  refine lv_iload_n hx hb_ dX1_miss_114 rfl (lv_at hl 1 rfl) ?_
                  refine va_iald (f := g_) (n := 24) hx hb_ hK_ hP 9 0 rfl rfl hi24 dX1_miss_115 ?_
                  refine va_iast (f := g_) (n := 24) hx hb_ hK_ hP hD hS_ 9 0 rfl rfl hi24 dX1_miss_116 (fun H locs hP hD hS_ => ?_)
                  have hP : va_P D vwCl (wMr cI y_ b_ (S 0) (S 1) (S 2) (S 3) (S 4) (S 5) (S 6) (S 7) (upd g_ i3_.toNatClampNeg (g_ i3_.toNatClampNeg)) (S 9) (S 10 0) (S 11 0) (S 12) (S 13) (S 14 0) (S 15 0) (S 16) 0) H := hP
                  have hD : va_D A (wMr cI y_ b_ (S 0) (S 1) (S 2) (S 3) (S 4) (S 5) (S 6) (S 7) (upd g_ i3_.toNatClampNeg (g_ i3_.toNatClampNeg)) (S 9) (S 10 0) (S 11 0) (S 12) (S 13) (S 14 0) (S 15 0) (S 16) 0) := hD
                  refine lv_iload_n hx hb_ dX1_miss_117 rfl (lv_at hl 2 rfl) ?_
                  refine lv_iload hx hb_ dX1_miss_118 (lv_at hl 0 rfl) ?_
                  refine lv_if_eq (tgt := 127) hx hb_ dX1_miss_120 (by decide) (fun c_120 => ?_) (fun c_120 => ?_)
                  · skip
                    refine lv_iconst (v := 0) hx hb_ dX1_miss_127 (by decide) ?_
                    refine lv_iadd hx hb_ dX1_miss_128 ?_
                    refine lv_istore_n (lv' := [(2, .int (i2_ + 0)), (4, .int 0), (3, .int i3_), (0, .ref y_), (1, .int q_)]) hx hb_ dX1_miss_129 rfl hl (by decide) rfl (fun ls hl => ?_)
                    refine lv_iinc (v := i3_ + 1) (lv' := [(3, .int (i3_ + 1)), (2, .int (i2_ + 0)), (4, .int 0), (0, .ref y_), (1, .int q_)]) hx hb_ dX1_miss_130 hl (k := 2) rfl rfl (by decide) rfl (fun ls hl => ?_)
                    refine lv_goto (tgt := 47) hx hb_ dX1_miss_133 (by decide) ?_
                    exact ih_ (j_ + 1) d1 (i2_ + 0) (i3_ + 1) (upd g_ i3_.toNatClampNeg (g_ i3_.toNatClampNeg)) (by omega) (by omega) (by rw [e3_]; exact nI_1 j_) (by rw [fa_upd_same rfl, Int32.add_zero, ← eM, ms, cif_f (fun h_ => h_.2.1 c71)]) _ _ hP hD hS_ _ (lv_sub hl [0, 1, 3, 4] rfl)
                  · skip
                    exact absurd c_120 (by decide)
                · skip
                  exact absurd c_103 (by decide)
              · skip
                have c71 : ¬ S 7 j_ = -1 := by rwa [e3_, nI_clamp (by omega)] at c_71
                refine lv_aload_n hx hb_ dX1_miss_74 rfl (lv_at hl 2 rfl) ?_
                refine va_get (D := D) (ci := 1) (v := .ref (b_ 8)) (C := RX1) (T := TX1) (N := 18) hx hb_ hts hin hown hK_ hP 0 rfl rfl 8 (by decide) hf34 (fun _ h9 => h9) rfl dX1_miss_75 ?_
                refine lv_aload_n hx hb_ dX1_miss_78 rfl (lv_at hl 2 rfl) ?_
                refine va_get (D := D) (ci := 1) (v := .ref (b_ 7)) (C := RX1) (T := TX1) (N := 18) hx hb_ hts hin hown hK_ hP 0 rfl rfl 7 (by decide) hf31 (fun _ h9 => h9) rfl dX1_miss_79 ?_
                refine lv_iload_n hx hb_ dX1_miss_82 rfl (lv_at hl 0 rfl) ?_
                refine va_iald (f := S 7) (n := 24) hx hb_ hK_ hP 8 0 rfl rfl hi24 dX1_miss_83 ?_
                refine va_iald (f := g_) (n := 24) hx hb_ hK_ hP 9 0 rfl rfl (hw24.resolve_left c_71) dX1_miss_84 ?_
                refine lv_iconst (v := 2) hx hb_ dX1_miss_85 (by decide) ?_
                refine lv_icmp_ne (tgt := 93) hx hb_ dX1_miss_86 (by decide) (fun c_86 => ?_) (fun c_86 => ?_)
                · skip
                  have c86 : ¬ g_ (S 7 j_).toNatClampNeg = 2 := by rwa [e3_, nI_clamp (by omega)] at c_86
                  refine lv_iconst (v := 0) hx hb_ dX1_miss_93 (by decide) ?_
                  refine lv_istore (lv' := [(4, .int 0), (3, .int i3_), (2, .int i2_), (0, .ref y_), (1, .int q_)]) hx hb_ dX1_miss_94 hl (by decide) rfl (fun ls hl => ?_)
                  refine lv_aload_n hx hb_ dX1_miss_96 rfl (lv_at hl 3 rfl) ?_
                  refine va_get (D := D) (ci := 1) (v := .ref (b_ 8)) (C := RX1) (T := TX1) (N := 18) hx hb_ hts hin hown hK_ hP 0 rfl rfl 8 (by decide) hf34 (fun _ h9 => h9) rfl dX1_miss_97 ?_
                  refine lv_iload_n hx hb_ dX1_miss_100 rfl (lv_at hl 1 rfl) ?_
                  refine lv_iload hx hb_ dX1_miss_101 (lv_at hl 0 rfl) ?_
                  refine lv_if_eq (tgt := 110) hx hb_ dX1_miss_103 (by decide) (fun c_103 => ?_) (fun c_103 => ?_)
                  · skip
                    refine lv_aload_n hx hb_ dX1_miss_110 rfl (lv_at hl 3 rfl) ?_
                    refine va_get (D := D) (ci := 1) (v := .ref (b_ 8)) (C := RX1) (T := TX1) (N := 18) hx hb_ hts hin hown hK_ hP 0 rfl rfl 8 (by decide) hf34 (fun _ h9 => h9) rfl dX1_miss_111 ?_
                    refine lv_iload_n hx hb_ dX1_miss_114 rfl (lv_at hl 1 rfl) ?_
                    refine va_iald (f := g_) (n := 24) hx hb_ hK_ hP 9 0 rfl rfl hi24 dX1_miss_115 ?_
                    refine va_iast (f := g_) (n := 24) hx hb_ hK_ hP hD hS_ 9 0 rfl rfl hi24 dX1_miss_116 (fun H locs hP hD hS_ => ?_)
                    have hP : va_P D vwCl (wMr cI y_ b_ (S 0) (S 1) (S 2) (S 3) (S 4) (S 5) (S 6) (S 7) (upd g_ i3_.toNatClampNeg (g_ i3_.toNatClampNeg)) (S 9) (S 10 0) (S 11 0) (S 12) (S 13) (S 14 0) (S 15 0) (S 16) 0) H := hP
                    have hD : va_D A (wMr cI y_ b_ (S 0) (S 1) (S 2) (S 3) (S 4) (S 5) (S 6) (S 7) (upd g_ i3_.toNatClampNeg (g_ i3_.toNatClampNeg)) (S 9) (S 10 0) (S 11 0) (S 12) (S 13) (S 14 0) (S 15 0) (S 16) 0) := hD
                    refine lv_iload_n hx hb_ dX1_miss_117 rfl (lv_at hl 2 rfl) ?_
                    refine lv_iload hx hb_ dX1_miss_118 (lv_at hl 0 rfl) ?_
                    refine lv_if_eq (tgt := 127) hx hb_ dX1_miss_120 (by decide) (fun c_120 => ?_) (fun c_120 => ?_)
                    · skip
                      refine lv_iconst (v := 0) hx hb_ dX1_miss_127 (by decide) ?_
                      refine lv_iadd hx hb_ dX1_miss_128 ?_
                      refine lv_istore_n (lv' := [(2, .int (i2_ + 0)), (4, .int 0), (3, .int i3_), (0, .ref y_), (1, .int q_)]) hx hb_ dX1_miss_129 rfl hl (by decide) rfl (fun ls hl => ?_)
                      refine lv_iinc (v := i3_ + 1) (lv' := [(3, .int (i3_ + 1)), (2, .int (i2_ + 0)), (4, .int 0), (0, .ref y_), (1, .int q_)]) hx hb_ dX1_miss_130 hl (k := 2) rfl rfl (by decide) rfl (fun ls hl => ?_)
                      refine lv_goto (tgt := 47) hx hb_ dX1_miss_133 (by decide) ?_
                      exact ih_ (j_ + 1) d1 (i2_ + 0) (i3_ + 1) (upd g_ i3_.toNatClampNeg (g_ i3_.toNatClampNeg)) (by omega) (by omega) (by rw [e3_]; exact nI_1 j_) (by rw [fa_upd_same rfl, Int32.add_zero, ← eM, ms, cif_f (fun h_ => c86 h_.2.2)]) _ _ hP hD hS_ _ (lv_sub hl [0, 1, 3, 4] rfl)
                    · skip
                      exact absurd c_120 (by decide)
                  · skip
                    exact absurd c_103 (by decide)
                · skip
                  have c86 : g_ (S 7 j_).toNatClampNeg = 2 := by rwa [e3_, nI_clamp (by omega)] at c_86
                  refine lv_iconst (v := 1) hx hb_ dX1_miss_89 (by decide) ?_
                  refine lv_goto (tgt := 94) hx hb_ dX1_miss_90 (by decide) ?_
                  refine lv_istore (lv' := [(4, .int 1), (3, .int i3_), (2, .int i2_), (0, .ref y_), (1, .int q_)]) hx hb_ dX1_miss_94 hl (by decide) rfl (fun ls hl => ?_)
                  refine lv_aload_n hx hb_ dX1_miss_96 rfl (lv_at hl 3 rfl) ?_
                  refine va_get (D := D) (ci := 1) (v := .ref (b_ 8)) (C := RX1) (T := TX1) (N := 18) hx hb_ hts hin hown hK_ hP 0 rfl rfl 8 (by decide) hf34 (fun _ h9 => h9) rfl dX1_miss_97 ?_
                  refine lv_iload_n hx hb_ dX1_miss_100 rfl (lv_at hl 1 rfl) ?_
                  refine lv_iload hx hb_ dX1_miss_101 (lv_at hl 0 rfl) ?_
                  refine lv_if_eq (tgt := 110) hx hb_ dX1_miss_103 (by decide) (fun c_103 => ?_) (fun c_103 => ?_)
                  · skip
                    exact absurd c_103 (by decide)
                  · skip
                    refine lv_iconst (v := 2) hx hb_ dX1_miss_106 (by decide) ?_
                    refine lv_goto (tgt := 116) hx hb_ dX1_miss_107 (by decide) ?_
                    refine va_iast (f := g_) (n := 24) hx hb_ hK_ hP hD hS_ 9 0 rfl rfl hi24 dX1_miss_116 (fun H locs hP hD hS_ => ?_)
                    have hP : va_P D vwCl (wMr cI y_ b_ (S 0) (S 1) (S 2) (S 3) (S 4) (S 5) (S 6) (S 7) (upd g_ i3_.toNatClampNeg 2) (S 9) (S 10 0) (S 11 0) (S 12) (S 13) (S 14 0) (S 15 0) (S 16) 0) H := hP
                    have hD : va_D A (wMr cI y_ b_ (S 0) (S 1) (S 2) (S 3) (S 4) (S 5) (S 6) (S 7) (upd g_ i3_.toNatClampNeg 2) (S 9) (S 10 0) (S 11 0) (S 12) (S 13) (S 14 0) (S 15 0) (S 16) 0) := hD
                    refine lv_iload_n hx hb_ dX1_miss_117 rfl (lv_at hl 2 rfl) ?_
                    refine lv_iload hx hb_ dX1_miss_118 (lv_at hl 0 rfl) ?_
                    refine lv_if_eq (tgt := 127) hx hb_ dX1_miss_120 (by decide) (fun c_120 => ?_) (fun c_120 => ?_)
                    · skip
                      exact absurd c_120 (by decide)
                    · skip
                      refine lv_iconst (v := 1) hx hb_ dX1_miss_123 (by decide) ?_
                      refine lv_goto (tgt := 128) hx hb_ dX1_miss_124 (by decide) ?_
                      refine lv_iadd hx hb_ dX1_miss_128 ?_
                      refine lv_istore_n (lv' := [(2, .int (i2_ + 1)), (4, .int 1), (3, .int i3_), (0, .ref y_), (1, .int q_)]) hx hb_ dX1_miss_129 rfl hl (by decide) rfl (fun ls hl => ?_)
                      refine lv_iinc (v := i3_ + 1) (lv' := [(3, .int (i3_ + 1)), (2, .int (i2_ + 1)), (4, .int 1), (0, .ref y_), (1, .int q_)]) hx hb_ dX1_miss_130 hl (k := 2) rfl rfl (by decide) rfl (fun ls hl => ?_)
                      refine lv_goto (tgt := 47) hx hb_ dX1_miss_133 (by decide) ?_
                      exact ih_ (j_ + 1) d1 (i2_ + 1) (i3_ + 1) (upd g_ i3_.toNatClampNeg 2) (by omega) (by omega) (by rw [e3_]; exact nI_1 j_) (by rw [← eM, ms, cif_t ⟨c61, c71, c86⟩, e3_, nI_clamp (by omega)]) _ _ hP hD hS_ _ (lv_sub hl [0, 1, 3, 4] rfl)
      have hq2 := vin_lt b_7
      exact loop_47 (many S + 1) (q_.toNatClampNeg + 1) (many S - (q_.toNatClampNeg + 1)) 1 (q_ + 1) (upd (S 8) q_.toNatClampNeg 2) (by omega) (by omega) ((congrArg (fun z_ => z_ + 1) (vin_nI (hI_.q24 b_7) (by decide))).trans (nI_1 _)) rfl _ _ hP hD hS_ _ (lv_sub hl [0, 1, 2, 3] rfl)
    · skip
      refine lv_aload_n hx hb_ dX1_miss_28 rfl (lv_at hl 0 rfl) ?_
      refine lv_iconst (v := 2) hx hb_ dX1_miss_29 (by decide) ?_
      have hFc := wfree hD hS_ hA
      refine va_calli (va_runV (As := [.int 2]) (rest := []) ⟨hx, hb_, hml, hown, hts⟩ (c_X1_fails l D cI y_ b_ S 0 H.size 2) (cwV 1 hts gX1_miss_X1_fails rfl rfl rfl (by decide +kernel) ⟨Nat.le_of_ble_eq_true rfl, Nat.le_of_ble_eq_true rfl⟩) (pW_V (ci := 1) hP hK_ hD rfl rfl) rfl rfl hl.1 rfl (lv_room (Nat.le_of_ble_eq_true rfl)) dX1_miss_30 ⟨Nat.zero_le _, Nat.zero_le _⟩) hS_ (fun q_ _ h_ => hFc q_ h_) hFc (fun r_30 u_30 t9 H1 locs ht9 hvm9 h_30 hB9 hz9 hk9 hS_ => ?_)
      obtain ⟨e_30, h_30⟩ := h_30
      subst e_30
      subst h_30
      have hP : va_P D vwCl (wM cI y_ b_ S 2) H1 := atW_P hB9 ht9
      have hD : va_D A (wM cI y_ b_ S 2) := atW_D hB9 hFc
      generalize H1 = H at hP hS_ ⊢
      exact W.iret (v := 0) hx hb_ hr (fun t_ ht hW => ⟨⟨_, (S, 2), rfl, (cif_t b_7).trans (cif_f c_25), by rw [ht]; exact hP, hD⟩, hS_.F ht⟩) hS_.2.2 dX1_miss_33
  · skip
    have b_7 := cif_b0 h_7 c_10
    refine lv_aload_n hx hb_ dX1_miss_13 rfl (lv_at hl 0 rfl) ?_
    refine lv_iconst (v := 1) hx hb_ dX1_miss_14 (by decide) ?_
    have hFc := wfree hD hS_ hA
    refine va_calli (va_runV (As := [.int 1]) (rest := []) ⟨hx, hb_, hml, hown, hts⟩ (c_X1_fails l D cI y_ b_ S 0 H.size 1) (cwV 1 hts gX1_miss_X1_fails rfl rfl rfl (by decide +kernel) ⟨Nat.le_of_ble_eq_true rfl, Nat.le_of_ble_eq_true rfl⟩) (pW_V (ci := 1) hP hK_ hD rfl rfl) rfl rfl hl.1 rfl (lv_room (Nat.le_of_ble_eq_true rfl)) dX1_miss_15 ⟨Nat.zero_le _, Nat.zero_le _⟩) hS_ (fun q_ _ h_ => hFc q_ h_) hFc (fun r_15 u_15 t9 H1 locs ht9 hvm9 h_15 hB9 hz9 hk9 hS_ => ?_)
    obtain ⟨e_15, h_15⟩ := h_15
    subst e_15
    subst h_15
    have hP : va_P D vwCl (wM cI y_ b_ S 1) H1 := atW_P hB9 ht9
    have hD : va_D A (wM cI y_ b_ S 1) := atW_D hB9 hFc
    generalize H1 = H at hP hS_ ⊢
    exact W.iret (v := 0) hx hb_ hr (fun t_ ht hW => ⟨⟨_, (S, 1), rfl, cif_f b_7, by rw [ht]; exact hP, hD⟩, hS_.F ht⟩) hS_.2.2 dX1_miss_18
set_option maxHeartbeats 4000000 in
set_option maxRecDepth 100000 in
theorem c_X1_addCue (l : Launch) (D : va_G) (cI : ClassId) (y_ : Nat) (b_ : Nat → Nat) (S : ST) (tq : Int32) (sz : Nat) (k_ : Int32) (p_ : Int32) (o_ : Int32) (w_ : Int32) (B : Nat) (hI_ : Inv B S) : Met l yX1_addCue wsX1_addCue rmX1_addCue (va_Pc [.ref y_, .int k_, .int p_, .int o_, .int w_] (pW D (tyM cI) (wM cI y_ b_ S tq) sz)) (va_Qi (fun (r_ : Int32) (u_ : ST × Int32) => k_addCue S k_ p_ o_ w_ = (u_.2, r_, u_.1)) (fun (u_ : ST × Int32) t_ => atW D (wM cI y_ b_ u_.1 u_.2) (va_A (wM cI y_ b_ S tq) sz) t_) (va_A (wM cI y_ b_ S tq) sz)) 0 0 (va_A (wM cI y_ b_ S tq) sz) := by
  refine Met.ofW (cc := cX1_addCue) (maxL := 6) (ret := (some .int)) (by decide) rfl ?_
  intro pr env s_ mid args below meth cod s₁ Bd hml hv
  obtain ⟨rfl, hsz, hP, hK_, hD0⟩ := hv
  have hx := Bd.exec
  have hb_ := Bd.bytes
  have hr := Bd.returns
  have hts := atoms_spec (ws := wsX1_addCue) Bd.pre
  have hown : s_.vm.findClass RX1 = some mid.cls := findClass_of_methodNamed Bd.named
  have hlocks := Bd.notSynchronized
  have hin : ∀ w_ ∈ wsX10, w_ ∈ wsX1_addCue := fun _ h_ => List.mem_cons_of_mem _ (List.mem_append_right _ h_)
  subst hsz
  have hD := hD0.self (sz := s_.heap.size)
  generalize hAe : va_A (wM cI y_ b_ S tq) s_.heap.size = A at hD ⊢
  have hA : ∀ q_ : Nat, s_.heap.size ≤ q_ → A q_ := fun q_ h_ => by rw [← hAe]; exact Or.inr h_
  have hS_ : va_S A s_.heap s_.heap [] := va_S.rf
  have hP : va_P D vwCl (wM cI y_ b_ S tq) s_.heap := hP
  have hD : va_D A (wM cI y_ b_ S tq) := hD
  have hl := lv_entry ([.ref y_, .int k_, .int p_, .int o_, .int w_]) (n := 6) (Nat.le_of_ble_eq_true rfl)
  rw [lg_entry_eq]
  generalize (lg_sl ([.ref y_, .int k_, .int p_, .int o_, .int w_]) ++ List.replicate (6 - (lg_sl ([.ref y_, .int k_, .int p_, .int o_, .int w_])).length) Slot.unset).toArray = ls at hl ⊢
  have hl : lv_has ls 6 [(0, .ref y_), (1, .int k_), (2, .int p_), (3, .int o_), (4, .int w_)] := hl
  refine lv_aload_n hx hb_ dX1_addCue_0 rfl (lv_at hl 0 rfl) ?_
  refine lv_iconst (v := 0) hx hb_ dX1_addCue_1 (by decide) ?_
  have hf53 := hts (.fieldLink RX1 53 "ClockmaskModel" "thrown" "I") (by decide +kernel)
  refine va_put (D := D) (ci := 1) (v := .int 0) (ty := .int) (C := RX1) (T := TX1) (N := 18) hx hb_ hts hin tyX1 tyX1_ok nmX1 hown hK_ hP hD hS_ 0 rfl rfl 17 (by decide) hf53 (fun _ h9 => h9) rfl (by decide +kernel) rfl rfl (Nat.le_of_ble_eq_true rfl) dX1_addCue_2 (fun H locs hP hD hS_ => ?_)
  have hP : va_P D vwCl (wM cI y_ b_ S 0) H := hP
  have hD : va_D A (wM cI y_ b_ S 0) := hD
  refine lv_iload_n hx hb_ dX1_addCue_5 rfl (lv_at hl 1 rfl) ?_
  refine lv_iconst (v := 0) hx hb_ dX1_addCue_6 (by decide) ?_
  refine lv_iconst (v := 4) hx hb_ dX1_addCue_7 (by decide) ?_
  refine vp_callSi (W.runS (As := [.int k_, .int 0, .int 4]) (rest := []) ⟨hx, hb_, hml, hown, hts⟩ (c_X1_in l k_ 0 4) (va_cwS 3 hts gX1_addCue_X1_in rfl rfl rfl (by decide +kernel) ⟨Nat.le_of_ble_eq_true rfl, Nat.le_of_ble_eq_true rfl⟩) (pN_S) rfl rfl hl.1 rfl (lv_room (Nat.le_of_ble_eq_true rfl)) dX1_addCue_8 ⟨Nat.zero_le _, Nat.zero_le _⟩) (fun r_8 h_8 => ?_)
  refine lv_if_ne (tgt := 20) hx hb_ dX1_addCue_11 (by decide) (fun c_11 => ?_) (fun c_11 => ?_)
  · skip
    have b_8 := cif_b1 h_8 c_11
    refine lv_iload_n hx hb_ dX1_addCue_20 rfl (lv_at hl 1 rfl) ?_
    refine lv_iconst (v := 2) hx hb_ dX1_addCue_21 (by decide) ?_
    refine lv_icmp_eq (tgt := 30) hx hb_ dX1_addCue_22 (by decide) (fun c_22 => ?_) (fun c_22 => ?_)
    · skip
      refine lv_iconst (v := 1) hx hb_ dX1_addCue_30 (by decide) ?_
      refine lv_goto (tgt := 35) hx hb_ dX1_addCue_31 (by decide) ?_
      refine lv_istore (lv' := [(5, .int 1), (0, .ref y_), (1, .int k_), (2, .int p_), (3, .int o_), (4, .int w_)]) hx hb_ dX1_addCue_35 hl (by decide) rfl (fun ls hl => ?_)
      refine lv_iload_n hx hb_ dX1_addCue_37 rfl (lv_at hl 3 rfl) ?_
      refine vp_callSi (W.runS (As := [.int p_]) (rest := []) ⟨hx, hb_, hml, hown, hts⟩ (c_X1_isPlayer l p_) (va_cwS 1 hts gX1_addCue_X1_isPlayer rfl rfl rfl (by decide +kernel) ⟨Nat.le_of_ble_eq_true rfl, Nat.le_of_ble_eq_true rfl⟩) (pN_S) rfl rfl hl.1 rfl (lv_room (Nat.le_of_ble_eq_true rfl)) dX1_addCue_38 ⟨Nat.zero_le _, Nat.zero_le _⟩) (fun r_38 h_38 => ?_)
      refine lv_if_eq (tgt := 71) hx hb_ dX1_addCue_41 (by decide) (fun c_41 => ?_) (fun c_41 => ?_)
      · skip
        have b_38 := cif_b0 h_38 c_41
        refine lv_aload_n hx hb_ dX1_addCue_71 rfl (lv_at hl 1 rfl) ?_
        refine lv_iconst (v := 2) hx hb_ dX1_addCue_72 (by decide) ?_
        have hFc := wfree hD hS_ hA
        refine va_calli (va_runV (As := [.int 2]) (rest := []) ⟨hx, hb_, hml, hown, hts⟩ (c_X1_fails l D cI y_ b_ S 0 H.size 2) (cwV 1 hts gX1_addCue_X1_fails rfl rfl rfl (by decide +kernel) ⟨Nat.le_of_ble_eq_true rfl, Nat.le_of_ble_eq_true rfl⟩) (pW_V (ci := 1) hP hK_ hD rfl rfl) rfl rfl hl.1 rfl (lv_room (Nat.le_of_ble_eq_true rfl)) dX1_addCue_73 ⟨Nat.zero_le _, Nat.zero_le _⟩) hS_ (fun q_ _ h_ => hFc q_ h_) hFc (fun r_73 u_73 t9 H1 locs ht9 hvm9 h_73 hB9 hz9 hk9 hS_ => ?_)
        obtain ⟨e_73, h_73⟩ := h_73
        subst e_73
        subst h_73
        have hP : va_P D vwCl (wM cI y_ b_ S 2) H1 := atW_P hB9 ht9
        have hD : va_D A (wM cI y_ b_ S 2) := atW_D hB9 hFc
        generalize H1 = H at hP hS_ ⊢
        exact W.iret (v := 0) hx hb_ hr (fun t_ ht hW => ⟨⟨_, (S, 2), rfl, (cif_t ⟨b_8.1, Int32.not_lt.mp b_8.2⟩).trans (cif_f (fun h_ => b_38 h_.1)), by rw [ht]; exact hP, hD⟩, hS_.F ht⟩) hS_.2.2 dX1_addCue_76
      · skip
        have b_38 := cif_b1 h_38 c_41
        refine lv_iload hx hb_ dX1_addCue_44 (lv_at hl 0 rfl) ?_
        refine lv_if_eq (tgt := 56) hx hb_ dX1_addCue_46 (by decide) (fun c_46 => ?_) (fun c_46 => ?_)
        · skip
          exact absurd c_46 (by decide)
        · skip
          refine lv_iload_n hx hb_ dX1_addCue_49 rfl (lv_at hl 4 rfl) ?_
          refine vp_callSi (W.runS (As := [.int o_]) (rest := []) ⟨hx, hb_, hml, hown, hts⟩ (c_X1_isPlayer l o_) (va_cwS 1 hts gX1_addCue_X1_isPlayer rfl rfl rfl (by decide +kernel) ⟨Nat.le_of_ble_eq_true rfl, Nat.le_of_ble_eq_true rfl⟩) (pN_S) rfl rfl hl.1 rfl (lv_room (Nat.le_of_ble_eq_true rfl)) dX1_addCue_50 ⟨Nat.zero_le _, Nat.zero_le _⟩) (fun r_50 h_50 => ?_)
          refine lv_if_eq (tgt := 71) hx hb_ dX1_addCue_53 (by decide) (fun c_53 => ?_) (fun c_53 => ?_)
          · skip
            have b_50 := cif_b0 h_50 c_53
            refine lv_aload_n hx hb_ dX1_addCue_71 rfl (lv_at hl 1 rfl) ?_
            refine lv_iconst (v := 2) hx hb_ dX1_addCue_72 (by decide) ?_
            have hFc := wfree hD hS_ hA
            refine va_calli (va_runV (As := [.int 2]) (rest := []) ⟨hx, hb_, hml, hown, hts⟩ (c_X1_fails l D cI y_ b_ S 0 H.size 2) (cwV 1 hts gX1_addCue_X1_fails rfl rfl rfl (by decide +kernel) ⟨Nat.le_of_ble_eq_true rfl, Nat.le_of_ble_eq_true rfl⟩) (pW_V (ci := 1) hP hK_ hD rfl rfl) rfl rfl hl.1 rfl (lv_room (Nat.le_of_ble_eq_true rfl)) dX1_addCue_73 ⟨Nat.zero_le _, Nat.zero_le _⟩) hS_ (fun q_ _ h_ => hFc q_ h_) hFc (fun r_73 u_73 t9 H1 locs ht9 hvm9 h_73 hB9 hz9 hk9 hS_ => ?_)
            obtain ⟨e_73, h_73⟩ := h_73
            subst e_73
            subst h_73
            have hP : va_P D vwCl (wM cI y_ b_ S 2) H1 := atW_P hB9 ht9
            have hD : va_D A (wM cI y_ b_ S 2) := atW_D hB9 hFc
            generalize H1 = H at hP hS_ ⊢
            exact W.iret (v := 0) hx hb_ hr (fun t_ ht hW => ⟨⟨_, (S, 2), rfl, (cif_t ⟨b_8.1, Int32.not_lt.mp b_8.2⟩).trans (cif_f (fun h_ => b_50 (h_.2.1 (Or.inl c_22)))), by rw [ht]; exact hP, hD⟩, hS_.F ht⟩) hS_.2.2 dX1_addCue_76
          · skip
            have b_50 := cif_b1 h_50 c_53
            have ho : k_ = 2 ∨ k_ = 4 → vp_in o_ 6 := fun _ => b_50
            refine lv_iload hx hb_ dX1_addCue_56 (lv_at hl 5 rfl) ?_
            refine lv_iconst (v := (-1)) hx hb_ dX1_addCue_58 (by decide) ?_
            refine lv_aload_n hx hb_ dX1_addCue_59 rfl (lv_at hl 1 rfl) ?_
            have hf60 := hts (.fieldLink RX1 60 "ClockmaskModel" "many" "I") (by decide +kernel)
            refine va_get (D := D) (ci := 1) (v := .int (S 10 0)) (C := RX1) (T := TX1) (N := 18) hx hb_ hts hin hown hK_ hP 0 rfl rfl 10 (by decide) hf60 (fun _ h9 => h9) rfl dX1_addCue_60 ?_
            refine lv_iconst (v := 1) hx hb_ dX1_addCue_63 (by decide) ?_
            refine lv_isub hx hb_ dX1_addCue_64 ?_
            refine vp_callSi (W.runS (As := [.int w_, .int (-1), .int ((S 10 0) - 1)]) (rest := []) ⟨hx, hb_, hml, hown, hts⟩ (c_X1_in l w_ (-1) ((S 10 0) - 1)) (va_cwS 3 hts gX1_addCue_X1_in rfl rfl rfl (by decide +kernel) ⟨Nat.le_of_ble_eq_true rfl, Nat.le_of_ble_eq_true rfl⟩) (pN_S) rfl rfl hl.1 rfl (lv_room (Nat.le_of_ble_eq_true rfl)) dX1_addCue_65 ⟨Nat.zero_le _, Nat.zero_le _⟩) (fun r_65 h_65 => ?_)
            refine lv_if_ne (tgt := 77) hx hb_ dX1_addCue_68 (by decide) (fun c_68 => ?_) (fun c_68 => ?_)
            · skip
              have b_65 := cif_b1 h_65 c_68
              have hw : w_ = -1 ∨ vp_in w_ (many S) := (inW_iff hI_.me hI_.m24).mp b_65
              refine lv_aload_n hx hb_ dX1_addCue_77 rfl (lv_at hl 1 rfl) ?_
              refine va_get (D := D) (ci := 1) (v := .int (S 10 0)) (C := RX1) (T := TX1) (N := 18) hx hb_ hts hin hown hK_ hP 0 rfl rfl 10 (by decide) hf60 (fun _ h9 => h9) rfl dX1_addCue_78 ?_
              refine lv_bipush (v := 24) hx hb_ dX1_addCue_81 (by decide) ?_
              refine lv_icmp_eq (tgt := 113) hx hb_ dX1_addCue_83 (by decide) (fun c_83 => ?_) (fun c_83 => ?_)
              · skip
                refine lv_aload_n hx hb_ dX1_addCue_113 rfl (lv_at hl 1 rfl) ?_
                refine lv_iconst (v := 3) hx hb_ dX1_addCue_114 (by decide) ?_
                have hFc := wfree hD hS_ hA
                refine va_calli (va_runV (As := [.int 3]) (rest := []) ⟨hx, hb_, hml, hown, hts⟩ (c_X1_fails l D cI y_ b_ S 0 H.size 3) (cwV 1 hts gX1_addCue_X1_fails rfl rfl rfl (by decide +kernel) ⟨Nat.le_of_ble_eq_true rfl, Nat.le_of_ble_eq_true rfl⟩) (pW_V (ci := 1) hP hK_ hD rfl rfl) rfl rfl hl.1 rfl (lv_room (Nat.le_of_ble_eq_true rfl)) dX1_addCue_115 ⟨Nat.zero_le _, Nat.zero_le _⟩) hS_ (fun q_ _ h_ => hFc q_ h_) hFc (fun r_115 u_115 t9 H1 locs ht9 hvm9 h_115 hB9 hz9 hk9 hS_ => ?_)
                obtain ⟨e_115, h_115⟩ := h_115
                subst e_115
                subst h_115
                have hP : va_P D vwCl (wM cI y_ b_ S 3) H1 := atW_P hB9 ht9
                have hD : va_D A (wM cI y_ b_ S 3) := atW_D hB9 hFc
                generalize H1 = H at hP hS_ ⊢
                exact W.iret (v := 0) hx hb_ hr (fun t_ ht hW => ⟨⟨_, (S, 3), rfl, (cif_t ⟨b_8.1, Int32.not_lt.mp b_8.2⟩).trans ((cif_t ⟨b_38, ho, hw⟩).trans (cif_f (fun h_ => absurd h_.1 (by rw [c_83]; decide)))), by rw [ht]; exact hP, hD⟩, hS_.F ht⟩) hS_.2.2 dX1_addCue_118
              · skip
                have h24 : S 10 0 < 24 := hI_.ne24 c_83
                have hc24 := hI_.lt24 h24
                refine lv_iload_n hx hb_ dX1_addCue_86 rfl (lv_at hl 2 rfl) ?_
                refine lv_iconst (v := 4) hx hb_ dX1_addCue_87 (by decide) ?_
                refine lv_icmp_ne (tgt := 96) hx hb_ dX1_addCue_88 (by decide) (fun c_88 => ?_) (fun c_88 => ?_)
                · skip
                  have hn : ¬ (k_ = 4 ∧ p_ = o_) := fun z_ => c_88 z_.1
                  refine lv_iload hx hb_ dX1_addCue_96 (lv_at hl 5 rfl) ?_
                  refine lv_iconst (v := (-1)) hx hb_ dX1_addCue_98 (by decide) ?_
                  refine lv_icmp_eq (tgt := 119) hx hb_ dX1_addCue_99 (by decide) (fun c_99 => ?_) (fun c_99 => ?_)
                  · skip
                    have hw3 : w_ = -1 ∨ S 8 w_.toNatClampNeg ≠ 2 := Or.inl c_99
                    refine lv_aload_n hx hb_ dX1_addCue_119 rfl (lv_at hl 1 rfl) ?_
                    have hf22 := hts (.fieldLink RX1 22 "ClockmaskModel" "kinds" "[I") (by decide +kernel)
                    refine va_get (D := D) (ci := 1) (v := .ref (b_ 4)) (C := RX1) (T := TX1) (N := 18) hx hb_ hts hin hown hK_ hP 0 rfl rfl 4 (by decide) hf22 (fun _ h9 => h9) rfl dX1_addCue_120 ?_
                    refine lv_aload_n hx hb_ dX1_addCue_123 rfl (lv_at hl 1 rfl) ?_
                    refine va_get (D := D) (ci := 1) (v := .int (S 10 0)) (C := RX1) (T := TX1) (N := 18) hx hb_ hts hin hown hK_ hP 0 rfl rfl 10 (by decide) hf60 (fun _ h9 => h9) rfl dX1_addCue_124 ?_
                    refine lv_iload_n hx hb_ dX1_addCue_127 rfl (lv_at hl 2 rfl) ?_
                    refine va_iast (f := S 4) (n := 24) hx hb_ hK_ hP hD hS_ 5 0 rfl rfl (by assumption) dX1_addCue_128 (fun H locs hP hD hS_ => ?_)
                    have hP : va_P D vwCl (wMr cI y_ b_ (S 0) (S 1) (S 2) (S 3) (upd (S 4) (S 10 0).toNatClampNeg k_) (S 5) (S 6) (S 7) (S 8) (S 9) (S 10 0) (S 11 0) (S 12) (S 13) (S 14 0) (S 15 0) (S 16) 0) H := hP
                    have hD : va_D A (wMr cI y_ b_ (S 0) (S 1) (S 2) (S 3) (upd (S 4) (S 10 0).toNatClampNeg k_) (S 5) (S 6) (S 7) (S 8) (S 9) (S 10 0) (S 11 0) (S 12) (S 13) (S 14 0) (S 15 0) (S 16) 0) := hD
                    refine lv_aload_n hx hb_ dX1_addCue_129 rfl (lv_at hl 1 rfl) ?_
                    have hf25 := hts (.fieldLink RX1 25 "ClockmaskModel" "players" "[I") (by decide +kernel)
                    refine va_get (D := D) (ci := 1) (v := .ref (b_ 5)) (C := RX1) (T := TX1) (N := 18) hx hb_ hts hin hown hK_ hP 0 rfl rfl 5 (by decide) hf25 (fun _ h9 => h9) rfl dX1_addCue_130 ?_
                    refine lv_aload_n hx hb_ dX1_addCue_133 rfl (lv_at hl 1 rfl) ?_
                    refine va_get (D := D) (ci := 1) (v := .int (S 10 0)) (C := RX1) (T := TX1) (N := 18) hx hb_ hts hin hown hK_ hP 0 rfl rfl 10 (by decide) hf60 (fun _ h9 => h9) rfl dX1_addCue_134 ?_
                    refine lv_iload_n hx hb_ dX1_addCue_137 rfl (lv_at hl 3 rfl) ?_
                    refine va_iast (f := S 5) (n := 24) hx hb_ hK_ hP hD hS_ 6 0 rfl rfl (by assumption) dX1_addCue_138 (fun H locs hP hD hS_ => ?_)
                    have hP : va_P D vwCl (wMr cI y_ b_ (S 0) (S 1) (S 2) (S 3) (upd (S 4) (S 10 0).toNatClampNeg k_) (upd (S 5) (S 10 0).toNatClampNeg p_) (S 6) (S 7) (S 8) (S 9) (S 10 0) (S 11 0) (S 12) (S 13) (S 14 0) (S 15 0) (S 16) 0) H := hP
                    have hD : va_D A (wMr cI y_ b_ (S 0) (S 1) (S 2) (S 3) (upd (S 4) (S 10 0).toNatClampNeg k_) (upd (S 5) (S 10 0).toNatClampNeg p_) (S 6) (S 7) (S 8) (S 9) (S 10 0) (S 11 0) (S 12) (S 13) (S 14 0) (S 15 0) (S 16) 0) := hD
                    refine lv_aload_n hx hb_ dX1_addCue_139 rfl (lv_at hl 1 rfl) ?_
                    have hf28 := hts (.fieldLink RX1 28 "ClockmaskModel" "others" "[I") (by decide +kernel)
                    refine va_get (D := D) (ci := 1) (v := .ref (b_ 6)) (C := RX1) (T := TX1) (N := 18) hx hb_ hts hin hown hK_ hP 0 rfl rfl 6 (by decide) hf28 (fun _ h9 => h9) rfl dX1_addCue_140 ?_
                    refine lv_aload_n hx hb_ dX1_addCue_143 rfl (lv_at hl 1 rfl) ?_
                    refine va_get (D := D) (ci := 1) (v := .int (S 10 0)) (C := RX1) (T := TX1) (N := 18) hx hb_ hts hin hown hK_ hP 0 rfl rfl 10 (by decide) hf60 (fun _ h9 => h9) rfl dX1_addCue_144 ?_
                    refine lv_iload_n hx hb_ dX1_addCue_147 rfl (lv_at hl 4 rfl) ?_
                    refine va_iast (f := S 6) (n := 24) hx hb_ hK_ hP hD hS_ 7 0 rfl rfl (by assumption) dX1_addCue_148 (fun H locs hP hD hS_ => ?_)
                    have hP : va_P D vwCl (wMr cI y_ b_ (S 0) (S 1) (S 2) (S 3) (upd (S 4) (S 10 0).toNatClampNeg k_) (upd (S 5) (S 10 0).toNatClampNeg p_) (upd (S 6) (S 10 0).toNatClampNeg o_) (S 7) (S 8) (S 9) (S 10 0) (S 11 0) (S 12) (S 13) (S 14 0) (S 15 0) (S 16) 0) H := hP
                    have hD : va_D A (wMr cI y_ b_ (S 0) (S 1) (S 2) (S 3) (upd (S 4) (S 10 0).toNatClampNeg k_) (upd (S 5) (S 10 0).toNatClampNeg p_) (upd (S 6) (S 10 0).toNatClampNeg o_) (S 7) (S 8) (S 9) (S 10 0) (S 11 0) (S 12) (S 13) (S 14 0) (S 15 0) (S 16) 0) := hD
                    refine lv_aload_n hx hb_ dX1_addCue_149 rfl (lv_at hl 1 rfl) ?_
                    have hf31 := hts (.fieldLink RX1 31 "ClockmaskModel" "waitsFor" "[I") (by decide +kernel)
                    refine va_get (D := D) (ci := 1) (v := .ref (b_ 7)) (C := RX1) (T := TX1) (N := 18) hx hb_ hts hin hown hK_ hP 0 rfl rfl 7 (by decide) hf31 (fun _ h9 => h9) rfl dX1_addCue_150 ?_
                    refine lv_aload_n hx hb_ dX1_addCue_153 rfl (lv_at hl 1 rfl) ?_
                    refine va_get (D := D) (ci := 1) (v := .int (S 10 0)) (C := RX1) (T := TX1) (N := 18) hx hb_ hts hin hown hK_ hP 0 rfl rfl 10 (by decide) hf60 (fun _ h9 => h9) rfl dX1_addCue_154 ?_
                    refine lv_iload hx hb_ dX1_addCue_157 (lv_at hl 5 rfl) ?_
                    refine va_iast (f := S 7) (n := 24) hx hb_ hK_ hP hD hS_ 8 0 rfl rfl (by assumption) dX1_addCue_159 (fun H locs hP hD hS_ => ?_)
                    have hP : va_P D vwCl (wMr cI y_ b_ (S 0) (S 1) (S 2) (S 3) (upd (S 4) (S 10 0).toNatClampNeg k_) (upd (S 5) (S 10 0).toNatClampNeg p_) (upd (S 6) (S 10 0).toNatClampNeg o_) (upd (S 7) (S 10 0).toNatClampNeg w_) (S 8) (S 9) (S 10 0) (S 11 0) (S 12) (S 13) (S 14 0) (S 15 0) (S 16) 0) H := hP
                    have hD : va_D A (wMr cI y_ b_ (S 0) (S 1) (S 2) (S 3) (upd (S 4) (S 10 0).toNatClampNeg k_) (upd (S 5) (S 10 0).toNatClampNeg p_) (upd (S 6) (S 10 0).toNatClampNeg o_) (upd (S 7) (S 10 0).toNatClampNeg w_) (S 8) (S 9) (S 10 0) (S 11 0) (S 12) (S 13) (S 14 0) (S 15 0) (S 16) 0) := hD
                    refine lv_aload_n hx hb_ dX1_addCue_160 rfl (lv_at hl 1 rfl) ?_
                    have hf34 := hts (.fieldLink RX1 34 "ClockmaskModel" "states" "[I") (by decide +kernel)
                    refine va_get (D := D) (ci := 1) (v := .ref (b_ 8)) (C := RX1) (T := TX1) (N := 18) hx hb_ hts hin hown hK_ hP 0 rfl rfl 8 (by decide) hf34 (fun _ h9 => h9) rfl dX1_addCue_161 ?_
                    refine lv_aload_n hx hb_ dX1_addCue_164 rfl (lv_at hl 1 rfl) ?_
                    refine va_get (D := D) (ci := 1) (v := .int (S 10 0)) (C := RX1) (T := TX1) (N := 18) hx hb_ hts hin hown hK_ hP 0 rfl rfl 10 (by decide) hf60 (fun _ h9 => h9) rfl dX1_addCue_165 ?_
                    refine lv_iconst (v := 0) hx hb_ dX1_addCue_168 (by decide) ?_
                    refine va_iast (f := S 8) (n := 24) hx hb_ hK_ hP hD hS_ 9 0 rfl rfl (by assumption) dX1_addCue_169 (fun H locs hP hD hS_ => ?_)
                    have hP : va_P D vwCl (wMr cI y_ b_ (S 0) (S 1) (S 2) (S 3) (upd (S 4) (S 10 0).toNatClampNeg k_) (upd (S 5) (S 10 0).toNatClampNeg p_) (upd (S 6) (S 10 0).toNatClampNeg o_) (upd (S 7) (S 10 0).toNatClampNeg w_) (upd (S 8) (S 10 0).toNatClampNeg 0) (S 9) (S 10 0) (S 11 0) (S 12) (S 13) (S 14 0) (S 15 0) (S 16) 0) H := hP
                    have hD : va_D A (wMr cI y_ b_ (S 0) (S 1) (S 2) (S 3) (upd (S 4) (S 10 0).toNatClampNeg k_) (upd (S 5) (S 10 0).toNatClampNeg p_) (upd (S 6) (S 10 0).toNatClampNeg o_) (upd (S 7) (S 10 0).toNatClampNeg w_) (upd (S 8) (S 10 0).toNatClampNeg 0) (S 9) (S 10 0) (S 11 0) (S 12) (S 13) (S 14 0) (S 15 0) (S 16) 0) := hD
                    refine lv_aload_n hx hb_ dX1_addCue_170 rfl (lv_at hl 1 rfl) ?_
                    refine lv_dup hx hb_ dX1_addCue_171 rfl ?_
                    refine va_get (D := D) (ci := 1) (v := .int (S 10 0)) (C := RX1) (T := TX1) (N := 18) hx hb_ hts hin hown hK_ hP 0 rfl rfl 10 (by decide) hf60 (fun _ h9 => h9) rfl dX1_addCue_172 ?_
                    refine lv_iconst (v := 1) hx hb_ dX1_addCue_175 (by decide) ?_
                    refine lv_iadd hx hb_ dX1_addCue_176 ?_
                    refine va_put (D := D) (ci := 1) (v := .int ((S 10 0) + 1)) (ty := .int) (C := RX1) (T := TX1) (N := 18) hx hb_ hts hin tyX1 tyX1_ok nmX1 hown hK_ hP hD hS_ 0 rfl rfl 10 (by decide) hf60 (fun _ h9 => h9) rfl (by decide +kernel) rfl rfl (Nat.le_of_ble_eq_true rfl) dX1_addCue_177 (fun H locs hP hD hS_ => ?_)
                    have hP : va_P D vwCl (wMr cI y_ b_ (S 0) (S 1) (S 2) (S 3) (upd (S 4) (S 10 0).toNatClampNeg k_) (upd (S 5) (S 10 0).toNatClampNeg p_) (upd (S 6) (S 10 0).toNatClampNeg o_) (upd (S 7) (S 10 0).toNatClampNeg w_) (upd (S 8) (S 10 0).toNatClampNeg 0) (S 9) ((S 10 0) + 1) (S 11 0) (S 12) (S 13) (S 14 0) (S 15 0) (S 16) 0) H := hP
                    have hD : va_D A (wMr cI y_ b_ (S 0) (S 1) (S 2) (S 3) (upd (S 4) (S 10 0).toNatClampNeg k_) (upd (S 5) (S 10 0).toNatClampNeg p_) (upd (S 6) (S 10 0).toNatClampNeg o_) (upd (S 7) (S 10 0).toNatClampNeg w_) (upd (S 8) (S 10 0).toNatClampNeg 0) (S 9) ((S 10 0) + 1) (S 11 0) (S 12) (S 13) (S 14 0) (S 15 0) (S 16) 0) := hD
                    refine lv_aload_n hx hb_ dX1_addCue_180 rfl (lv_at hl 1 rfl) ?_
                    refine va_get (D := D) (ci := 1) (v := .int ((S 10 0) + 1)) (C := RX1) (T := TX1) (N := 18) hx hb_ hts hin hown hK_ hP 0 rfl rfl 10 (by decide) hf60 (fun _ h9 => h9) rfl dX1_addCue_181 ?_
                    refine lv_iconst (v := 1) hx hb_ dX1_addCue_184 (by decide) ?_
                    refine lv_isub hx hb_ dX1_addCue_185 ?_
                    exact W.iret (v := ((S 10 0) + 1) - 1) hx hb_ hr (fun t_ ht hW => ⟨⟨_, (row (row (row (row (row (row S 4 (upd (S 4) (S 10 0).toNatClampNeg k_)) 5 (upd (S 5) (S 10 0).toNatClampNeg p_)) 6 (upd (S 6) (S 10 0).toNatClampNeg o_)) 7 (upd (S 7) (S 10 0).toNatClampNeg w_)) 8 (upd (S 8) (S 10 0).toNatClampNeg 0)) 10 (kf ((S 10 0) + 1)), 0), rfl, by rw [Int32.add_sub_cancel]; exact (cif_t ⟨b_8.1, Int32.not_lt.mp b_8.2⟩).trans ((cif_t ⟨b_38, ho, hw⟩).trans (cif_t ⟨h24, hn, hw3⟩)), by rw [ht]; exact hP, hD⟩, hS_.F ht⟩) hS_.2.2 dX1_addCue_186
                  · skip
                    refine lv_aload_n hx hb_ dX1_addCue_102 rfl (lv_at hl 1 rfl) ?_
                    have hf34 := hts (.fieldLink RX1 34 "ClockmaskModel" "states" "[I") (by decide +kernel)
                    refine va_get (D := D) (ci := 1) (v := .ref (b_ 8)) (C := RX1) (T := TX1) (N := 18) hx hb_ hts hin hown hK_ hP 0 rfl rfl 8 (by decide) hf34 (fun _ h9 => h9) rfl dX1_addCue_103 ?_
                    refine lv_iload hx hb_ dX1_addCue_106 (lv_at hl 5 rfl) ?_
                    refine va_iald (f := S 8) (n := 24) hx hb_ hK_ hP 9 0 rfl rfl (hI_.q24 (hw.resolve_left c_99)) dX1_addCue_108 ?_
                    refine lv_iconst (v := 2) hx hb_ dX1_addCue_109 (by decide) ?_
                    refine lv_icmp_ne (tgt := 119) hx hb_ dX1_addCue_110 (by decide) (fun c_110 => ?_) (fun c_110 => ?_)
                    · skip
                      have hw3 : w_ = -1 ∨ S 8 w_.toNatClampNeg ≠ 2 := Or.inr c_110
                      refine lv_aload_n hx hb_ dX1_addCue_119 rfl (lv_at hl 1 rfl) ?_
                      have hf22 := hts (.fieldLink RX1 22 "ClockmaskModel" "kinds" "[I") (by decide +kernel)
                      refine va_get (D := D) (ci := 1) (v := .ref (b_ 4)) (C := RX1) (T := TX1) (N := 18) hx hb_ hts hin hown hK_ hP 0 rfl rfl 4 (by decide) hf22 (fun _ h9 => h9) rfl dX1_addCue_120 ?_
                      refine lv_aload_n hx hb_ dX1_addCue_123 rfl (lv_at hl 1 rfl) ?_
                      refine va_get (D := D) (ci := 1) (v := .int (S 10 0)) (C := RX1) (T := TX1) (N := 18) hx hb_ hts hin hown hK_ hP 0 rfl rfl 10 (by decide) hf60 (fun _ h9 => h9) rfl dX1_addCue_124 ?_
                      refine lv_iload_n hx hb_ dX1_addCue_127 rfl (lv_at hl 2 rfl) ?_
                      refine va_iast (f := S 4) (n := 24) hx hb_ hK_ hP hD hS_ 5 0 rfl rfl (by assumption) dX1_addCue_128 (fun H locs hP hD hS_ => ?_)
                      have hP : va_P D vwCl (wMr cI y_ b_ (S 0) (S 1) (S 2) (S 3) (upd (S 4) (S 10 0).toNatClampNeg k_) (S 5) (S 6) (S 7) (S 8) (S 9) (S 10 0) (S 11 0) (S 12) (S 13) (S 14 0) (S 15 0) (S 16) 0) H := hP
                      have hD : va_D A (wMr cI y_ b_ (S 0) (S 1) (S 2) (S 3) (upd (S 4) (S 10 0).toNatClampNeg k_) (S 5) (S 6) (S 7) (S 8) (S 9) (S 10 0) (S 11 0) (S 12) (S 13) (S 14 0) (S 15 0) (S 16) 0) := hD
                      refine lv_aload_n hx hb_ dX1_addCue_129 rfl (lv_at hl 1 rfl) ?_
                      have hf25 := hts (.fieldLink RX1 25 "ClockmaskModel" "players" "[I") (by decide +kernel)
                      refine va_get (D := D) (ci := 1) (v := .ref (b_ 5)) (C := RX1) (T := TX1) (N := 18) hx hb_ hts hin hown hK_ hP 0 rfl rfl 5 (by decide) hf25 (fun _ h9 => h9) rfl dX1_addCue_130 ?_
                      refine lv_aload_n hx hb_ dX1_addCue_133 rfl (lv_at hl 1 rfl) ?_
                      refine va_get (D := D) (ci := 1) (v := .int (S 10 0)) (C := RX1) (T := TX1) (N := 18) hx hb_ hts hin hown hK_ hP 0 rfl rfl 10 (by decide) hf60 (fun _ h9 => h9) rfl dX1_addCue_134 ?_
                      refine lv_iload_n hx hb_ dX1_addCue_137 rfl (lv_at hl 3 rfl) ?_
                      refine va_iast (f := S 5) (n := 24) hx hb_ hK_ hP hD hS_ 6 0 rfl rfl (by assumption) dX1_addCue_138 (fun H locs hP hD hS_ => ?_)
                      have hP : va_P D vwCl (wMr cI y_ b_ (S 0) (S 1) (S 2) (S 3) (upd (S 4) (S 10 0).toNatClampNeg k_) (upd (S 5) (S 10 0).toNatClampNeg p_) (S 6) (S 7) (S 8) (S 9) (S 10 0) (S 11 0) (S 12) (S 13) (S 14 0) (S 15 0) (S 16) 0) H := hP
                      have hD : va_D A (wMr cI y_ b_ (S 0) (S 1) (S 2) (S 3) (upd (S 4) (S 10 0).toNatClampNeg k_) (upd (S 5) (S 10 0).toNatClampNeg p_) (S 6) (S 7) (S 8) (S 9) (S 10 0) (S 11 0) (S 12) (S 13) (S 14 0) (S 15 0) (S 16) 0) := hD
                      refine lv_aload_n hx hb_ dX1_addCue_139 rfl (lv_at hl 1 rfl) ?_
                      have hf28 := hts (.fieldLink RX1 28 "ClockmaskModel" "others" "[I") (by decide +kernel)
                      refine va_get (D := D) (ci := 1) (v := .ref (b_ 6)) (C := RX1) (T := TX1) (N := 18) hx hb_ hts hin hown hK_ hP 0 rfl rfl 6 (by decide) hf28 (fun _ h9 => h9) rfl dX1_addCue_140 ?_
                      refine lv_aload_n hx hb_ dX1_addCue_143 rfl (lv_at hl 1 rfl) ?_
                      refine va_get (D := D) (ci := 1) (v := .int (S 10 0)) (C := RX1) (T := TX1) (N := 18) hx hb_ hts hin hown hK_ hP 0 rfl rfl 10 (by decide) hf60 (fun _ h9 => h9) rfl dX1_addCue_144 ?_
                      refine lv_iload_n hx hb_ dX1_addCue_147 rfl (lv_at hl 4 rfl) ?_
                      refine va_iast (f := S 6) (n := 24) hx hb_ hK_ hP hD hS_ 7 0 rfl rfl (by assumption) dX1_addCue_148 (fun H locs hP hD hS_ => ?_)
                      have hP : va_P D vwCl (wMr cI y_ b_ (S 0) (S 1) (S 2) (S 3) (upd (S 4) (S 10 0).toNatClampNeg k_) (upd (S 5) (S 10 0).toNatClampNeg p_) (upd (S 6) (S 10 0).toNatClampNeg o_) (S 7) (S 8) (S 9) (S 10 0) (S 11 0) (S 12) (S 13) (S 14 0) (S 15 0) (S 16) 0) H := hP
                      have hD : va_D A (wMr cI y_ b_ (S 0) (S 1) (S 2) (S 3) (upd (S 4) (S 10 0).toNatClampNeg k_) (upd (S 5) (S 10 0).toNatClampNeg p_) (upd (S 6) (S 10 0).toNatClampNeg o_) (S 7) (S 8) (S 9) (S 10 0) (S 11 0) (S 12) (S 13) (S 14 0) (S 15 0) (S 16) 0) := hD
                      refine lv_aload_n hx hb_ dX1_addCue_149 rfl (lv_at hl 1 rfl) ?_
                      have hf31 := hts (.fieldLink RX1 31 "ClockmaskModel" "waitsFor" "[I") (by decide +kernel)
                      refine va_get (D := D) (ci := 1) (v := .ref (b_ 7)) (C := RX1) (T := TX1) (N := 18) hx hb_ hts hin hown hK_ hP 0 rfl rfl 7 (by decide) hf31 (fun _ h9 => h9) rfl dX1_addCue_150 ?_
                      refine lv_aload_n hx hb_ dX1_addCue_153 rfl (lv_at hl 1 rfl) ?_
                      refine va_get (D := D) (ci := 1) (v := .int (S 10 0)) (C := RX1) (T := TX1) (N := 18) hx hb_ hts hin hown hK_ hP 0 rfl rfl 10 (by decide) hf60 (fun _ h9 => h9) rfl dX1_addCue_154 ?_
                      refine lv_iload hx hb_ dX1_addCue_157 (lv_at hl 5 rfl) ?_
                      refine va_iast (f := S 7) (n := 24) hx hb_ hK_ hP hD hS_ 8 0 rfl rfl (by assumption) dX1_addCue_159 (fun H locs hP hD hS_ => ?_)
                      have hP : va_P D vwCl (wMr cI y_ b_ (S 0) (S 1) (S 2) (S 3) (upd (S 4) (S 10 0).toNatClampNeg k_) (upd (S 5) (S 10 0).toNatClampNeg p_) (upd (S 6) (S 10 0).toNatClampNeg o_) (upd (S 7) (S 10 0).toNatClampNeg w_) (S 8) (S 9) (S 10 0) (S 11 0) (S 12) (S 13) (S 14 0) (S 15 0) (S 16) 0) H := hP
                      have hD : va_D A (wMr cI y_ b_ (S 0) (S 1) (S 2) (S 3) (upd (S 4) (S 10 0).toNatClampNeg k_) (upd (S 5) (S 10 0).toNatClampNeg p_) (upd (S 6) (S 10 0).toNatClampNeg o_) (upd (S 7) (S 10 0).toNatClampNeg w_) (S 8) (S 9) (S 10 0) (S 11 0) (S 12) (S 13) (S 14 0) (S 15 0) (S 16) 0) := hD
                      refine lv_aload_n hx hb_ dX1_addCue_160 rfl (lv_at hl 1 rfl) ?_
                      refine va_get (D := D) (ci := 1) (v := .ref (b_ 8)) (C := RX1) (T := TX1) (N := 18) hx hb_ hts hin hown hK_ hP 0 rfl rfl 8 (by decide) hf34 (fun _ h9 => h9) rfl dX1_addCue_161 ?_
                      refine lv_aload_n hx hb_ dX1_addCue_164 rfl (lv_at hl 1 rfl) ?_
                      refine va_get (D := D) (ci := 1) (v := .int (S 10 0)) (C := RX1) (T := TX1) (N := 18) hx hb_ hts hin hown hK_ hP 0 rfl rfl 10 (by decide) hf60 (fun _ h9 => h9) rfl dX1_addCue_165 ?_
                      refine lv_iconst (v := 0) hx hb_ dX1_addCue_168 (by decide) ?_
                      refine va_iast (f := S 8) (n := 24) hx hb_ hK_ hP hD hS_ 9 0 rfl rfl (by assumption) dX1_addCue_169 (fun H locs hP hD hS_ => ?_)
                      have hP : va_P D vwCl (wMr cI y_ b_ (S 0) (S 1) (S 2) (S 3) (upd (S 4) (S 10 0).toNatClampNeg k_) (upd (S 5) (S 10 0).toNatClampNeg p_) (upd (S 6) (S 10 0).toNatClampNeg o_) (upd (S 7) (S 10 0).toNatClampNeg w_) (upd (S 8) (S 10 0).toNatClampNeg 0) (S 9) (S 10 0) (S 11 0) (S 12) (S 13) (S 14 0) (S 15 0) (S 16) 0) H := hP
                      have hD : va_D A (wMr cI y_ b_ (S 0) (S 1) (S 2) (S 3) (upd (S 4) (S 10 0).toNatClampNeg k_) (upd (S 5) (S 10 0).toNatClampNeg p_) (upd (S 6) (S 10 0).toNatClampNeg o_) (upd (S 7) (S 10 0).toNatClampNeg w_) (upd (S 8) (S 10 0).toNatClampNeg 0) (S 9) (S 10 0) (S 11 0) (S 12) (S 13) (S 14 0) (S 15 0) (S 16) 0) := hD
                      refine lv_aload_n hx hb_ dX1_addCue_170 rfl (lv_at hl 1 rfl) ?_
                      refine lv_dup hx hb_ dX1_addCue_171 rfl ?_
                      refine va_get (D := D) (ci := 1) (v := .int (S 10 0)) (C := RX1) (T := TX1) (N := 18) hx hb_ hts hin hown hK_ hP 0 rfl rfl 10 (by decide) hf60 (fun _ h9 => h9) rfl dX1_addCue_172 ?_
                      refine lv_iconst (v := 1) hx hb_ dX1_addCue_175 (by decide) ?_
                      refine lv_iadd hx hb_ dX1_addCue_176 ?_
                      refine va_put (D := D) (ci := 1) (v := .int ((S 10 0) + 1)) (ty := .int) (C := RX1) (T := TX1) (N := 18) hx hb_ hts hin tyX1 tyX1_ok nmX1 hown hK_ hP hD hS_ 0 rfl rfl 10 (by decide) hf60 (fun _ h9 => h9) rfl (by decide +kernel) rfl rfl (Nat.le_of_ble_eq_true rfl) dX1_addCue_177 (fun H locs hP hD hS_ => ?_)
                      have hP : va_P D vwCl (wMr cI y_ b_ (S 0) (S 1) (S 2) (S 3) (upd (S 4) (S 10 0).toNatClampNeg k_) (upd (S 5) (S 10 0).toNatClampNeg p_) (upd (S 6) (S 10 0).toNatClampNeg o_) (upd (S 7) (S 10 0).toNatClampNeg w_) (upd (S 8) (S 10 0).toNatClampNeg 0) (S 9) ((S 10 0) + 1) (S 11 0) (S 12) (S 13) (S 14 0) (S 15 0) (S 16) 0) H := hP
                      have hD : va_D A (wMr cI y_ b_ (S 0) (S 1) (S 2) (S 3) (upd (S 4) (S 10 0).toNatClampNeg k_) (upd (S 5) (S 10 0).toNatClampNeg p_) (upd (S 6) (S 10 0).toNatClampNeg o_) (upd (S 7) (S 10 0).toNatClampNeg w_) (upd (S 8) (S 10 0).toNatClampNeg 0) (S 9) ((S 10 0) + 1) (S 11 0) (S 12) (S 13) (S 14 0) (S 15 0) (S 16) 0) := hD
                      refine lv_aload_n hx hb_ dX1_addCue_180 rfl (lv_at hl 1 rfl) ?_
                      refine va_get (D := D) (ci := 1) (v := .int ((S 10 0) + 1)) (C := RX1) (T := TX1) (N := 18) hx hb_ hts hin hown hK_ hP 0 rfl rfl 10 (by decide) hf60 (fun _ h9 => h9) rfl dX1_addCue_181 ?_
                      refine lv_iconst (v := 1) hx hb_ dX1_addCue_184 (by decide) ?_
                      refine lv_isub hx hb_ dX1_addCue_185 ?_
                      exact W.iret (v := ((S 10 0) + 1) - 1) hx hb_ hr (fun t_ ht hW => ⟨⟨_, (row (row (row (row (row (row S 4 (upd (S 4) (S 10 0).toNatClampNeg k_)) 5 (upd (S 5) (S 10 0).toNatClampNeg p_)) 6 (upd (S 6) (S 10 0).toNatClampNeg o_)) 7 (upd (S 7) (S 10 0).toNatClampNeg w_)) 8 (upd (S 8) (S 10 0).toNatClampNeg 0)) 10 (kf ((S 10 0) + 1)), 0), rfl, by rw [Int32.add_sub_cancel]; exact (cif_t ⟨b_8.1, Int32.not_lt.mp b_8.2⟩).trans ((cif_t ⟨b_38, ho, hw⟩).trans (cif_t ⟨h24, hn, hw3⟩)), by rw [ht]; exact hP, hD⟩, hS_.F ht⟩) hS_.2.2 dX1_addCue_186
                    · skip
                      refine lv_aload_n hx hb_ dX1_addCue_113 rfl (lv_at hl 1 rfl) ?_
                      refine lv_iconst (v := 3) hx hb_ dX1_addCue_114 (by decide) ?_
                      have hFc := wfree hD hS_ hA
                      refine va_calli (va_runV (As := [.int 3]) (rest := []) ⟨hx, hb_, hml, hown, hts⟩ (c_X1_fails l D cI y_ b_ S 0 H.size 3) (cwV 1 hts gX1_addCue_X1_fails rfl rfl rfl (by decide +kernel) ⟨Nat.le_of_ble_eq_true rfl, Nat.le_of_ble_eq_true rfl⟩) (pW_V (ci := 1) hP hK_ hD rfl rfl) rfl rfl hl.1 rfl (lv_room (Nat.le_of_ble_eq_true rfl)) dX1_addCue_115 ⟨Nat.zero_le _, Nat.zero_le _⟩) hS_ (fun q_ _ h_ => hFc q_ h_) hFc (fun r_115 u_115 t9 H1 locs ht9 hvm9 h_115 hB9 hz9 hk9 hS_ => ?_)
                      obtain ⟨e_115, h_115⟩ := h_115
                      subst e_115
                      subst h_115
                      have hP : va_P D vwCl (wM cI y_ b_ S 3) H1 := atW_P hB9 ht9
                      have hD : va_D A (wM cI y_ b_ S 3) := atW_D hB9 hFc
                      generalize H1 = H at hP hS_ ⊢
                      exact W.iret (v := 0) hx hb_ hr (fun t_ ht hW => ⟨⟨_, (S, 3), rfl, (cif_t ⟨b_8.1, Int32.not_lt.mp b_8.2⟩).trans ((cif_t ⟨b_38, ho, hw⟩).trans (cif_f (fun h_ => h_.2.2.elim c_99 (fun z_ => z_ c_110)))), by rw [ht]; exact hP, hD⟩, hS_.F ht⟩) hS_.2.2 dX1_addCue_118
                · skip
                  refine lv_iload_n hx hb_ dX1_addCue_91 rfl (lv_at hl 3 rfl) ?_
                  refine lv_iload_n hx hb_ dX1_addCue_92 rfl (lv_at hl 4 rfl) ?_
                  refine lv_icmp_eq (tgt := 113) hx hb_ dX1_addCue_93 (by decide) (fun c_93 => ?_) (fun c_93 => ?_)
                  · skip
                    refine lv_aload_n hx hb_ dX1_addCue_113 rfl (lv_at hl 1 rfl) ?_
                    refine lv_iconst (v := 3) hx hb_ dX1_addCue_114 (by decide) ?_
                    have hFc := wfree hD hS_ hA
                    refine va_calli (va_runV (As := [.int 3]) (rest := []) ⟨hx, hb_, hml, hown, hts⟩ (c_X1_fails l D cI y_ b_ S 0 H.size 3) (cwV 1 hts gX1_addCue_X1_fails rfl rfl rfl (by decide +kernel) ⟨Nat.le_of_ble_eq_true rfl, Nat.le_of_ble_eq_true rfl⟩) (pW_V (ci := 1) hP hK_ hD rfl rfl) rfl rfl hl.1 rfl (lv_room (Nat.le_of_ble_eq_true rfl)) dX1_addCue_115 ⟨Nat.zero_le _, Nat.zero_le _⟩) hS_ (fun q_ _ h_ => hFc q_ h_) hFc (fun r_115 u_115 t9 H1 locs ht9 hvm9 h_115 hB9 hz9 hk9 hS_ => ?_)
                    obtain ⟨e_115, h_115⟩ := h_115
                    subst e_115
                    subst h_115
                    have hP : va_P D vwCl (wM cI y_ b_ S 3) H1 := atW_P hB9 ht9
                    have hD : va_D A (wM cI y_ b_ S 3) := atW_D hB9 hFc
                    generalize H1 = H at hP hS_ ⊢
                    exact W.iret (v := 0) hx hb_ hr (fun t_ ht hW => ⟨⟨_, (S, 3), rfl, (cif_t ⟨b_8.1, Int32.not_lt.mp b_8.2⟩).trans ((cif_t ⟨b_38, ho, hw⟩).trans (cif_f (fun h_ => h_.2.1 ⟨c_88, c_93⟩))), by rw [ht]; exact hP, hD⟩, hS_.F ht⟩) hS_.2.2 dX1_addCue_118
                  · skip
                    have hn : ¬ (k_ = 4 ∧ p_ = o_) := fun z_ => c_93 z_.2
                    refine lv_iload hx hb_ dX1_addCue_96 (lv_at hl 5 rfl) ?_
                    refine lv_iconst (v := (-1)) hx hb_ dX1_addCue_98 (by decide) ?_
                    refine lv_icmp_eq (tgt := 119) hx hb_ dX1_addCue_99 (by decide) (fun c_99 => ?_) (fun c_99 => ?_)
                    · skip
                      have hw3 : w_ = -1 ∨ S 8 w_.toNatClampNeg ≠ 2 := Or.inl c_99
                      refine lv_aload_n hx hb_ dX1_addCue_119 rfl (lv_at hl 1 rfl) ?_
                      have hf22 := hts (.fieldLink RX1 22 "ClockmaskModel" "kinds" "[I") (by decide +kernel)
                      refine va_get (D := D) (ci := 1) (v := .ref (b_ 4)) (C := RX1) (T := TX1) (N := 18) hx hb_ hts hin hown hK_ hP 0 rfl rfl 4 (by decide) hf22 (fun _ h9 => h9) rfl dX1_addCue_120 ?_
                      refine lv_aload_n hx hb_ dX1_addCue_123 rfl (lv_at hl 1 rfl) ?_
                      refine va_get (D := D) (ci := 1) (v := .int (S 10 0)) (C := RX1) (T := TX1) (N := 18) hx hb_ hts hin hown hK_ hP 0 rfl rfl 10 (by decide) hf60 (fun _ h9 => h9) rfl dX1_addCue_124 ?_
                      refine lv_iload_n hx hb_ dX1_addCue_127 rfl (lv_at hl 2 rfl) ?_
                      refine va_iast (f := S 4) (n := 24) hx hb_ hK_ hP hD hS_ 5 0 rfl rfl (by assumption) dX1_addCue_128 (fun H locs hP hD hS_ => ?_)
                      have hP : va_P D vwCl (wMr cI y_ b_ (S 0) (S 1) (S 2) (S 3) (upd (S 4) (S 10 0).toNatClampNeg k_) (S 5) (S 6) (S 7) (S 8) (S 9) (S 10 0) (S 11 0) (S 12) (S 13) (S 14 0) (S 15 0) (S 16) 0) H := hP
                      have hD : va_D A (wMr cI y_ b_ (S 0) (S 1) (S 2) (S 3) (upd (S 4) (S 10 0).toNatClampNeg k_) (S 5) (S 6) (S 7) (S 8) (S 9) (S 10 0) (S 11 0) (S 12) (S 13) (S 14 0) (S 15 0) (S 16) 0) := hD
                      refine lv_aload_n hx hb_ dX1_addCue_129 rfl (lv_at hl 1 rfl) ?_
                      have hf25 := hts (.fieldLink RX1 25 "ClockmaskModel" "players" "[I") (by decide +kernel)
                      refine va_get (D := D) (ci := 1) (v := .ref (b_ 5)) (C := RX1) (T := TX1) (N := 18) hx hb_ hts hin hown hK_ hP 0 rfl rfl 5 (by decide) hf25 (fun _ h9 => h9) rfl dX1_addCue_130 ?_
                      refine lv_aload_n hx hb_ dX1_addCue_133 rfl (lv_at hl 1 rfl) ?_
                      refine va_get (D := D) (ci := 1) (v := .int (S 10 0)) (C := RX1) (T := TX1) (N := 18) hx hb_ hts hin hown hK_ hP 0 rfl rfl 10 (by decide) hf60 (fun _ h9 => h9) rfl dX1_addCue_134 ?_
                      refine lv_iload_n hx hb_ dX1_addCue_137 rfl (lv_at hl 3 rfl) ?_
                      refine va_iast (f := S 5) (n := 24) hx hb_ hK_ hP hD hS_ 6 0 rfl rfl (by assumption) dX1_addCue_138 (fun H locs hP hD hS_ => ?_)
                      have hP : va_P D vwCl (wMr cI y_ b_ (S 0) (S 1) (S 2) (S 3) (upd (S 4) (S 10 0).toNatClampNeg k_) (upd (S 5) (S 10 0).toNatClampNeg p_) (S 6) (S 7) (S 8) (S 9) (S 10 0) (S 11 0) (S 12) (S 13) (S 14 0) (S 15 0) (S 16) 0) H := hP
                      have hD : va_D A (wMr cI y_ b_ (S 0) (S 1) (S 2) (S 3) (upd (S 4) (S 10 0).toNatClampNeg k_) (upd (S 5) (S 10 0).toNatClampNeg p_) (S 6) (S 7) (S 8) (S 9) (S 10 0) (S 11 0) (S 12) (S 13) (S 14 0) (S 15 0) (S 16) 0) := hD
                      refine lv_aload_n hx hb_ dX1_addCue_139 rfl (lv_at hl 1 rfl) ?_
                      have hf28 := hts (.fieldLink RX1 28 "ClockmaskModel" "others" "[I") (by decide +kernel)
                      refine va_get (D := D) (ci := 1) (v := .ref (b_ 6)) (C := RX1) (T := TX1) (N := 18) hx hb_ hts hin hown hK_ hP 0 rfl rfl 6 (by decide) hf28 (fun _ h9 => h9) rfl dX1_addCue_140 ?_
                      refine lv_aload_n hx hb_ dX1_addCue_143 rfl (lv_at hl 1 rfl) ?_
                      refine va_get (D := D) (ci := 1) (v := .int (S 10 0)) (C := RX1) (T := TX1) (N := 18) hx hb_ hts hin hown hK_ hP 0 rfl rfl 10 (by decide) hf60 (fun _ h9 => h9) rfl dX1_addCue_144 ?_
                      refine lv_iload_n hx hb_ dX1_addCue_147 rfl (lv_at hl 4 rfl) ?_
                      refine va_iast (f := S 6) (n := 24) hx hb_ hK_ hP hD hS_ 7 0 rfl rfl (by assumption) dX1_addCue_148 (fun H locs hP hD hS_ => ?_)
                      have hP : va_P D vwCl (wMr cI y_ b_ (S 0) (S 1) (S 2) (S 3) (upd (S 4) (S 10 0).toNatClampNeg k_) (upd (S 5) (S 10 0).toNatClampNeg p_) (upd (S 6) (S 10 0).toNatClampNeg o_) (S 7) (S 8) (S 9) (S 10 0) (S 11 0) (S 12) (S 13) (S 14 0) (S 15 0) (S 16) 0) H := hP
                      have hD : va_D A (wMr cI y_ b_ (S 0) (S 1) (S 2) (S 3) (upd (S 4) (S 10 0).toNatClampNeg k_) (upd (S 5) (S 10 0).toNatClampNeg p_) (upd (S 6) (S 10 0).toNatClampNeg o_) (S 7) (S 8) (S 9) (S 10 0) (S 11 0) (S 12) (S 13) (S 14 0) (S 15 0) (S 16) 0) := hD
                      refine lv_aload_n hx hb_ dX1_addCue_149 rfl (lv_at hl 1 rfl) ?_
                      have hf31 := hts (.fieldLink RX1 31 "ClockmaskModel" "waitsFor" "[I") (by decide +kernel)
                      refine va_get (D := D) (ci := 1) (v := .ref (b_ 7)) (C := RX1) (T := TX1) (N := 18) hx hb_ hts hin hown hK_ hP 0 rfl rfl 7 (by decide) hf31 (fun _ h9 => h9) rfl dX1_addCue_150 ?_
                      refine lv_aload_n hx hb_ dX1_addCue_153 rfl (lv_at hl 1 rfl) ?_
                      refine va_get (D := D) (ci := 1) (v := .int (S 10 0)) (C := RX1) (T := TX1) (N := 18) hx hb_ hts hin hown hK_ hP 0 rfl rfl 10 (by decide) hf60 (fun _ h9 => h9) rfl dX1_addCue_154 ?_
                      refine lv_iload hx hb_ dX1_addCue_157 (lv_at hl 5 rfl) ?_
                      refine va_iast (f := S 7) (n := 24) hx hb_ hK_ hP hD hS_ 8 0 rfl rfl (by assumption) dX1_addCue_159 (fun H locs hP hD hS_ => ?_)
                      have hP : va_P D vwCl (wMr cI y_ b_ (S 0) (S 1) (S 2) (S 3) (upd (S 4) (S 10 0).toNatClampNeg k_) (upd (S 5) (S 10 0).toNatClampNeg p_) (upd (S 6) (S 10 0).toNatClampNeg o_) (upd (S 7) (S 10 0).toNatClampNeg w_) (S 8) (S 9) (S 10 0) (S 11 0) (S 12) (S 13) (S 14 0) (S 15 0) (S 16) 0) H := hP
                      have hD : va_D A (wMr cI y_ b_ (S 0) (S 1) (S 2) (S 3) (upd (S 4) (S 10 0).toNatClampNeg k_) (upd (S 5) (S 10 0).toNatClampNeg p_) (upd (S 6) (S 10 0).toNatClampNeg o_) (upd (S 7) (S 10 0).toNatClampNeg w_) (S 8) (S 9) (S 10 0) (S 11 0) (S 12) (S 13) (S 14 0) (S 15 0) (S 16) 0) := hD
                      refine lv_aload_n hx hb_ dX1_addCue_160 rfl (lv_at hl 1 rfl) ?_
                      have hf34 := hts (.fieldLink RX1 34 "ClockmaskModel" "states" "[I") (by decide +kernel)
                      refine va_get (D := D) (ci := 1) (v := .ref (b_ 8)) (C := RX1) (T := TX1) (N := 18) hx hb_ hts hin hown hK_ hP 0 rfl rfl 8 (by decide) hf34 (fun _ h9 => h9) rfl dX1_addCue_161 ?_
                      refine lv_aload_n hx hb_ dX1_addCue_164 rfl (lv_at hl 1 rfl) ?_
                      refine va_get (D := D) (ci := 1) (v := .int (S 10 0)) (C := RX1) (T := TX1) (N := 18) hx hb_ hts hin hown hK_ hP 0 rfl rfl 10 (by decide) hf60 (fun _ h9 => h9) rfl dX1_addCue_165 ?_
                      refine lv_iconst (v := 0) hx hb_ dX1_addCue_168 (by decide) ?_
                      refine va_iast (f := S 8) (n := 24) hx hb_ hK_ hP hD hS_ 9 0 rfl rfl (by assumption) dX1_addCue_169 (fun H locs hP hD hS_ => ?_)
                      have hP : va_P D vwCl (wMr cI y_ b_ (S 0) (S 1) (S 2) (S 3) (upd (S 4) (S 10 0).toNatClampNeg k_) (upd (S 5) (S 10 0).toNatClampNeg p_) (upd (S 6) (S 10 0).toNatClampNeg o_) (upd (S 7) (S 10 0).toNatClampNeg w_) (upd (S 8) (S 10 0).toNatClampNeg 0) (S 9) (S 10 0) (S 11 0) (S 12) (S 13) (S 14 0) (S 15 0) (S 16) 0) H := hP
                      have hD : va_D A (wMr cI y_ b_ (S 0) (S 1) (S 2) (S 3) (upd (S 4) (S 10 0).toNatClampNeg k_) (upd (S 5) (S 10 0).toNatClampNeg p_) (upd (S 6) (S 10 0).toNatClampNeg o_) (upd (S 7) (S 10 0).toNatClampNeg w_) (upd (S 8) (S 10 0).toNatClampNeg 0) (S 9) (S 10 0) (S 11 0) (S 12) (S 13) (S 14 0) (S 15 0) (S 16) 0) := hD
                      refine lv_aload_n hx hb_ dX1_addCue_170 rfl (lv_at hl 1 rfl) ?_
                      refine lv_dup hx hb_ dX1_addCue_171 rfl ?_
                      refine va_get (D := D) (ci := 1) (v := .int (S 10 0)) (C := RX1) (T := TX1) (N := 18) hx hb_ hts hin hown hK_ hP 0 rfl rfl 10 (by decide) hf60 (fun _ h9 => h9) rfl dX1_addCue_172 ?_
                      refine lv_iconst (v := 1) hx hb_ dX1_addCue_175 (by decide) ?_
                      refine lv_iadd hx hb_ dX1_addCue_176 ?_
                      refine va_put (D := D) (ci := 1) (v := .int ((S 10 0) + 1)) (ty := .int) (C := RX1) (T := TX1) (N := 18) hx hb_ hts hin tyX1 tyX1_ok nmX1 hown hK_ hP hD hS_ 0 rfl rfl 10 (by decide) hf60 (fun _ h9 => h9) rfl (by decide +kernel) rfl rfl (Nat.le_of_ble_eq_true rfl) dX1_addCue_177 (fun H locs hP hD hS_ => ?_)
                      have hP : va_P D vwCl (wMr cI y_ b_ (S 0) (S 1) (S 2) (S 3) (upd (S 4) (S 10 0).toNatClampNeg k_) (upd (S 5) (S 10 0).toNatClampNeg p_) (upd (S 6) (S 10 0).toNatClampNeg o_) (upd (S 7) (S 10 0).toNatClampNeg w_) (upd (S 8) (S 10 0).toNatClampNeg 0) (S 9) ((S 10 0) + 1) (S 11 0) (S 12) (S 13) (S 14 0) (S 15 0) (S 16) 0) H := hP
                      have hD : va_D A (wMr cI y_ b_ (S 0) (S 1) (S 2) (S 3) (upd (S 4) (S 10 0).toNatClampNeg k_) (upd (S 5) (S 10 0).toNatClampNeg p_) (upd (S 6) (S 10 0).toNatClampNeg o_) (upd (S 7) (S 10 0).toNatClampNeg w_) (upd (S 8) (S 10 0).toNatClampNeg 0) (S 9) ((S 10 0) + 1) (S 11 0) (S 12) (S 13) (S 14 0) (S 15 0) (S 16) 0) := hD
                      refine lv_aload_n hx hb_ dX1_addCue_180 rfl (lv_at hl 1 rfl) ?_
                      refine va_get (D := D) (ci := 1) (v := .int ((S 10 0) + 1)) (C := RX1) (T := TX1) (N := 18) hx hb_ hts hin hown hK_ hP 0 rfl rfl 10 (by decide) hf60 (fun _ h9 => h9) rfl dX1_addCue_181 ?_
                      refine lv_iconst (v := 1) hx hb_ dX1_addCue_184 (by decide) ?_
                      refine lv_isub hx hb_ dX1_addCue_185 ?_
                      exact W.iret (v := ((S 10 0) + 1) - 1) hx hb_ hr (fun t_ ht hW => ⟨⟨_, (row (row (row (row (row (row S 4 (upd (S 4) (S 10 0).toNatClampNeg k_)) 5 (upd (S 5) (S 10 0).toNatClampNeg p_)) 6 (upd (S 6) (S 10 0).toNatClampNeg o_)) 7 (upd (S 7) (S 10 0).toNatClampNeg w_)) 8 (upd (S 8) (S 10 0).toNatClampNeg 0)) 10 (kf ((S 10 0) + 1)), 0), rfl, by rw [Int32.add_sub_cancel]; exact (cif_t ⟨b_8.1, Int32.not_lt.mp b_8.2⟩).trans ((cif_t ⟨b_38, ho, hw⟩).trans (cif_t ⟨h24, hn, hw3⟩)), by rw [ht]; exact hP, hD⟩, hS_.F ht⟩) hS_.2.2 dX1_addCue_186
                    · skip
                      refine lv_aload_n hx hb_ dX1_addCue_102 rfl (lv_at hl 1 rfl) ?_
                      have hf34 := hts (.fieldLink RX1 34 "ClockmaskModel" "states" "[I") (by decide +kernel)
                      refine va_get (D := D) (ci := 1) (v := .ref (b_ 8)) (C := RX1) (T := TX1) (N := 18) hx hb_ hts hin hown hK_ hP 0 rfl rfl 8 (by decide) hf34 (fun _ h9 => h9) rfl dX1_addCue_103 ?_
                      refine lv_iload hx hb_ dX1_addCue_106 (lv_at hl 5 rfl) ?_
                      refine va_iald (f := S 8) (n := 24) hx hb_ hK_ hP 9 0 rfl rfl (hI_.q24 (hw.resolve_left c_99)) dX1_addCue_108 ?_
                      refine lv_iconst (v := 2) hx hb_ dX1_addCue_109 (by decide) ?_
                      refine lv_icmp_ne (tgt := 119) hx hb_ dX1_addCue_110 (by decide) (fun c_110 => ?_) (fun c_110 => ?_)
                      · skip
                        have hw3 : w_ = -1 ∨ S 8 w_.toNatClampNeg ≠ 2 := Or.inr c_110
                        refine lv_aload_n hx hb_ dX1_addCue_119 rfl (lv_at hl 1 rfl) ?_
                        have hf22 := hts (.fieldLink RX1 22 "ClockmaskModel" "kinds" "[I") (by decide +kernel)
                        refine va_get (D := D) (ci := 1) (v := .ref (b_ 4)) (C := RX1) (T := TX1) (N := 18) hx hb_ hts hin hown hK_ hP 0 rfl rfl 4 (by decide) hf22 (fun _ h9 => h9) rfl dX1_addCue_120 ?_
                        refine lv_aload_n hx hb_ dX1_addCue_123 rfl (lv_at hl 1 rfl) ?_
                        refine va_get (D := D) (ci := 1) (v := .int (S 10 0)) (C := RX1) (T := TX1) (N := 18) hx hb_ hts hin hown hK_ hP 0 rfl rfl 10 (by decide) hf60 (fun _ h9 => h9) rfl dX1_addCue_124 ?_
                        refine lv_iload_n hx hb_ dX1_addCue_127 rfl (lv_at hl 2 rfl) ?_
                        refine va_iast (f := S 4) (n := 24) hx hb_ hK_ hP hD hS_ 5 0 rfl rfl (by assumption) dX1_addCue_128 (fun H locs hP hD hS_ => ?_)
                        have hP : va_P D vwCl (wMr cI y_ b_ (S 0) (S 1) (S 2) (S 3) (upd (S 4) (S 10 0).toNatClampNeg k_) (S 5) (S 6) (S 7) (S 8) (S 9) (S 10 0) (S 11 0) (S 12) (S 13) (S 14 0) (S 15 0) (S 16) 0) H := hP
                        have hD : va_D A (wMr cI y_ b_ (S 0) (S 1) (S 2) (S 3) (upd (S 4) (S 10 0).toNatClampNeg k_) (S 5) (S 6) (S 7) (S 8) (S 9) (S 10 0) (S 11 0) (S 12) (S 13) (S 14 0) (S 15 0) (S 16) 0) := hD
                        refine lv_aload_n hx hb_ dX1_addCue_129 rfl (lv_at hl 1 rfl) ?_
                        have hf25 := hts (.fieldLink RX1 25 "ClockmaskModel" "players" "[I") (by decide +kernel)
                        refine va_get (D := D) (ci := 1) (v := .ref (b_ 5)) (C := RX1) (T := TX1) (N := 18) hx hb_ hts hin hown hK_ hP 0 rfl rfl 5 (by decide) hf25 (fun _ h9 => h9) rfl dX1_addCue_130 ?_
                        refine lv_aload_n hx hb_ dX1_addCue_133 rfl (lv_at hl 1 rfl) ?_
                        refine va_get (D := D) (ci := 1) (v := .int (S 10 0)) (C := RX1) (T := TX1) (N := 18) hx hb_ hts hin hown hK_ hP 0 rfl rfl 10 (by decide) hf60 (fun _ h9 => h9) rfl dX1_addCue_134 ?_
                        refine lv_iload_n hx hb_ dX1_addCue_137 rfl (lv_at hl 3 rfl) ?_
                        refine va_iast (f := S 5) (n := 24) hx hb_ hK_ hP hD hS_ 6 0 rfl rfl (by assumption) dX1_addCue_138 (fun H locs hP hD hS_ => ?_)
                        have hP : va_P D vwCl (wMr cI y_ b_ (S 0) (S 1) (S 2) (S 3) (upd (S 4) (S 10 0).toNatClampNeg k_) (upd (S 5) (S 10 0).toNatClampNeg p_) (S 6) (S 7) (S 8) (S 9) (S 10 0) (S 11 0) (S 12) (S 13) (S 14 0) (S 15 0) (S 16) 0) H := hP
                        have hD : va_D A (wMr cI y_ b_ (S 0) (S 1) (S 2) (S 3) (upd (S 4) (S 10 0).toNatClampNeg k_) (upd (S 5) (S 10 0).toNatClampNeg p_) (S 6) (S 7) (S 8) (S 9) (S 10 0) (S 11 0) (S 12) (S 13) (S 14 0) (S 15 0) (S 16) 0) := hD
                        refine lv_aload_n hx hb_ dX1_addCue_139 rfl (lv_at hl 1 rfl) ?_
                        have hf28 := hts (.fieldLink RX1 28 "ClockmaskModel" "others" "[I") (by decide +kernel)
                        refine va_get (D := D) (ci := 1) (v := .ref (b_ 6)) (C := RX1) (T := TX1) (N := 18) hx hb_ hts hin hown hK_ hP 0 rfl rfl 6 (by decide) hf28 (fun _ h9 => h9) rfl dX1_addCue_140 ?_
                        refine lv_aload_n hx hb_ dX1_addCue_143 rfl (lv_at hl 1 rfl) ?_
                        refine va_get (D := D) (ci := 1) (v := .int (S 10 0)) (C := RX1) (T := TX1) (N := 18) hx hb_ hts hin hown hK_ hP 0 rfl rfl 10 (by decide) hf60 (fun _ h9 => h9) rfl dX1_addCue_144 ?_
                        refine lv_iload_n hx hb_ dX1_addCue_147 rfl (lv_at hl 4 rfl) ?_
                        refine va_iast (f := S 6) (n := 24) hx hb_ hK_ hP hD hS_ 7 0 rfl rfl (by assumption) dX1_addCue_148 (fun H locs hP hD hS_ => ?_)
                        have hP : va_P D vwCl (wMr cI y_ b_ (S 0) (S 1) (S 2) (S 3) (upd (S 4) (S 10 0).toNatClampNeg k_) (upd (S 5) (S 10 0).toNatClampNeg p_) (upd (S 6) (S 10 0).toNatClampNeg o_) (S 7) (S 8) (S 9) (S 10 0) (S 11 0) (S 12) (S 13) (S 14 0) (S 15 0) (S 16) 0) H := hP
                        have hD : va_D A (wMr cI y_ b_ (S 0) (S 1) (S 2) (S 3) (upd (S 4) (S 10 0).toNatClampNeg k_) (upd (S 5) (S 10 0).toNatClampNeg p_) (upd (S 6) (S 10 0).toNatClampNeg o_) (S 7) (S 8) (S 9) (S 10 0) (S 11 0) (S 12) (S 13) (S 14 0) (S 15 0) (S 16) 0) := hD
                        refine lv_aload_n hx hb_ dX1_addCue_149 rfl (lv_at hl 1 rfl) ?_
                        have hf31 := hts (.fieldLink RX1 31 "ClockmaskModel" "waitsFor" "[I") (by decide +kernel)
                        refine va_get (D := D) (ci := 1) (v := .ref (b_ 7)) (C := RX1) (T := TX1) (N := 18) hx hb_ hts hin hown hK_ hP 0 rfl rfl 7 (by decide) hf31 (fun _ h9 => h9) rfl dX1_addCue_150 ?_
                        refine lv_aload_n hx hb_ dX1_addCue_153 rfl (lv_at hl 1 rfl) ?_
                        refine va_get (D := D) (ci := 1) (v := .int (S 10 0)) (C := RX1) (T := TX1) (N := 18) hx hb_ hts hin hown hK_ hP 0 rfl rfl 10 (by decide) hf60 (fun _ h9 => h9) rfl dX1_addCue_154 ?_
                        refine lv_iload hx hb_ dX1_addCue_157 (lv_at hl 5 rfl) ?_
                        refine va_iast (f := S 7) (n := 24) hx hb_ hK_ hP hD hS_ 8 0 rfl rfl (by assumption) dX1_addCue_159 (fun H locs hP hD hS_ => ?_)
                        have hP : va_P D vwCl (wMr cI y_ b_ (S 0) (S 1) (S 2) (S 3) (upd (S 4) (S 10 0).toNatClampNeg k_) (upd (S 5) (S 10 0).toNatClampNeg p_) (upd (S 6) (S 10 0).toNatClampNeg o_) (upd (S 7) (S 10 0).toNatClampNeg w_) (S 8) (S 9) (S 10 0) (S 11 0) (S 12) (S 13) (S 14 0) (S 15 0) (S 16) 0) H := hP
                        have hD : va_D A (wMr cI y_ b_ (S 0) (S 1) (S 2) (S 3) (upd (S 4) (S 10 0).toNatClampNeg k_) (upd (S 5) (S 10 0).toNatClampNeg p_) (upd (S 6) (S 10 0).toNatClampNeg o_) (upd (S 7) (S 10 0).toNatClampNeg w_) (S 8) (S 9) (S 10 0) (S 11 0) (S 12) (S 13) (S 14 0) (S 15 0) (S 16) 0) := hD
                        refine lv_aload_n hx hb_ dX1_addCue_160 rfl (lv_at hl 1 rfl) ?_
                        refine va_get (D := D) (ci := 1) (v := .ref (b_ 8)) (C := RX1) (T := TX1) (N := 18) hx hb_ hts hin hown hK_ hP 0 rfl rfl 8 (by decide) hf34 (fun _ h9 => h9) rfl dX1_addCue_161 ?_
                        refine lv_aload_n hx hb_ dX1_addCue_164 rfl (lv_at hl 1 rfl) ?_
                        refine va_get (D := D) (ci := 1) (v := .int (S 10 0)) (C := RX1) (T := TX1) (N := 18) hx hb_ hts hin hown hK_ hP 0 rfl rfl 10 (by decide) hf60 (fun _ h9 => h9) rfl dX1_addCue_165 ?_
                        refine lv_iconst (v := 0) hx hb_ dX1_addCue_168 (by decide) ?_
                        refine va_iast (f := S 8) (n := 24) hx hb_ hK_ hP hD hS_ 9 0 rfl rfl (by assumption) dX1_addCue_169 (fun H locs hP hD hS_ => ?_)
                        have hP : va_P D vwCl (wMr cI y_ b_ (S 0) (S 1) (S 2) (S 3) (upd (S 4) (S 10 0).toNatClampNeg k_) (upd (S 5) (S 10 0).toNatClampNeg p_) (upd (S 6) (S 10 0).toNatClampNeg o_) (upd (S 7) (S 10 0).toNatClampNeg w_) (upd (S 8) (S 10 0).toNatClampNeg 0) (S 9) (S 10 0) (S 11 0) (S 12) (S 13) (S 14 0) (S 15 0) (S 16) 0) H := hP
                        have hD : va_D A (wMr cI y_ b_ (S 0) (S 1) (S 2) (S 3) (upd (S 4) (S 10 0).toNatClampNeg k_) (upd (S 5) (S 10 0).toNatClampNeg p_) (upd (S 6) (S 10 0).toNatClampNeg o_) (upd (S 7) (S 10 0).toNatClampNeg w_) (upd (S 8) (S 10 0).toNatClampNeg 0) (S 9) (S 10 0) (S 11 0) (S 12) (S 13) (S 14 0) (S 15 0) (S 16) 0) := hD
                        refine lv_aload_n hx hb_ dX1_addCue_170 rfl (lv_at hl 1 rfl) ?_
                        refine lv_dup hx hb_ dX1_addCue_171 rfl ?_
                        refine va_get (D := D) (ci := 1) (v := .int (S 10 0)) (C := RX1) (T := TX1) (N := 18) hx hb_ hts hin hown hK_ hP 0 rfl rfl 10 (by decide) hf60 (fun _ h9 => h9) rfl dX1_addCue_172 ?_
                        refine lv_iconst (v := 1) hx hb_ dX1_addCue_175 (by decide) ?_
                        refine lv_iadd hx hb_ dX1_addCue_176 ?_
                        refine va_put (D := D) (ci := 1) (v := .int ((S 10 0) + 1)) (ty := .int) (C := RX1) (T := TX1) (N := 18) hx hb_ hts hin tyX1 tyX1_ok nmX1 hown hK_ hP hD hS_ 0 rfl rfl 10 (by decide) hf60 (fun _ h9 => h9) rfl (by decide +kernel) rfl rfl (Nat.le_of_ble_eq_true rfl) dX1_addCue_177 (fun H locs hP hD hS_ => ?_)
                        have hP : va_P D vwCl (wMr cI y_ b_ (S 0) (S 1) (S 2) (S 3) (upd (S 4) (S 10 0).toNatClampNeg k_) (upd (S 5) (S 10 0).toNatClampNeg p_) (upd (S 6) (S 10 0).toNatClampNeg o_) (upd (S 7) (S 10 0).toNatClampNeg w_) (upd (S 8) (S 10 0).toNatClampNeg 0) (S 9) ((S 10 0) + 1) (S 11 0) (S 12) (S 13) (S 14 0) (S 15 0) (S 16) 0) H := hP
                        have hD : va_D A (wMr cI y_ b_ (S 0) (S 1) (S 2) (S 3) (upd (S 4) (S 10 0).toNatClampNeg k_) (upd (S 5) (S 10 0).toNatClampNeg p_) (upd (S 6) (S 10 0).toNatClampNeg o_) (upd (S 7) (S 10 0).toNatClampNeg w_) (upd (S 8) (S 10 0).toNatClampNeg 0) (S 9) ((S 10 0) + 1) (S 11 0) (S 12) (S 13) (S 14 0) (S 15 0) (S 16) 0) := hD
                        refine lv_aload_n hx hb_ dX1_addCue_180 rfl (lv_at hl 1 rfl) ?_
                        refine va_get (D := D) (ci := 1) (v := .int ((S 10 0) + 1)) (C := RX1) (T := TX1) (N := 18) hx hb_ hts hin hown hK_ hP 0 rfl rfl 10 (by decide) hf60 (fun _ h9 => h9) rfl dX1_addCue_181 ?_
                        refine lv_iconst (v := 1) hx hb_ dX1_addCue_184 (by decide) ?_
                        refine lv_isub hx hb_ dX1_addCue_185 ?_
                        exact W.iret (v := ((S 10 0) + 1) - 1) hx hb_ hr (fun t_ ht hW => ⟨⟨_, (row (row (row (row (row (row S 4 (upd (S 4) (S 10 0).toNatClampNeg k_)) 5 (upd (S 5) (S 10 0).toNatClampNeg p_)) 6 (upd (S 6) (S 10 0).toNatClampNeg o_)) 7 (upd (S 7) (S 10 0).toNatClampNeg w_)) 8 (upd (S 8) (S 10 0).toNatClampNeg 0)) 10 (kf ((S 10 0) + 1)), 0), rfl, by rw [Int32.add_sub_cancel]; exact (cif_t ⟨b_8.1, Int32.not_lt.mp b_8.2⟩).trans ((cif_t ⟨b_38, ho, hw⟩).trans (cif_t ⟨h24, hn, hw3⟩)), by rw [ht]; exact hP, hD⟩, hS_.F ht⟩) hS_.2.2 dX1_addCue_186
                      · skip
                        refine lv_aload_n hx hb_ dX1_addCue_113 rfl (lv_at hl 1 rfl) ?_
                        refine lv_iconst (v := 3) hx hb_ dX1_addCue_114 (by decide) ?_
                        have hFc := wfree hD hS_ hA
                        refine va_calli (va_runV (As := [.int 3]) (rest := []) ⟨hx, hb_, hml, hown, hts⟩ (c_X1_fails l D cI y_ b_ S 0 H.size 3) (cwV 1 hts gX1_addCue_X1_fails rfl rfl rfl (by decide +kernel) ⟨Nat.le_of_ble_eq_true rfl, Nat.le_of_ble_eq_true rfl⟩) (pW_V (ci := 1) hP hK_ hD rfl rfl) rfl rfl hl.1 rfl (lv_room (Nat.le_of_ble_eq_true rfl)) dX1_addCue_115 ⟨Nat.zero_le _, Nat.zero_le _⟩) hS_ (fun q_ _ h_ => hFc q_ h_) hFc (fun r_115 u_115 t9 H1 locs ht9 hvm9 h_115 hB9 hz9 hk9 hS_ => ?_)
                        obtain ⟨e_115, h_115⟩ := h_115
                        subst e_115
                        subst h_115
                        have hP : va_P D vwCl (wM cI y_ b_ S 3) H1 := atW_P hB9 ht9
                        have hD : va_D A (wM cI y_ b_ S 3) := atW_D hB9 hFc
                        generalize H1 = H at hP hS_ ⊢
                        exact W.iret (v := 0) hx hb_ hr (fun t_ ht hW => ⟨⟨_, (S, 3), rfl, (cif_t ⟨b_8.1, Int32.not_lt.mp b_8.2⟩).trans ((cif_t ⟨b_38, ho, hw⟩).trans (cif_f (fun h_ => h_.2.2.elim c_99 (fun z_ => z_ c_110)))), by rw [ht]; exact hP, hD⟩, hS_.F ht⟩) hS_.2.2 dX1_addCue_118
            · skip
              have b_65 := cif_b0 h_65 c_68
              refine lv_aload_n hx hb_ dX1_addCue_71 rfl (lv_at hl 1 rfl) ?_
              refine lv_iconst (v := 2) hx hb_ dX1_addCue_72 (by decide) ?_
              have hFc := wfree hD hS_ hA
              refine va_calli (va_runV (As := [.int 2]) (rest := []) ⟨hx, hb_, hml, hown, hts⟩ (c_X1_fails l D cI y_ b_ S 0 H.size 2) (cwV 1 hts gX1_addCue_X1_fails rfl rfl rfl (by decide +kernel) ⟨Nat.le_of_ble_eq_true rfl, Nat.le_of_ble_eq_true rfl⟩) (pW_V (ci := 1) hP hK_ hD rfl rfl) rfl rfl hl.1 rfl (lv_room (Nat.le_of_ble_eq_true rfl)) dX1_addCue_73 ⟨Nat.zero_le _, Nat.zero_le _⟩) hS_ (fun q_ _ h_ => hFc q_ h_) hFc (fun r_73 u_73 t9 H1 locs ht9 hvm9 h_73 hB9 hz9 hk9 hS_ => ?_)
              obtain ⟨e_73, h_73⟩ := h_73
              subst e_73
              subst h_73
              have hP : va_P D vwCl (wM cI y_ b_ S 2) H1 := atW_P hB9 ht9
              have hD : va_D A (wM cI y_ b_ S 2) := atW_D hB9 hFc
              generalize H1 = H at hP hS_ ⊢
              exact W.iret (v := 0) hx hb_ hr (fun t_ ht hW => ⟨⟨_, (S, 2), rfl, (cif_t ⟨b_8.1, Int32.not_lt.mp b_8.2⟩).trans (cif_f (fun h_ => b_65 ((inW_iff hI_.me hI_.m24).mpr h_.2.2))), by rw [ht]; exact hP, hD⟩, hS_.F ht⟩) hS_.2.2 dX1_addCue_76
    · skip
      refine lv_iload_n hx hb_ dX1_addCue_25 rfl (lv_at hl 1 rfl) ?_
      refine lv_iconst (v := 4) hx hb_ dX1_addCue_26 (by decide) ?_
      refine lv_icmp_ne (tgt := 34) hx hb_ dX1_addCue_27 (by decide) (fun c_27 => ?_) (fun c_27 => ?_)
      · skip
        refine lv_iconst (v := 0) hx hb_ dX1_addCue_34 (by decide) ?_
        refine lv_istore (lv' := [(5, .int 0), (0, .ref y_), (1, .int k_), (2, .int p_), (3, .int o_), (4, .int w_)]) hx hb_ dX1_addCue_35 hl (by decide) rfl (fun ls hl => ?_)
        refine lv_iload_n hx hb_ dX1_addCue_37 rfl (lv_at hl 3 rfl) ?_
        refine vp_callSi (W.runS (As := [.int p_]) (rest := []) ⟨hx, hb_, hml, hown, hts⟩ (c_X1_isPlayer l p_) (va_cwS 1 hts gX1_addCue_X1_isPlayer rfl rfl rfl (by decide +kernel) ⟨Nat.le_of_ble_eq_true rfl, Nat.le_of_ble_eq_true rfl⟩) (pN_S) rfl rfl hl.1 rfl (lv_room (Nat.le_of_ble_eq_true rfl)) dX1_addCue_38 ⟨Nat.zero_le _, Nat.zero_le _⟩) (fun r_38 h_38 => ?_)
        refine lv_if_eq (tgt := 71) hx hb_ dX1_addCue_41 (by decide) (fun c_41 => ?_) (fun c_41 => ?_)
        · skip
          have b_38 := cif_b0 h_38 c_41
          refine lv_aload_n hx hb_ dX1_addCue_71 rfl (lv_at hl 1 rfl) ?_
          refine lv_iconst (v := 2) hx hb_ dX1_addCue_72 (by decide) ?_
          have hFc := wfree hD hS_ hA
          refine va_calli (va_runV (As := [.int 2]) (rest := []) ⟨hx, hb_, hml, hown, hts⟩ (c_X1_fails l D cI y_ b_ S 0 H.size 2) (cwV 1 hts gX1_addCue_X1_fails rfl rfl rfl (by decide +kernel) ⟨Nat.le_of_ble_eq_true rfl, Nat.le_of_ble_eq_true rfl⟩) (pW_V (ci := 1) hP hK_ hD rfl rfl) rfl rfl hl.1 rfl (lv_room (Nat.le_of_ble_eq_true rfl)) dX1_addCue_73 ⟨Nat.zero_le _, Nat.zero_le _⟩) hS_ (fun q_ _ h_ => hFc q_ h_) hFc (fun r_73 u_73 t9 H1 locs ht9 hvm9 h_73 hB9 hz9 hk9 hS_ => ?_)
          obtain ⟨e_73, h_73⟩ := h_73
          subst e_73
          subst h_73
          have hP : va_P D vwCl (wM cI y_ b_ S 2) H1 := atW_P hB9 ht9
          have hD : va_D A (wM cI y_ b_ S 2) := atW_D hB9 hFc
          generalize H1 = H at hP hS_ ⊢
          exact W.iret (v := 0) hx hb_ hr (fun t_ ht hW => ⟨⟨_, (S, 2), rfl, (cif_t ⟨b_8.1, Int32.not_lt.mp b_8.2⟩).trans (cif_f (fun h_ => b_38 h_.1)), by rw [ht]; exact hP, hD⟩, hS_.F ht⟩) hS_.2.2 dX1_addCue_76
        · skip
          have b_38 := cif_b1 h_38 c_41
          refine lv_iload hx hb_ dX1_addCue_44 (lv_at hl 0 rfl) ?_
          refine lv_if_eq (tgt := 56) hx hb_ dX1_addCue_46 (by decide) (fun c_46 => ?_) (fun c_46 => ?_)
          · skip
            have ho : k_ = 2 ∨ k_ = 4 → vp_in o_ 6 := fun z_ => (z_.elim c_22 c_27).elim
            refine lv_iload hx hb_ dX1_addCue_56 (lv_at hl 5 rfl) ?_
            refine lv_iconst (v := (-1)) hx hb_ dX1_addCue_58 (by decide) ?_
            refine lv_aload_n hx hb_ dX1_addCue_59 rfl (lv_at hl 1 rfl) ?_
            have hf60 := hts (.fieldLink RX1 60 "ClockmaskModel" "many" "I") (by decide +kernel)
            refine va_get (D := D) (ci := 1) (v := .int (S 10 0)) (C := RX1) (T := TX1) (N := 18) hx hb_ hts hin hown hK_ hP 0 rfl rfl 10 (by decide) hf60 (fun _ h9 => h9) rfl dX1_addCue_60 ?_
            refine lv_iconst (v := 1) hx hb_ dX1_addCue_63 (by decide) ?_
            refine lv_isub hx hb_ dX1_addCue_64 ?_
            refine vp_callSi (W.runS (As := [.int w_, .int (-1), .int ((S 10 0) - 1)]) (rest := []) ⟨hx, hb_, hml, hown, hts⟩ (c_X1_in l w_ (-1) ((S 10 0) - 1)) (va_cwS 3 hts gX1_addCue_X1_in rfl rfl rfl (by decide +kernel) ⟨Nat.le_of_ble_eq_true rfl, Nat.le_of_ble_eq_true rfl⟩) (pN_S) rfl rfl hl.1 rfl (lv_room (Nat.le_of_ble_eq_true rfl)) dX1_addCue_65 ⟨Nat.zero_le _, Nat.zero_le _⟩) (fun r_65 h_65 => ?_)
            refine lv_if_ne (tgt := 77) hx hb_ dX1_addCue_68 (by decide) (fun c_68 => ?_) (fun c_68 => ?_)
            · skip
              have b_65 := cif_b1 h_65 c_68
              have hw : w_ = -1 ∨ vp_in w_ (many S) := (inW_iff hI_.me hI_.m24).mp b_65
              refine lv_aload_n hx hb_ dX1_addCue_77 rfl (lv_at hl 1 rfl) ?_
              refine va_get (D := D) (ci := 1) (v := .int (S 10 0)) (C := RX1) (T := TX1) (N := 18) hx hb_ hts hin hown hK_ hP 0 rfl rfl 10 (by decide) hf60 (fun _ h9 => h9) rfl dX1_addCue_78 ?_
              refine lv_bipush (v := 24) hx hb_ dX1_addCue_81 (by decide) ?_
              refine lv_icmp_eq (tgt := 113) hx hb_ dX1_addCue_83 (by decide) (fun c_83 => ?_) (fun c_83 => ?_)
              · skip
                refine lv_aload_n hx hb_ dX1_addCue_113 rfl (lv_at hl 1 rfl) ?_
                refine lv_iconst (v := 3) hx hb_ dX1_addCue_114 (by decide) ?_
                have hFc := wfree hD hS_ hA
                refine va_calli (va_runV (As := [.int 3]) (rest := []) ⟨hx, hb_, hml, hown, hts⟩ (c_X1_fails l D cI y_ b_ S 0 H.size 3) (cwV 1 hts gX1_addCue_X1_fails rfl rfl rfl (by decide +kernel) ⟨Nat.le_of_ble_eq_true rfl, Nat.le_of_ble_eq_true rfl⟩) (pW_V (ci := 1) hP hK_ hD rfl rfl) rfl rfl hl.1 rfl (lv_room (Nat.le_of_ble_eq_true rfl)) dX1_addCue_115 ⟨Nat.zero_le _, Nat.zero_le _⟩) hS_ (fun q_ _ h_ => hFc q_ h_) hFc (fun r_115 u_115 t9 H1 locs ht9 hvm9 h_115 hB9 hz9 hk9 hS_ => ?_)
                obtain ⟨e_115, h_115⟩ := h_115
                subst e_115
                subst h_115
                have hP : va_P D vwCl (wM cI y_ b_ S 3) H1 := atW_P hB9 ht9
                have hD : va_D A (wM cI y_ b_ S 3) := atW_D hB9 hFc
                generalize H1 = H at hP hS_ ⊢
                exact W.iret (v := 0) hx hb_ hr (fun t_ ht hW => ⟨⟨_, (S, 3), rfl, (cif_t ⟨b_8.1, Int32.not_lt.mp b_8.2⟩).trans ((cif_t ⟨b_38, ho, hw⟩).trans (cif_f (fun h_ => absurd h_.1 (by rw [c_83]; decide)))), by rw [ht]; exact hP, hD⟩, hS_.F ht⟩) hS_.2.2 dX1_addCue_118
              · skip
                have h24 : S 10 0 < 24 := hI_.ne24 c_83
                have hc24 := hI_.lt24 h24
                refine lv_iload_n hx hb_ dX1_addCue_86 rfl (lv_at hl 2 rfl) ?_
                refine lv_iconst (v := 4) hx hb_ dX1_addCue_87 (by decide) ?_
                refine lv_icmp_ne (tgt := 96) hx hb_ dX1_addCue_88 (by decide) (fun c_88 => ?_) (fun c_88 => ?_)
                · skip
                  have hn : ¬ (k_ = 4 ∧ p_ = o_) := fun z_ => c_88 z_.1
                  refine lv_iload hx hb_ dX1_addCue_96 (lv_at hl 5 rfl) ?_
                  refine lv_iconst (v := (-1)) hx hb_ dX1_addCue_98 (by decide) ?_
                  refine lv_icmp_eq (tgt := 119) hx hb_ dX1_addCue_99 (by decide) (fun c_99 => ?_) (fun c_99 => ?_)
                  · skip
                    have hw3 : w_ = -1 ∨ S 8 w_.toNatClampNeg ≠ 2 := Or.inl c_99
                    refine lv_aload_n hx hb_ dX1_addCue_119 rfl (lv_at hl 1 rfl) ?_
                    have hf22 := hts (.fieldLink RX1 22 "ClockmaskModel" "kinds" "[I") (by decide +kernel)
                    refine va_get (D := D) (ci := 1) (v := .ref (b_ 4)) (C := RX1) (T := TX1) (N := 18) hx hb_ hts hin hown hK_ hP 0 rfl rfl 4 (by decide) hf22 (fun _ h9 => h9) rfl dX1_addCue_120 ?_
                    refine lv_aload_n hx hb_ dX1_addCue_123 rfl (lv_at hl 1 rfl) ?_
                    refine va_get (D := D) (ci := 1) (v := .int (S 10 0)) (C := RX1) (T := TX1) (N := 18) hx hb_ hts hin hown hK_ hP 0 rfl rfl 10 (by decide) hf60 (fun _ h9 => h9) rfl dX1_addCue_124 ?_
                    refine lv_iload_n hx hb_ dX1_addCue_127 rfl (lv_at hl 2 rfl) ?_
                    refine va_iast (f := S 4) (n := 24) hx hb_ hK_ hP hD hS_ 5 0 rfl rfl (by assumption) dX1_addCue_128 (fun H locs hP hD hS_ => ?_)
                    have hP : va_P D vwCl (wMr cI y_ b_ (S 0) (S 1) (S 2) (S 3) (upd (S 4) (S 10 0).toNatClampNeg k_) (S 5) (S 6) (S 7) (S 8) (S 9) (S 10 0) (S 11 0) (S 12) (S 13) (S 14 0) (S 15 0) (S 16) 0) H := hP
                    have hD : va_D A (wMr cI y_ b_ (S 0) (S 1) (S 2) (S 3) (upd (S 4) (S 10 0).toNatClampNeg k_) (S 5) (S 6) (S 7) (S 8) (S 9) (S 10 0) (S 11 0) (S 12) (S 13) (S 14 0) (S 15 0) (S 16) 0) := hD
                    refine lv_aload_n hx hb_ dX1_addCue_129 rfl (lv_at hl 1 rfl) ?_
                    have hf25 := hts (.fieldLink RX1 25 "ClockmaskModel" "players" "[I") (by decide +kernel)
                    refine va_get (D := D) (ci := 1) (v := .ref (b_ 5)) (C := RX1) (T := TX1) (N := 18) hx hb_ hts hin hown hK_ hP 0 rfl rfl 5 (by decide) hf25 (fun _ h9 => h9) rfl dX1_addCue_130 ?_
                    refine lv_aload_n hx hb_ dX1_addCue_133 rfl (lv_at hl 1 rfl) ?_
                    refine va_get (D := D) (ci := 1) (v := .int (S 10 0)) (C := RX1) (T := TX1) (N := 18) hx hb_ hts hin hown hK_ hP 0 rfl rfl 10 (by decide) hf60 (fun _ h9 => h9) rfl dX1_addCue_134 ?_
                    refine lv_iload_n hx hb_ dX1_addCue_137 rfl (lv_at hl 3 rfl) ?_
                    refine va_iast (f := S 5) (n := 24) hx hb_ hK_ hP hD hS_ 6 0 rfl rfl (by assumption) dX1_addCue_138 (fun H locs hP hD hS_ => ?_)
                    have hP : va_P D vwCl (wMr cI y_ b_ (S 0) (S 1) (S 2) (S 3) (upd (S 4) (S 10 0).toNatClampNeg k_) (upd (S 5) (S 10 0).toNatClampNeg p_) (S 6) (S 7) (S 8) (S 9) (S 10 0) (S 11 0) (S 12) (S 13) (S 14 0) (S 15 0) (S 16) 0) H := hP
                    have hD : va_D A (wMr cI y_ b_ (S 0) (S 1) (S 2) (S 3) (upd (S 4) (S 10 0).toNatClampNeg k_) (upd (S 5) (S 10 0).toNatClampNeg p_) (S 6) (S 7) (S 8) (S 9) (S 10 0) (S 11 0) (S 12) (S 13) (S 14 0) (S 15 0) (S 16) 0) := hD
                    refine lv_aload_n hx hb_ dX1_addCue_139 rfl (lv_at hl 1 rfl) ?_
                    have hf28 := hts (.fieldLink RX1 28 "ClockmaskModel" "others" "[I") (by decide +kernel)
                    refine va_get (D := D) (ci := 1) (v := .ref (b_ 6)) (C := RX1) (T := TX1) (N := 18) hx hb_ hts hin hown hK_ hP 0 rfl rfl 6 (by decide) hf28 (fun _ h9 => h9) rfl dX1_addCue_140 ?_
                    refine lv_aload_n hx hb_ dX1_addCue_143 rfl (lv_at hl 1 rfl) ?_
                    refine va_get (D := D) (ci := 1) (v := .int (S 10 0)) (C := RX1) (T := TX1) (N := 18) hx hb_ hts hin hown hK_ hP 0 rfl rfl 10 (by decide) hf60 (fun _ h9 => h9) rfl dX1_addCue_144 ?_
                    refine lv_iload_n hx hb_ dX1_addCue_147 rfl (lv_at hl 4 rfl) ?_
                    refine va_iast (f := S 6) (n := 24) hx hb_ hK_ hP hD hS_ 7 0 rfl rfl (by assumption) dX1_addCue_148 (fun H locs hP hD hS_ => ?_)
                    have hP : va_P D vwCl (wMr cI y_ b_ (S 0) (S 1) (S 2) (S 3) (upd (S 4) (S 10 0).toNatClampNeg k_) (upd (S 5) (S 10 0).toNatClampNeg p_) (upd (S 6) (S 10 0).toNatClampNeg o_) (S 7) (S 8) (S 9) (S 10 0) (S 11 0) (S 12) (S 13) (S 14 0) (S 15 0) (S 16) 0) H := hP
                    have hD : va_D A (wMr cI y_ b_ (S 0) (S 1) (S 2) (S 3) (upd (S 4) (S 10 0).toNatClampNeg k_) (upd (S 5) (S 10 0).toNatClampNeg p_) (upd (S 6) (S 10 0).toNatClampNeg o_) (S 7) (S 8) (S 9) (S 10 0) (S 11 0) (S 12) (S 13) (S 14 0) (S 15 0) (S 16) 0) := hD
                    refine lv_aload_n hx hb_ dX1_addCue_149 rfl (lv_at hl 1 rfl) ?_
                    have hf31 := hts (.fieldLink RX1 31 "ClockmaskModel" "waitsFor" "[I") (by decide +kernel)
                    refine va_get (D := D) (ci := 1) (v := .ref (b_ 7)) (C := RX1) (T := TX1) (N := 18) hx hb_ hts hin hown hK_ hP 0 rfl rfl 7 (by decide) hf31 (fun _ h9 => h9) rfl dX1_addCue_150 ?_
                    refine lv_aload_n hx hb_ dX1_addCue_153 rfl (lv_at hl 1 rfl) ?_
                    refine va_get (D := D) (ci := 1) (v := .int (S 10 0)) (C := RX1) (T := TX1) (N := 18) hx hb_ hts hin hown hK_ hP 0 rfl rfl 10 (by decide) hf60 (fun _ h9 => h9) rfl dX1_addCue_154 ?_
                    refine lv_iload hx hb_ dX1_addCue_157 (lv_at hl 5 rfl) ?_
                    refine va_iast (f := S 7) (n := 24) hx hb_ hK_ hP hD hS_ 8 0 rfl rfl (by assumption) dX1_addCue_159 (fun H locs hP hD hS_ => ?_)
                    have hP : va_P D vwCl (wMr cI y_ b_ (S 0) (S 1) (S 2) (S 3) (upd (S 4) (S 10 0).toNatClampNeg k_) (upd (S 5) (S 10 0).toNatClampNeg p_) (upd (S 6) (S 10 0).toNatClampNeg o_) (upd (S 7) (S 10 0).toNatClampNeg w_) (S 8) (S 9) (S 10 0) (S 11 0) (S 12) (S 13) (S 14 0) (S 15 0) (S 16) 0) H := hP
                    have hD : va_D A (wMr cI y_ b_ (S 0) (S 1) (S 2) (S 3) (upd (S 4) (S 10 0).toNatClampNeg k_) (upd (S 5) (S 10 0).toNatClampNeg p_) (upd (S 6) (S 10 0).toNatClampNeg o_) (upd (S 7) (S 10 0).toNatClampNeg w_) (S 8) (S 9) (S 10 0) (S 11 0) (S 12) (S 13) (S 14 0) (S 15 0) (S 16) 0) := hD
                    refine lv_aload_n hx hb_ dX1_addCue_160 rfl (lv_at hl 1 rfl) ?_
                    have hf34 := hts (.fieldLink RX1 34 "ClockmaskModel" "states" "[I") (by decide +kernel)
                    refine va_get (D := D) (ci := 1) (v := .ref (b_ 8)) (C := RX1) (T := TX1) (N := 18) hx hb_ hts hin hown hK_ hP 0 rfl rfl 8 (by decide) hf34 (fun _ h9 => h9) rfl dX1_addCue_161 ?_
                    refine lv_aload_n hx hb_ dX1_addCue_164 rfl (lv_at hl 1 rfl) ?_
                    refine va_get (D := D) (ci := 1) (v := .int (S 10 0)) (C := RX1) (T := TX1) (N := 18) hx hb_ hts hin hown hK_ hP 0 rfl rfl 10 (by decide) hf60 (fun _ h9 => h9) rfl dX1_addCue_165 ?_
                    refine lv_iconst (v := 0) hx hb_ dX1_addCue_168 (by decide) ?_
                    refine va_iast (f := S 8) (n := 24) hx hb_ hK_ hP hD hS_ 9 0 rfl rfl (by assumption) dX1_addCue_169 (fun H locs hP hD hS_ => ?_)
                    have hP : va_P D vwCl (wMr cI y_ b_ (S 0) (S 1) (S 2) (S 3) (upd (S 4) (S 10 0).toNatClampNeg k_) (upd (S 5) (S 10 0).toNatClampNeg p_) (upd (S 6) (S 10 0).toNatClampNeg o_) (upd (S 7) (S 10 0).toNatClampNeg w_) (upd (S 8) (S 10 0).toNatClampNeg 0) (S 9) (S 10 0) (S 11 0) (S 12) (S 13) (S 14 0) (S 15 0) (S 16) 0) H := hP
                    have hD : va_D A (wMr cI y_ b_ (S 0) (S 1) (S 2) (S 3) (upd (S 4) (S 10 0).toNatClampNeg k_) (upd (S 5) (S 10 0).toNatClampNeg p_) (upd (S 6) (S 10 0).toNatClampNeg o_) (upd (S 7) (S 10 0).toNatClampNeg w_) (upd (S 8) (S 10 0).toNatClampNeg 0) (S 9) (S 10 0) (S 11 0) (S 12) (S 13) (S 14 0) (S 15 0) (S 16) 0) := hD
                    refine lv_aload_n hx hb_ dX1_addCue_170 rfl (lv_at hl 1 rfl) ?_
                    refine lv_dup hx hb_ dX1_addCue_171 rfl ?_
                    refine va_get (D := D) (ci := 1) (v := .int (S 10 0)) (C := RX1) (T := TX1) (N := 18) hx hb_ hts hin hown hK_ hP 0 rfl rfl 10 (by decide) hf60 (fun _ h9 => h9) rfl dX1_addCue_172 ?_
                    refine lv_iconst (v := 1) hx hb_ dX1_addCue_175 (by decide) ?_
                    refine lv_iadd hx hb_ dX1_addCue_176 ?_
                    refine va_put (D := D) (ci := 1) (v := .int ((S 10 0) + 1)) (ty := .int) (C := RX1) (T := TX1) (N := 18) hx hb_ hts hin tyX1 tyX1_ok nmX1 hown hK_ hP hD hS_ 0 rfl rfl 10 (by decide) hf60 (fun _ h9 => h9) rfl (by decide +kernel) rfl rfl (Nat.le_of_ble_eq_true rfl) dX1_addCue_177 (fun H locs hP hD hS_ => ?_)
                    have hP : va_P D vwCl (wMr cI y_ b_ (S 0) (S 1) (S 2) (S 3) (upd (S 4) (S 10 0).toNatClampNeg k_) (upd (S 5) (S 10 0).toNatClampNeg p_) (upd (S 6) (S 10 0).toNatClampNeg o_) (upd (S 7) (S 10 0).toNatClampNeg w_) (upd (S 8) (S 10 0).toNatClampNeg 0) (S 9) ((S 10 0) + 1) (S 11 0) (S 12) (S 13) (S 14 0) (S 15 0) (S 16) 0) H := hP
                    have hD : va_D A (wMr cI y_ b_ (S 0) (S 1) (S 2) (S 3) (upd (S 4) (S 10 0).toNatClampNeg k_) (upd (S 5) (S 10 0).toNatClampNeg p_) (upd (S 6) (S 10 0).toNatClampNeg o_) (upd (S 7) (S 10 0).toNatClampNeg w_) (upd (S 8) (S 10 0).toNatClampNeg 0) (S 9) ((S 10 0) + 1) (S 11 0) (S 12) (S 13) (S 14 0) (S 15 0) (S 16) 0) := hD
                    refine lv_aload_n hx hb_ dX1_addCue_180 rfl (lv_at hl 1 rfl) ?_
                    refine va_get (D := D) (ci := 1) (v := .int ((S 10 0) + 1)) (C := RX1) (T := TX1) (N := 18) hx hb_ hts hin hown hK_ hP 0 rfl rfl 10 (by decide) hf60 (fun _ h9 => h9) rfl dX1_addCue_181 ?_
                    refine lv_iconst (v := 1) hx hb_ dX1_addCue_184 (by decide) ?_
                    refine lv_isub hx hb_ dX1_addCue_185 ?_
                    exact W.iret (v := ((S 10 0) + 1) - 1) hx hb_ hr (fun t_ ht hW => ⟨⟨_, (row (row (row (row (row (row S 4 (upd (S 4) (S 10 0).toNatClampNeg k_)) 5 (upd (S 5) (S 10 0).toNatClampNeg p_)) 6 (upd (S 6) (S 10 0).toNatClampNeg o_)) 7 (upd (S 7) (S 10 0).toNatClampNeg w_)) 8 (upd (S 8) (S 10 0).toNatClampNeg 0)) 10 (kf ((S 10 0) + 1)), 0), rfl, by rw [Int32.add_sub_cancel]; exact (cif_t ⟨b_8.1, Int32.not_lt.mp b_8.2⟩).trans ((cif_t ⟨b_38, ho, hw⟩).trans (cif_t ⟨h24, hn, hw3⟩)), by rw [ht]; exact hP, hD⟩, hS_.F ht⟩) hS_.2.2 dX1_addCue_186
                  · skip
                    refine lv_aload_n hx hb_ dX1_addCue_102 rfl (lv_at hl 1 rfl) ?_
                    have hf34 := hts (.fieldLink RX1 34 "ClockmaskModel" "states" "[I") (by decide +kernel)
                    refine va_get (D := D) (ci := 1) (v := .ref (b_ 8)) (C := RX1) (T := TX1) (N := 18) hx hb_ hts hin hown hK_ hP 0 rfl rfl 8 (by decide) hf34 (fun _ h9 => h9) rfl dX1_addCue_103 ?_
                    refine lv_iload hx hb_ dX1_addCue_106 (lv_at hl 5 rfl) ?_
                    refine va_iald (f := S 8) (n := 24) hx hb_ hK_ hP 9 0 rfl rfl (hI_.q24 (hw.resolve_left c_99)) dX1_addCue_108 ?_
                    refine lv_iconst (v := 2) hx hb_ dX1_addCue_109 (by decide) ?_
                    refine lv_icmp_ne (tgt := 119) hx hb_ dX1_addCue_110 (by decide) (fun c_110 => ?_) (fun c_110 => ?_)
                    · skip
                      have hw3 : w_ = -1 ∨ S 8 w_.toNatClampNeg ≠ 2 := Or.inr c_110
                      refine lv_aload_n hx hb_ dX1_addCue_119 rfl (lv_at hl 1 rfl) ?_
                      have hf22 := hts (.fieldLink RX1 22 "ClockmaskModel" "kinds" "[I") (by decide +kernel)
                      refine va_get (D := D) (ci := 1) (v := .ref (b_ 4)) (C := RX1) (T := TX1) (N := 18) hx hb_ hts hin hown hK_ hP 0 rfl rfl 4 (by decide) hf22 (fun _ h9 => h9) rfl dX1_addCue_120 ?_
                      refine lv_aload_n hx hb_ dX1_addCue_123 rfl (lv_at hl 1 rfl) ?_
                      refine va_get (D := D) (ci := 1) (v := .int (S 10 0)) (C := RX1) (T := TX1) (N := 18) hx hb_ hts hin hown hK_ hP 0 rfl rfl 10 (by decide) hf60 (fun _ h9 => h9) rfl dX1_addCue_124 ?_
                      refine lv_iload_n hx hb_ dX1_addCue_127 rfl (lv_at hl 2 rfl) ?_
                      refine va_iast (f := S 4) (n := 24) hx hb_ hK_ hP hD hS_ 5 0 rfl rfl (by assumption) dX1_addCue_128 (fun H locs hP hD hS_ => ?_)
                      have hP : va_P D vwCl (wMr cI y_ b_ (S 0) (S 1) (S 2) (S 3) (upd (S 4) (S 10 0).toNatClampNeg k_) (S 5) (S 6) (S 7) (S 8) (S 9) (S 10 0) (S 11 0) (S 12) (S 13) (S 14 0) (S 15 0) (S 16) 0) H := hP
                      have hD : va_D A (wMr cI y_ b_ (S 0) (S 1) (S 2) (S 3) (upd (S 4) (S 10 0).toNatClampNeg k_) (S 5) (S 6) (S 7) (S 8) (S 9) (S 10 0) (S 11 0) (S 12) (S 13) (S 14 0) (S 15 0) (S 16) 0) := hD
                      refine lv_aload_n hx hb_ dX1_addCue_129 rfl (lv_at hl 1 rfl) ?_
                      have hf25 := hts (.fieldLink RX1 25 "ClockmaskModel" "players" "[I") (by decide +kernel)
                      refine va_get (D := D) (ci := 1) (v := .ref (b_ 5)) (C := RX1) (T := TX1) (N := 18) hx hb_ hts hin hown hK_ hP 0 rfl rfl 5 (by decide) hf25 (fun _ h9 => h9) rfl dX1_addCue_130 ?_
                      refine lv_aload_n hx hb_ dX1_addCue_133 rfl (lv_at hl 1 rfl) ?_
                      refine va_get (D := D) (ci := 1) (v := .int (S 10 0)) (C := RX1) (T := TX1) (N := 18) hx hb_ hts hin hown hK_ hP 0 rfl rfl 10 (by decide) hf60 (fun _ h9 => h9) rfl dX1_addCue_134 ?_
                      refine lv_iload_n hx hb_ dX1_addCue_137 rfl (lv_at hl 3 rfl) ?_
                      refine va_iast (f := S 5) (n := 24) hx hb_ hK_ hP hD hS_ 6 0 rfl rfl (by assumption) dX1_addCue_138 (fun H locs hP hD hS_ => ?_)
                      have hP : va_P D vwCl (wMr cI y_ b_ (S 0) (S 1) (S 2) (S 3) (upd (S 4) (S 10 0).toNatClampNeg k_) (upd (S 5) (S 10 0).toNatClampNeg p_) (S 6) (S 7) (S 8) (S 9) (S 10 0) (S 11 0) (S 12) (S 13) (S 14 0) (S 15 0) (S 16) 0) H := hP
                      have hD : va_D A (wMr cI y_ b_ (S 0) (S 1) (S 2) (S 3) (upd (S 4) (S 10 0).toNatClampNeg k_) (upd (S 5) (S 10 0).toNatClampNeg p_) (S 6) (S 7) (S 8) (S 9) (S 10 0) (S 11 0) (S 12) (S 13) (S 14 0) (S 15 0) (S 16) 0) := hD
                      refine lv_aload_n hx hb_ dX1_addCue_139 rfl (lv_at hl 1 rfl) ?_
                      have hf28 := hts (.fieldLink RX1 28 "ClockmaskModel" "others" "[I") (by decide +kernel)
                      refine va_get (D := D) (ci := 1) (v := .ref (b_ 6)) (C := RX1) (T := TX1) (N := 18) hx hb_ hts hin hown hK_ hP 0 rfl rfl 6 (by decide) hf28 (fun _ h9 => h9) rfl dX1_addCue_140 ?_
                      refine lv_aload_n hx hb_ dX1_addCue_143 rfl (lv_at hl 1 rfl) ?_
                      refine va_get (D := D) (ci := 1) (v := .int (S 10 0)) (C := RX1) (T := TX1) (N := 18) hx hb_ hts hin hown hK_ hP 0 rfl rfl 10 (by decide) hf60 (fun _ h9 => h9) rfl dX1_addCue_144 ?_
                      refine lv_iload_n hx hb_ dX1_addCue_147 rfl (lv_at hl 4 rfl) ?_
                      refine va_iast (f := S 6) (n := 24) hx hb_ hK_ hP hD hS_ 7 0 rfl rfl (by assumption) dX1_addCue_148 (fun H locs hP hD hS_ => ?_)
                      have hP : va_P D vwCl (wMr cI y_ b_ (S 0) (S 1) (S 2) (S 3) (upd (S 4) (S 10 0).toNatClampNeg k_) (upd (S 5) (S 10 0).toNatClampNeg p_) (upd (S 6) (S 10 0).toNatClampNeg o_) (S 7) (S 8) (S 9) (S 10 0) (S 11 0) (S 12) (S 13) (S 14 0) (S 15 0) (S 16) 0) H := hP
                      have hD : va_D A (wMr cI y_ b_ (S 0) (S 1) (S 2) (S 3) (upd (S 4) (S 10 0).toNatClampNeg k_) (upd (S 5) (S 10 0).toNatClampNeg p_) (upd (S 6) (S 10 0).toNatClampNeg o_) (S 7) (S 8) (S 9) (S 10 0) (S 11 0) (S 12) (S 13) (S 14 0) (S 15 0) (S 16) 0) := hD
                      refine lv_aload_n hx hb_ dX1_addCue_149 rfl (lv_at hl 1 rfl) ?_
                      have hf31 := hts (.fieldLink RX1 31 "ClockmaskModel" "waitsFor" "[I") (by decide +kernel)
                      refine va_get (D := D) (ci := 1) (v := .ref (b_ 7)) (C := RX1) (T := TX1) (N := 18) hx hb_ hts hin hown hK_ hP 0 rfl rfl 7 (by decide) hf31 (fun _ h9 => h9) rfl dX1_addCue_150 ?_
                      refine lv_aload_n hx hb_ dX1_addCue_153 rfl (lv_at hl 1 rfl) ?_
                      refine va_get (D := D) (ci := 1) (v := .int (S 10 0)) (C := RX1) (T := TX1) (N := 18) hx hb_ hts hin hown hK_ hP 0 rfl rfl 10 (by decide) hf60 (fun _ h9 => h9) rfl dX1_addCue_154 ?_
                      refine lv_iload hx hb_ dX1_addCue_157 (lv_at hl 5 rfl) ?_
                      refine va_iast (f := S 7) (n := 24) hx hb_ hK_ hP hD hS_ 8 0 rfl rfl (by assumption) dX1_addCue_159 (fun H locs hP hD hS_ => ?_)
                      have hP : va_P D vwCl (wMr cI y_ b_ (S 0) (S 1) (S 2) (S 3) (upd (S 4) (S 10 0).toNatClampNeg k_) (upd (S 5) (S 10 0).toNatClampNeg p_) (upd (S 6) (S 10 0).toNatClampNeg o_) (upd (S 7) (S 10 0).toNatClampNeg w_) (S 8) (S 9) (S 10 0) (S 11 0) (S 12) (S 13) (S 14 0) (S 15 0) (S 16) 0) H := hP
                      have hD : va_D A (wMr cI y_ b_ (S 0) (S 1) (S 2) (S 3) (upd (S 4) (S 10 0).toNatClampNeg k_) (upd (S 5) (S 10 0).toNatClampNeg p_) (upd (S 6) (S 10 0).toNatClampNeg o_) (upd (S 7) (S 10 0).toNatClampNeg w_) (S 8) (S 9) (S 10 0) (S 11 0) (S 12) (S 13) (S 14 0) (S 15 0) (S 16) 0) := hD
                      refine lv_aload_n hx hb_ dX1_addCue_160 rfl (lv_at hl 1 rfl) ?_
                      refine va_get (D := D) (ci := 1) (v := .ref (b_ 8)) (C := RX1) (T := TX1) (N := 18) hx hb_ hts hin hown hK_ hP 0 rfl rfl 8 (by decide) hf34 (fun _ h9 => h9) rfl dX1_addCue_161 ?_
                      refine lv_aload_n hx hb_ dX1_addCue_164 rfl (lv_at hl 1 rfl) ?_
                      refine va_get (D := D) (ci := 1) (v := .int (S 10 0)) (C := RX1) (T := TX1) (N := 18) hx hb_ hts hin hown hK_ hP 0 rfl rfl 10 (by decide) hf60 (fun _ h9 => h9) rfl dX1_addCue_165 ?_
                      refine lv_iconst (v := 0) hx hb_ dX1_addCue_168 (by decide) ?_
                      refine va_iast (f := S 8) (n := 24) hx hb_ hK_ hP hD hS_ 9 0 rfl rfl (by assumption) dX1_addCue_169 (fun H locs hP hD hS_ => ?_)
                      have hP : va_P D vwCl (wMr cI y_ b_ (S 0) (S 1) (S 2) (S 3) (upd (S 4) (S 10 0).toNatClampNeg k_) (upd (S 5) (S 10 0).toNatClampNeg p_) (upd (S 6) (S 10 0).toNatClampNeg o_) (upd (S 7) (S 10 0).toNatClampNeg w_) (upd (S 8) (S 10 0).toNatClampNeg 0) (S 9) (S 10 0) (S 11 0) (S 12) (S 13) (S 14 0) (S 15 0) (S 16) 0) H := hP
                      have hD : va_D A (wMr cI y_ b_ (S 0) (S 1) (S 2) (S 3) (upd (S 4) (S 10 0).toNatClampNeg k_) (upd (S 5) (S 10 0).toNatClampNeg p_) (upd (S 6) (S 10 0).toNatClampNeg o_) (upd (S 7) (S 10 0).toNatClampNeg w_) (upd (S 8) (S 10 0).toNatClampNeg 0) (S 9) (S 10 0) (S 11 0) (S 12) (S 13) (S 14 0) (S 15 0) (S 16) 0) := hD
                      refine lv_aload_n hx hb_ dX1_addCue_170 rfl (lv_at hl 1 rfl) ?_
                      refine lv_dup hx hb_ dX1_addCue_171 rfl ?_
                      refine va_get (D := D) (ci := 1) (v := .int (S 10 0)) (C := RX1) (T := TX1) (N := 18) hx hb_ hts hin hown hK_ hP 0 rfl rfl 10 (by decide) hf60 (fun _ h9 => h9) rfl dX1_addCue_172 ?_
                      refine lv_iconst (v := 1) hx hb_ dX1_addCue_175 (by decide) ?_
                      refine lv_iadd hx hb_ dX1_addCue_176 ?_
                      refine va_put (D := D) (ci := 1) (v := .int ((S 10 0) + 1)) (ty := .int) (C := RX1) (T := TX1) (N := 18) hx hb_ hts hin tyX1 tyX1_ok nmX1 hown hK_ hP hD hS_ 0 rfl rfl 10 (by decide) hf60 (fun _ h9 => h9) rfl (by decide +kernel) rfl rfl (Nat.le_of_ble_eq_true rfl) dX1_addCue_177 (fun H locs hP hD hS_ => ?_)
                      have hP : va_P D vwCl (wMr cI y_ b_ (S 0) (S 1) (S 2) (S 3) (upd (S 4) (S 10 0).toNatClampNeg k_) (upd (S 5) (S 10 0).toNatClampNeg p_) (upd (S 6) (S 10 0).toNatClampNeg o_) (upd (S 7) (S 10 0).toNatClampNeg w_) (upd (S 8) (S 10 0).toNatClampNeg 0) (S 9) ((S 10 0) + 1) (S 11 0) (S 12) (S 13) (S 14 0) (S 15 0) (S 16) 0) H := hP
                      have hD : va_D A (wMr cI y_ b_ (S 0) (S 1) (S 2) (S 3) (upd (S 4) (S 10 0).toNatClampNeg k_) (upd (S 5) (S 10 0).toNatClampNeg p_) (upd (S 6) (S 10 0).toNatClampNeg o_) (upd (S 7) (S 10 0).toNatClampNeg w_) (upd (S 8) (S 10 0).toNatClampNeg 0) (S 9) ((S 10 0) + 1) (S 11 0) (S 12) (S 13) (S 14 0) (S 15 0) (S 16) 0) := hD
                      refine lv_aload_n hx hb_ dX1_addCue_180 rfl (lv_at hl 1 rfl) ?_
                      refine va_get (D := D) (ci := 1) (v := .int ((S 10 0) + 1)) (C := RX1) (T := TX1) (N := 18) hx hb_ hts hin hown hK_ hP 0 rfl rfl 10 (by decide) hf60 (fun _ h9 => h9) rfl dX1_addCue_181 ?_
                      refine lv_iconst (v := 1) hx hb_ dX1_addCue_184 (by decide) ?_
                      refine lv_isub hx hb_ dX1_addCue_185 ?_
                      exact W.iret (v := ((S 10 0) + 1) - 1) hx hb_ hr (fun t_ ht hW => ⟨⟨_, (row (row (row (row (row (row S 4 (upd (S 4) (S 10 0).toNatClampNeg k_)) 5 (upd (S 5) (S 10 0).toNatClampNeg p_)) 6 (upd (S 6) (S 10 0).toNatClampNeg o_)) 7 (upd (S 7) (S 10 0).toNatClampNeg w_)) 8 (upd (S 8) (S 10 0).toNatClampNeg 0)) 10 (kf ((S 10 0) + 1)), 0), rfl, by rw [Int32.add_sub_cancel]; exact (cif_t ⟨b_8.1, Int32.not_lt.mp b_8.2⟩).trans ((cif_t ⟨b_38, ho, hw⟩).trans (cif_t ⟨h24, hn, hw3⟩)), by rw [ht]; exact hP, hD⟩, hS_.F ht⟩) hS_.2.2 dX1_addCue_186
                    · skip
                      refine lv_aload_n hx hb_ dX1_addCue_113 rfl (lv_at hl 1 rfl) ?_
                      refine lv_iconst (v := 3) hx hb_ dX1_addCue_114 (by decide) ?_
                      have hFc := wfree hD hS_ hA
                      refine va_calli (va_runV (As := [.int 3]) (rest := []) ⟨hx, hb_, hml, hown, hts⟩ (c_X1_fails l D cI y_ b_ S 0 H.size 3) (cwV 1 hts gX1_addCue_X1_fails rfl rfl rfl (by decide +kernel) ⟨Nat.le_of_ble_eq_true rfl, Nat.le_of_ble_eq_true rfl⟩) (pW_V (ci := 1) hP hK_ hD rfl rfl) rfl rfl hl.1 rfl (lv_room (Nat.le_of_ble_eq_true rfl)) dX1_addCue_115 ⟨Nat.zero_le _, Nat.zero_le _⟩) hS_ (fun q_ _ h_ => hFc q_ h_) hFc (fun r_115 u_115 t9 H1 locs ht9 hvm9 h_115 hB9 hz9 hk9 hS_ => ?_)
                      obtain ⟨e_115, h_115⟩ := h_115
                      subst e_115
                      subst h_115
                      have hP : va_P D vwCl (wM cI y_ b_ S 3) H1 := atW_P hB9 ht9
                      have hD : va_D A (wM cI y_ b_ S 3) := atW_D hB9 hFc
                      generalize H1 = H at hP hS_ ⊢
                      exact W.iret (v := 0) hx hb_ hr (fun t_ ht hW => ⟨⟨_, (S, 3), rfl, (cif_t ⟨b_8.1, Int32.not_lt.mp b_8.2⟩).trans ((cif_t ⟨b_38, ho, hw⟩).trans (cif_f (fun h_ => h_.2.2.elim c_99 (fun z_ => z_ c_110)))), by rw [ht]; exact hP, hD⟩, hS_.F ht⟩) hS_.2.2 dX1_addCue_118
                · skip
                  refine lv_iload_n hx hb_ dX1_addCue_91 rfl (lv_at hl 3 rfl) ?_
                  refine lv_iload_n hx hb_ dX1_addCue_92 rfl (lv_at hl 4 rfl) ?_
                  refine lv_icmp_eq (tgt := 113) hx hb_ dX1_addCue_93 (by decide) (fun c_93 => ?_) (fun c_93 => ?_)
                  · skip
                    refine lv_aload_n hx hb_ dX1_addCue_113 rfl (lv_at hl 1 rfl) ?_
                    refine lv_iconst (v := 3) hx hb_ dX1_addCue_114 (by decide) ?_
                    have hFc := wfree hD hS_ hA
                    refine va_calli (va_runV (As := [.int 3]) (rest := []) ⟨hx, hb_, hml, hown, hts⟩ (c_X1_fails l D cI y_ b_ S 0 H.size 3) (cwV 1 hts gX1_addCue_X1_fails rfl rfl rfl (by decide +kernel) ⟨Nat.le_of_ble_eq_true rfl, Nat.le_of_ble_eq_true rfl⟩) (pW_V (ci := 1) hP hK_ hD rfl rfl) rfl rfl hl.1 rfl (lv_room (Nat.le_of_ble_eq_true rfl)) dX1_addCue_115 ⟨Nat.zero_le _, Nat.zero_le _⟩) hS_ (fun q_ _ h_ => hFc q_ h_) hFc (fun r_115 u_115 t9 H1 locs ht9 hvm9 h_115 hB9 hz9 hk9 hS_ => ?_)
                    obtain ⟨e_115, h_115⟩ := h_115
                    subst e_115
                    subst h_115
                    have hP : va_P D vwCl (wM cI y_ b_ S 3) H1 := atW_P hB9 ht9
                    have hD : va_D A (wM cI y_ b_ S 3) := atW_D hB9 hFc
                    generalize H1 = H at hP hS_ ⊢
                    exact W.iret (v := 0) hx hb_ hr (fun t_ ht hW => ⟨⟨_, (S, 3), rfl, (cif_t ⟨b_8.1, Int32.not_lt.mp b_8.2⟩).trans ((cif_t ⟨b_38, ho, hw⟩).trans (cif_f (fun h_ => h_.2.1 ⟨c_88, c_93⟩))), by rw [ht]; exact hP, hD⟩, hS_.F ht⟩) hS_.2.2 dX1_addCue_118
                  · skip
                    have hn : ¬ (k_ = 4 ∧ p_ = o_) := fun z_ => c_93 z_.2
                    refine lv_iload hx hb_ dX1_addCue_96 (lv_at hl 5 rfl) ?_
                    refine lv_iconst (v := (-1)) hx hb_ dX1_addCue_98 (by decide) ?_
                    refine lv_icmp_eq (tgt := 119) hx hb_ dX1_addCue_99 (by decide) (fun c_99 => ?_) (fun c_99 => ?_)
                    · skip
                      have hw3 : w_ = -1 ∨ S 8 w_.toNatClampNeg ≠ 2 := Or.inl c_99
                      refine lv_aload_n hx hb_ dX1_addCue_119 rfl (lv_at hl 1 rfl) ?_
                      have hf22 := hts (.fieldLink RX1 22 "ClockmaskModel" "kinds" "[I") (by decide +kernel)
                      refine va_get (D := D) (ci := 1) (v := .ref (b_ 4)) (C := RX1) (T := TX1) (N := 18) hx hb_ hts hin hown hK_ hP 0 rfl rfl 4 (by decide) hf22 (fun _ h9 => h9) rfl dX1_addCue_120 ?_
                      refine lv_aload_n hx hb_ dX1_addCue_123 rfl (lv_at hl 1 rfl) ?_
                      refine va_get (D := D) (ci := 1) (v := .int (S 10 0)) (C := RX1) (T := TX1) (N := 18) hx hb_ hts hin hown hK_ hP 0 rfl rfl 10 (by decide) hf60 (fun _ h9 => h9) rfl dX1_addCue_124 ?_
                      refine lv_iload_n hx hb_ dX1_addCue_127 rfl (lv_at hl 2 rfl) ?_
                      refine va_iast (f := S 4) (n := 24) hx hb_ hK_ hP hD hS_ 5 0 rfl rfl (by assumption) dX1_addCue_128 (fun H locs hP hD hS_ => ?_)
                      have hP : va_P D vwCl (wMr cI y_ b_ (S 0) (S 1) (S 2) (S 3) (upd (S 4) (S 10 0).toNatClampNeg k_) (S 5) (S 6) (S 7) (S 8) (S 9) (S 10 0) (S 11 0) (S 12) (S 13) (S 14 0) (S 15 0) (S 16) 0) H := hP
                      have hD : va_D A (wMr cI y_ b_ (S 0) (S 1) (S 2) (S 3) (upd (S 4) (S 10 0).toNatClampNeg k_) (S 5) (S 6) (S 7) (S 8) (S 9) (S 10 0) (S 11 0) (S 12) (S 13) (S 14 0) (S 15 0) (S 16) 0) := hD
                      refine lv_aload_n hx hb_ dX1_addCue_129 rfl (lv_at hl 1 rfl) ?_
                      have hf25 := hts (.fieldLink RX1 25 "ClockmaskModel" "players" "[I") (by decide +kernel)
                      refine va_get (D := D) (ci := 1) (v := .ref (b_ 5)) (C := RX1) (T := TX1) (N := 18) hx hb_ hts hin hown hK_ hP 0 rfl rfl 5 (by decide) hf25 (fun _ h9 => h9) rfl dX1_addCue_130 ?_
                      refine lv_aload_n hx hb_ dX1_addCue_133 rfl (lv_at hl 1 rfl) ?_
                      refine va_get (D := D) (ci := 1) (v := .int (S 10 0)) (C := RX1) (T := TX1) (N := 18) hx hb_ hts hin hown hK_ hP 0 rfl rfl 10 (by decide) hf60 (fun _ h9 => h9) rfl dX1_addCue_134 ?_
                      refine lv_iload_n hx hb_ dX1_addCue_137 rfl (lv_at hl 3 rfl) ?_
                      refine va_iast (f := S 5) (n := 24) hx hb_ hK_ hP hD hS_ 6 0 rfl rfl (by assumption) dX1_addCue_138 (fun H locs hP hD hS_ => ?_)
                      have hP : va_P D vwCl (wMr cI y_ b_ (S 0) (S 1) (S 2) (S 3) (upd (S 4) (S 10 0).toNatClampNeg k_) (upd (S 5) (S 10 0).toNatClampNeg p_) (S 6) (S 7) (S 8) (S 9) (S 10 0) (S 11 0) (S 12) (S 13) (S 14 0) (S 15 0) (S 16) 0) H := hP
                      have hD : va_D A (wMr cI y_ b_ (S 0) (S 1) (S 2) (S 3) (upd (S 4) (S 10 0).toNatClampNeg k_) (upd (S 5) (S 10 0).toNatClampNeg p_) (S 6) (S 7) (S 8) (S 9) (S 10 0) (S 11 0) (S 12) (S 13) (S 14 0) (S 15 0) (S 16) 0) := hD
                      refine lv_aload_n hx hb_ dX1_addCue_139 rfl (lv_at hl 1 rfl) ?_
                      have hf28 := hts (.fieldLink RX1 28 "ClockmaskModel" "others" "[I") (by decide +kernel)
                      refine va_get (D := D) (ci := 1) (v := .ref (b_ 6)) (C := RX1) (T := TX1) (N := 18) hx hb_ hts hin hown hK_ hP 0 rfl rfl 6 (by decide) hf28 (fun _ h9 => h9) rfl dX1_addCue_140 ?_
                      refine lv_aload_n hx hb_ dX1_addCue_143 rfl (lv_at hl 1 rfl) ?_
                      refine va_get (D := D) (ci := 1) (v := .int (S 10 0)) (C := RX1) (T := TX1) (N := 18) hx hb_ hts hin hown hK_ hP 0 rfl rfl 10 (by decide) hf60 (fun _ h9 => h9) rfl dX1_addCue_144 ?_
                      refine lv_iload_n hx hb_ dX1_addCue_147 rfl (lv_at hl 4 rfl) ?_
                      refine va_iast (f := S 6) (n := 24) hx hb_ hK_ hP hD hS_ 7 0 rfl rfl (by assumption) dX1_addCue_148 (fun H locs hP hD hS_ => ?_)
                      have hP : va_P D vwCl (wMr cI y_ b_ (S 0) (S 1) (S 2) (S 3) (upd (S 4) (S 10 0).toNatClampNeg k_) (upd (S 5) (S 10 0).toNatClampNeg p_) (upd (S 6) (S 10 0).toNatClampNeg o_) (S 7) (S 8) (S 9) (S 10 0) (S 11 0) (S 12) (S 13) (S 14 0) (S 15 0) (S 16) 0) H := hP
                      have hD : va_D A (wMr cI y_ b_ (S 0) (S 1) (S 2) (S 3) (upd (S 4) (S 10 0).toNatClampNeg k_) (upd (S 5) (S 10 0).toNatClampNeg p_) (upd (S 6) (S 10 0).toNatClampNeg o_) (S 7) (S 8) (S 9) (S 10 0) (S 11 0) (S 12) (S 13) (S 14 0) (S 15 0) (S 16) 0) := hD
                      refine lv_aload_n hx hb_ dX1_addCue_149 rfl (lv_at hl 1 rfl) ?_
                      have hf31 := hts (.fieldLink RX1 31 "ClockmaskModel" "waitsFor" "[I") (by decide +kernel)
                      refine va_get (D := D) (ci := 1) (v := .ref (b_ 7)) (C := RX1) (T := TX1) (N := 18) hx hb_ hts hin hown hK_ hP 0 rfl rfl 7 (by decide) hf31 (fun _ h9 => h9) rfl dX1_addCue_150 ?_
                      refine lv_aload_n hx hb_ dX1_addCue_153 rfl (lv_at hl 1 rfl) ?_
                      refine va_get (D := D) (ci := 1) (v := .int (S 10 0)) (C := RX1) (T := TX1) (N := 18) hx hb_ hts hin hown hK_ hP 0 rfl rfl 10 (by decide) hf60 (fun _ h9 => h9) rfl dX1_addCue_154 ?_
                      refine lv_iload hx hb_ dX1_addCue_157 (lv_at hl 5 rfl) ?_
                      refine va_iast (f := S 7) (n := 24) hx hb_ hK_ hP hD hS_ 8 0 rfl rfl (by assumption) dX1_addCue_159 (fun H locs hP hD hS_ => ?_)
                      have hP : va_P D vwCl (wMr cI y_ b_ (S 0) (S 1) (S 2) (S 3) (upd (S 4) (S 10 0).toNatClampNeg k_) (upd (S 5) (S 10 0).toNatClampNeg p_) (upd (S 6) (S 10 0).toNatClampNeg o_) (upd (S 7) (S 10 0).toNatClampNeg w_) (S 8) (S 9) (S 10 0) (S 11 0) (S 12) (S 13) (S 14 0) (S 15 0) (S 16) 0) H := hP
                      have hD : va_D A (wMr cI y_ b_ (S 0) (S 1) (S 2) (S 3) (upd (S 4) (S 10 0).toNatClampNeg k_) (upd (S 5) (S 10 0).toNatClampNeg p_) (upd (S 6) (S 10 0).toNatClampNeg o_) (upd (S 7) (S 10 0).toNatClampNeg w_) (S 8) (S 9) (S 10 0) (S 11 0) (S 12) (S 13) (S 14 0) (S 15 0) (S 16) 0) := hD
                      refine lv_aload_n hx hb_ dX1_addCue_160 rfl (lv_at hl 1 rfl) ?_
                      have hf34 := hts (.fieldLink RX1 34 "ClockmaskModel" "states" "[I") (by decide +kernel)
                      refine va_get (D := D) (ci := 1) (v := .ref (b_ 8)) (C := RX1) (T := TX1) (N := 18) hx hb_ hts hin hown hK_ hP 0 rfl rfl 8 (by decide) hf34 (fun _ h9 => h9) rfl dX1_addCue_161 ?_
                      refine lv_aload_n hx hb_ dX1_addCue_164 rfl (lv_at hl 1 rfl) ?_
                      refine va_get (D := D) (ci := 1) (v := .int (S 10 0)) (C := RX1) (T := TX1) (N := 18) hx hb_ hts hin hown hK_ hP 0 rfl rfl 10 (by decide) hf60 (fun _ h9 => h9) rfl dX1_addCue_165 ?_
                      refine lv_iconst (v := 0) hx hb_ dX1_addCue_168 (by decide) ?_
                      refine va_iast (f := S 8) (n := 24) hx hb_ hK_ hP hD hS_ 9 0 rfl rfl (by assumption) dX1_addCue_169 (fun H locs hP hD hS_ => ?_)
                      have hP : va_P D vwCl (wMr cI y_ b_ (S 0) (S 1) (S 2) (S 3) (upd (S 4) (S 10 0).toNatClampNeg k_) (upd (S 5) (S 10 0).toNatClampNeg p_) (upd (S 6) (S 10 0).toNatClampNeg o_) (upd (S 7) (S 10 0).toNatClampNeg w_) (upd (S 8) (S 10 0).toNatClampNeg 0) (S 9) (S 10 0) (S 11 0) (S 12) (S 13) (S 14 0) (S 15 0) (S 16) 0) H := hP
                      have hD : va_D A (wMr cI y_ b_ (S 0) (S 1) (S 2) (S 3) (upd (S 4) (S 10 0).toNatClampNeg k_) (upd (S 5) (S 10 0).toNatClampNeg p_) (upd (S 6) (S 10 0).toNatClampNeg o_) (upd (S 7) (S 10 0).toNatClampNeg w_) (upd (S 8) (S 10 0).toNatClampNeg 0) (S 9) (S 10 0) (S 11 0) (S 12) (S 13) (S 14 0) (S 15 0) (S 16) 0) := hD
                      refine lv_aload_n hx hb_ dX1_addCue_170 rfl (lv_at hl 1 rfl) ?_
                      refine lv_dup hx hb_ dX1_addCue_171 rfl ?_
                      refine va_get (D := D) (ci := 1) (v := .int (S 10 0)) (C := RX1) (T := TX1) (N := 18) hx hb_ hts hin hown hK_ hP 0 rfl rfl 10 (by decide) hf60 (fun _ h9 => h9) rfl dX1_addCue_172 ?_
                      refine lv_iconst (v := 1) hx hb_ dX1_addCue_175 (by decide) ?_
                      refine lv_iadd hx hb_ dX1_addCue_176 ?_
                      refine va_put (D := D) (ci := 1) (v := .int ((S 10 0) + 1)) (ty := .int) (C := RX1) (T := TX1) (N := 18) hx hb_ hts hin tyX1 tyX1_ok nmX1 hown hK_ hP hD hS_ 0 rfl rfl 10 (by decide) hf60 (fun _ h9 => h9) rfl (by decide +kernel) rfl rfl (Nat.le_of_ble_eq_true rfl) dX1_addCue_177 (fun H locs hP hD hS_ => ?_)
                      have hP : va_P D vwCl (wMr cI y_ b_ (S 0) (S 1) (S 2) (S 3) (upd (S 4) (S 10 0).toNatClampNeg k_) (upd (S 5) (S 10 0).toNatClampNeg p_) (upd (S 6) (S 10 0).toNatClampNeg o_) (upd (S 7) (S 10 0).toNatClampNeg w_) (upd (S 8) (S 10 0).toNatClampNeg 0) (S 9) ((S 10 0) + 1) (S 11 0) (S 12) (S 13) (S 14 0) (S 15 0) (S 16) 0) H := hP
                      have hD : va_D A (wMr cI y_ b_ (S 0) (S 1) (S 2) (S 3) (upd (S 4) (S 10 0).toNatClampNeg k_) (upd (S 5) (S 10 0).toNatClampNeg p_) (upd (S 6) (S 10 0).toNatClampNeg o_) (upd (S 7) (S 10 0).toNatClampNeg w_) (upd (S 8) (S 10 0).toNatClampNeg 0) (S 9) ((S 10 0) + 1) (S 11 0) (S 12) (S 13) (S 14 0) (S 15 0) (S 16) 0) := hD
                      refine lv_aload_n hx hb_ dX1_addCue_180 rfl (lv_at hl 1 rfl) ?_
                      refine va_get (D := D) (ci := 1) (v := .int ((S 10 0) + 1)) (C := RX1) (T := TX1) (N := 18) hx hb_ hts hin hown hK_ hP 0 rfl rfl 10 (by decide) hf60 (fun _ h9 => h9) rfl dX1_addCue_181 ?_
                      refine lv_iconst (v := 1) hx hb_ dX1_addCue_184 (by decide) ?_
                      refine lv_isub hx hb_ dX1_addCue_185 ?_
                      exact W.iret (v := ((S 10 0) + 1) - 1) hx hb_ hr (fun t_ ht hW => ⟨⟨_, (row (row (row (row (row (row S 4 (upd (S 4) (S 10 0).toNatClampNeg k_)) 5 (upd (S 5) (S 10 0).toNatClampNeg p_)) 6 (upd (S 6) (S 10 0).toNatClampNeg o_)) 7 (upd (S 7) (S 10 0).toNatClampNeg w_)) 8 (upd (S 8) (S 10 0).toNatClampNeg 0)) 10 (kf ((S 10 0) + 1)), 0), rfl, by rw [Int32.add_sub_cancel]; exact (cif_t ⟨b_8.1, Int32.not_lt.mp b_8.2⟩).trans ((cif_t ⟨b_38, ho, hw⟩).trans (cif_t ⟨h24, hn, hw3⟩)), by rw [ht]; exact hP, hD⟩, hS_.F ht⟩) hS_.2.2 dX1_addCue_186
                    · skip
                      refine lv_aload_n hx hb_ dX1_addCue_102 rfl (lv_at hl 1 rfl) ?_
                      have hf34 := hts (.fieldLink RX1 34 "ClockmaskModel" "states" "[I") (by decide +kernel)
                      refine va_get (D := D) (ci := 1) (v := .ref (b_ 8)) (C := RX1) (T := TX1) (N := 18) hx hb_ hts hin hown hK_ hP 0 rfl rfl 8 (by decide) hf34 (fun _ h9 => h9) rfl dX1_addCue_103 ?_
                      refine lv_iload hx hb_ dX1_addCue_106 (lv_at hl 5 rfl) ?_
                      refine va_iald (f := S 8) (n := 24) hx hb_ hK_ hP 9 0 rfl rfl (hI_.q24 (hw.resolve_left c_99)) dX1_addCue_108 ?_
                      refine lv_iconst (v := 2) hx hb_ dX1_addCue_109 (by decide) ?_
                      refine lv_icmp_ne (tgt := 119) hx hb_ dX1_addCue_110 (by decide) (fun c_110 => ?_) (fun c_110 => ?_)
                      · skip
                        have hw3 : w_ = -1 ∨ S 8 w_.toNatClampNeg ≠ 2 := Or.inr c_110
                        refine lv_aload_n hx hb_ dX1_addCue_119 rfl (lv_at hl 1 rfl) ?_
                        have hf22 := hts (.fieldLink RX1 22 "ClockmaskModel" "kinds" "[I") (by decide +kernel)
                        refine va_get (D := D) (ci := 1) (v := .ref (b_ 4)) (C := RX1) (T := TX1) (N := 18) hx hb_ hts hin hown hK_ hP 0 rfl rfl 4 (by decide) hf22 (fun _ h9 => h9) rfl dX1_addCue_120 ?_
                        refine lv_aload_n hx hb_ dX1_addCue_123 rfl (lv_at hl 1 rfl) ?_
                        refine va_get (D := D) (ci := 1) (v := .int (S 10 0)) (C := RX1) (T := TX1) (N := 18) hx hb_ hts hin hown hK_ hP 0 rfl rfl 10 (by decide) hf60 (fun _ h9 => h9) rfl dX1_addCue_124 ?_
                        refine lv_iload_n hx hb_ dX1_addCue_127 rfl (lv_at hl 2 rfl) ?_
                        refine va_iast (f := S 4) (n := 24) hx hb_ hK_ hP hD hS_ 5 0 rfl rfl (by assumption) dX1_addCue_128 (fun H locs hP hD hS_ => ?_)
                        have hP : va_P D vwCl (wMr cI y_ b_ (S 0) (S 1) (S 2) (S 3) (upd (S 4) (S 10 0).toNatClampNeg k_) (S 5) (S 6) (S 7) (S 8) (S 9) (S 10 0) (S 11 0) (S 12) (S 13) (S 14 0) (S 15 0) (S 16) 0) H := hP
                        have hD : va_D A (wMr cI y_ b_ (S 0) (S 1) (S 2) (S 3) (upd (S 4) (S 10 0).toNatClampNeg k_) (S 5) (S 6) (S 7) (S 8) (S 9) (S 10 0) (S 11 0) (S 12) (S 13) (S 14 0) (S 15 0) (S 16) 0) := hD
                        refine lv_aload_n hx hb_ dX1_addCue_129 rfl (lv_at hl 1 rfl) ?_
                        have hf25 := hts (.fieldLink RX1 25 "ClockmaskModel" "players" "[I") (by decide +kernel)
                        refine va_get (D := D) (ci := 1) (v := .ref (b_ 5)) (C := RX1) (T := TX1) (N := 18) hx hb_ hts hin hown hK_ hP 0 rfl rfl 5 (by decide) hf25 (fun _ h9 => h9) rfl dX1_addCue_130 ?_
                        refine lv_aload_n hx hb_ dX1_addCue_133 rfl (lv_at hl 1 rfl) ?_
                        refine va_get (D := D) (ci := 1) (v := .int (S 10 0)) (C := RX1) (T := TX1) (N := 18) hx hb_ hts hin hown hK_ hP 0 rfl rfl 10 (by decide) hf60 (fun _ h9 => h9) rfl dX1_addCue_134 ?_
                        refine lv_iload_n hx hb_ dX1_addCue_137 rfl (lv_at hl 3 rfl) ?_
                        refine va_iast (f := S 5) (n := 24) hx hb_ hK_ hP hD hS_ 6 0 rfl rfl (by assumption) dX1_addCue_138 (fun H locs hP hD hS_ => ?_)
                        have hP : va_P D vwCl (wMr cI y_ b_ (S 0) (S 1) (S 2) (S 3) (upd (S 4) (S 10 0).toNatClampNeg k_) (upd (S 5) (S 10 0).toNatClampNeg p_) (S 6) (S 7) (S 8) (S 9) (S 10 0) (S 11 0) (S 12) (S 13) (S 14 0) (S 15 0) (S 16) 0) H := hP
                        have hD : va_D A (wMr cI y_ b_ (S 0) (S 1) (S 2) (S 3) (upd (S 4) (S 10 0).toNatClampNeg k_) (upd (S 5) (S 10 0).toNatClampNeg p_) (S 6) (S 7) (S 8) (S 9) (S 10 0) (S 11 0) (S 12) (S 13) (S 14 0) (S 15 0) (S 16) 0) := hD
                        refine lv_aload_n hx hb_ dX1_addCue_139 rfl (lv_at hl 1 rfl) ?_
                        have hf28 := hts (.fieldLink RX1 28 "ClockmaskModel" "others" "[I") (by decide +kernel)
                        refine va_get (D := D) (ci := 1) (v := .ref (b_ 6)) (C := RX1) (T := TX1) (N := 18) hx hb_ hts hin hown hK_ hP 0 rfl rfl 6 (by decide) hf28 (fun _ h9 => h9) rfl dX1_addCue_140 ?_
                        refine lv_aload_n hx hb_ dX1_addCue_143 rfl (lv_at hl 1 rfl) ?_
                        refine va_get (D := D) (ci := 1) (v := .int (S 10 0)) (C := RX1) (T := TX1) (N := 18) hx hb_ hts hin hown hK_ hP 0 rfl rfl 10 (by decide) hf60 (fun _ h9 => h9) rfl dX1_addCue_144 ?_
                        refine lv_iload_n hx hb_ dX1_addCue_147 rfl (lv_at hl 4 rfl) ?_
                        refine va_iast (f := S 6) (n := 24) hx hb_ hK_ hP hD hS_ 7 0 rfl rfl (by assumption) dX1_addCue_148 (fun H locs hP hD hS_ => ?_)
                        have hP : va_P D vwCl (wMr cI y_ b_ (S 0) (S 1) (S 2) (S 3) (upd (S 4) (S 10 0).toNatClampNeg k_) (upd (S 5) (S 10 0).toNatClampNeg p_) (upd (S 6) (S 10 0).toNatClampNeg o_) (S 7) (S 8) (S 9) (S 10 0) (S 11 0) (S 12) (S 13) (S 14 0) (S 15 0) (S 16) 0) H := hP
                        have hD : va_D A (wMr cI y_ b_ (S 0) (S 1) (S 2) (S 3) (upd (S 4) (S 10 0).toNatClampNeg k_) (upd (S 5) (S 10 0).toNatClampNeg p_) (upd (S 6) (S 10 0).toNatClampNeg o_) (S 7) (S 8) (S 9) (S 10 0) (S 11 0) (S 12) (S 13) (S 14 0) (S 15 0) (S 16) 0) := hD
                        refine lv_aload_n hx hb_ dX1_addCue_149 rfl (lv_at hl 1 rfl) ?_
                        have hf31 := hts (.fieldLink RX1 31 "ClockmaskModel" "waitsFor" "[I") (by decide +kernel)
                        refine va_get (D := D) (ci := 1) (v := .ref (b_ 7)) (C := RX1) (T := TX1) (N := 18) hx hb_ hts hin hown hK_ hP 0 rfl rfl 7 (by decide) hf31 (fun _ h9 => h9) rfl dX1_addCue_150 ?_
                        refine lv_aload_n hx hb_ dX1_addCue_153 rfl (lv_at hl 1 rfl) ?_
                        refine va_get (D := D) (ci := 1) (v := .int (S 10 0)) (C := RX1) (T := TX1) (N := 18) hx hb_ hts hin hown hK_ hP 0 rfl rfl 10 (by decide) hf60 (fun _ h9 => h9) rfl dX1_addCue_154 ?_
                        refine lv_iload hx hb_ dX1_addCue_157 (lv_at hl 5 rfl) ?_
                        refine va_iast (f := S 7) (n := 24) hx hb_ hK_ hP hD hS_ 8 0 rfl rfl (by assumption) dX1_addCue_159 (fun H locs hP hD hS_ => ?_)
                        have hP : va_P D vwCl (wMr cI y_ b_ (S 0) (S 1) (S 2) (S 3) (upd (S 4) (S 10 0).toNatClampNeg k_) (upd (S 5) (S 10 0).toNatClampNeg p_) (upd (S 6) (S 10 0).toNatClampNeg o_) (upd (S 7) (S 10 0).toNatClampNeg w_) (S 8) (S 9) (S 10 0) (S 11 0) (S 12) (S 13) (S 14 0) (S 15 0) (S 16) 0) H := hP
                        have hD : va_D A (wMr cI y_ b_ (S 0) (S 1) (S 2) (S 3) (upd (S 4) (S 10 0).toNatClampNeg k_) (upd (S 5) (S 10 0).toNatClampNeg p_) (upd (S 6) (S 10 0).toNatClampNeg o_) (upd (S 7) (S 10 0).toNatClampNeg w_) (S 8) (S 9) (S 10 0) (S 11 0) (S 12) (S 13) (S 14 0) (S 15 0) (S 16) 0) := hD
                        refine lv_aload_n hx hb_ dX1_addCue_160 rfl (lv_at hl 1 rfl) ?_
                        refine va_get (D := D) (ci := 1) (v := .ref (b_ 8)) (C := RX1) (T := TX1) (N := 18) hx hb_ hts hin hown hK_ hP 0 rfl rfl 8 (by decide) hf34 (fun _ h9 => h9) rfl dX1_addCue_161 ?_
                        refine lv_aload_n hx hb_ dX1_addCue_164 rfl (lv_at hl 1 rfl) ?_
                        refine va_get (D := D) (ci := 1) (v := .int (S 10 0)) (C := RX1) (T := TX1) (N := 18) hx hb_ hts hin hown hK_ hP 0 rfl rfl 10 (by decide) hf60 (fun _ h9 => h9) rfl dX1_addCue_165 ?_
                        refine lv_iconst (v := 0) hx hb_ dX1_addCue_168 (by decide) ?_
                        refine va_iast (f := S 8) (n := 24) hx hb_ hK_ hP hD hS_ 9 0 rfl rfl (by assumption) dX1_addCue_169 (fun H locs hP hD hS_ => ?_)
                        have hP : va_P D vwCl (wMr cI y_ b_ (S 0) (S 1) (S 2) (S 3) (upd (S 4) (S 10 0).toNatClampNeg k_) (upd (S 5) (S 10 0).toNatClampNeg p_) (upd (S 6) (S 10 0).toNatClampNeg o_) (upd (S 7) (S 10 0).toNatClampNeg w_) (upd (S 8) (S 10 0).toNatClampNeg 0) (S 9) (S 10 0) (S 11 0) (S 12) (S 13) (S 14 0) (S 15 0) (S 16) 0) H := hP
                        have hD : va_D A (wMr cI y_ b_ (S 0) (S 1) (S 2) (S 3) (upd (S 4) (S 10 0).toNatClampNeg k_) (upd (S 5) (S 10 0).toNatClampNeg p_) (upd (S 6) (S 10 0).toNatClampNeg o_) (upd (S 7) (S 10 0).toNatClampNeg w_) (upd (S 8) (S 10 0).toNatClampNeg 0) (S 9) (S 10 0) (S 11 0) (S 12) (S 13) (S 14 0) (S 15 0) (S 16) 0) := hD
                        refine lv_aload_n hx hb_ dX1_addCue_170 rfl (lv_at hl 1 rfl) ?_
                        refine lv_dup hx hb_ dX1_addCue_171 rfl ?_
                        refine va_get (D := D) (ci := 1) (v := .int (S 10 0)) (C := RX1) (T := TX1) (N := 18) hx hb_ hts hin hown hK_ hP 0 rfl rfl 10 (by decide) hf60 (fun _ h9 => h9) rfl dX1_addCue_172 ?_
                        refine lv_iconst (v := 1) hx hb_ dX1_addCue_175 (by decide) ?_
                        refine lv_iadd hx hb_ dX1_addCue_176 ?_
                        refine va_put (D := D) (ci := 1) (v := .int ((S 10 0) + 1)) (ty := .int) (C := RX1) (T := TX1) (N := 18) hx hb_ hts hin tyX1 tyX1_ok nmX1 hown hK_ hP hD hS_ 0 rfl rfl 10 (by decide) hf60 (fun _ h9 => h9) rfl (by decide +kernel) rfl rfl (Nat.le_of_ble_eq_true rfl) dX1_addCue_177 (fun H locs hP hD hS_ => ?_)
                        have hP : va_P D vwCl (wMr cI y_ b_ (S 0) (S 1) (S 2) (S 3) (upd (S 4) (S 10 0).toNatClampNeg k_) (upd (S 5) (S 10 0).toNatClampNeg p_) (upd (S 6) (S 10 0).toNatClampNeg o_) (upd (S 7) (S 10 0).toNatClampNeg w_) (upd (S 8) (S 10 0).toNatClampNeg 0) (S 9) ((S 10 0) + 1) (S 11 0) (S 12) (S 13) (S 14 0) (S 15 0) (S 16) 0) H := hP
                        have hD : va_D A (wMr cI y_ b_ (S 0) (S 1) (S 2) (S 3) (upd (S 4) (S 10 0).toNatClampNeg k_) (upd (S 5) (S 10 0).toNatClampNeg p_) (upd (S 6) (S 10 0).toNatClampNeg o_) (upd (S 7) (S 10 0).toNatClampNeg w_) (upd (S 8) (S 10 0).toNatClampNeg 0) (S 9) ((S 10 0) + 1) (S 11 0) (S 12) (S 13) (S 14 0) (S 15 0) (S 16) 0) := hD
                        refine lv_aload_n hx hb_ dX1_addCue_180 rfl (lv_at hl 1 rfl) ?_
                        refine va_get (D := D) (ci := 1) (v := .int ((S 10 0) + 1)) (C := RX1) (T := TX1) (N := 18) hx hb_ hts hin hown hK_ hP 0 rfl rfl 10 (by decide) hf60 (fun _ h9 => h9) rfl dX1_addCue_181 ?_
                        refine lv_iconst (v := 1) hx hb_ dX1_addCue_184 (by decide) ?_
                        refine lv_isub hx hb_ dX1_addCue_185 ?_
                        exact W.iret (v := ((S 10 0) + 1) - 1) hx hb_ hr (fun t_ ht hW => ⟨⟨_, (row (row (row (row (row (row S 4 (upd (S 4) (S 10 0).toNatClampNeg k_)) 5 (upd (S 5) (S 10 0).toNatClampNeg p_)) 6 (upd (S 6) (S 10 0).toNatClampNeg o_)) 7 (upd (S 7) (S 10 0).toNatClampNeg w_)) 8 (upd (S 8) (S 10 0).toNatClampNeg 0)) 10 (kf ((S 10 0) + 1)), 0), rfl, by rw [Int32.add_sub_cancel]; exact (cif_t ⟨b_8.1, Int32.not_lt.mp b_8.2⟩).trans ((cif_t ⟨b_38, ho, hw⟩).trans (cif_t ⟨h24, hn, hw3⟩)), by rw [ht]; exact hP, hD⟩, hS_.F ht⟩) hS_.2.2 dX1_addCue_186
                      · skip
                        refine lv_aload_n hx hb_ dX1_addCue_113 rfl (lv_at hl 1 rfl) ?_
                        refine lv_iconst (v := 3) hx hb_ dX1_addCue_114 (by decide) ?_
                        have hFc := wfree hD hS_ hA
                        refine va_calli (va_runV (As := [.int 3]) (rest := []) ⟨hx, hb_, hml, hown, hts⟩ (c_X1_fails l D cI y_ b_ S 0 H.size 3) (cwV 1 hts gX1_addCue_X1_fails rfl rfl rfl (by decide +kernel) ⟨Nat.le_of_ble_eq_true rfl, Nat.le_of_ble_eq_true rfl⟩) (pW_V (ci := 1) hP hK_ hD rfl rfl) rfl rfl hl.1 rfl (lv_room (Nat.le_of_ble_eq_true rfl)) dX1_addCue_115 ⟨Nat.zero_le _, Nat.zero_le _⟩) hS_ (fun q_ _ h_ => hFc q_ h_) hFc (fun r_115 u_115 t9 H1 locs ht9 hvm9 h_115 hB9 hz9 hk9 hS_ => ?_)
                        obtain ⟨e_115, h_115⟩ := h_115
                        subst e_115
                        subst h_115
                        have hP : va_P D vwCl (wM cI y_ b_ S 3) H1 := atW_P hB9 ht9
                        have hD : va_D A (wM cI y_ b_ S 3) := atW_D hB9 hFc
                        generalize H1 = H at hP hS_ ⊢
                        exact W.iret (v := 0) hx hb_ hr (fun t_ ht hW => ⟨⟨_, (S, 3), rfl, (cif_t ⟨b_8.1, Int32.not_lt.mp b_8.2⟩).trans ((cif_t ⟨b_38, ho, hw⟩).trans (cif_f (fun h_ => h_.2.2.elim c_99 (fun z_ => z_ c_110)))), by rw [ht]; exact hP, hD⟩, hS_.F ht⟩) hS_.2.2 dX1_addCue_118
            · skip
              have b_65 := cif_b0 h_65 c_68
              refine lv_aload_n hx hb_ dX1_addCue_71 rfl (lv_at hl 1 rfl) ?_
              refine lv_iconst (v := 2) hx hb_ dX1_addCue_72 (by decide) ?_
              have hFc := wfree hD hS_ hA
              refine va_calli (va_runV (As := [.int 2]) (rest := []) ⟨hx, hb_, hml, hown, hts⟩ (c_X1_fails l D cI y_ b_ S 0 H.size 2) (cwV 1 hts gX1_addCue_X1_fails rfl rfl rfl (by decide +kernel) ⟨Nat.le_of_ble_eq_true rfl, Nat.le_of_ble_eq_true rfl⟩) (pW_V (ci := 1) hP hK_ hD rfl rfl) rfl rfl hl.1 rfl (lv_room (Nat.le_of_ble_eq_true rfl)) dX1_addCue_73 ⟨Nat.zero_le _, Nat.zero_le _⟩) hS_ (fun q_ _ h_ => hFc q_ h_) hFc (fun r_73 u_73 t9 H1 locs ht9 hvm9 h_73 hB9 hz9 hk9 hS_ => ?_)
              obtain ⟨e_73, h_73⟩ := h_73
              subst e_73
              subst h_73
              have hP : va_P D vwCl (wM cI y_ b_ S 2) H1 := atW_P hB9 ht9
              have hD : va_D A (wM cI y_ b_ S 2) := atW_D hB9 hFc
              generalize H1 = H at hP hS_ ⊢
              exact W.iret (v := 0) hx hb_ hr (fun t_ ht hW => ⟨⟨_, (S, 2), rfl, (cif_t ⟨b_8.1, Int32.not_lt.mp b_8.2⟩).trans (cif_f (fun h_ => b_65 ((inW_iff hI_.me hI_.m24).mpr h_.2.2))), by rw [ht]; exact hP, hD⟩, hS_.F ht⟩) hS_.2.2 dX1_addCue_76
          · skip
            exact absurd c_46 (by decide)
      · skip
        refine lv_iconst (v := 1) hx hb_ dX1_addCue_30 (by decide) ?_
        refine lv_goto (tgt := 35) hx hb_ dX1_addCue_31 (by decide) ?_
        refine lv_istore (lv' := [(5, .int 1), (0, .ref y_), (1, .int k_), (2, .int p_), (3, .int o_), (4, .int w_)]) hx hb_ dX1_addCue_35 hl (by decide) rfl (fun ls hl => ?_)
        refine lv_iload_n hx hb_ dX1_addCue_37 rfl (lv_at hl 3 rfl) ?_
        refine vp_callSi (W.runS (As := [.int p_]) (rest := []) ⟨hx, hb_, hml, hown, hts⟩ (c_X1_isPlayer l p_) (va_cwS 1 hts gX1_addCue_X1_isPlayer rfl rfl rfl (by decide +kernel) ⟨Nat.le_of_ble_eq_true rfl, Nat.le_of_ble_eq_true rfl⟩) (pN_S) rfl rfl hl.1 rfl (lv_room (Nat.le_of_ble_eq_true rfl)) dX1_addCue_38 ⟨Nat.zero_le _, Nat.zero_le _⟩) (fun r_38 h_38 => ?_)
        refine lv_if_eq (tgt := 71) hx hb_ dX1_addCue_41 (by decide) (fun c_41 => ?_) (fun c_41 => ?_)
        · skip
          have b_38 := cif_b0 h_38 c_41
          refine lv_aload_n hx hb_ dX1_addCue_71 rfl (lv_at hl 1 rfl) ?_
          refine lv_iconst (v := 2) hx hb_ dX1_addCue_72 (by decide) ?_
          have hFc := wfree hD hS_ hA
          refine va_calli (va_runV (As := [.int 2]) (rest := []) ⟨hx, hb_, hml, hown, hts⟩ (c_X1_fails l D cI y_ b_ S 0 H.size 2) (cwV 1 hts gX1_addCue_X1_fails rfl rfl rfl (by decide +kernel) ⟨Nat.le_of_ble_eq_true rfl, Nat.le_of_ble_eq_true rfl⟩) (pW_V (ci := 1) hP hK_ hD rfl rfl) rfl rfl hl.1 rfl (lv_room (Nat.le_of_ble_eq_true rfl)) dX1_addCue_73 ⟨Nat.zero_le _, Nat.zero_le _⟩) hS_ (fun q_ _ h_ => hFc q_ h_) hFc (fun r_73 u_73 t9 H1 locs ht9 hvm9 h_73 hB9 hz9 hk9 hS_ => ?_)
          obtain ⟨e_73, h_73⟩ := h_73
          subst e_73
          subst h_73
          have hP : va_P D vwCl (wM cI y_ b_ S 2) H1 := atW_P hB9 ht9
          have hD : va_D A (wM cI y_ b_ S 2) := atW_D hB9 hFc
          generalize H1 = H at hP hS_ ⊢
          exact W.iret (v := 0) hx hb_ hr (fun t_ ht hW => ⟨⟨_, (S, 2), rfl, (cif_t ⟨b_8.1, Int32.not_lt.mp b_8.2⟩).trans (cif_f (fun h_ => b_38 h_.1)), by rw [ht]; exact hP, hD⟩, hS_.F ht⟩) hS_.2.2 dX1_addCue_76
        · skip
          have b_38 := cif_b1 h_38 c_41
          refine lv_iload hx hb_ dX1_addCue_44 (lv_at hl 0 rfl) ?_
          refine lv_if_eq (tgt := 56) hx hb_ dX1_addCue_46 (by decide) (fun c_46 => ?_) (fun c_46 => ?_)
          · skip
            exact absurd c_46 (by decide)
          · skip
            refine lv_iload_n hx hb_ dX1_addCue_49 rfl (lv_at hl 4 rfl) ?_
            refine vp_callSi (W.runS (As := [.int o_]) (rest := []) ⟨hx, hb_, hml, hown, hts⟩ (c_X1_isPlayer l o_) (va_cwS 1 hts gX1_addCue_X1_isPlayer rfl rfl rfl (by decide +kernel) ⟨Nat.le_of_ble_eq_true rfl, Nat.le_of_ble_eq_true rfl⟩) (pN_S) rfl rfl hl.1 rfl (lv_room (Nat.le_of_ble_eq_true rfl)) dX1_addCue_50 ⟨Nat.zero_le _, Nat.zero_le _⟩) (fun r_50 h_50 => ?_)
            refine lv_if_eq (tgt := 71) hx hb_ dX1_addCue_53 (by decide) (fun c_53 => ?_) (fun c_53 => ?_)
            · skip
              have b_50 := cif_b0 h_50 c_53
              refine lv_aload_n hx hb_ dX1_addCue_71 rfl (lv_at hl 1 rfl) ?_
              refine lv_iconst (v := 2) hx hb_ dX1_addCue_72 (by decide) ?_
              have hFc := wfree hD hS_ hA
              refine va_calli (va_runV (As := [.int 2]) (rest := []) ⟨hx, hb_, hml, hown, hts⟩ (c_X1_fails l D cI y_ b_ S 0 H.size 2) (cwV 1 hts gX1_addCue_X1_fails rfl rfl rfl (by decide +kernel) ⟨Nat.le_of_ble_eq_true rfl, Nat.le_of_ble_eq_true rfl⟩) (pW_V (ci := 1) hP hK_ hD rfl rfl) rfl rfl hl.1 rfl (lv_room (Nat.le_of_ble_eq_true rfl)) dX1_addCue_73 ⟨Nat.zero_le _, Nat.zero_le _⟩) hS_ (fun q_ _ h_ => hFc q_ h_) hFc (fun r_73 u_73 t9 H1 locs ht9 hvm9 h_73 hB9 hz9 hk9 hS_ => ?_)
              obtain ⟨e_73, h_73⟩ := h_73
              subst e_73
              subst h_73
              have hP : va_P D vwCl (wM cI y_ b_ S 2) H1 := atW_P hB9 ht9
              have hD : va_D A (wM cI y_ b_ S 2) := atW_D hB9 hFc
              generalize H1 = H at hP hS_ ⊢
              exact W.iret (v := 0) hx hb_ hr (fun t_ ht hW => ⟨⟨_, (S, 2), rfl, (cif_t ⟨b_8.1, Int32.not_lt.mp b_8.2⟩).trans (cif_f (fun h_ => b_50 (h_.2.1 (Or.inr c_27)))), by rw [ht]; exact hP, hD⟩, hS_.F ht⟩) hS_.2.2 dX1_addCue_76
            · skip
              have b_50 := cif_b1 h_50 c_53
              have ho : k_ = 2 ∨ k_ = 4 → vp_in o_ 6 := fun _ => b_50
              refine lv_iload hx hb_ dX1_addCue_56 (lv_at hl 5 rfl) ?_
              refine lv_iconst (v := (-1)) hx hb_ dX1_addCue_58 (by decide) ?_
              refine lv_aload_n hx hb_ dX1_addCue_59 rfl (lv_at hl 1 rfl) ?_
              have hf60 := hts (.fieldLink RX1 60 "ClockmaskModel" "many" "I") (by decide +kernel)
              refine va_get (D := D) (ci := 1) (v := .int (S 10 0)) (C := RX1) (T := TX1) (N := 18) hx hb_ hts hin hown hK_ hP 0 rfl rfl 10 (by decide) hf60 (fun _ h9 => h9) rfl dX1_addCue_60 ?_
              refine lv_iconst (v := 1) hx hb_ dX1_addCue_63 (by decide) ?_
              refine lv_isub hx hb_ dX1_addCue_64 ?_
              refine vp_callSi (W.runS (As := [.int w_, .int (-1), .int ((S 10 0) - 1)]) (rest := []) ⟨hx, hb_, hml, hown, hts⟩ (c_X1_in l w_ (-1) ((S 10 0) - 1)) (va_cwS 3 hts gX1_addCue_X1_in rfl rfl rfl (by decide +kernel) ⟨Nat.le_of_ble_eq_true rfl, Nat.le_of_ble_eq_true rfl⟩) (pN_S) rfl rfl hl.1 rfl (lv_room (Nat.le_of_ble_eq_true rfl)) dX1_addCue_65 ⟨Nat.zero_le _, Nat.zero_le _⟩) (fun r_65 h_65 => ?_)
              refine lv_if_ne (tgt := 77) hx hb_ dX1_addCue_68 (by decide) (fun c_68 => ?_) (fun c_68 => ?_)
              · skip
                have b_65 := cif_b1 h_65 c_68
                have hw : w_ = -1 ∨ vp_in w_ (many S) := (inW_iff hI_.me hI_.m24).mp b_65
                refine lv_aload_n hx hb_ dX1_addCue_77 rfl (lv_at hl 1 rfl) ?_
                refine va_get (D := D) (ci := 1) (v := .int (S 10 0)) (C := RX1) (T := TX1) (N := 18) hx hb_ hts hin hown hK_ hP 0 rfl rfl 10 (by decide) hf60 (fun _ h9 => h9) rfl dX1_addCue_78 ?_
                refine lv_bipush (v := 24) hx hb_ dX1_addCue_81 (by decide) ?_
                refine lv_icmp_eq (tgt := 113) hx hb_ dX1_addCue_83 (by decide) (fun c_83 => ?_) (fun c_83 => ?_)
                · skip
                  refine lv_aload_n hx hb_ dX1_addCue_113 rfl (lv_at hl 1 rfl) ?_
                  refine lv_iconst (v := 3) hx hb_ dX1_addCue_114 (by decide) ?_
                  have hFc := wfree hD hS_ hA
                  refine va_calli (va_runV (As := [.int 3]) (rest := []) ⟨hx, hb_, hml, hown, hts⟩ (c_X1_fails l D cI y_ b_ S 0 H.size 3) (cwV 1 hts gX1_addCue_X1_fails rfl rfl rfl (by decide +kernel) ⟨Nat.le_of_ble_eq_true rfl, Nat.le_of_ble_eq_true rfl⟩) (pW_V (ci := 1) hP hK_ hD rfl rfl) rfl rfl hl.1 rfl (lv_room (Nat.le_of_ble_eq_true rfl)) dX1_addCue_115 ⟨Nat.zero_le _, Nat.zero_le _⟩) hS_ (fun q_ _ h_ => hFc q_ h_) hFc (fun r_115 u_115 t9 H1 locs ht9 hvm9 h_115 hB9 hz9 hk9 hS_ => ?_)
                  obtain ⟨e_115, h_115⟩ := h_115
                  subst e_115
                  subst h_115
                  have hP : va_P D vwCl (wM cI y_ b_ S 3) H1 := atW_P hB9 ht9
                  have hD : va_D A (wM cI y_ b_ S 3) := atW_D hB9 hFc
                  generalize H1 = H at hP hS_ ⊢
                  exact W.iret (v := 0) hx hb_ hr (fun t_ ht hW => ⟨⟨_, (S, 3), rfl, (cif_t ⟨b_8.1, Int32.not_lt.mp b_8.2⟩).trans ((cif_t ⟨b_38, ho, hw⟩).trans (cif_f (fun h_ => absurd h_.1 (by rw [c_83]; decide)))), by rw [ht]; exact hP, hD⟩, hS_.F ht⟩) hS_.2.2 dX1_addCue_118
                · skip
                  have h24 : S 10 0 < 24 := hI_.ne24 c_83
                  have hc24 := hI_.lt24 h24
                  refine lv_iload_n hx hb_ dX1_addCue_86 rfl (lv_at hl 2 rfl) ?_
                  refine lv_iconst (v := 4) hx hb_ dX1_addCue_87 (by decide) ?_
                  refine lv_icmp_ne (tgt := 96) hx hb_ dX1_addCue_88 (by decide) (fun c_88 => ?_) (fun c_88 => ?_)
                  · skip
                    have hn : ¬ (k_ = 4 ∧ p_ = o_) := fun z_ => c_88 z_.1
                    refine lv_iload hx hb_ dX1_addCue_96 (lv_at hl 5 rfl) ?_
                    refine lv_iconst (v := (-1)) hx hb_ dX1_addCue_98 (by decide) ?_
                    refine lv_icmp_eq (tgt := 119) hx hb_ dX1_addCue_99 (by decide) (fun c_99 => ?_) (fun c_99 => ?_)
                    · skip
                      have hw3 : w_ = -1 ∨ S 8 w_.toNatClampNeg ≠ 2 := Or.inl c_99
                      refine lv_aload_n hx hb_ dX1_addCue_119 rfl (lv_at hl 1 rfl) ?_
                      have hf22 := hts (.fieldLink RX1 22 "ClockmaskModel" "kinds" "[I") (by decide +kernel)
                      refine va_get (D := D) (ci := 1) (v := .ref (b_ 4)) (C := RX1) (T := TX1) (N := 18) hx hb_ hts hin hown hK_ hP 0 rfl rfl 4 (by decide) hf22 (fun _ h9 => h9) rfl dX1_addCue_120 ?_
                      refine lv_aload_n hx hb_ dX1_addCue_123 rfl (lv_at hl 1 rfl) ?_
                      refine va_get (D := D) (ci := 1) (v := .int (S 10 0)) (C := RX1) (T := TX1) (N := 18) hx hb_ hts hin hown hK_ hP 0 rfl rfl 10 (by decide) hf60 (fun _ h9 => h9) rfl dX1_addCue_124 ?_
                      refine lv_iload_n hx hb_ dX1_addCue_127 rfl (lv_at hl 2 rfl) ?_
                      refine va_iast (f := S 4) (n := 24) hx hb_ hK_ hP hD hS_ 5 0 rfl rfl (by assumption) dX1_addCue_128 (fun H locs hP hD hS_ => ?_)
                      have hP : va_P D vwCl (wMr cI y_ b_ (S 0) (S 1) (S 2) (S 3) (upd (S 4) (S 10 0).toNatClampNeg k_) (S 5) (S 6) (S 7) (S 8) (S 9) (S 10 0) (S 11 0) (S 12) (S 13) (S 14 0) (S 15 0) (S 16) 0) H := hP
                      have hD : va_D A (wMr cI y_ b_ (S 0) (S 1) (S 2) (S 3) (upd (S 4) (S 10 0).toNatClampNeg k_) (S 5) (S 6) (S 7) (S 8) (S 9) (S 10 0) (S 11 0) (S 12) (S 13) (S 14 0) (S 15 0) (S 16) 0) := hD
                      refine lv_aload_n hx hb_ dX1_addCue_129 rfl (lv_at hl 1 rfl) ?_
                      have hf25 := hts (.fieldLink RX1 25 "ClockmaskModel" "players" "[I") (by decide +kernel)
                      refine va_get (D := D) (ci := 1) (v := .ref (b_ 5)) (C := RX1) (T := TX1) (N := 18) hx hb_ hts hin hown hK_ hP 0 rfl rfl 5 (by decide) hf25 (fun _ h9 => h9) rfl dX1_addCue_130 ?_
                      refine lv_aload_n hx hb_ dX1_addCue_133 rfl (lv_at hl 1 rfl) ?_
                      refine va_get (D := D) (ci := 1) (v := .int (S 10 0)) (C := RX1) (T := TX1) (N := 18) hx hb_ hts hin hown hK_ hP 0 rfl rfl 10 (by decide) hf60 (fun _ h9 => h9) rfl dX1_addCue_134 ?_
                      refine lv_iload_n hx hb_ dX1_addCue_137 rfl (lv_at hl 3 rfl) ?_
                      refine va_iast (f := S 5) (n := 24) hx hb_ hK_ hP hD hS_ 6 0 rfl rfl (by assumption) dX1_addCue_138 (fun H locs hP hD hS_ => ?_)
                      have hP : va_P D vwCl (wMr cI y_ b_ (S 0) (S 1) (S 2) (S 3) (upd (S 4) (S 10 0).toNatClampNeg k_) (upd (S 5) (S 10 0).toNatClampNeg p_) (S 6) (S 7) (S 8) (S 9) (S 10 0) (S 11 0) (S 12) (S 13) (S 14 0) (S 15 0) (S 16) 0) H := hP
                      have hD : va_D A (wMr cI y_ b_ (S 0) (S 1) (S 2) (S 3) (upd (S 4) (S 10 0).toNatClampNeg k_) (upd (S 5) (S 10 0).toNatClampNeg p_) (S 6) (S 7) (S 8) (S 9) (S 10 0) (S 11 0) (S 12) (S 13) (S 14 0) (S 15 0) (S 16) 0) := hD
                      refine lv_aload_n hx hb_ dX1_addCue_139 rfl (lv_at hl 1 rfl) ?_
                      have hf28 := hts (.fieldLink RX1 28 "ClockmaskModel" "others" "[I") (by decide +kernel)
                      refine va_get (D := D) (ci := 1) (v := .ref (b_ 6)) (C := RX1) (T := TX1) (N := 18) hx hb_ hts hin hown hK_ hP 0 rfl rfl 6 (by decide) hf28 (fun _ h9 => h9) rfl dX1_addCue_140 ?_
                      refine lv_aload_n hx hb_ dX1_addCue_143 rfl (lv_at hl 1 rfl) ?_
                      refine va_get (D := D) (ci := 1) (v := .int (S 10 0)) (C := RX1) (T := TX1) (N := 18) hx hb_ hts hin hown hK_ hP 0 rfl rfl 10 (by decide) hf60 (fun _ h9 => h9) rfl dX1_addCue_144 ?_
                      refine lv_iload_n hx hb_ dX1_addCue_147 rfl (lv_at hl 4 rfl) ?_
                      refine va_iast (f := S 6) (n := 24) hx hb_ hK_ hP hD hS_ 7 0 rfl rfl (by assumption) dX1_addCue_148 (fun H locs hP hD hS_ => ?_)
                      have hP : va_P D vwCl (wMr cI y_ b_ (S 0) (S 1) (S 2) (S 3) (upd (S 4) (S 10 0).toNatClampNeg k_) (upd (S 5) (S 10 0).toNatClampNeg p_) (upd (S 6) (S 10 0).toNatClampNeg o_) (S 7) (S 8) (S 9) (S 10 0) (S 11 0) (S 12) (S 13) (S 14 0) (S 15 0) (S 16) 0) H := hP
                      have hD : va_D A (wMr cI y_ b_ (S 0) (S 1) (S 2) (S 3) (upd (S 4) (S 10 0).toNatClampNeg k_) (upd (S 5) (S 10 0).toNatClampNeg p_) (upd (S 6) (S 10 0).toNatClampNeg o_) (S 7) (S 8) (S 9) (S 10 0) (S 11 0) (S 12) (S 13) (S 14 0) (S 15 0) (S 16) 0) := hD
                      refine lv_aload_n hx hb_ dX1_addCue_149 rfl (lv_at hl 1 rfl) ?_
                      have hf31 := hts (.fieldLink RX1 31 "ClockmaskModel" "waitsFor" "[I") (by decide +kernel)
                      refine va_get (D := D) (ci := 1) (v := .ref (b_ 7)) (C := RX1) (T := TX1) (N := 18) hx hb_ hts hin hown hK_ hP 0 rfl rfl 7 (by decide) hf31 (fun _ h9 => h9) rfl dX1_addCue_150 ?_
                      refine lv_aload_n hx hb_ dX1_addCue_153 rfl (lv_at hl 1 rfl) ?_
                      refine va_get (D := D) (ci := 1) (v := .int (S 10 0)) (C := RX1) (T := TX1) (N := 18) hx hb_ hts hin hown hK_ hP 0 rfl rfl 10 (by decide) hf60 (fun _ h9 => h9) rfl dX1_addCue_154 ?_
                      refine lv_iload hx hb_ dX1_addCue_157 (lv_at hl 5 rfl) ?_
                      refine va_iast (f := S 7) (n := 24) hx hb_ hK_ hP hD hS_ 8 0 rfl rfl (by assumption) dX1_addCue_159 (fun H locs hP hD hS_ => ?_)
                      have hP : va_P D vwCl (wMr cI y_ b_ (S 0) (S 1) (S 2) (S 3) (upd (S 4) (S 10 0).toNatClampNeg k_) (upd (S 5) (S 10 0).toNatClampNeg p_) (upd (S 6) (S 10 0).toNatClampNeg o_) (upd (S 7) (S 10 0).toNatClampNeg w_) (S 8) (S 9) (S 10 0) (S 11 0) (S 12) (S 13) (S 14 0) (S 15 0) (S 16) 0) H := hP
                      have hD : va_D A (wMr cI y_ b_ (S 0) (S 1) (S 2) (S 3) (upd (S 4) (S 10 0).toNatClampNeg k_) (upd (S 5) (S 10 0).toNatClampNeg p_) (upd (S 6) (S 10 0).toNatClampNeg o_) (upd (S 7) (S 10 0).toNatClampNeg w_) (S 8) (S 9) (S 10 0) (S 11 0) (S 12) (S 13) (S 14 0) (S 15 0) (S 16) 0) := hD
                      refine lv_aload_n hx hb_ dX1_addCue_160 rfl (lv_at hl 1 rfl) ?_
                      have hf34 := hts (.fieldLink RX1 34 "ClockmaskModel" "states" "[I") (by decide +kernel)
                      refine va_get (D := D) (ci := 1) (v := .ref (b_ 8)) (C := RX1) (T := TX1) (N := 18) hx hb_ hts hin hown hK_ hP 0 rfl rfl 8 (by decide) hf34 (fun _ h9 => h9) rfl dX1_addCue_161 ?_
                      refine lv_aload_n hx hb_ dX1_addCue_164 rfl (lv_at hl 1 rfl) ?_
                      refine va_get (D := D) (ci := 1) (v := .int (S 10 0)) (C := RX1) (T := TX1) (N := 18) hx hb_ hts hin hown hK_ hP 0 rfl rfl 10 (by decide) hf60 (fun _ h9 => h9) rfl dX1_addCue_165 ?_
                      refine lv_iconst (v := 0) hx hb_ dX1_addCue_168 (by decide) ?_
                      refine va_iast (f := S 8) (n := 24) hx hb_ hK_ hP hD hS_ 9 0 rfl rfl (by assumption) dX1_addCue_169 (fun H locs hP hD hS_ => ?_)
                      have hP : va_P D vwCl (wMr cI y_ b_ (S 0) (S 1) (S 2) (S 3) (upd (S 4) (S 10 0).toNatClampNeg k_) (upd (S 5) (S 10 0).toNatClampNeg p_) (upd (S 6) (S 10 0).toNatClampNeg o_) (upd (S 7) (S 10 0).toNatClampNeg w_) (upd (S 8) (S 10 0).toNatClampNeg 0) (S 9) (S 10 0) (S 11 0) (S 12) (S 13) (S 14 0) (S 15 0) (S 16) 0) H := hP
                      have hD : va_D A (wMr cI y_ b_ (S 0) (S 1) (S 2) (S 3) (upd (S 4) (S 10 0).toNatClampNeg k_) (upd (S 5) (S 10 0).toNatClampNeg p_) (upd (S 6) (S 10 0).toNatClampNeg o_) (upd (S 7) (S 10 0).toNatClampNeg w_) (upd (S 8) (S 10 0).toNatClampNeg 0) (S 9) (S 10 0) (S 11 0) (S 12) (S 13) (S 14 0) (S 15 0) (S 16) 0) := hD
                      refine lv_aload_n hx hb_ dX1_addCue_170 rfl (lv_at hl 1 rfl) ?_
                      refine lv_dup hx hb_ dX1_addCue_171 rfl ?_
                      refine va_get (D := D) (ci := 1) (v := .int (S 10 0)) (C := RX1) (T := TX1) (N := 18) hx hb_ hts hin hown hK_ hP 0 rfl rfl 10 (by decide) hf60 (fun _ h9 => h9) rfl dX1_addCue_172 ?_
                      refine lv_iconst (v := 1) hx hb_ dX1_addCue_175 (by decide) ?_
                      refine lv_iadd hx hb_ dX1_addCue_176 ?_
                      refine va_put (D := D) (ci := 1) (v := .int ((S 10 0) + 1)) (ty := .int) (C := RX1) (T := TX1) (N := 18) hx hb_ hts hin tyX1 tyX1_ok nmX1 hown hK_ hP hD hS_ 0 rfl rfl 10 (by decide) hf60 (fun _ h9 => h9) rfl (by decide +kernel) rfl rfl (Nat.le_of_ble_eq_true rfl) dX1_addCue_177 (fun H locs hP hD hS_ => ?_)
                      have hP : va_P D vwCl (wMr cI y_ b_ (S 0) (S 1) (S 2) (S 3) (upd (S 4) (S 10 0).toNatClampNeg k_) (upd (S 5) (S 10 0).toNatClampNeg p_) (upd (S 6) (S 10 0).toNatClampNeg o_) (upd (S 7) (S 10 0).toNatClampNeg w_) (upd (S 8) (S 10 0).toNatClampNeg 0) (S 9) ((S 10 0) + 1) (S 11 0) (S 12) (S 13) (S 14 0) (S 15 0) (S 16) 0) H := hP
                      have hD : va_D A (wMr cI y_ b_ (S 0) (S 1) (S 2) (S 3) (upd (S 4) (S 10 0).toNatClampNeg k_) (upd (S 5) (S 10 0).toNatClampNeg p_) (upd (S 6) (S 10 0).toNatClampNeg o_) (upd (S 7) (S 10 0).toNatClampNeg w_) (upd (S 8) (S 10 0).toNatClampNeg 0) (S 9) ((S 10 0) + 1) (S 11 0) (S 12) (S 13) (S 14 0) (S 15 0) (S 16) 0) := hD
                      refine lv_aload_n hx hb_ dX1_addCue_180 rfl (lv_at hl 1 rfl) ?_
                      refine va_get (D := D) (ci := 1) (v := .int ((S 10 0) + 1)) (C := RX1) (T := TX1) (N := 18) hx hb_ hts hin hown hK_ hP 0 rfl rfl 10 (by decide) hf60 (fun _ h9 => h9) rfl dX1_addCue_181 ?_
                      refine lv_iconst (v := 1) hx hb_ dX1_addCue_184 (by decide) ?_
                      refine lv_isub hx hb_ dX1_addCue_185 ?_
                      exact W.iret (v := ((S 10 0) + 1) - 1) hx hb_ hr (fun t_ ht hW => ⟨⟨_, (row (row (row (row (row (row S 4 (upd (S 4) (S 10 0).toNatClampNeg k_)) 5 (upd (S 5) (S 10 0).toNatClampNeg p_)) 6 (upd (S 6) (S 10 0).toNatClampNeg o_)) 7 (upd (S 7) (S 10 0).toNatClampNeg w_)) 8 (upd (S 8) (S 10 0).toNatClampNeg 0)) 10 (kf ((S 10 0) + 1)), 0), rfl, by rw [Int32.add_sub_cancel]; exact (cif_t ⟨b_8.1, Int32.not_lt.mp b_8.2⟩).trans ((cif_t ⟨b_38, ho, hw⟩).trans (cif_t ⟨h24, hn, hw3⟩)), by rw [ht]; exact hP, hD⟩, hS_.F ht⟩) hS_.2.2 dX1_addCue_186
                    · skip
                      refine lv_aload_n hx hb_ dX1_addCue_102 rfl (lv_at hl 1 rfl) ?_
                      have hf34 := hts (.fieldLink RX1 34 "ClockmaskModel" "states" "[I") (by decide +kernel)
                      refine va_get (D := D) (ci := 1) (v := .ref (b_ 8)) (C := RX1) (T := TX1) (N := 18) hx hb_ hts hin hown hK_ hP 0 rfl rfl 8 (by decide) hf34 (fun _ h9 => h9) rfl dX1_addCue_103 ?_
                      refine lv_iload hx hb_ dX1_addCue_106 (lv_at hl 5 rfl) ?_
                      refine va_iald (f := S 8) (n := 24) hx hb_ hK_ hP 9 0 rfl rfl (hI_.q24 (hw.resolve_left c_99)) dX1_addCue_108 ?_
                      refine lv_iconst (v := 2) hx hb_ dX1_addCue_109 (by decide) ?_
                      refine lv_icmp_ne (tgt := 119) hx hb_ dX1_addCue_110 (by decide) (fun c_110 => ?_) (fun c_110 => ?_)
                      · skip
                        have hw3 : w_ = -1 ∨ S 8 w_.toNatClampNeg ≠ 2 := Or.inr c_110
                        refine lv_aload_n hx hb_ dX1_addCue_119 rfl (lv_at hl 1 rfl) ?_
                        have hf22 := hts (.fieldLink RX1 22 "ClockmaskModel" "kinds" "[I") (by decide +kernel)
                        refine va_get (D := D) (ci := 1) (v := .ref (b_ 4)) (C := RX1) (T := TX1) (N := 18) hx hb_ hts hin hown hK_ hP 0 rfl rfl 4 (by decide) hf22 (fun _ h9 => h9) rfl dX1_addCue_120 ?_
                        refine lv_aload_n hx hb_ dX1_addCue_123 rfl (lv_at hl 1 rfl) ?_
                        refine va_get (D := D) (ci := 1) (v := .int (S 10 0)) (C := RX1) (T := TX1) (N := 18) hx hb_ hts hin hown hK_ hP 0 rfl rfl 10 (by decide) hf60 (fun _ h9 => h9) rfl dX1_addCue_124 ?_
                        refine lv_iload_n hx hb_ dX1_addCue_127 rfl (lv_at hl 2 rfl) ?_
                        refine va_iast (f := S 4) (n := 24) hx hb_ hK_ hP hD hS_ 5 0 rfl rfl (by assumption) dX1_addCue_128 (fun H locs hP hD hS_ => ?_)
                        have hP : va_P D vwCl (wMr cI y_ b_ (S 0) (S 1) (S 2) (S 3) (upd (S 4) (S 10 0).toNatClampNeg k_) (S 5) (S 6) (S 7) (S 8) (S 9) (S 10 0) (S 11 0) (S 12) (S 13) (S 14 0) (S 15 0) (S 16) 0) H := hP
                        have hD : va_D A (wMr cI y_ b_ (S 0) (S 1) (S 2) (S 3) (upd (S 4) (S 10 0).toNatClampNeg k_) (S 5) (S 6) (S 7) (S 8) (S 9) (S 10 0) (S 11 0) (S 12) (S 13) (S 14 0) (S 15 0) (S 16) 0) := hD
                        refine lv_aload_n hx hb_ dX1_addCue_129 rfl (lv_at hl 1 rfl) ?_
                        have hf25 := hts (.fieldLink RX1 25 "ClockmaskModel" "players" "[I") (by decide +kernel)
                        refine va_get (D := D) (ci := 1) (v := .ref (b_ 5)) (C := RX1) (T := TX1) (N := 18) hx hb_ hts hin hown hK_ hP 0 rfl rfl 5 (by decide) hf25 (fun _ h9 => h9) rfl dX1_addCue_130 ?_
                        refine lv_aload_n hx hb_ dX1_addCue_133 rfl (lv_at hl 1 rfl) ?_
                        refine va_get (D := D) (ci := 1) (v := .int (S 10 0)) (C := RX1) (T := TX1) (N := 18) hx hb_ hts hin hown hK_ hP 0 rfl rfl 10 (by decide) hf60 (fun _ h9 => h9) rfl dX1_addCue_134 ?_
                        refine lv_iload_n hx hb_ dX1_addCue_137 rfl (lv_at hl 3 rfl) ?_
                        refine va_iast (f := S 5) (n := 24) hx hb_ hK_ hP hD hS_ 6 0 rfl rfl (by assumption) dX1_addCue_138 (fun H locs hP hD hS_ => ?_)
                        have hP : va_P D vwCl (wMr cI y_ b_ (S 0) (S 1) (S 2) (S 3) (upd (S 4) (S 10 0).toNatClampNeg k_) (upd (S 5) (S 10 0).toNatClampNeg p_) (S 6) (S 7) (S 8) (S 9) (S 10 0) (S 11 0) (S 12) (S 13) (S 14 0) (S 15 0) (S 16) 0) H := hP
                        have hD : va_D A (wMr cI y_ b_ (S 0) (S 1) (S 2) (S 3) (upd (S 4) (S 10 0).toNatClampNeg k_) (upd (S 5) (S 10 0).toNatClampNeg p_) (S 6) (S 7) (S 8) (S 9) (S 10 0) (S 11 0) (S 12) (S 13) (S 14 0) (S 15 0) (S 16) 0) := hD
                        refine lv_aload_n hx hb_ dX1_addCue_139 rfl (lv_at hl 1 rfl) ?_
                        have hf28 := hts (.fieldLink RX1 28 "ClockmaskModel" "others" "[I") (by decide +kernel)
                        refine va_get (D := D) (ci := 1) (v := .ref (b_ 6)) (C := RX1) (T := TX1) (N := 18) hx hb_ hts hin hown hK_ hP 0 rfl rfl 6 (by decide) hf28 (fun _ h9 => h9) rfl dX1_addCue_140 ?_
                        refine lv_aload_n hx hb_ dX1_addCue_143 rfl (lv_at hl 1 rfl) ?_
                        refine va_get (D := D) (ci := 1) (v := .int (S 10 0)) (C := RX1) (T := TX1) (N := 18) hx hb_ hts hin hown hK_ hP 0 rfl rfl 10 (by decide) hf60 (fun _ h9 => h9) rfl dX1_addCue_144 ?_
                        refine lv_iload_n hx hb_ dX1_addCue_147 rfl (lv_at hl 4 rfl) ?_
                        refine va_iast (f := S 6) (n := 24) hx hb_ hK_ hP hD hS_ 7 0 rfl rfl (by assumption) dX1_addCue_148 (fun H locs hP hD hS_ => ?_)
                        have hP : va_P D vwCl (wMr cI y_ b_ (S 0) (S 1) (S 2) (S 3) (upd (S 4) (S 10 0).toNatClampNeg k_) (upd (S 5) (S 10 0).toNatClampNeg p_) (upd (S 6) (S 10 0).toNatClampNeg o_) (S 7) (S 8) (S 9) (S 10 0) (S 11 0) (S 12) (S 13) (S 14 0) (S 15 0) (S 16) 0) H := hP
                        have hD : va_D A (wMr cI y_ b_ (S 0) (S 1) (S 2) (S 3) (upd (S 4) (S 10 0).toNatClampNeg k_) (upd (S 5) (S 10 0).toNatClampNeg p_) (upd (S 6) (S 10 0).toNatClampNeg o_) (S 7) (S 8) (S 9) (S 10 0) (S 11 0) (S 12) (S 13) (S 14 0) (S 15 0) (S 16) 0) := hD
                        refine lv_aload_n hx hb_ dX1_addCue_149 rfl (lv_at hl 1 rfl) ?_
                        have hf31 := hts (.fieldLink RX1 31 "ClockmaskModel" "waitsFor" "[I") (by decide +kernel)
                        refine va_get (D := D) (ci := 1) (v := .ref (b_ 7)) (C := RX1) (T := TX1) (N := 18) hx hb_ hts hin hown hK_ hP 0 rfl rfl 7 (by decide) hf31 (fun _ h9 => h9) rfl dX1_addCue_150 ?_
                        refine lv_aload_n hx hb_ dX1_addCue_153 rfl (lv_at hl 1 rfl) ?_
                        refine va_get (D := D) (ci := 1) (v := .int (S 10 0)) (C := RX1) (T := TX1) (N := 18) hx hb_ hts hin hown hK_ hP 0 rfl rfl 10 (by decide) hf60 (fun _ h9 => h9) rfl dX1_addCue_154 ?_
                        refine lv_iload hx hb_ dX1_addCue_157 (lv_at hl 5 rfl) ?_
                        refine va_iast (f := S 7) (n := 24) hx hb_ hK_ hP hD hS_ 8 0 rfl rfl (by assumption) dX1_addCue_159 (fun H locs hP hD hS_ => ?_)
                        have hP : va_P D vwCl (wMr cI y_ b_ (S 0) (S 1) (S 2) (S 3) (upd (S 4) (S 10 0).toNatClampNeg k_) (upd (S 5) (S 10 0).toNatClampNeg p_) (upd (S 6) (S 10 0).toNatClampNeg o_) (upd (S 7) (S 10 0).toNatClampNeg w_) (S 8) (S 9) (S 10 0) (S 11 0) (S 12) (S 13) (S 14 0) (S 15 0) (S 16) 0) H := hP
                        have hD : va_D A (wMr cI y_ b_ (S 0) (S 1) (S 2) (S 3) (upd (S 4) (S 10 0).toNatClampNeg k_) (upd (S 5) (S 10 0).toNatClampNeg p_) (upd (S 6) (S 10 0).toNatClampNeg o_) (upd (S 7) (S 10 0).toNatClampNeg w_) (S 8) (S 9) (S 10 0) (S 11 0) (S 12) (S 13) (S 14 0) (S 15 0) (S 16) 0) := hD
                        refine lv_aload_n hx hb_ dX1_addCue_160 rfl (lv_at hl 1 rfl) ?_
                        refine va_get (D := D) (ci := 1) (v := .ref (b_ 8)) (C := RX1) (T := TX1) (N := 18) hx hb_ hts hin hown hK_ hP 0 rfl rfl 8 (by decide) hf34 (fun _ h9 => h9) rfl dX1_addCue_161 ?_
                        refine lv_aload_n hx hb_ dX1_addCue_164 rfl (lv_at hl 1 rfl) ?_
                        refine va_get (D := D) (ci := 1) (v := .int (S 10 0)) (C := RX1) (T := TX1) (N := 18) hx hb_ hts hin hown hK_ hP 0 rfl rfl 10 (by decide) hf60 (fun _ h9 => h9) rfl dX1_addCue_165 ?_
                        refine lv_iconst (v := 0) hx hb_ dX1_addCue_168 (by decide) ?_
                        refine va_iast (f := S 8) (n := 24) hx hb_ hK_ hP hD hS_ 9 0 rfl rfl (by assumption) dX1_addCue_169 (fun H locs hP hD hS_ => ?_)
                        have hP : va_P D vwCl (wMr cI y_ b_ (S 0) (S 1) (S 2) (S 3) (upd (S 4) (S 10 0).toNatClampNeg k_) (upd (S 5) (S 10 0).toNatClampNeg p_) (upd (S 6) (S 10 0).toNatClampNeg o_) (upd (S 7) (S 10 0).toNatClampNeg w_) (upd (S 8) (S 10 0).toNatClampNeg 0) (S 9) (S 10 0) (S 11 0) (S 12) (S 13) (S 14 0) (S 15 0) (S 16) 0) H := hP
                        have hD : va_D A (wMr cI y_ b_ (S 0) (S 1) (S 2) (S 3) (upd (S 4) (S 10 0).toNatClampNeg k_) (upd (S 5) (S 10 0).toNatClampNeg p_) (upd (S 6) (S 10 0).toNatClampNeg o_) (upd (S 7) (S 10 0).toNatClampNeg w_) (upd (S 8) (S 10 0).toNatClampNeg 0) (S 9) (S 10 0) (S 11 0) (S 12) (S 13) (S 14 0) (S 15 0) (S 16) 0) := hD
                        refine lv_aload_n hx hb_ dX1_addCue_170 rfl (lv_at hl 1 rfl) ?_
                        refine lv_dup hx hb_ dX1_addCue_171 rfl ?_
                        refine va_get (D := D) (ci := 1) (v := .int (S 10 0)) (C := RX1) (T := TX1) (N := 18) hx hb_ hts hin hown hK_ hP 0 rfl rfl 10 (by decide) hf60 (fun _ h9 => h9) rfl dX1_addCue_172 ?_
                        refine lv_iconst (v := 1) hx hb_ dX1_addCue_175 (by decide) ?_
                        refine lv_iadd hx hb_ dX1_addCue_176 ?_
                        refine va_put (D := D) (ci := 1) (v := .int ((S 10 0) + 1)) (ty := .int) (C := RX1) (T := TX1) (N := 18) hx hb_ hts hin tyX1 tyX1_ok nmX1 hown hK_ hP hD hS_ 0 rfl rfl 10 (by decide) hf60 (fun _ h9 => h9) rfl (by decide +kernel) rfl rfl (Nat.le_of_ble_eq_true rfl) dX1_addCue_177 (fun H locs hP hD hS_ => ?_)
                        have hP : va_P D vwCl (wMr cI y_ b_ (S 0) (S 1) (S 2) (S 3) (upd (S 4) (S 10 0).toNatClampNeg k_) (upd (S 5) (S 10 0).toNatClampNeg p_) (upd (S 6) (S 10 0).toNatClampNeg o_) (upd (S 7) (S 10 0).toNatClampNeg w_) (upd (S 8) (S 10 0).toNatClampNeg 0) (S 9) ((S 10 0) + 1) (S 11 0) (S 12) (S 13) (S 14 0) (S 15 0) (S 16) 0) H := hP
                        have hD : va_D A (wMr cI y_ b_ (S 0) (S 1) (S 2) (S 3) (upd (S 4) (S 10 0).toNatClampNeg k_) (upd (S 5) (S 10 0).toNatClampNeg p_) (upd (S 6) (S 10 0).toNatClampNeg o_) (upd (S 7) (S 10 0).toNatClampNeg w_) (upd (S 8) (S 10 0).toNatClampNeg 0) (S 9) ((S 10 0) + 1) (S 11 0) (S 12) (S 13) (S 14 0) (S 15 0) (S 16) 0) := hD
                        refine lv_aload_n hx hb_ dX1_addCue_180 rfl (lv_at hl 1 rfl) ?_
                        refine va_get (D := D) (ci := 1) (v := .int ((S 10 0) + 1)) (C := RX1) (T := TX1) (N := 18) hx hb_ hts hin hown hK_ hP 0 rfl rfl 10 (by decide) hf60 (fun _ h9 => h9) rfl dX1_addCue_181 ?_
                        refine lv_iconst (v := 1) hx hb_ dX1_addCue_184 (by decide) ?_
                        refine lv_isub hx hb_ dX1_addCue_185 ?_
                        exact W.iret (v := ((S 10 0) + 1) - 1) hx hb_ hr (fun t_ ht hW => ⟨⟨_, (row (row (row (row (row (row S 4 (upd (S 4) (S 10 0).toNatClampNeg k_)) 5 (upd (S 5) (S 10 0).toNatClampNeg p_)) 6 (upd (S 6) (S 10 0).toNatClampNeg o_)) 7 (upd (S 7) (S 10 0).toNatClampNeg w_)) 8 (upd (S 8) (S 10 0).toNatClampNeg 0)) 10 (kf ((S 10 0) + 1)), 0), rfl, by rw [Int32.add_sub_cancel]; exact (cif_t ⟨b_8.1, Int32.not_lt.mp b_8.2⟩).trans ((cif_t ⟨b_38, ho, hw⟩).trans (cif_t ⟨h24, hn, hw3⟩)), by rw [ht]; exact hP, hD⟩, hS_.F ht⟩) hS_.2.2 dX1_addCue_186
                      · skip
                        refine lv_aload_n hx hb_ dX1_addCue_113 rfl (lv_at hl 1 rfl) ?_
                        refine lv_iconst (v := 3) hx hb_ dX1_addCue_114 (by decide) ?_
                        have hFc := wfree hD hS_ hA
                        refine va_calli (va_runV (As := [.int 3]) (rest := []) ⟨hx, hb_, hml, hown, hts⟩ (c_X1_fails l D cI y_ b_ S 0 H.size 3) (cwV 1 hts gX1_addCue_X1_fails rfl rfl rfl (by decide +kernel) ⟨Nat.le_of_ble_eq_true rfl, Nat.le_of_ble_eq_true rfl⟩) (pW_V (ci := 1) hP hK_ hD rfl rfl) rfl rfl hl.1 rfl (lv_room (Nat.le_of_ble_eq_true rfl)) dX1_addCue_115 ⟨Nat.zero_le _, Nat.zero_le _⟩) hS_ (fun q_ _ h_ => hFc q_ h_) hFc (fun r_115 u_115 t9 H1 locs ht9 hvm9 h_115 hB9 hz9 hk9 hS_ => ?_)
                        obtain ⟨e_115, h_115⟩ := h_115
                        subst e_115
                        subst h_115
                        have hP : va_P D vwCl (wM cI y_ b_ S 3) H1 := atW_P hB9 ht9
                        have hD : va_D A (wM cI y_ b_ S 3) := atW_D hB9 hFc
                        generalize H1 = H at hP hS_ ⊢
                        exact W.iret (v := 0) hx hb_ hr (fun t_ ht hW => ⟨⟨_, (S, 3), rfl, (cif_t ⟨b_8.1, Int32.not_lt.mp b_8.2⟩).trans ((cif_t ⟨b_38, ho, hw⟩).trans (cif_f (fun h_ => h_.2.2.elim c_99 (fun z_ => z_ c_110)))), by rw [ht]; exact hP, hD⟩, hS_.F ht⟩) hS_.2.2 dX1_addCue_118
                  · skip
                    refine lv_iload_n hx hb_ dX1_addCue_91 rfl (lv_at hl 3 rfl) ?_
                    refine lv_iload_n hx hb_ dX1_addCue_92 rfl (lv_at hl 4 rfl) ?_
                    refine lv_icmp_eq (tgt := 113) hx hb_ dX1_addCue_93 (by decide) (fun c_93 => ?_) (fun c_93 => ?_)
                    · skip
                      refine lv_aload_n hx hb_ dX1_addCue_113 rfl (lv_at hl 1 rfl) ?_
                      refine lv_iconst (v := 3) hx hb_ dX1_addCue_114 (by decide) ?_
                      have hFc := wfree hD hS_ hA
                      refine va_calli (va_runV (As := [.int 3]) (rest := []) ⟨hx, hb_, hml, hown, hts⟩ (c_X1_fails l D cI y_ b_ S 0 H.size 3) (cwV 1 hts gX1_addCue_X1_fails rfl rfl rfl (by decide +kernel) ⟨Nat.le_of_ble_eq_true rfl, Nat.le_of_ble_eq_true rfl⟩) (pW_V (ci := 1) hP hK_ hD rfl rfl) rfl rfl hl.1 rfl (lv_room (Nat.le_of_ble_eq_true rfl)) dX1_addCue_115 ⟨Nat.zero_le _, Nat.zero_le _⟩) hS_ (fun q_ _ h_ => hFc q_ h_) hFc (fun r_115 u_115 t9 H1 locs ht9 hvm9 h_115 hB9 hz9 hk9 hS_ => ?_)
                      obtain ⟨e_115, h_115⟩ := h_115
                      subst e_115
                      subst h_115
                      have hP : va_P D vwCl (wM cI y_ b_ S 3) H1 := atW_P hB9 ht9
                      have hD : va_D A (wM cI y_ b_ S 3) := atW_D hB9 hFc
                      generalize H1 = H at hP hS_ ⊢
                      exact W.iret (v := 0) hx hb_ hr (fun t_ ht hW => ⟨⟨_, (S, 3), rfl, (cif_t ⟨b_8.1, Int32.not_lt.mp b_8.2⟩).trans ((cif_t ⟨b_38, ho, hw⟩).trans (cif_f (fun h_ => h_.2.1 ⟨c_88, c_93⟩))), by rw [ht]; exact hP, hD⟩, hS_.F ht⟩) hS_.2.2 dX1_addCue_118
                    · skip
                      have hn : ¬ (k_ = 4 ∧ p_ = o_) := fun z_ => c_93 z_.2
                      refine lv_iload hx hb_ dX1_addCue_96 (lv_at hl 5 rfl) ?_
                      refine lv_iconst (v := (-1)) hx hb_ dX1_addCue_98 (by decide) ?_
                      refine lv_icmp_eq (tgt := 119) hx hb_ dX1_addCue_99 (by decide) (fun c_99 => ?_) (fun c_99 => ?_)
                      · skip
                        have hw3 : w_ = -1 ∨ S 8 w_.toNatClampNeg ≠ 2 := Or.inl c_99
                        refine lv_aload_n hx hb_ dX1_addCue_119 rfl (lv_at hl 1 rfl) ?_
                        have hf22 := hts (.fieldLink RX1 22 "ClockmaskModel" "kinds" "[I") (by decide +kernel)
                        refine va_get (D := D) (ci := 1) (v := .ref (b_ 4)) (C := RX1) (T := TX1) (N := 18) hx hb_ hts hin hown hK_ hP 0 rfl rfl 4 (by decide) hf22 (fun _ h9 => h9) rfl dX1_addCue_120 ?_
                        refine lv_aload_n hx hb_ dX1_addCue_123 rfl (lv_at hl 1 rfl) ?_
                        refine va_get (D := D) (ci := 1) (v := .int (S 10 0)) (C := RX1) (T := TX1) (N := 18) hx hb_ hts hin hown hK_ hP 0 rfl rfl 10 (by decide) hf60 (fun _ h9 => h9) rfl dX1_addCue_124 ?_
                        refine lv_iload_n hx hb_ dX1_addCue_127 rfl (lv_at hl 2 rfl) ?_
                        refine va_iast (f := S 4) (n := 24) hx hb_ hK_ hP hD hS_ 5 0 rfl rfl (by assumption) dX1_addCue_128 (fun H locs hP hD hS_ => ?_)
                        have hP : va_P D vwCl (wMr cI y_ b_ (S 0) (S 1) (S 2) (S 3) (upd (S 4) (S 10 0).toNatClampNeg k_) (S 5) (S 6) (S 7) (S 8) (S 9) (S 10 0) (S 11 0) (S 12) (S 13) (S 14 0) (S 15 0) (S 16) 0) H := hP
                        have hD : va_D A (wMr cI y_ b_ (S 0) (S 1) (S 2) (S 3) (upd (S 4) (S 10 0).toNatClampNeg k_) (S 5) (S 6) (S 7) (S 8) (S 9) (S 10 0) (S 11 0) (S 12) (S 13) (S 14 0) (S 15 0) (S 16) 0) := hD
                        refine lv_aload_n hx hb_ dX1_addCue_129 rfl (lv_at hl 1 rfl) ?_
                        have hf25 := hts (.fieldLink RX1 25 "ClockmaskModel" "players" "[I") (by decide +kernel)
                        refine va_get (D := D) (ci := 1) (v := .ref (b_ 5)) (C := RX1) (T := TX1) (N := 18) hx hb_ hts hin hown hK_ hP 0 rfl rfl 5 (by decide) hf25 (fun _ h9 => h9) rfl dX1_addCue_130 ?_
                        refine lv_aload_n hx hb_ dX1_addCue_133 rfl (lv_at hl 1 rfl) ?_
                        refine va_get (D := D) (ci := 1) (v := .int (S 10 0)) (C := RX1) (T := TX1) (N := 18) hx hb_ hts hin hown hK_ hP 0 rfl rfl 10 (by decide) hf60 (fun _ h9 => h9) rfl dX1_addCue_134 ?_
                        refine lv_iload_n hx hb_ dX1_addCue_137 rfl (lv_at hl 3 rfl) ?_
                        refine va_iast (f := S 5) (n := 24) hx hb_ hK_ hP hD hS_ 6 0 rfl rfl (by assumption) dX1_addCue_138 (fun H locs hP hD hS_ => ?_)
                        have hP : va_P D vwCl (wMr cI y_ b_ (S 0) (S 1) (S 2) (S 3) (upd (S 4) (S 10 0).toNatClampNeg k_) (upd (S 5) (S 10 0).toNatClampNeg p_) (S 6) (S 7) (S 8) (S 9) (S 10 0) (S 11 0) (S 12) (S 13) (S 14 0) (S 15 0) (S 16) 0) H := hP
                        have hD : va_D A (wMr cI y_ b_ (S 0) (S 1) (S 2) (S 3) (upd (S 4) (S 10 0).toNatClampNeg k_) (upd (S 5) (S 10 0).toNatClampNeg p_) (S 6) (S 7) (S 8) (S 9) (S 10 0) (S 11 0) (S 12) (S 13) (S 14 0) (S 15 0) (S 16) 0) := hD
                        refine lv_aload_n hx hb_ dX1_addCue_139 rfl (lv_at hl 1 rfl) ?_
                        have hf28 := hts (.fieldLink RX1 28 "ClockmaskModel" "others" "[I") (by decide +kernel)
                        refine va_get (D := D) (ci := 1) (v := .ref (b_ 6)) (C := RX1) (T := TX1) (N := 18) hx hb_ hts hin hown hK_ hP 0 rfl rfl 6 (by decide) hf28 (fun _ h9 => h9) rfl dX1_addCue_140 ?_
                        refine lv_aload_n hx hb_ dX1_addCue_143 rfl (lv_at hl 1 rfl) ?_
                        refine va_get (D := D) (ci := 1) (v := .int (S 10 0)) (C := RX1) (T := TX1) (N := 18) hx hb_ hts hin hown hK_ hP 0 rfl rfl 10 (by decide) hf60 (fun _ h9 => h9) rfl dX1_addCue_144 ?_
                        refine lv_iload_n hx hb_ dX1_addCue_147 rfl (lv_at hl 4 rfl) ?_
                        refine va_iast (f := S 6) (n := 24) hx hb_ hK_ hP hD hS_ 7 0 rfl rfl (by assumption) dX1_addCue_148 (fun H locs hP hD hS_ => ?_)
                        have hP : va_P D vwCl (wMr cI y_ b_ (S 0) (S 1) (S 2) (S 3) (upd (S 4) (S 10 0).toNatClampNeg k_) (upd (S 5) (S 10 0).toNatClampNeg p_) (upd (S 6) (S 10 0).toNatClampNeg o_) (S 7) (S 8) (S 9) (S 10 0) (S 11 0) (S 12) (S 13) (S 14 0) (S 15 0) (S 16) 0) H := hP
                        have hD : va_D A (wMr cI y_ b_ (S 0) (S 1) (S 2) (S 3) (upd (S 4) (S 10 0).toNatClampNeg k_) (upd (S 5) (S 10 0).toNatClampNeg p_) (upd (S 6) (S 10 0).toNatClampNeg o_) (S 7) (S 8) (S 9) (S 10 0) (S 11 0) (S 12) (S 13) (S 14 0) (S 15 0) (S 16) 0) := hD
                        refine lv_aload_n hx hb_ dX1_addCue_149 rfl (lv_at hl 1 rfl) ?_
                        have hf31 := hts (.fieldLink RX1 31 "ClockmaskModel" "waitsFor" "[I") (by decide +kernel)
                        refine va_get (D := D) (ci := 1) (v := .ref (b_ 7)) (C := RX1) (T := TX1) (N := 18) hx hb_ hts hin hown hK_ hP 0 rfl rfl 7 (by decide) hf31 (fun _ h9 => h9) rfl dX1_addCue_150 ?_
                        refine lv_aload_n hx hb_ dX1_addCue_153 rfl (lv_at hl 1 rfl) ?_
                        refine va_get (D := D) (ci := 1) (v := .int (S 10 0)) (C := RX1) (T := TX1) (N := 18) hx hb_ hts hin hown hK_ hP 0 rfl rfl 10 (by decide) hf60 (fun _ h9 => h9) rfl dX1_addCue_154 ?_
                        refine lv_iload hx hb_ dX1_addCue_157 (lv_at hl 5 rfl) ?_
                        refine va_iast (f := S 7) (n := 24) hx hb_ hK_ hP hD hS_ 8 0 rfl rfl (by assumption) dX1_addCue_159 (fun H locs hP hD hS_ => ?_)
                        have hP : va_P D vwCl (wMr cI y_ b_ (S 0) (S 1) (S 2) (S 3) (upd (S 4) (S 10 0).toNatClampNeg k_) (upd (S 5) (S 10 0).toNatClampNeg p_) (upd (S 6) (S 10 0).toNatClampNeg o_) (upd (S 7) (S 10 0).toNatClampNeg w_) (S 8) (S 9) (S 10 0) (S 11 0) (S 12) (S 13) (S 14 0) (S 15 0) (S 16) 0) H := hP
                        have hD : va_D A (wMr cI y_ b_ (S 0) (S 1) (S 2) (S 3) (upd (S 4) (S 10 0).toNatClampNeg k_) (upd (S 5) (S 10 0).toNatClampNeg p_) (upd (S 6) (S 10 0).toNatClampNeg o_) (upd (S 7) (S 10 0).toNatClampNeg w_) (S 8) (S 9) (S 10 0) (S 11 0) (S 12) (S 13) (S 14 0) (S 15 0) (S 16) 0) := hD
                        refine lv_aload_n hx hb_ dX1_addCue_160 rfl (lv_at hl 1 rfl) ?_
                        have hf34 := hts (.fieldLink RX1 34 "ClockmaskModel" "states" "[I") (by decide +kernel)
                        refine va_get (D := D) (ci := 1) (v := .ref (b_ 8)) (C := RX1) (T := TX1) (N := 18) hx hb_ hts hin hown hK_ hP 0 rfl rfl 8 (by decide) hf34 (fun _ h9 => h9) rfl dX1_addCue_161 ?_
                        refine lv_aload_n hx hb_ dX1_addCue_164 rfl (lv_at hl 1 rfl) ?_
                        refine va_get (D := D) (ci := 1) (v := .int (S 10 0)) (C := RX1) (T := TX1) (N := 18) hx hb_ hts hin hown hK_ hP 0 rfl rfl 10 (by decide) hf60 (fun _ h9 => h9) rfl dX1_addCue_165 ?_
                        refine lv_iconst (v := 0) hx hb_ dX1_addCue_168 (by decide) ?_
                        refine va_iast (f := S 8) (n := 24) hx hb_ hK_ hP hD hS_ 9 0 rfl rfl (by assumption) dX1_addCue_169 (fun H locs hP hD hS_ => ?_)
                        have hP : va_P D vwCl (wMr cI y_ b_ (S 0) (S 1) (S 2) (S 3) (upd (S 4) (S 10 0).toNatClampNeg k_) (upd (S 5) (S 10 0).toNatClampNeg p_) (upd (S 6) (S 10 0).toNatClampNeg o_) (upd (S 7) (S 10 0).toNatClampNeg w_) (upd (S 8) (S 10 0).toNatClampNeg 0) (S 9) (S 10 0) (S 11 0) (S 12) (S 13) (S 14 0) (S 15 0) (S 16) 0) H := hP
                        have hD : va_D A (wMr cI y_ b_ (S 0) (S 1) (S 2) (S 3) (upd (S 4) (S 10 0).toNatClampNeg k_) (upd (S 5) (S 10 0).toNatClampNeg p_) (upd (S 6) (S 10 0).toNatClampNeg o_) (upd (S 7) (S 10 0).toNatClampNeg w_) (upd (S 8) (S 10 0).toNatClampNeg 0) (S 9) (S 10 0) (S 11 0) (S 12) (S 13) (S 14 0) (S 15 0) (S 16) 0) := hD
                        refine lv_aload_n hx hb_ dX1_addCue_170 rfl (lv_at hl 1 rfl) ?_
                        refine lv_dup hx hb_ dX1_addCue_171 rfl ?_
                        refine va_get (D := D) (ci := 1) (v := .int (S 10 0)) (C := RX1) (T := TX1) (N := 18) hx hb_ hts hin hown hK_ hP 0 rfl rfl 10 (by decide) hf60 (fun _ h9 => h9) rfl dX1_addCue_172 ?_
                        refine lv_iconst (v := 1) hx hb_ dX1_addCue_175 (by decide) ?_
                        refine lv_iadd hx hb_ dX1_addCue_176 ?_
                        refine va_put (D := D) (ci := 1) (v := .int ((S 10 0) + 1)) (ty := .int) (C := RX1) (T := TX1) (N := 18) hx hb_ hts hin tyX1 tyX1_ok nmX1 hown hK_ hP hD hS_ 0 rfl rfl 10 (by decide) hf60 (fun _ h9 => h9) rfl (by decide +kernel) rfl rfl (Nat.le_of_ble_eq_true rfl) dX1_addCue_177 (fun H locs hP hD hS_ => ?_)
                        have hP : va_P D vwCl (wMr cI y_ b_ (S 0) (S 1) (S 2) (S 3) (upd (S 4) (S 10 0).toNatClampNeg k_) (upd (S 5) (S 10 0).toNatClampNeg p_) (upd (S 6) (S 10 0).toNatClampNeg o_) (upd (S 7) (S 10 0).toNatClampNeg w_) (upd (S 8) (S 10 0).toNatClampNeg 0) (S 9) ((S 10 0) + 1) (S 11 0) (S 12) (S 13) (S 14 0) (S 15 0) (S 16) 0) H := hP
                        have hD : va_D A (wMr cI y_ b_ (S 0) (S 1) (S 2) (S 3) (upd (S 4) (S 10 0).toNatClampNeg k_) (upd (S 5) (S 10 0).toNatClampNeg p_) (upd (S 6) (S 10 0).toNatClampNeg o_) (upd (S 7) (S 10 0).toNatClampNeg w_) (upd (S 8) (S 10 0).toNatClampNeg 0) (S 9) ((S 10 0) + 1) (S 11 0) (S 12) (S 13) (S 14 0) (S 15 0) (S 16) 0) := hD
                        refine lv_aload_n hx hb_ dX1_addCue_180 rfl (lv_at hl 1 rfl) ?_
                        refine va_get (D := D) (ci := 1) (v := .int ((S 10 0) + 1)) (C := RX1) (T := TX1) (N := 18) hx hb_ hts hin hown hK_ hP 0 rfl rfl 10 (by decide) hf60 (fun _ h9 => h9) rfl dX1_addCue_181 ?_
                        refine lv_iconst (v := 1) hx hb_ dX1_addCue_184 (by decide) ?_
                        refine lv_isub hx hb_ dX1_addCue_185 ?_
                        exact W.iret (v := ((S 10 0) + 1) - 1) hx hb_ hr (fun t_ ht hW => ⟨⟨_, (row (row (row (row (row (row S 4 (upd (S 4) (S 10 0).toNatClampNeg k_)) 5 (upd (S 5) (S 10 0).toNatClampNeg p_)) 6 (upd (S 6) (S 10 0).toNatClampNeg o_)) 7 (upd (S 7) (S 10 0).toNatClampNeg w_)) 8 (upd (S 8) (S 10 0).toNatClampNeg 0)) 10 (kf ((S 10 0) + 1)), 0), rfl, by rw [Int32.add_sub_cancel]; exact (cif_t ⟨b_8.1, Int32.not_lt.mp b_8.2⟩).trans ((cif_t ⟨b_38, ho, hw⟩).trans (cif_t ⟨h24, hn, hw3⟩)), by rw [ht]; exact hP, hD⟩, hS_.F ht⟩) hS_.2.2 dX1_addCue_186
                      · skip
                        refine lv_aload_n hx hb_ dX1_addCue_102 rfl (lv_at hl 1 rfl) ?_
                        have hf34 := hts (.fieldLink RX1 34 "ClockmaskModel" "states" "[I") (by decide +kernel)
                        refine va_get (D := D) (ci := 1) (v := .ref (b_ 8)) (C := RX1) (T := TX1) (N := 18) hx hb_ hts hin hown hK_ hP 0 rfl rfl 8 (by decide) hf34 (fun _ h9 => h9) rfl dX1_addCue_103 ?_
                        refine lv_iload hx hb_ dX1_addCue_106 (lv_at hl 5 rfl) ?_
                        refine va_iald (f := S 8) (n := 24) hx hb_ hK_ hP 9 0 rfl rfl (hI_.q24 (hw.resolve_left c_99)) dX1_addCue_108 ?_
                        refine lv_iconst (v := 2) hx hb_ dX1_addCue_109 (by decide) ?_
                        refine lv_icmp_ne (tgt := 119) hx hb_ dX1_addCue_110 (by decide) (fun c_110 => ?_) (fun c_110 => ?_)
                        · skip
                          have hw3 : w_ = -1 ∨ S 8 w_.toNatClampNeg ≠ 2 := Or.inr c_110
                          refine lv_aload_n hx hb_ dX1_addCue_119 rfl (lv_at hl 1 rfl) ?_
                          have hf22 := hts (.fieldLink RX1 22 "ClockmaskModel" "kinds" "[I") (by decide +kernel)
                          refine va_get (D := D) (ci := 1) (v := .ref (b_ 4)) (C := RX1) (T := TX1) (N := 18) hx hb_ hts hin hown hK_ hP 0 rfl rfl 4 (by decide) hf22 (fun _ h9 => h9) rfl dX1_addCue_120 ?_
                          refine lv_aload_n hx hb_ dX1_addCue_123 rfl (lv_at hl 1 rfl) ?_
                          refine va_get (D := D) (ci := 1) (v := .int (S 10 0)) (C := RX1) (T := TX1) (N := 18) hx hb_ hts hin hown hK_ hP 0 rfl rfl 10 (by decide) hf60 (fun _ h9 => h9) rfl dX1_addCue_124 ?_
                          refine lv_iload_n hx hb_ dX1_addCue_127 rfl (lv_at hl 2 rfl) ?_
                          refine va_iast (f := S 4) (n := 24) hx hb_ hK_ hP hD hS_ 5 0 rfl rfl (by assumption) dX1_addCue_128 (fun H locs hP hD hS_ => ?_)
                          have hP : va_P D vwCl (wMr cI y_ b_ (S 0) (S 1) (S 2) (S 3) (upd (S 4) (S 10 0).toNatClampNeg k_) (S 5) (S 6) (S 7) (S 8) (S 9) (S 10 0) (S 11 0) (S 12) (S 13) (S 14 0) (S 15 0) (S 16) 0) H := hP
                          have hD : va_D A (wMr cI y_ b_ (S 0) (S 1) (S 2) (S 3) (upd (S 4) (S 10 0).toNatClampNeg k_) (S 5) (S 6) (S 7) (S 8) (S 9) (S 10 0) (S 11 0) (S 12) (S 13) (S 14 0) (S 15 0) (S 16) 0) := hD
                          refine lv_aload_n hx hb_ dX1_addCue_129 rfl (lv_at hl 1 rfl) ?_
                          have hf25 := hts (.fieldLink RX1 25 "ClockmaskModel" "players" "[I") (by decide +kernel)
                          refine va_get (D := D) (ci := 1) (v := .ref (b_ 5)) (C := RX1) (T := TX1) (N := 18) hx hb_ hts hin hown hK_ hP 0 rfl rfl 5 (by decide) hf25 (fun _ h9 => h9) rfl dX1_addCue_130 ?_
                          refine lv_aload_n hx hb_ dX1_addCue_133 rfl (lv_at hl 1 rfl) ?_
                          refine va_get (D := D) (ci := 1) (v := .int (S 10 0)) (C := RX1) (T := TX1) (N := 18) hx hb_ hts hin hown hK_ hP 0 rfl rfl 10 (by decide) hf60 (fun _ h9 => h9) rfl dX1_addCue_134 ?_
                          refine lv_iload_n hx hb_ dX1_addCue_137 rfl (lv_at hl 3 rfl) ?_
                          refine va_iast (f := S 5) (n := 24) hx hb_ hK_ hP hD hS_ 6 0 rfl rfl (by assumption) dX1_addCue_138 (fun H locs hP hD hS_ => ?_)
                          have hP : va_P D vwCl (wMr cI y_ b_ (S 0) (S 1) (S 2) (S 3) (upd (S 4) (S 10 0).toNatClampNeg k_) (upd (S 5) (S 10 0).toNatClampNeg p_) (S 6) (S 7) (S 8) (S 9) (S 10 0) (S 11 0) (S 12) (S 13) (S 14 0) (S 15 0) (S 16) 0) H := hP
                          have hD : va_D A (wMr cI y_ b_ (S 0) (S 1) (S 2) (S 3) (upd (S 4) (S 10 0).toNatClampNeg k_) (upd (S 5) (S 10 0).toNatClampNeg p_) (S 6) (S 7) (S 8) (S 9) (S 10 0) (S 11 0) (S 12) (S 13) (S 14 0) (S 15 0) (S 16) 0) := hD
                          refine lv_aload_n hx hb_ dX1_addCue_139 rfl (lv_at hl 1 rfl) ?_
                          have hf28 := hts (.fieldLink RX1 28 "ClockmaskModel" "others" "[I") (by decide +kernel)
                          refine va_get (D := D) (ci := 1) (v := .ref (b_ 6)) (C := RX1) (T := TX1) (N := 18) hx hb_ hts hin hown hK_ hP 0 rfl rfl 6 (by decide) hf28 (fun _ h9 => h9) rfl dX1_addCue_140 ?_
                          refine lv_aload_n hx hb_ dX1_addCue_143 rfl (lv_at hl 1 rfl) ?_
                          refine va_get (D := D) (ci := 1) (v := .int (S 10 0)) (C := RX1) (T := TX1) (N := 18) hx hb_ hts hin hown hK_ hP 0 rfl rfl 10 (by decide) hf60 (fun _ h9 => h9) rfl dX1_addCue_144 ?_
                          refine lv_iload_n hx hb_ dX1_addCue_147 rfl (lv_at hl 4 rfl) ?_
                          refine va_iast (f := S 6) (n := 24) hx hb_ hK_ hP hD hS_ 7 0 rfl rfl (by assumption) dX1_addCue_148 (fun H locs hP hD hS_ => ?_)
                          have hP : va_P D vwCl (wMr cI y_ b_ (S 0) (S 1) (S 2) (S 3) (upd (S 4) (S 10 0).toNatClampNeg k_) (upd (S 5) (S 10 0).toNatClampNeg p_) (upd (S 6) (S 10 0).toNatClampNeg o_) (S 7) (S 8) (S 9) (S 10 0) (S 11 0) (S 12) (S 13) (S 14 0) (S 15 0) (S 16) 0) H := hP
                          have hD : va_D A (wMr cI y_ b_ (S 0) (S 1) (S 2) (S 3) (upd (S 4) (S 10 0).toNatClampNeg k_) (upd (S 5) (S 10 0).toNatClampNeg p_) (upd (S 6) (S 10 0).toNatClampNeg o_) (S 7) (S 8) (S 9) (S 10 0) (S 11 0) (S 12) (S 13) (S 14 0) (S 15 0) (S 16) 0) := hD
                          refine lv_aload_n hx hb_ dX1_addCue_149 rfl (lv_at hl 1 rfl) ?_
                          have hf31 := hts (.fieldLink RX1 31 "ClockmaskModel" "waitsFor" "[I") (by decide +kernel)
                          refine va_get (D := D) (ci := 1) (v := .ref (b_ 7)) (C := RX1) (T := TX1) (N := 18) hx hb_ hts hin hown hK_ hP 0 rfl rfl 7 (by decide) hf31 (fun _ h9 => h9) rfl dX1_addCue_150 ?_
                          refine lv_aload_n hx hb_ dX1_addCue_153 rfl (lv_at hl 1 rfl) ?_
                          refine va_get (D := D) (ci := 1) (v := .int (S 10 0)) (C := RX1) (T := TX1) (N := 18) hx hb_ hts hin hown hK_ hP 0 rfl rfl 10 (by decide) hf60 (fun _ h9 => h9) rfl dX1_addCue_154 ?_
                          refine lv_iload hx hb_ dX1_addCue_157 (lv_at hl 5 rfl) ?_
                          refine va_iast (f := S 7) (n := 24) hx hb_ hK_ hP hD hS_ 8 0 rfl rfl (by assumption) dX1_addCue_159 (fun H locs hP hD hS_ => ?_)
                          have hP : va_P D vwCl (wMr cI y_ b_ (S 0) (S 1) (S 2) (S 3) (upd (S 4) (S 10 0).toNatClampNeg k_) (upd (S 5) (S 10 0).toNatClampNeg p_) (upd (S 6) (S 10 0).toNatClampNeg o_) (upd (S 7) (S 10 0).toNatClampNeg w_) (S 8) (S 9) (S 10 0) (S 11 0) (S 12) (S 13) (S 14 0) (S 15 0) (S 16) 0) H := hP
                          have hD : va_D A (wMr cI y_ b_ (S 0) (S 1) (S 2) (S 3) (upd (S 4) (S 10 0).toNatClampNeg k_) (upd (S 5) (S 10 0).toNatClampNeg p_) (upd (S 6) (S 10 0).toNatClampNeg o_) (upd (S 7) (S 10 0).toNatClampNeg w_) (S 8) (S 9) (S 10 0) (S 11 0) (S 12) (S 13) (S 14 0) (S 15 0) (S 16) 0) := hD
                          refine lv_aload_n hx hb_ dX1_addCue_160 rfl (lv_at hl 1 rfl) ?_
                          refine va_get (D := D) (ci := 1) (v := .ref (b_ 8)) (C := RX1) (T := TX1) (N := 18) hx hb_ hts hin hown hK_ hP 0 rfl rfl 8 (by decide) hf34 (fun _ h9 => h9) rfl dX1_addCue_161 ?_
                          refine lv_aload_n hx hb_ dX1_addCue_164 rfl (lv_at hl 1 rfl) ?_
                          refine va_get (D := D) (ci := 1) (v := .int (S 10 0)) (C := RX1) (T := TX1) (N := 18) hx hb_ hts hin hown hK_ hP 0 rfl rfl 10 (by decide) hf60 (fun _ h9 => h9) rfl dX1_addCue_165 ?_
                          refine lv_iconst (v := 0) hx hb_ dX1_addCue_168 (by decide) ?_
                          refine va_iast (f := S 8) (n := 24) hx hb_ hK_ hP hD hS_ 9 0 rfl rfl (by assumption) dX1_addCue_169 (fun H locs hP hD hS_ => ?_)
                          have hP : va_P D vwCl (wMr cI y_ b_ (S 0) (S 1) (S 2) (S 3) (upd (S 4) (S 10 0).toNatClampNeg k_) (upd (S 5) (S 10 0).toNatClampNeg p_) (upd (S 6) (S 10 0).toNatClampNeg o_) (upd (S 7) (S 10 0).toNatClampNeg w_) (upd (S 8) (S 10 0).toNatClampNeg 0) (S 9) (S 10 0) (S 11 0) (S 12) (S 13) (S 14 0) (S 15 0) (S 16) 0) H := hP
                          have hD : va_D A (wMr cI y_ b_ (S 0) (S 1) (S 2) (S 3) (upd (S 4) (S 10 0).toNatClampNeg k_) (upd (S 5) (S 10 0).toNatClampNeg p_) (upd (S 6) (S 10 0).toNatClampNeg o_) (upd (S 7) (S 10 0).toNatClampNeg w_) (upd (S 8) (S 10 0).toNatClampNeg 0) (S 9) (S 10 0) (S 11 0) (S 12) (S 13) (S 14 0) (S 15 0) (S 16) 0) := hD
                          refine lv_aload_n hx hb_ dX1_addCue_170 rfl (lv_at hl 1 rfl) ?_
                          refine lv_dup hx hb_ dX1_addCue_171 rfl ?_
                          refine va_get (D := D) (ci := 1) (v := .int (S 10 0)) (C := RX1) (T := TX1) (N := 18) hx hb_ hts hin hown hK_ hP 0 rfl rfl 10 (by decide) hf60 (fun _ h9 => h9) rfl dX1_addCue_172 ?_
                          refine lv_iconst (v := 1) hx hb_ dX1_addCue_175 (by decide) ?_
                          refine lv_iadd hx hb_ dX1_addCue_176 ?_
                          refine va_put (D := D) (ci := 1) (v := .int ((S 10 0) + 1)) (ty := .int) (C := RX1) (T := TX1) (N := 18) hx hb_ hts hin tyX1 tyX1_ok nmX1 hown hK_ hP hD hS_ 0 rfl rfl 10 (by decide) hf60 (fun _ h9 => h9) rfl (by decide +kernel) rfl rfl (Nat.le_of_ble_eq_true rfl) dX1_addCue_177 (fun H locs hP hD hS_ => ?_)
                          have hP : va_P D vwCl (wMr cI y_ b_ (S 0) (S 1) (S 2) (S 3) (upd (S 4) (S 10 0).toNatClampNeg k_) (upd (S 5) (S 10 0).toNatClampNeg p_) (upd (S 6) (S 10 0).toNatClampNeg o_) (upd (S 7) (S 10 0).toNatClampNeg w_) (upd (S 8) (S 10 0).toNatClampNeg 0) (S 9) ((S 10 0) + 1) (S 11 0) (S 12) (S 13) (S 14 0) (S 15 0) (S 16) 0) H := hP
                          have hD : va_D A (wMr cI y_ b_ (S 0) (S 1) (S 2) (S 3) (upd (S 4) (S 10 0).toNatClampNeg k_) (upd (S 5) (S 10 0).toNatClampNeg p_) (upd (S 6) (S 10 0).toNatClampNeg o_) (upd (S 7) (S 10 0).toNatClampNeg w_) (upd (S 8) (S 10 0).toNatClampNeg 0) (S 9) ((S 10 0) + 1) (S 11 0) (S 12) (S 13) (S 14 0) (S 15 0) (S 16) 0) := hD
                          refine lv_aload_n hx hb_ dX1_addCue_180 rfl (lv_at hl 1 rfl) ?_
                          refine va_get (D := D) (ci := 1) (v := .int ((S 10 0) + 1)) (C := RX1) (T := TX1) (N := 18) hx hb_ hts hin hown hK_ hP 0 rfl rfl 10 (by decide) hf60 (fun _ h9 => h9) rfl dX1_addCue_181 ?_
                          refine lv_iconst (v := 1) hx hb_ dX1_addCue_184 (by decide) ?_
                          refine lv_isub hx hb_ dX1_addCue_185 ?_
                          exact W.iret (v := ((S 10 0) + 1) - 1) hx hb_ hr (fun t_ ht hW => ⟨⟨_, (row (row (row (row (row (row S 4 (upd (S 4) (S 10 0).toNatClampNeg k_)) 5 (upd (S 5) (S 10 0).toNatClampNeg p_)) 6 (upd (S 6) (S 10 0).toNatClampNeg o_)) 7 (upd (S 7) (S 10 0).toNatClampNeg w_)) 8 (upd (S 8) (S 10 0).toNatClampNeg 0)) 10 (kf ((S 10 0) + 1)), 0), rfl, by rw [Int32.add_sub_cancel]; exact (cif_t ⟨b_8.1, Int32.not_lt.mp b_8.2⟩).trans ((cif_t ⟨b_38, ho, hw⟩).trans (cif_t ⟨h24, hn, hw3⟩)), by rw [ht]; exact hP, hD⟩, hS_.F ht⟩) hS_.2.2 dX1_addCue_186
                        · skip
                          refine lv_aload_n hx hb_ dX1_addCue_113 rfl (lv_at hl 1 rfl) ?_
                          refine lv_iconst (v := 3) hx hb_ dX1_addCue_114 (by decide) ?_
                          have hFc := wfree hD hS_ hA
                          refine va_calli (va_runV (As := [.int 3]) (rest := []) ⟨hx, hb_, hml, hown, hts⟩ (c_X1_fails l D cI y_ b_ S 0 H.size 3) (cwV 1 hts gX1_addCue_X1_fails rfl rfl rfl (by decide +kernel) ⟨Nat.le_of_ble_eq_true rfl, Nat.le_of_ble_eq_true rfl⟩) (pW_V (ci := 1) hP hK_ hD rfl rfl) rfl rfl hl.1 rfl (lv_room (Nat.le_of_ble_eq_true rfl)) dX1_addCue_115 ⟨Nat.zero_le _, Nat.zero_le _⟩) hS_ (fun q_ _ h_ => hFc q_ h_) hFc (fun r_115 u_115 t9 H1 locs ht9 hvm9 h_115 hB9 hz9 hk9 hS_ => ?_)
                          obtain ⟨e_115, h_115⟩ := h_115
                          subst e_115
                          subst h_115
                          have hP : va_P D vwCl (wM cI y_ b_ S 3) H1 := atW_P hB9 ht9
                          have hD : va_D A (wM cI y_ b_ S 3) := atW_D hB9 hFc
                          generalize H1 = H at hP hS_ ⊢
                          exact W.iret (v := 0) hx hb_ hr (fun t_ ht hW => ⟨⟨_, (S, 3), rfl, (cif_t ⟨b_8.1, Int32.not_lt.mp b_8.2⟩).trans ((cif_t ⟨b_38, ho, hw⟩).trans (cif_f (fun h_ => h_.2.2.elim c_99 (fun z_ => z_ c_110)))), by rw [ht]; exact hP, hD⟩, hS_.F ht⟩) hS_.2.2 dX1_addCue_118
              · skip
                have b_65 := cif_b0 h_65 c_68
                refine lv_aload_n hx hb_ dX1_addCue_71 rfl (lv_at hl 1 rfl) ?_
                refine lv_iconst (v := 2) hx hb_ dX1_addCue_72 (by decide) ?_
                have hFc := wfree hD hS_ hA
                refine va_calli (va_runV (As := [.int 2]) (rest := []) ⟨hx, hb_, hml, hown, hts⟩ (c_X1_fails l D cI y_ b_ S 0 H.size 2) (cwV 1 hts gX1_addCue_X1_fails rfl rfl rfl (by decide +kernel) ⟨Nat.le_of_ble_eq_true rfl, Nat.le_of_ble_eq_true rfl⟩) (pW_V (ci := 1) hP hK_ hD rfl rfl) rfl rfl hl.1 rfl (lv_room (Nat.le_of_ble_eq_true rfl)) dX1_addCue_73 ⟨Nat.zero_le _, Nat.zero_le _⟩) hS_ (fun q_ _ h_ => hFc q_ h_) hFc (fun r_73 u_73 t9 H1 locs ht9 hvm9 h_73 hB9 hz9 hk9 hS_ => ?_)
                obtain ⟨e_73, h_73⟩ := h_73
                subst e_73
                subst h_73
                have hP : va_P D vwCl (wM cI y_ b_ S 2) H1 := atW_P hB9 ht9
                have hD : va_D A (wM cI y_ b_ S 2) := atW_D hB9 hFc
                generalize H1 = H at hP hS_ ⊢
                exact W.iret (v := 0) hx hb_ hr (fun t_ ht hW => ⟨⟨_, (S, 2), rfl, (cif_t ⟨b_8.1, Int32.not_lt.mp b_8.2⟩).trans (cif_f (fun h_ => b_65 ((inW_iff hI_.me hI_.m24).mpr h_.2.2))), by rw [ht]; exact hP, hD⟩, hS_.F ht⟩) hS_.2.2 dX1_addCue_76
  · skip
    have b_8 := cif_b0 h_8 c_11
    refine lv_aload_n hx hb_ dX1_addCue_14 rfl (lv_at hl 0 rfl) ?_
    refine lv_iconst (v := 1) hx hb_ dX1_addCue_15 (by decide) ?_
    have hFc := wfree hD hS_ hA
    refine va_calli (va_runV (As := [.int 1]) (rest := []) ⟨hx, hb_, hml, hown, hts⟩ (c_X1_fails l D cI y_ b_ S 0 H.size 1) (cwV 1 hts gX1_addCue_X1_fails rfl rfl rfl (by decide +kernel) ⟨Nat.le_of_ble_eq_true rfl, Nat.le_of_ble_eq_true rfl⟩) (pW_V (ci := 1) hP hK_ hD rfl rfl) rfl rfl hl.1 rfl (lv_room (Nat.le_of_ble_eq_true rfl)) dX1_addCue_16 ⟨Nat.zero_le _, Nat.zero_le _⟩) hS_ (fun q_ _ h_ => hFc q_ h_) hFc (fun r_16 u_16 t9 H1 locs ht9 hvm9 h_16 hB9 hz9 hk9 hS_ => ?_)
    obtain ⟨e_16, h_16⟩ := h_16
    subst e_16
    subst h_16
    have hP : va_P D vwCl (wM cI y_ b_ S 1) H1 := atW_P hB9 ht9
    have hD : va_D A (wM cI y_ b_ S 1) := atW_D hB9 hFc
    generalize H1 = H at hP hS_ ⊢
    exact W.iret (v := 0) hx hb_ hr (fun t_ ht hW => ⟨⟨_, (S, 1), rfl, cif_f (fun h_ => b_8 ⟨h_.1, le_nlt h_.2⟩), by rw [ht]; exact hP, hD⟩, hS_.F ht⟩) hS_.2.2 dX1_addCue_19
set_option maxHeartbeats 4000000 in
set_option maxRecDepth 100000 in
theorem c_X1_dress (l : Launch) (D : va_G) (cI : ClassId) (y_ : Nat) (b_ : Nat → Nat) (S : ST) (tq : Int32) (sz : Nat) (p_ : Int32) (c_ : Int32) (B : Nat) (hI_ : Inv B S) : Met l yX1_dress wsX1_dress rmX1_dress (va_Pc [.ref y_, .int p_, .int c_] (pW D (tyM cI) (wM cI y_ b_ S tq) sz)) (va_Qi (fun (r_ : Int32) (u_ : ST × Int32) => k_dress S p_ c_ = (u_.2, r_, u_.1)) (fun (u_ : ST × Int32) t_ => atW D (wM cI y_ b_ u_.1 u_.2) (va_A (wM cI y_ b_ S tq) sz) t_) (va_A (wM cI y_ b_ S tq) sz)) 0 0 (va_A (wM cI y_ b_ S tq) sz) := by
  refine Met.ofW (cc := cX1_dress) (maxL := 5) (ret := (some .int)) (by decide) rfl ?_
  intro pr env s_ mid args below meth cod s₁ Bd hml hv
  obtain ⟨rfl, hsz, hP, hK_, hD0⟩ := hv
  have hx := Bd.exec
  have hb_ := Bd.bytes
  have hr := Bd.returns
  have hts := atoms_spec (ws := wsX1_dress) Bd.pre
  have hown : s_.vm.findClass RX1 = some mid.cls := findClass_of_methodNamed Bd.named
  have hlocks := Bd.notSynchronized
  have hin : ∀ w_ ∈ wsX10, w_ ∈ wsX1_dress := fun _ h_ => List.mem_cons_of_mem _ (List.mem_append_right _ h_)
  subst hsz
  have hD := hD0.self (sz := s_.heap.size)
  generalize hAe : va_A (wM cI y_ b_ S tq) s_.heap.size = A at hD ⊢
  have hA : ∀ q_ : Nat, s_.heap.size ≤ q_ → A q_ := fun q_ h_ => by rw [← hAe]; exact Or.inr h_
  have hS_ : va_S A s_.heap s_.heap [] := va_S.rf
  have hP : va_P D vwCl (wM cI y_ b_ S tq) s_.heap := hP
  have hD : va_D A (wM cI y_ b_ S tq) := hD
  have hl := lv_entry ([.ref y_, .int p_, .int c_]) (n := 5) (Nat.le_of_ble_eq_true rfl)
  rw [lg_entry_eq]
  generalize (lg_sl ([.ref y_, .int p_, .int c_]) ++ List.replicate (5 - (lg_sl ([.ref y_, .int p_, .int c_])).length) Slot.unset).toArray = ls at hl ⊢
  have hl : lv_has ls 5 [(0, .ref y_), (1, .int p_), (2, .int c_)] := hl
  refine lv_aload_n hx hb_ dX1_dress_0 rfl (lv_at hl 0 rfl) ?_
  refine lv_iconst (v := 0) hx hb_ dX1_dress_1 (by decide) ?_
  have hf53 := hts (.fieldLink RX1 53 "ClockmaskModel" "thrown" "I") (by decide +kernel)
  refine va_put (D := D) (ci := 1) (v := .int 0) (ty := .int) (C := RX1) (T := TX1) (N := 18) hx hb_ hts hin tyX1 tyX1_ok nmX1 hown hK_ hP hD hS_ 0 rfl rfl 17 (by decide) hf53 (fun _ h9 => h9) rfl (by decide +kernel) rfl rfl (Nat.le_of_ble_eq_true rfl) dX1_dress_2 (fun H locs hP hD hS_ => ?_)
  have hP : va_P D vwCl (wM cI y_ b_ S 0) H := hP
  have hD : va_D A (wM cI y_ b_ S 0) := hD
  refine lv_iload_n hx hb_ dX1_dress_5 rfl (lv_at hl 1 rfl) ?_
  refine vp_callSi (W.runS (As := [.int p_]) (rest := []) ⟨hx, hb_, hml, hown, hts⟩ (c_X1_isPlayer l p_) (va_cwS 1 hts gX1_dress_X1_isPlayer rfl rfl rfl (by decide +kernel) ⟨Nat.le_of_ble_eq_true rfl, Nat.le_of_ble_eq_true rfl⟩) (pN_S) rfl rfl hl.1 rfl (lv_room (Nat.le_of_ble_eq_true rfl)) dX1_dress_6 ⟨Nat.zero_le _, Nat.zero_le _⟩) (fun r_6 h_6 => ?_)
  refine lv_if_eq (tgt := 19) hx hb_ dX1_dress_9 (by decide) (fun c_9 => ?_) (fun c_9 => ?_)
  · skip
    have b_6 := cif_b0 h_6 c_9
    refine lv_aload_n hx hb_ dX1_dress_19 rfl (lv_at hl 0 rfl) ?_
    refine lv_iconst (v := 1) hx hb_ dX1_dress_20 (by decide) ?_
    have hFc := wfree hD hS_ hA
    refine va_calli (va_runV (As := [.int 1]) (rest := []) ⟨hx, hb_, hml, hown, hts⟩ (c_X1_fails l D cI y_ b_ S 0 H.size 1) (cwV 1 hts gX1_dress_X1_fails rfl rfl rfl (by decide +kernel) ⟨Nat.le_of_ble_eq_true rfl, Nat.le_of_ble_eq_true rfl⟩) (pW_V (ci := 1) hP hK_ hD rfl rfl) rfl rfl hl.1 rfl (lv_room (Nat.le_of_ble_eq_true rfl)) dX1_dress_21 ⟨Nat.zero_le _, Nat.zero_le _⟩) hS_ (fun q_ _ h_ => hFc q_ h_) hFc (fun r_21 u_21 t9 H1 locs ht9 hvm9 h_21 hB9 hz9 hk9 hS_ => ?_)
    obtain ⟨e_21, h_21⟩ := h_21
    subst e_21
    subst h_21
    have hP : va_P D vwCl (wM cI y_ b_ S 1) H1 := atW_P hB9 ht9
    have hD : va_D A (wM cI y_ b_ S 1) := atW_D hB9 hFc
    generalize H1 = H at hP hS_ ⊢
    exact W.iret (v := 0) hx hb_ hr (fun t_ ht hW => ⟨⟨_, (S, 1), rfl, cif_f (fun h_ => b_6 h_.1), by rw [ht]; exact hP, hD⟩, hS_.F ht⟩) hS_.2.2 dX1_dress_24
  · skip
    have b_6 := cif_b1 h_6 c_9
    refine lv_iload_n hx hb_ dX1_dress_12 rfl (lv_at hl 2 rfl) ?_
    refine vp_callSi (W.runS (As := [.int c_]) (rest := []) ⟨hx, hb_, hml, hown, hts⟩ (c_X1_isCostume l c_) (va_cwS 1 hts gX1_dress_X1_isCostume rfl rfl rfl (by decide +kernel) ⟨Nat.le_of_ble_eq_true rfl, Nat.le_of_ble_eq_true rfl⟩) (pN_S) rfl rfl hl.1 rfl (lv_room (Nat.le_of_ble_eq_true rfl)) dX1_dress_13 ⟨Nat.zero_le _, Nat.zero_le _⟩) (fun r_13 h_13 => ?_)
    refine lv_if_ne (tgt := 25) hx hb_ dX1_dress_16 (by decide) (fun c_16 => ?_) (fun c_16 => ?_)
    · skip
      have b_13 := cif_b1 h_13 c_16
      refine lv_iload_n hx hb_ dX1_dress_25 rfl (lv_at hl 1 rfl) ?_
      refine lv_iload_n hx hb_ dX1_dress_26 rfl (lv_at hl 2 rfl) ?_
      refine lv_isub hx hb_ dX1_dress_27 ?_
      refine lv_iconst (v := 1) hx hb_ dX1_dress_28 (by decide) ?_
      refine lv_iadd hx hb_ dX1_dress_29 ?_
      refine lv_iconst (v := (-1)) hx hb_ dX1_dress_30 (by decide) ?_
      refine lv_iconst (v := 1) hx hb_ dX1_dress_31 (by decide) ?_
      refine vp_callSi (W.runS (As := [.int ((p_ - c_) + 1), .int (-1), .int 1]) (rest := []) ⟨hx, hb_, hml, hown, hts⟩ (c_X1_in l ((p_ - c_) + 1) (-1) 1) (va_cwS 3 hts gX1_dress_X1_in rfl rfl rfl (by decide +kernel) ⟨Nat.le_of_ble_eq_true rfl, Nat.le_of_ble_eq_true rfl⟩) (pN_S) rfl rfl hl.1 rfl (lv_room (Nat.le_of_ble_eq_true rfl)) dX1_dress_32 ⟨Nat.zero_le _, Nat.zero_le _⟩) (fun r_32 h_32 => ?_)
      refine lv_if_ne (tgt := 44) hx hb_ dX1_dress_35 (by decide) (fun c_35 => ?_) (fun c_35 => ?_)
      · skip
        have b_32 := cif_b1 h_32 c_35
        refine lv_aload_n hx hb_ dX1_dress_44 rfl (lv_at hl 0 rfl) ?_
        refine lv_iload_n hx hb_ dX1_dress_45 rfl (lv_at hl 2 rfl) ?_
        refine vp_callSi (W.runV (As := [.int c_]) (rest := []) ⟨hx, hb_, hml, hown, hts⟩ (c_X1_ownerOf l D cI y_ b_ S 0 c_) (cwV 1 hts gX1_dress_X1_ownerOf rfl rfl rfl (by decide +kernel) ⟨Nat.le_of_ble_eq_true rfl, Nat.le_of_ble_eq_true rfl⟩) (pR_V (ci := 1) hP hK_ rfl rfl) rfl rfl hl.1 rfl (lv_room (Nat.le_of_ble_eq_true rfl)) dX1_dress_46 ⟨Nat.zero_le _, Nat.zero_le _⟩) (fun r_46 h_46 => ?_)
        have eo := lI_fI hI_.u0 (vin_ne b_13)
        subst h_46
        refine lv_istore_n (lv' := [(3, .int (lI (S 0) c_ 6)), (0, .ref y_), (1, .int p_), (2, .int c_)]) hx hb_ dX1_dress_49 rfl hl (by decide) rfl (fun ls hl => ?_)
        refine lv_aload_n hx hb_ dX1_dress_50 rfl (lv_at hl 1 rfl) ?_
        have hf13 := hts (.fieldLink RX1 13 "ClockmaskModel" "stage" "[I") (by decide +kernel)
        refine va_get (D := D) (ci := 1) (v := .ref (b_ 2)) (C := RX1) (T := TX1) (N := 18) hx hb_ hts hin hown hK_ hP 0 rfl rfl 1 (by decide) hf13 (fun _ h9 => h9) rfl dX1_dress_51 ?_
        refine lv_iload_n hx hb_ dX1_dress_54 rfl (lv_at hl 2 rfl) ?_
        refine va_iald (f := S 2) (n := 6) hx hb_ hK_ hP 2 0 rfl rfl (by assumption) dX1_dress_55 ?_
        refine lv_iconst (v := 1) hx hb_ dX1_dress_56 (by decide) ?_
        refine lv_icmp_eq (tgt := 80) hx hb_ dX1_dress_57 (by decide) (fun c_57 => ?_) (fun c_57 => ?_)
        · skip
          refine lv_aload_n hx hb_ dX1_dress_80 rfl (lv_at hl 1 rfl) ?_
          refine lv_iconst (v := 3) hx hb_ dX1_dress_81 (by decide) ?_
          have hFc := wfree hD hS_ hA
          refine va_calli (va_runV (As := [.int 3]) (rest := []) ⟨hx, hb_, hml, hown, hts⟩ (c_X1_fails l D cI y_ b_ S 0 H.size 3) (cwV 1 hts gX1_dress_X1_fails rfl rfl rfl (by decide +kernel) ⟨Nat.le_of_ble_eq_true rfl, Nat.le_of_ble_eq_true rfl⟩) (pW_V (ci := 1) hP hK_ hD rfl rfl) rfl rfl hl.1 rfl (lv_room (Nat.le_of_ble_eq_true rfl)) dX1_dress_82 ⟨Nat.zero_le _, Nat.zero_le _⟩) hS_ (fun q_ _ h_ => hFc q_ h_) hFc (fun r_82 u_82 t9 H1 locs ht9 hvm9 h_82 hB9 hz9 hk9 hS_ => ?_)
          obtain ⟨e_82, h_82⟩ := h_82
          subst e_82
          subst h_82
          have hP : va_P D vwCl (wM cI y_ b_ S 3) H1 := atW_P hB9 ht9
          have hD : va_D A (wM cI y_ b_ S 3) := atW_D hB9 hFc
          generalize H1 = H at hP hS_ ⊢
          exact W.iret (v := 0) hx hb_ hr (fun t_ ht hW => ⟨⟨_, (S, 3), rfl, (cif_t ⟨b_6, b_13⟩).trans ((cif_t ⟨Int32.not_lt.mp b_32.1, Int32.not_lt.mp b_32.2⟩).trans (cif_f (fun h_ => absurd (h_.1.symm.trans c_57) (by decide)))), by rw [ht]; exact hP, hD⟩, hS_.F ht⟩) hS_.2.2 dX1_dress_85
        · skip
          have h20 : S 2 p_.toNatClampNeg = 0 := (hI_.i2 _ (vin_lt b_6)).resolve_right c_57
          refine lv_iload_n hx hb_ dX1_dress_60 rfl (lv_at hl 0 rfl) ?_
          refine lv_iconst (v := (-1)) hx hb_ dX1_dress_61 (by decide) ?_
          refine lv_icmp_eq (tgt := 70) hx hb_ dX1_dress_62 (by decide) (fun c_62 => ?_) (fun c_62 => ?_)
          · skip
            have hf : fI (S 0) c_ = -1 ∨ fI (S 0) c_ = p_ := Or.inl (eo.symm.trans c_62)
            refine lv_aload_n hx hb_ dX1_dress_70 rfl (lv_at hl 1 rfl) ?_
            have hf19 := hts (.fieldLink RX1 19 "ClockmaskModel" "wears" "[I") (by decide +kernel)
            refine va_get (D := D) (ci := 1) (v := .ref (b_ 3)) (C := RX1) (T := TX1) (N := 18) hx hb_ hts hin hown hK_ hP 0 rfl rfl 3 (by decide) hf19 (fun _ h9 => h9) rfl dX1_dress_71 ?_
            refine lv_iload_n hx hb_ dX1_dress_74 rfl (lv_at hl 3 rfl) ?_
            refine va_iald (f := S 3) (n := 8) hx hb_ hK_ hP 4 0 rfl rfl (by assumption) dX1_dress_75 ?_
            refine lv_iconst (v := 3) hx hb_ dX1_dress_76 (by decide) ?_
            refine lv_icmp_lt (tgt := 86) hx hb_ dX1_dress_77 (by decide) (fun c_77 => ?_) (fun c_77 => ?_)
            · skip
              refine lv_aload_n hx hb_ dX1_dress_86 rfl (lv_at hl 1 rfl) ?_
              have hf16 := hts (.fieldLink RX1 16 "ClockmaskModel" "costumes" "[I") (by decide +kernel)
              refine va_get (D := D) (ci := 1) (v := .ref (b_ 0)) (C := RX1) (T := TX1) (N := 18) hx hb_ hts hin hown hK_ hP 0 rfl rfl 2 (by decide) hf16 (fun _ h9 => h9) rfl dX1_dress_87 ?_
              refine lv_iload_n hx hb_ dX1_dress_90 rfl (lv_at hl 2 rfl) ?_
              refine va_iald (f := S 0) (n := 6) hx hb_ hK_ hP 3 0 rfl rfl (by assumption) dX1_dress_91 ?_
              refine lv_istore (lv' := [(4, .int (S 0 p_.toNatClampNeg)), (3, .int (lI (S 0) c_ 6)), (0, .ref y_), (1, .int p_), (2, .int c_)]) hx hb_ dX1_dress_92 hl (by decide) rfl (fun ls hl => ?_)
              refine lv_aload_n hx hb_ dX1_dress_94 rfl (lv_at hl 2 rfl) ?_
              refine va_get (D := D) (ci := 1) (v := .ref (b_ 0)) (C := RX1) (T := TX1) (N := 18) hx hb_ hts hin hown hK_ hP 0 rfl rfl 2 (by decide) hf16 (fun _ h9 => h9) rfl dX1_dress_95 ?_
              refine lv_iload_n hx hb_ dX1_dress_98 rfl (lv_at hl 3 rfl) ?_
              refine lv_iload_n hx hb_ dX1_dress_99 rfl (lv_at hl 4 rfl) ?_
              refine va_iast (f := S 0) (n := 6) hx hb_ hK_ hP hD hS_ 3 0 rfl rfl (by assumption) dX1_dress_100 (fun H locs hP hD hS_ => ?_)
              have hP : va_P D vwCl (wMr cI y_ b_ (upd (S 0) p_.toNatClampNeg c_) (S 1) (S 2) (S 3) (S 4) (S 5) (S 6) (S 7) (S 8) (S 9) (S 10 0) (S 11 0) (S 12) (S 13) (S 14 0) (S 15 0) (S 16) 0) H := hP
              have hD : va_D A (wMr cI y_ b_ (upd (S 0) p_.toNatClampNeg c_) (S 1) (S 2) (S 3) (S 4) (S 5) (S 6) (S 7) (S 8) (S 9) (S 10 0) (S 11 0) (S 12) (S 13) (S 14 0) (S 15 0) (S 16) 0) := hD
              refine lv_iload hx hb_ dX1_dress_101 (lv_at hl 0 rfl) ?_
              exact W.iret (v := S 0 p_.toNatClampNeg) hx hb_ hr (fun t_ ht hW => ⟨⟨_, (row S 0 (upd (S 0) p_.toNatClampNeg c_), 0), rfl, (cif_t ⟨b_6, b_13⟩).trans ((cif_t ⟨Int32.not_lt.mp b_32.1, Int32.not_lt.mp b_32.2⟩).trans (cif_t ⟨h20, hf, c_77⟩)), by rw [ht]; exact hP, hD⟩, hS_.F ht⟩) hS_.2.2 dX1_dress_103
            · skip
              refine lv_aload_n hx hb_ dX1_dress_80 rfl (lv_at hl 1 rfl) ?_
              refine lv_iconst (v := 3) hx hb_ dX1_dress_81 (by decide) ?_
              have hFc := wfree hD hS_ hA
              refine va_calli (va_runV (As := [.int 3]) (rest := []) ⟨hx, hb_, hml, hown, hts⟩ (c_X1_fails l D cI y_ b_ S 0 H.size 3) (cwV 1 hts gX1_dress_X1_fails rfl rfl rfl (by decide +kernel) ⟨Nat.le_of_ble_eq_true rfl, Nat.le_of_ble_eq_true rfl⟩) (pW_V (ci := 1) hP hK_ hD rfl rfl) rfl rfl hl.1 rfl (lv_room (Nat.le_of_ble_eq_true rfl)) dX1_dress_82 ⟨Nat.zero_le _, Nat.zero_le _⟩) hS_ (fun q_ _ h_ => hFc q_ h_) hFc (fun r_82 u_82 t9 H1 locs ht9 hvm9 h_82 hB9 hz9 hk9 hS_ => ?_)
              obtain ⟨e_82, h_82⟩ := h_82
              subst e_82
              subst h_82
              have hP : va_P D vwCl (wM cI y_ b_ S 3) H1 := atW_P hB9 ht9
              have hD : va_D A (wM cI y_ b_ S 3) := atW_D hB9 hFc
              generalize H1 = H at hP hS_ ⊢
              exact W.iret (v := 0) hx hb_ hr (fun t_ ht hW => ⟨⟨_, (S, 3), rfl, (cif_t ⟨b_6, b_13⟩).trans ((cif_t ⟨Int32.not_lt.mp b_32.1, Int32.not_lt.mp b_32.2⟩).trans (cif_f (fun h_ => c_77 h_.2.2))), by rw [ht]; exact hP, hD⟩, hS_.F ht⟩) hS_.2.2 dX1_dress_85
          · skip
            refine lv_iload_n hx hb_ dX1_dress_65 rfl (lv_at hl 0 rfl) ?_
            refine lv_iload_n hx hb_ dX1_dress_66 rfl (lv_at hl 2 rfl) ?_
            refine lv_icmp_ne (tgt := 80) hx hb_ dX1_dress_67 (by decide) (fun c_67 => ?_) (fun c_67 => ?_)
            · skip
              refine lv_aload_n hx hb_ dX1_dress_80 rfl (lv_at hl 1 rfl) ?_
              refine lv_iconst (v := 3) hx hb_ dX1_dress_81 (by decide) ?_
              have hFc := wfree hD hS_ hA
              refine va_calli (va_runV (As := [.int 3]) (rest := []) ⟨hx, hb_, hml, hown, hts⟩ (c_X1_fails l D cI y_ b_ S 0 H.size 3) (cwV 1 hts gX1_dress_X1_fails rfl rfl rfl (by decide +kernel) ⟨Nat.le_of_ble_eq_true rfl, Nat.le_of_ble_eq_true rfl⟩) (pW_V (ci := 1) hP hK_ hD rfl rfl) rfl rfl hl.1 rfl (lv_room (Nat.le_of_ble_eq_true rfl)) dX1_dress_82 ⟨Nat.zero_le _, Nat.zero_le _⟩) hS_ (fun q_ _ h_ => hFc q_ h_) hFc (fun r_82 u_82 t9 H1 locs ht9 hvm9 h_82 hB9 hz9 hk9 hS_ => ?_)
              obtain ⟨e_82, h_82⟩ := h_82
              subst e_82
              subst h_82
              have hP : va_P D vwCl (wM cI y_ b_ S 3) H1 := atW_P hB9 ht9
              have hD : va_D A (wM cI y_ b_ S 3) := atW_D hB9 hFc
              generalize H1 = H at hP hS_ ⊢
              exact W.iret (v := 0) hx hb_ hr (fun t_ ht hW => ⟨⟨_, (S, 3), rfl, (cif_t ⟨b_6, b_13⟩).trans ((cif_t ⟨Int32.not_lt.mp b_32.1, Int32.not_lt.mp b_32.2⟩).trans (cif_f (fun h_ => h_.2.1.elim (fun z_ => c_62 (eo.trans z_)) (fun z_ => c_67 (eo.trans z_))))), by rw [ht]; exact hP, hD⟩, hS_.F ht⟩) hS_.2.2 dX1_dress_85
            · skip
              have hf : fI (S 0) c_ = -1 ∨ fI (S 0) c_ = p_ := Or.inr (eo.symm.trans c_67)
              refine lv_aload_n hx hb_ dX1_dress_70 rfl (lv_at hl 1 rfl) ?_
              have hf19 := hts (.fieldLink RX1 19 "ClockmaskModel" "wears" "[I") (by decide +kernel)
              refine va_get (D := D) (ci := 1) (v := .ref (b_ 3)) (C := RX1) (T := TX1) (N := 18) hx hb_ hts hin hown hK_ hP 0 rfl rfl 3 (by decide) hf19 (fun _ h9 => h9) rfl dX1_dress_71 ?_
              refine lv_iload_n hx hb_ dX1_dress_74 rfl (lv_at hl 3 rfl) ?_
              refine va_iald (f := S 3) (n := 8) hx hb_ hK_ hP 4 0 rfl rfl (by assumption) dX1_dress_75 ?_
              refine lv_iconst (v := 3) hx hb_ dX1_dress_76 (by decide) ?_
              refine lv_icmp_lt (tgt := 86) hx hb_ dX1_dress_77 (by decide) (fun c_77 => ?_) (fun c_77 => ?_)
              · skip
                refine lv_aload_n hx hb_ dX1_dress_86 rfl (lv_at hl 1 rfl) ?_
                have hf16 := hts (.fieldLink RX1 16 "ClockmaskModel" "costumes" "[I") (by decide +kernel)
                refine va_get (D := D) (ci := 1) (v := .ref (b_ 0)) (C := RX1) (T := TX1) (N := 18) hx hb_ hts hin hown hK_ hP 0 rfl rfl 2 (by decide) hf16 (fun _ h9 => h9) rfl dX1_dress_87 ?_
                refine lv_iload_n hx hb_ dX1_dress_90 rfl (lv_at hl 2 rfl) ?_
                refine va_iald (f := S 0) (n := 6) hx hb_ hK_ hP 3 0 rfl rfl (by assumption) dX1_dress_91 ?_
                refine lv_istore (lv' := [(4, .int (S 0 p_.toNatClampNeg)), (3, .int (lI (S 0) c_ 6)), (0, .ref y_), (1, .int p_), (2, .int c_)]) hx hb_ dX1_dress_92 hl (by decide) rfl (fun ls hl => ?_)
                refine lv_aload_n hx hb_ dX1_dress_94 rfl (lv_at hl 2 rfl) ?_
                refine va_get (D := D) (ci := 1) (v := .ref (b_ 0)) (C := RX1) (T := TX1) (N := 18) hx hb_ hts hin hown hK_ hP 0 rfl rfl 2 (by decide) hf16 (fun _ h9 => h9) rfl dX1_dress_95 ?_
                refine lv_iload_n hx hb_ dX1_dress_98 rfl (lv_at hl 3 rfl) ?_
                refine lv_iload_n hx hb_ dX1_dress_99 rfl (lv_at hl 4 rfl) ?_
                refine va_iast (f := S 0) (n := 6) hx hb_ hK_ hP hD hS_ 3 0 rfl rfl (by assumption) dX1_dress_100 (fun H locs hP hD hS_ => ?_)
                have hP : va_P D vwCl (wMr cI y_ b_ (upd (S 0) p_.toNatClampNeg c_) (S 1) (S 2) (S 3) (S 4) (S 5) (S 6) (S 7) (S 8) (S 9) (S 10 0) (S 11 0) (S 12) (S 13) (S 14 0) (S 15 0) (S 16) 0) H := hP
                have hD : va_D A (wMr cI y_ b_ (upd (S 0) p_.toNatClampNeg c_) (S 1) (S 2) (S 3) (S 4) (S 5) (S 6) (S 7) (S 8) (S 9) (S 10 0) (S 11 0) (S 12) (S 13) (S 14 0) (S 15 0) (S 16) 0) := hD
                refine lv_iload hx hb_ dX1_dress_101 (lv_at hl 0 rfl) ?_
                exact W.iret (v := S 0 p_.toNatClampNeg) hx hb_ hr (fun t_ ht hW => ⟨⟨_, (row S 0 (upd (S 0) p_.toNatClampNeg c_), 0), rfl, (cif_t ⟨b_6, b_13⟩).trans ((cif_t ⟨Int32.not_lt.mp b_32.1, Int32.not_lt.mp b_32.2⟩).trans (cif_t ⟨h20, hf, c_77⟩)), by rw [ht]; exact hP, hD⟩, hS_.F ht⟩) hS_.2.2 dX1_dress_103
              · skip
                refine lv_aload_n hx hb_ dX1_dress_80 rfl (lv_at hl 1 rfl) ?_
                refine lv_iconst (v := 3) hx hb_ dX1_dress_81 (by decide) ?_
                have hFc := wfree hD hS_ hA
                refine va_calli (va_runV (As := [.int 3]) (rest := []) ⟨hx, hb_, hml, hown, hts⟩ (c_X1_fails l D cI y_ b_ S 0 H.size 3) (cwV 1 hts gX1_dress_X1_fails rfl rfl rfl (by decide +kernel) ⟨Nat.le_of_ble_eq_true rfl, Nat.le_of_ble_eq_true rfl⟩) (pW_V (ci := 1) hP hK_ hD rfl rfl) rfl rfl hl.1 rfl (lv_room (Nat.le_of_ble_eq_true rfl)) dX1_dress_82 ⟨Nat.zero_le _, Nat.zero_le _⟩) hS_ (fun q_ _ h_ => hFc q_ h_) hFc (fun r_82 u_82 t9 H1 locs ht9 hvm9 h_82 hB9 hz9 hk9 hS_ => ?_)
                obtain ⟨e_82, h_82⟩ := h_82
                subst e_82
                subst h_82
                have hP : va_P D vwCl (wM cI y_ b_ S 3) H1 := atW_P hB9 ht9
                have hD : va_D A (wM cI y_ b_ S 3) := atW_D hB9 hFc
                generalize H1 = H at hP hS_ ⊢
                exact W.iret (v := 0) hx hb_ hr (fun t_ ht hW => ⟨⟨_, (S, 3), rfl, (cif_t ⟨b_6, b_13⟩).trans ((cif_t ⟨Int32.not_lt.mp b_32.1, Int32.not_lt.mp b_32.2⟩).trans (cif_f (fun h_ => c_77 h_.2.2))), by rw [ht]; exact hP, hD⟩, hS_.F ht⟩) hS_.2.2 dX1_dress_85
      · skip
        have b_32 := cif_b0 h_32 c_35
        refine lv_aload_n hx hb_ dX1_dress_38 rfl (lv_at hl 0 rfl) ?_
        refine lv_iconst (v := 2) hx hb_ dX1_dress_39 (by decide) ?_
        have hFc := wfree hD hS_ hA
        refine va_calli (va_runV (As := [.int 2]) (rest := []) ⟨hx, hb_, hml, hown, hts⟩ (c_X1_fails l D cI y_ b_ S 0 H.size 2) (cwV 1 hts gX1_dress_X1_fails rfl rfl rfl (by decide +kernel) ⟨Nat.le_of_ble_eq_true rfl, Nat.le_of_ble_eq_true rfl⟩) (pW_V (ci := 1) hP hK_ hD rfl rfl) rfl rfl hl.1 rfl (lv_room (Nat.le_of_ble_eq_true rfl)) dX1_dress_40 ⟨Nat.zero_le _, Nat.zero_le _⟩) hS_ (fun q_ _ h_ => hFc q_ h_) hFc (fun r_40 u_40 t9 H1 locs ht9 hvm9 h_40 hB9 hz9 hk9 hS_ => ?_)
        obtain ⟨e_40, h_40⟩ := h_40
        subst e_40
        subst h_40
        have hP : va_P D vwCl (wM cI y_ b_ S 2) H1 := atW_P hB9 ht9
        have hD : va_D A (wM cI y_ b_ S 2) := atW_D hB9 hFc
        generalize H1 = H at hP hS_ ⊢
        exact W.iret (v := 0) hx hb_ hr (fun t_ ht hW => ⟨⟨_, (S, 2), rfl, (cif_t ⟨b_6, b_13⟩).trans (cif_f (fun h_ => b_32 ⟨le_nlt h_.1, le_nlt h_.2⟩)), by rw [ht]; exact hP, hD⟩, hS_.F ht⟩) hS_.2.2 dX1_dress_43
    · skip
      have b_13 := cif_b0 h_13 c_16
      refine lv_aload_n hx hb_ dX1_dress_19 rfl (lv_at hl 0 rfl) ?_
      refine lv_iconst (v := 1) hx hb_ dX1_dress_20 (by decide) ?_
      have hFc := wfree hD hS_ hA
      refine va_calli (va_runV (As := [.int 1]) (rest := []) ⟨hx, hb_, hml, hown, hts⟩ (c_X1_fails l D cI y_ b_ S 0 H.size 1) (cwV 1 hts gX1_dress_X1_fails rfl rfl rfl (by decide +kernel) ⟨Nat.le_of_ble_eq_true rfl, Nat.le_of_ble_eq_true rfl⟩) (pW_V (ci := 1) hP hK_ hD rfl rfl) rfl rfl hl.1 rfl (lv_room (Nat.le_of_ble_eq_true rfl)) dX1_dress_21 ⟨Nat.zero_le _, Nat.zero_le _⟩) hS_ (fun q_ _ h_ => hFc q_ h_) hFc (fun r_21 u_21 t9 H1 locs ht9 hvm9 h_21 hB9 hz9 hk9 hS_ => ?_)
      obtain ⟨e_21, h_21⟩ := h_21
      subst e_21
      subst h_21
      have hP : va_P D vwCl (wM cI y_ b_ S 1) H1 := atW_P hB9 ht9
      have hD : va_D A (wM cI y_ b_ S 1) := atW_D hB9 hFc
      generalize H1 = H at hP hS_ ⊢
      exact W.iret (v := 0) hx hb_ hr (fun t_ ht hW => ⟨⟨_, (S, 1), rfl, cif_f (fun h_ => b_13 h_.2), by rw [ht]; exact hP, hD⟩, hS_.F ht⟩) hS_.2.2 dX1_dress_24
set_option maxHeartbeats 4000000 in
set_option maxRecDepth 100000 in
theorem c_X1_repair (l : Launch) (D : va_G) (cI : ClassId) (y_ : Nat) (b_ : Nat → Nat) (S : ST) (tq : Int32) (sz : Nat) (c_ : Int32) (B : Nat) (hI_ : Inv B S) : Met l yX1_repair wsX1_repair rmX1_repair (va_Pc [.ref y_, .int c_] (pW D (tyM cI) (wM cI y_ b_ S tq) sz)) (va_Qi (fun (r_ : Int32) (u_ : ST × Int32) => k_repair S c_ = (u_.2, r_, u_.1)) (fun (u_ : ST × Int32) t_ => atW D (wM cI y_ b_ u_.1 u_.2) (va_A (wM cI y_ b_ S tq) sz) t_) (va_A (wM cI y_ b_ S tq) sz)) 0 0 (va_A (wM cI y_ b_ S tq) sz) := by
  refine Met.ofW (cc := cX1_repair) (maxL := 2) (ret := (some .int)) (by decide) rfl ?_
  intro pr env s_ mid args below meth cod s₁ Bd hml hv
  obtain ⟨rfl, hsz, hP, hK_, hD0⟩ := hv
  have hx := Bd.exec
  have hb_ := Bd.bytes
  have hr := Bd.returns
  have hts := atoms_spec (ws := wsX1_repair) Bd.pre
  have hown : s_.vm.findClass RX1 = some mid.cls := findClass_of_methodNamed Bd.named
  have hlocks := Bd.notSynchronized
  have hin : ∀ w_ ∈ wsX10, w_ ∈ wsX1_repair := fun _ h_ => List.mem_cons_of_mem _ (List.mem_append_right _ h_)
  subst hsz
  have hD := hD0.self (sz := s_.heap.size)
  generalize hAe : va_A (wM cI y_ b_ S tq) s_.heap.size = A at hD ⊢
  have hA : ∀ q_ : Nat, s_.heap.size ≤ q_ → A q_ := fun q_ h_ => by rw [← hAe]; exact Or.inr h_
  have hS_ : va_S A s_.heap s_.heap [] := va_S.rf
  have hP : va_P D vwCl (wM cI y_ b_ S tq) s_.heap := hP
  have hD : va_D A (wM cI y_ b_ S tq) := hD
  have hl := lv_entry ([.ref y_, .int c_]) (n := 2) (Nat.le_of_ble_eq_true rfl)
  rw [lg_entry_eq]
  generalize (lg_sl ([.ref y_, .int c_]) ++ List.replicate (2 - (lg_sl ([.ref y_, .int c_])).length) Slot.unset).toArray = ls at hl ⊢
  have hl : lv_has ls 2 [(0, .ref y_), (1, .int c_)] := hl
  refine lv_aload_n hx hb_ dX1_repair_0 rfl (lv_at hl 0 rfl) ?_
  refine lv_iconst (v := 0) hx hb_ dX1_repair_1 (by decide) ?_
  have hf53 := hts (.fieldLink RX1 53 "ClockmaskModel" "thrown" "I") (by decide +kernel)
  refine va_put (D := D) (ci := 1) (v := .int 0) (ty := .int) (C := RX1) (T := TX1) (N := 18) hx hb_ hts hin tyX1 tyX1_ok nmX1 hown hK_ hP hD hS_ 0 rfl rfl 17 (by decide) hf53 (fun _ h9 => h9) rfl (by decide +kernel) rfl rfl (Nat.le_of_ble_eq_true rfl) dX1_repair_2 (fun H locs hP hD hS_ => ?_)
  have hP : va_P D vwCl (wM cI y_ b_ S 0) H := hP
  have hD : va_D A (wM cI y_ b_ S 0) := hD
  refine lv_iload_n hx hb_ dX1_repair_5 rfl (lv_at hl 1 rfl) ?_
  refine vp_callSi (W.runS (As := [.int c_]) (rest := []) ⟨hx, hb_, hml, hown, hts⟩ (c_X1_isCostume l c_) (va_cwS 1 hts gX1_repair_X1_isCostume rfl rfl rfl (by decide +kernel) ⟨Nat.le_of_ble_eq_true rfl, Nat.le_of_ble_eq_true rfl⟩) (pN_S) rfl rfl hl.1 rfl (lv_room (Nat.le_of_ble_eq_true rfl)) dX1_repair_6 ⟨Nat.zero_le _, Nat.zero_le _⟩) (fun r_6 h_6 => ?_)
  refine lv_if_ne (tgt := 18) hx hb_ dX1_repair_9 (by decide) (fun c_9 => ?_) (fun c_9 => ?_)
  · skip
    have b_6 := cif_b1 h_6 c_9
    refine lv_aload_n hx hb_ dX1_repair_18 rfl (lv_at hl 0 rfl) ?_
    refine lv_iload_n hx hb_ dX1_repair_19 rfl (lv_at hl 1 rfl) ?_
    refine vp_callSi (W.runV (As := [.int c_]) (rest := []) ⟨hx, hb_, hml, hown, hts⟩ (c_X1_ownerOf l D cI y_ b_ S 0 c_) (cwV 1 hts gX1_repair_X1_ownerOf rfl rfl rfl (by decide +kernel) ⟨Nat.le_of_ble_eq_true rfl, Nat.le_of_ble_eq_true rfl⟩) (pR_V (ci := 1) hP hK_ rfl rfl) rfl rfl hl.1 rfl (lv_room (Nat.le_of_ble_eq_true rfl)) dX1_repair_20 ⟨Nat.zero_le _, Nat.zero_le _⟩) (fun r_20 h_20 => ?_)
    have eo := lI_fI hI_.u0 (vin_ne b_6)
    subst h_20
    refine lv_iconst (v := (-1)) hx hb_ dX1_repair_23 (by decide) ?_
    refine lv_icmp_ne (tgt := 40) hx hb_ dX1_repair_24 (by decide) (fun c_24 => ?_) (fun c_24 => ?_)
    · skip
      refine lv_aload_n hx hb_ dX1_repair_40 rfl (lv_at hl 0 rfl) ?_
      refine lv_iconst (v := 2) hx hb_ dX1_repair_41 (by decide) ?_
      have hFc := wfree hD hS_ hA
      refine va_calli (va_runV (As := [.int 2]) (rest := []) ⟨hx, hb_, hml, hown, hts⟩ (c_X1_fails l D cI y_ b_ S 0 H.size 2) (cwV 1 hts gX1_repair_X1_fails rfl rfl rfl (by decide +kernel) ⟨Nat.le_of_ble_eq_true rfl, Nat.le_of_ble_eq_true rfl⟩) (pW_V (ci := 1) hP hK_ hD rfl rfl) rfl rfl hl.1 rfl (lv_room (Nat.le_of_ble_eq_true rfl)) dX1_repair_42 ⟨Nat.zero_le _, Nat.zero_le _⟩) hS_ (fun q_ _ h_ => hFc q_ h_) hFc (fun r_42 u_42 t9 H1 locs ht9 hvm9 h_42 hB9 hz9 hk9 hS_ => ?_)
      obtain ⟨e_42, h_42⟩ := h_42
      subst e_42
      subst h_42
      have hP : va_P D vwCl (wM cI y_ b_ S 2) H1 := atW_P hB9 ht9
      have hD : va_D A (wM cI y_ b_ S 2) := atW_D hB9 hFc
      generalize H1 = H at hP hS_ ⊢
      exact W.iret (v := 0) hx hb_ hr (fun t_ ht hW => ⟨⟨_, (S, 2), rfl, (cif_t b_6).trans (cif_f (fun h_ => c_24 (eo.trans h_.1))), by rw [ht]; exact hP, hD⟩, hS_.F ht⟩) hS_.2.2 dX1_repair_45
    · skip
      refine lv_aload_n hx hb_ dX1_repair_27 rfl (lv_at hl 0 rfl) ?_
      have hf49 := hts (.fieldLink RX1 49 "ClockmaskModel" "purseNow" "I") (by decide +kernel)
      refine va_get (D := D) (ci := 1) (v := .int (S 14 0)) (C := RX1) (T := TX1) (N := 18) hx hb_ hts hin hown hK_ hP 0 rfl rfl 15 (by decide) hf49 (fun _ h9 => h9) rfl dX1_repair_28 ?_
      refine lv_aload_n hx hb_ dX1_repair_31 rfl (lv_at hl 0 rfl) ?_
      have hf19 := hts (.fieldLink RX1 19 "ClockmaskModel" "wears" "[I") (by decide +kernel)
      refine va_get (D := D) (ci := 1) (v := .ref (b_ 3)) (C := RX1) (T := TX1) (N := 18) hx hb_ hts hin hown hK_ hP 0 rfl rfl 3 (by decide) hf19 (fun _ h9 => h9) rfl dX1_repair_32 ?_
      refine lv_iload_n hx hb_ dX1_repair_35 rfl (lv_at hl 1 rfl) ?_
      refine va_iald (f := S 3) (n := 8) hx hb_ hK_ hP 4 0 rfl rfl (by assumption) dX1_repair_36 ?_
      refine lv_icmp_ge (tgt := 46) hx hb_ dX1_repair_37 (by decide) (fun c_37 => ?_) (fun c_37 => ?_)
      · skip
        refine lv_aload_n hx hb_ dX1_repair_46 rfl (lv_at hl 0 rfl) ?_
        refine lv_dup hx hb_ dX1_repair_47 rfl ?_
        refine va_get (D := D) (ci := 1) (v := .int (S 14 0)) (C := RX1) (T := TX1) (N := 18) hx hb_ hts hin hown hK_ hP 0 rfl rfl 15 (by decide) hf49 (fun _ h9 => h9) rfl dX1_repair_48 ?_
        refine lv_aload_n hx hb_ dX1_repair_51 rfl (lv_at hl 0 rfl) ?_
        refine va_get (D := D) (ci := 1) (v := .ref (b_ 3)) (C := RX1) (T := TX1) (N := 18) hx hb_ hts hin hown hK_ hP 0 rfl rfl 3 (by decide) hf19 (fun _ h9 => h9) rfl dX1_repair_52 ?_
        refine lv_iload_n hx hb_ dX1_repair_55 rfl (lv_at hl 1 rfl) ?_
        refine va_iald (f := S 3) (n := 8) hx hb_ hK_ hP 4 0 rfl rfl (by assumption) dX1_repair_56 ?_
        refine lv_isub hx hb_ dX1_repair_57 ?_
        refine va_put (D := D) (ci := 1) (v := .int ((S 14 0) - (S 3 c_.toNatClampNeg))) (ty := .int) (C := RX1) (T := TX1) (N := 18) hx hb_ hts hin tyX1 tyX1_ok nmX1 hown hK_ hP hD hS_ 0 rfl rfl 15 (by decide) hf49 (fun _ h9 => h9) rfl (by decide +kernel) rfl rfl (Nat.le_of_ble_eq_true rfl) dX1_repair_58 (fun H locs hP hD hS_ => ?_)
        have hP : va_P D vwCl (wMr cI y_ b_ (S 0) (S 1) (S 2) (S 3) (S 4) (S 5) (S 6) (S 7) (S 8) (S 9) (S 10 0) (S 11 0) (S 12) (S 13) ((S 14 0) - (S 3 c_.toNatClampNeg)) (S 15 0) (S 16) 0) H := hP
        have hD : va_D A (wMr cI y_ b_ (S 0) (S 1) (S 2) (S 3) (S 4) (S 5) (S 6) (S 7) (S 8) (S 9) (S 10 0) (S 11 0) (S 12) (S 13) ((S 14 0) - (S 3 c_.toNatClampNeg)) (S 15 0) (S 16) 0) := hD
        refine lv_aload_n hx hb_ dX1_repair_61 rfl (lv_at hl 0 rfl) ?_
        refine va_get (D := D) (ci := 1) (v := .ref (b_ 3)) (C := RX1) (T := TX1) (N := 18) hx hb_ hts hin hown hK_ hP 0 rfl rfl 3 (by decide) hf19 (fun _ h9 => h9) rfl dX1_repair_62 ?_
        refine lv_iload_n hx hb_ dX1_repair_65 rfl (lv_at hl 1 rfl) ?_
        refine lv_iconst (v := 0) hx hb_ dX1_repair_66 (by decide) ?_
        refine va_iast (f := S 3) (n := 8) hx hb_ hK_ hP hD hS_ 4 0 rfl rfl (by assumption) dX1_repair_67 (fun H locs hP hD hS_ => ?_)
        have hP : va_P D vwCl (wMr cI y_ b_ (S 0) (S 1) (S 2) (upd (S 3) c_.toNatClampNeg 0) (S 4) (S 5) (S 6) (S 7) (S 8) (S 9) (S 10 0) (S 11 0) (S 12) (S 13) ((S 14 0) - (S 3 c_.toNatClampNeg)) (S 15 0) (S 16) 0) H := hP
        have hD : va_D A (wMr cI y_ b_ (S 0) (S 1) (S 2) (upd (S 3) c_.toNatClampNeg 0) (S 4) (S 5) (S 6) (S 7) (S 8) (S 9) (S 10 0) (S 11 0) (S 12) (S 13) ((S 14 0) - (S 3 c_.toNatClampNeg)) (S 15 0) (S 16) 0) := hD
        refine lv_aload_n hx hb_ dX1_repair_68 rfl (lv_at hl 0 rfl) ?_
        refine va_get (D := D) (ci := 1) (v := .int ((S 14 0) - (S 3 c_.toNatClampNeg))) (C := RX1) (T := TX1) (N := 18) hx hb_ hts hin hown hK_ hP 0 rfl rfl 15 (by decide) hf49 (fun _ h9 => h9) rfl dX1_repair_69 ?_
        exact W.iret (v := ((S 14 0) - (S 3 c_.toNatClampNeg))) hx hb_ hr (fun t_ ht hW => ⟨⟨_, (row (row S 14 (kf ((S 14 0) - (S 3 c_.toNatClampNeg)))) 3 (upd (S 3) c_.toNatClampNeg 0), 0), rfl, (cif_t b_6).trans (cif_t ⟨eo.symm.trans c_24, c_37⟩), by rw [ht]; exact hP, hD⟩, hS_.F ht⟩) hS_.2.2 dX1_repair_72
      · skip
        refine lv_aload_n hx hb_ dX1_repair_40 rfl (lv_at hl 0 rfl) ?_
        refine lv_iconst (v := 2) hx hb_ dX1_repair_41 (by decide) ?_
        have hFc := wfree hD hS_ hA
        refine va_calli (va_runV (As := [.int 2]) (rest := []) ⟨hx, hb_, hml, hown, hts⟩ (c_X1_fails l D cI y_ b_ S 0 H.size 2) (cwV 1 hts gX1_repair_X1_fails rfl rfl rfl (by decide +kernel) ⟨Nat.le_of_ble_eq_true rfl, Nat.le_of_ble_eq_true rfl⟩) (pW_V (ci := 1) hP hK_ hD rfl rfl) rfl rfl hl.1 rfl (lv_room (Nat.le_of_ble_eq_true rfl)) dX1_repair_42 ⟨Nat.zero_le _, Nat.zero_le _⟩) hS_ (fun q_ _ h_ => hFc q_ h_) hFc (fun r_42 u_42 t9 H1 locs ht9 hvm9 h_42 hB9 hz9 hk9 hS_ => ?_)
        obtain ⟨e_42, h_42⟩ := h_42
        subst e_42
        subst h_42
        have hP : va_P D vwCl (wM cI y_ b_ S 2) H1 := atW_P hB9 ht9
        have hD : va_D A (wM cI y_ b_ S 2) := atW_D hB9 hFc
        generalize H1 = H at hP hS_ ⊢
        exact W.iret (v := 0) hx hb_ hr (fun t_ ht hW => ⟨⟨_, (S, 2), rfl, (cif_t b_6).trans (cif_f (fun h_ => c_37 h_.2)), by rw [ht]; exact hP, hD⟩, hS_.F ht⟩) hS_.2.2 dX1_repair_45
  · skip
    have b_6 := cif_b0 h_6 c_9
    refine lv_aload_n hx hb_ dX1_repair_12 rfl (lv_at hl 0 rfl) ?_
    refine lv_iconst (v := 1) hx hb_ dX1_repair_13 (by decide) ?_
    have hFc := wfree hD hS_ hA
    refine va_calli (va_runV (As := [.int 1]) (rest := []) ⟨hx, hb_, hml, hown, hts⟩ (c_X1_fails l D cI y_ b_ S 0 H.size 1) (cwV 1 hts gX1_repair_X1_fails rfl rfl rfl (by decide +kernel) ⟨Nat.le_of_ble_eq_true rfl, Nat.le_of_ble_eq_true rfl⟩) (pW_V (ci := 1) hP hK_ hD rfl rfl) rfl rfl hl.1 rfl (lv_room (Nat.le_of_ble_eq_true rfl)) dX1_repair_14 ⟨Nat.zero_le _, Nat.zero_le _⟩) hS_ (fun q_ _ h_ => hFc q_ h_) hFc (fun r_14 u_14 t9 H1 locs ht9 hvm9 h_14 hB9 hz9 hk9 hS_ => ?_)
    obtain ⟨e_14, h_14⟩ := h_14
    subst e_14
    subst h_14
    have hP : va_P D vwCl (wM cI y_ b_ S 1) H1 := atW_P hB9 ht9
    have hD : va_D A (wM cI y_ b_ S 1) := atW_D hB9 hFc
    generalize H1 = H at hP hS_ ⊢
    exact W.iret (v := 0) hx hb_ hr (fun t_ ht hW => ⟨⟨_, (S, 1), rfl, cif_f b_6, by rw [ht]; exact hP, hD⟩, hS_.F ht⟩) hS_.2.2 dX1_repair_17
set_option maxHeartbeats 4000000 in
set_option maxRecDepth 100000 in
theorem c_X1_maskByCues (l : Launch) (D : va_G) (cI : ClassId) (y_ : Nat) (b_ : Nat → Nat) (S : ST) (tq : Int32) (sz : Nat) (p_ : Int32) (B : Nat) (hI_ : Inv B S) : Met l yX1_maskByCues wsX1_maskByCues rmX1_maskByCues (va_Pc [.ref y_, .int p_] (pW D (tyM cI) (wM cI y_ b_ S tq) sz)) (va_Qi (fun (r_ : Int32) (u_ : ST × Int32) => k_maskByCues S p_ = (u_.2, r_, u_.1)) (fun (u_ : ST × Int32) t_ => atW D (wM cI y_ b_ u_.1 u_.2) (va_A (wM cI y_ b_ S tq) sz) t_) (va_A (wM cI y_ b_ S tq) sz)) 0 0 (va_A (wM cI y_ b_ S tq) sz) := by
  refine Met.ofW (cc := cX1_maskByCues) (maxL := 3) (ret := (some .int)) (by decide) rfl ?_
  intro pr env s_ mid args below meth cod s₁ Bd hml hv
  obtain ⟨rfl, hsz, hP, hK_, hD0⟩ := hv
  have hx := Bd.exec
  have hb_ := Bd.bytes
  have hr := Bd.returns
  have hts := atoms_spec (ws := wsX1_maskByCues) Bd.pre
  have hown : s_.vm.findClass RX1 = some mid.cls := findClass_of_methodNamed Bd.named
  have hlocks := Bd.notSynchronized
  have hin : ∀ w_ ∈ wsX10, w_ ∈ wsX1_maskByCues := fun _ h_ => List.mem_cons_of_mem _ (List.mem_append_right _ h_)
  subst hsz
  have hD := hD0.self (sz := s_.heap.size)
  generalize hAe : va_A (wM cI y_ b_ S tq) s_.heap.size = A at hD ⊢
  have hA : ∀ q_ : Nat, s_.heap.size ≤ q_ → A q_ := fun q_ h_ => by rw [← hAe]; exact Or.inr h_
  have hS_ : va_S A s_.heap s_.heap [] := va_S.rf
  have hP : va_P D vwCl (wM cI y_ b_ S tq) s_.heap := hP
  have hD : va_D A (wM cI y_ b_ S tq) := hD
  have hl := lv_entry ([.ref y_, .int p_]) (n := 3) (Nat.le_of_ble_eq_true rfl)
  rw [lg_entry_eq]
  generalize (lg_sl ([.ref y_, .int p_]) ++ List.replicate (3 - (lg_sl ([.ref y_, .int p_])).length) Slot.unset).toArray = ls at hl ⊢
  have hl : lv_has ls 3 [(0, .ref y_), (1, .int p_)] := hl
  refine lv_aload_n hx hb_ dX1_maskByCues_0 rfl (lv_at hl 0 rfl) ?_
  refine lv_iconst (v := 0) hx hb_ dX1_maskByCues_1 (by decide) ?_
  have hf53 := hts (.fieldLink RX1 53 "ClockmaskModel" "thrown" "I") (by decide +kernel)
  refine va_put (D := D) (ci := 1) (v := .int 0) (ty := .int) (C := RX1) (T := TX1) (N := 18) hx hb_ hts hin tyX1 tyX1_ok nmX1 hown hK_ hP hD hS_ 0 rfl rfl 17 (by decide) hf53 (fun _ h9 => h9) rfl (by decide +kernel) rfl rfl (Nat.le_of_ble_eq_true rfl) dX1_maskByCues_2 (fun H locs hP hD hS_ => ?_)
  have hP : va_P D vwCl (wM cI y_ b_ S 0) H := hP
  have hD : va_D A (wM cI y_ b_ S 0) := hD
  refine lv_iload_n hx hb_ dX1_maskByCues_5 rfl (lv_at hl 1 rfl) ?_
  refine vp_callSi (W.runS (As := [.int p_]) (rest := []) ⟨hx, hb_, hml, hown, hts⟩ (c_X1_isPlayer l p_) (va_cwS 1 hts gX1_maskByCues_X1_isPlayer rfl rfl rfl (by decide +kernel) ⟨Nat.le_of_ble_eq_true rfl, Nat.le_of_ble_eq_true rfl⟩) (pN_S) rfl rfl hl.1 rfl (lv_room (Nat.le_of_ble_eq_true rfl)) dX1_maskByCues_6 ⟨Nat.zero_le _, Nat.zero_le _⟩) (fun r_6 h_6 => ?_)
  refine lv_if_ne (tgt := 18) hx hb_ dX1_maskByCues_9 (by decide) (fun c_9 => ?_) (fun c_9 => ?_)
  · skip
    have b_6 := cif_b1 h_6 c_9
    refine lv_iconst (v := 0) hx hb_ dX1_maskByCues_18 (by decide) ?_
    refine lv_istore_n (lv' := [(2, .int 0), (0, .ref y_), (1, .int p_)]) hx hb_ dX1_maskByCues_19 rfl hl (by decide) rfl (fun ls hl => ?_)
    refine W_gen (fun R Q hR hQ => ?_)
    have loop_20 : ∀ (n_ : Nat) (j_ : Nat) (i2_ : Int32) (g_ : Nat → Int32), (j_ ≤ 6) → (7 ≤ j_ + n_) → (i2_ = nI j_) → (g_ = fa_fill (fun _ => -1) (S 16) j_) → ∀ (H : Heap) (locs : List Loc), va_P D vwCl (wMr cI y_ b_ (S 0) (S 1) (S 2) (S 3) (S 4) (S 5) (S 6) (S 7) (S 8) (S 9) (S 10 0) (S 11 0) (S 12) (S 13) (S 14 0) (S 15 0) g_ 0) H → va_D A (wMr cI y_ b_ (S 0) (S 1) (S 2) (S 3) (S 4) (S 5) (S 6) (S 7) (S 8) (S 9) (S 10 0) (S 11 0) (S 12) (S 13) (S 14 0) (S 15 0) g_ 0) → va_S A s_.heap H locs → ∀ ls : Array Slot, lv_has ls 3 [(2, .int i2_), (0, .ref y_), (1, .int p_)] → W pr l env R s_ mid ([.ref y_, .int p_] : List Value).toArray below meth cod H locs 0 0 Q (F0 mid 20 ls []) := by
      subst hR; subst hQ
      intro n_
      induction n_ with
      | zero =>
        intro j_ i2_ g_ hj hn e2_ eg H locs hP hD hS_ ls hl
        exfalso; omega
      | succ n_ ih_ =>
        intro j_ i2_ g_ hj hn e2_ eg H locs hP hD hS_ ls hl
        have hm_ := hI_.m24
        have hc9 := cN_le (S 8) 1 (many S)
        refine lv_iload_n hx hb_ dX1_maskByCues_20 rfl (lv_at hl 0 rfl) ?_
        refine lv_bipush (v := 6) hx hb_ dX1_maskByCues_21 (by decide) ?_
        refine lv_icmp_ge (tgt := 39) hx hb_ dX1_maskByCues_23 (by decide) (fun c_23 => ?_) (fun c_23 => ?_)
        · skip
          have h6 : 6 ≤ j_ := ge_of (N := 6) e2_ (by omega) rfl c_23
          refine lv_iconst (v := 0) hx hb_ dX1_maskByCues_39 (by decide) ?_
          refine lv_istore_n (lv' := [(2, .int 0), (0, .ref y_), (1, .int p_)]) hx hb_ dX1_maskByCues_40 rfl hl (by decide) rfl (fun ls hl => ?_)
          refine W_gen (fun R Q hR hQ => ?_)
          have loop_41 : ∀ (n_ : Nat) (j2_ : Nat) (i3_ : Int32) (g2 : Nat → Int32), (j2_ ≤ cN (S 8) 1 (many S)) → (cN (S 8) 1 (many S) + 1 ≤ j2_ + n_) → (i3_ = nI j2_) → (g2 = rpN S j2_) → ∀ (H : Heap) (locs : List Loc), va_P D vwCl (wMr cI y_ b_ (S 0) (S 1) (S 2) (S 3) (S 4) (S 5) (S 6) (S 7) (S 8) (S 9) (S 10 0) (S 11 0) (S 12) (S 13) (S 14 0) (S 15 0) g2 0) H → va_D A (wMr cI y_ b_ (S 0) (S 1) (S 2) (S 3) (S 4) (S 5) (S 6) (S 7) (S 8) (S 9) (S 10 0) (S 11 0) (S 12) (S 13) (S 14 0) (S 15 0) g2 0) → va_S A s_.heap H locs → ∀ ls : Array Slot, lv_has ls 3 [(2, .int i3_), (0, .ref y_), (1, .int p_)] → W pr l env R s_ mid ([.ref y_, .int p_] : List Value).toArray below meth cod H locs 0 0 Q (F0 mid 41 ls []) := by
            subst hR; subst hQ
            intro n_
            induction n_ with
            | zero =>
              intro j2_ i3_ g2 hj2 hn2 e3_ eg2 H locs hP hD hS_ ls hl
              exfalso; omega
            | succ n_ ih_ =>
              intro j2_ i3_ g2 hj2 hn2 e3_ eg2 H locs hP hD hS_ ls hl
              refine lv_iload_n hx hb_ dX1_maskByCues_41 rfl (lv_at hl 0 rfl) ?_
              refine lv_aload_n hx hb_ dX1_maskByCues_42 rfl (lv_at hl 1 rfl) ?_
              have hf89 := hts (.fieldLink RX1 89 "ClockmaskModel" "called" "I") (by decide +kernel)
              refine va_get (D := D) (ci := 1) (v := .int (S 11 0)) (C := RX1) (T := TX1) (N := 18) hx hb_ hts hin hown hK_ hP 0 rfl rfl 11 (by decide) hf89 (fun _ h9 => h9) rfl dX1_maskByCues_43 ?_
              refine lv_icmp_ge (tgt := 69) hx hb_ dX1_maskByCues_46 (by decide) (fun c_46 => ?_) (fun c_46 => ?_)
              · skip
                have h7 : cN (S 8) 1 (many S) ≤ j2_ := by rw [e3_, hI_.ce] at c_46; exact (nI_leI (by omega) (by omega)).mp c_46
                refine lv_aload_n hx hb_ dX1_maskByCues_69 rfl (lv_at hl 1 rfl) ?_
                have hf46 := hts (.fieldLink RX1 46 "ClockmaskModel" "replayed" "[I") (by decide +kernel)
                refine va_get (D := D) (ci := 1) (v := .ref (b_ 16)) (C := RX1) (T := TX1) (N := 18) hx hb_ hts hin hown hK_ hP 0 rfl rfl 14 (by decide) hf46 (fun _ h9 => h9) rfl dX1_maskByCues_70 ?_
                refine lv_iload_n hx hb_ dX1_maskByCues_73 rfl (lv_at hl 2 rfl) ?_
                refine va_iald (f := g2) (n := 6) hx hb_ hK_ hP 13 0 rfl rfl (by assumption) dX1_maskByCues_74 ?_
                exact W.iret (v := g2 p_.toNatClampNeg) hx hb_ hr (fun t_ ht hW => ⟨⟨_, (row S 16 g2, 0), rfl, by rw [eg2, show j2_ = (S 11 0).toNatClampNeg by rw [hI_.ce, nI_clamp (by omega)]; omega]; exact cif_t b_6, by rw [ht]; exact hP, hD⟩, hS_.F ht⟩) hS_.2.2 dX1_maskByCues_75
              · skip
                have h7 : j2_ < cN (S 8) 1 (many S) := by rw [e3_, hI_.ce] at c_46; exact Nat.lt_of_not_le (fun z_ => c_46 ((nI_leI (by omega) (by omega)).mpr z_))
                have h9 : vp_in (S 9 i3_.toNatClampNeg) (many S) := by rw [e3_, nI_clamp (by omega)]; exact hI_.i9 j2_ h7
                have hcf := hI_.cueq h9
                refine lv_aload_n hx hb_ dX1_maskByCues_49 rfl (lv_at hl 1 rfl) ?_
                refine lv_aload_n hx hb_ dX1_maskByCues_50 rfl (lv_at hl 1 rfl) ?_
                have hf37 := hts (.fieldLink RX1 37 "ClockmaskModel" "order" "[I") (by decide +kernel)
                refine va_get (D := D) (ci := 1) (v := .ref (b_ 9)) (C := RX1) (T := TX1) (N := 18) hx hb_ hts hin hown hK_ hP 0 rfl rfl 9 (by decide) hf37 (fun _ h9 => h9) rfl dX1_maskByCues_51 ?_
                refine lv_iload_n hx hb_ dX1_maskByCues_54 rfl (lv_at hl 0 rfl) ?_
                refine va_iald (f := S 9) (n := 24) hx hb_ hK_ hP 10 0 rfl rfl (by rw [e3_]; exact vp_in_nI (by omega) (by decide)) dX1_maskByCues_55 ?_
                refine lv_aload_n hx hb_ dX1_maskByCues_56 rfl (lv_at hl 1 rfl) ?_
                have hf46 := hts (.fieldLink RX1 46 "ClockmaskModel" "replayed" "[I") (by decide +kernel)
                refine va_get (D := D) (ci := 1) (v := .ref (b_ 16)) (C := RX1) (T := TX1) (N := 18) hx hb_ hts hin hown hK_ hP 0 rfl rfl 14 (by decide) hf46 (fun _ h9 => h9) rfl dX1_maskByCues_57 ?_
                have hPs : va_P D vwCl (wM cI y_ b_ (row S 16 g2) 0) H := hP
                have hDs : va_D A (wM cI y_ b_ (row S 16 g2) 0) := hD
                have hFc := wfree hDs hS_ hA
                refine va_callv (va_runV (As := [.int (S 9 i3_.toNatClampNeg), .ref (b_ 16)]) (rest := []) ⟨hx, hb_, hml, hown, hts⟩ (c_X1_change_16 l D cI y_ b_ (row S 16 g2) 0 H.size (S 9 i3_.toNatClampNeg) (hI_.q24 h9) (by rw [row_ne (by decide)]; exact hcf.2.1) (by rw [row_ne (by decide), row_ne (by decide)]; exact hcf.2.2.1)) (cwV 2 hts gX1_maskByCues_X1_change rfl rfl rfl (by decide +kernel) ⟨Nat.le_of_ble_eq_true rfl, Nat.le_of_ble_eq_true rfl⟩) (pW_V (ci := 1) hPs hK_ hDs rfl rfl) rfl rfl hl.1 rfl (lv_room (Nat.le_of_ble_eq_true rfl)) dX1_maskByCues_60 ⟨Nat.zero_le _, Nat.zero_le _⟩) hS_ (fun q_ _ h_ => hFc q_ h_) hFc (fun u_60 t9 H1 locs ht9 hvm9 h_60 hB9 hz9 hk9 hS_ => ?_)
                subst h_60
                have hP : va_P D vwCl (wMr cI y_ b_ (S 0) (S 1) (S 2) (S 3) (S 4) (S 5) (S 6) (S 7) (S 8) (S 9) (S 10 0) (S 11 0) (S 12) (S 13) (S 14 0) (S 15 0) (mv (row S 16 g2) (S 9 i3_.toNatClampNeg).toNatClampNeg g2) 0) H1 := atW_P hB9 ht9
                have hD : va_D A (wMr cI y_ b_ (S 0) (S 1) (S 2) (S 3) (S 4) (S 5) (S 6) (S 7) (S 8) (S 9) (S 10 0) (S 11 0) (S 12) (S 13) (S 14 0) (S 15 0) (mv (row S 16 g2) (S 9 i3_.toNatClampNeg).toNatClampNeg g2) 0) := atW_D hB9 hFc
                generalize H1 = H at hP hS_ ⊢
                refine lv_iinc (v := i3_ + 1) (lv' := [(2, .int (i3_ + 1)), (0, .ref y_), (1, .int p_)]) hx hb_ dX1_maskByCues_63 hl (k := 0) rfl rfl (by decide) rfl (fun ls hl => ?_)
                refine lv_goto (tgt := 41) hx hb_ dX1_maskByCues_66 (by decide) ?_
                exact ih_ (j2_ + 1) (i3_ + 1) (mv (row S 16 g2) (S 9 i3_.toNatClampNeg).toNatClampNeg g2) (by omega) (by omega) (by rw [e3_]; exact nI_1 j2_) (by rw [mv_cong (S := S) (row_ne (by decide)) (row_ne (by decide)) (row_ne (by decide)), eg2, e3_, nI_clamp (by omega)]; rfl) _ _ hP hD hS_ _ (lv_sub hl [0, 1, 2] rfl)
          exact loop_41 (cN (S 8) 1 (many S) + 1) 0 0 g_ (Nat.zero_le _) (by omega) nI_0.symm (by rw [eg, show j_ = 6 by omega]; rfl) _ _ hP hD hS_ _ (lv_sub hl [0, 1, 2] rfl)
        · skip
          have h6 : j_ < 6 := lt_of (N := 6) e2_ (by omega) rfl c_23
          refine lv_aload_n hx hb_ dX1_maskByCues_26 rfl (lv_at hl 1 rfl) ?_
          have hf46 := hts (.fieldLink RX1 46 "ClockmaskModel" "replayed" "[I") (by decide +kernel)
          refine va_get (D := D) (ci := 1) (v := .ref (b_ 16)) (C := RX1) (T := TX1) (N := 18) hx hb_ hts hin hown hK_ hP 0 rfl rfl 14 (by decide) hf46 (fun _ h9 => h9) rfl dX1_maskByCues_27 ?_
          refine lv_iload_n hx hb_ dX1_maskByCues_30 rfl (lv_at hl 0 rfl) ?_
          refine lv_iconst (v := (-1)) hx hb_ dX1_maskByCues_31 (by decide) ?_
          refine va_iast (f := g_) (n := 6) hx hb_ hK_ hP hD hS_ 13 0 rfl rfl (by rw [e2_]; exact vp_in_nI h6 (by decide)) dX1_maskByCues_32 (fun H locs hP hD hS_ => ?_)
          have hP : va_P D vwCl (wMr cI y_ b_ (S 0) (S 1) (S 2) (S 3) (S 4) (S 5) (S 6) (S 7) (S 8) (S 9) (S 10 0) (S 11 0) (S 12) (S 13) (S 14 0) (S 15 0) (upd g_ i2_.toNatClampNeg (-1)) 0) H := hP
          have hD : va_D A (wMr cI y_ b_ (S 0) (S 1) (S 2) (S 3) (S 4) (S 5) (S 6) (S 7) (S 8) (S 9) (S 10 0) (S 11 0) (S 12) (S 13) (S 14 0) (S 15 0) (upd g_ i2_.toNatClampNeg (-1)) 0) := hD
          refine lv_iinc (v := i2_ + 1) (lv' := [(2, .int (i2_ + 1)), (0, .ref y_), (1, .int p_)]) hx hb_ dX1_maskByCues_33 hl (k := 0) rfl rfl (by decide) rfl (fun ls hl => ?_)
          refine lv_goto (tgt := 20) hx hb_ dX1_maskByCues_36 (by decide) ?_
          exact ih_ (j_ + 1) (i2_ + 1) (upd g_ i2_.toNatClampNeg (-1)) (by omega) (by omega) (by rw [e2_]; exact nI_1 j_) (by rw [eg, e2_, nI_clamp (by omega)]; exact fa_fill_succ (fun _ => -1) _ j_) _ _ hP hD hS_ _ (lv_sub hl [0, 1, 2] rfl)
    exact loop_20 7 0 0 (S 16) (Nat.zero_le _) (by omega) nI_0.symm ((fa_fill_0 _ _).symm) _ _ hP hD hS_ _ (lv_sub hl [0, 1, 2] rfl)
  · skip
    have b_6 := cif_b0 h_6 c_9
    refine lv_aload_n hx hb_ dX1_maskByCues_12 rfl (lv_at hl 0 rfl) ?_
    refine lv_iconst (v := 1) hx hb_ dX1_maskByCues_13 (by decide) ?_
    have hFc := wfree hD hS_ hA
    refine va_calli (va_runV (As := [.int 1]) (rest := []) ⟨hx, hb_, hml, hown, hts⟩ (c_X1_fails l D cI y_ b_ S 0 H.size 1) (cwV 1 hts gX1_maskByCues_X1_fails rfl rfl rfl (by decide +kernel) ⟨Nat.le_of_ble_eq_true rfl, Nat.le_of_ble_eq_true rfl⟩) (pW_V (ci := 1) hP hK_ hD rfl rfl) rfl rfl hl.1 rfl (lv_room (Nat.le_of_ble_eq_true rfl)) dX1_maskByCues_14 ⟨Nat.zero_le _, Nat.zero_le _⟩) hS_ (fun q_ _ h_ => hFc q_ h_) hFc (fun r_14 u_14 t9 H1 locs ht9 hvm9 h_14 hB9 hz9 hk9 hS_ => ?_)
    obtain ⟨e_14, h_14⟩ := h_14
    subst e_14
    subst h_14
    have hP : va_P D vwCl (wM cI y_ b_ S 1) H1 := atW_P hB9 ht9
    have hD : va_D A (wM cI y_ b_ S 1) := atW_D hB9 hFc
    generalize H1 = H at hP hS_ ⊢
    exact W.iret (v := 0) hx hb_ hr (fun t_ ht hW => ⟨⟨_, (S, 1), rfl, cif_f b_6, by rw [ht]; exact hP, hD⟩, hS_.F ht⟩) hS_.2.2 dX1_maskByCues_17
set_option maxHeartbeats 4000000 in
set_option maxRecDepth 100000 in
theorem c_X1_guess (l : Launch) (D : va_G) (cI : ClassId) (y_ : Nat) (b_ : Nat → Nat) (S : ST) (tq : Int32) (sz : Nat) (g_ : Int32) (p_ : Int32) (m_ : Int32) (B : Nat) (hI_ : Inv B S) : Met l yX1_guess wsX1_guess rmX1_guess (va_Pc [.ref y_, .int g_, .int p_, .int m_] (pW D (tyM cI) (wM cI y_ b_ S tq) sz)) (va_Qi (fun (r_ : Int32) (u_ : ST × Int32) => k_guess S g_ p_ m_ = (u_.2, r_, u_.1)) (fun (u_ : ST × Int32) t_ => atW D (wM cI y_ b_ u_.1 u_.2) (va_A (wM cI y_ b_ S tq) sz) t_) (va_A (wM cI y_ b_ S tq) sz)) 0 0 (va_A (wM cI y_ b_ S tq) sz) := by
  refine Met.ofW (cc := cX1_guess) (maxL := 4) (ret := (some .boolean)) (by decide) rfl ?_
  intro pr env s_ mid args below meth cod s₁ Bd hml hv
  obtain ⟨rfl, hsz, hP, hK_, hD0⟩ := hv
  have hx := Bd.exec
  have hb_ := Bd.bytes
  have hr := Bd.returns
  have hts := atoms_spec (ws := wsX1_guess) Bd.pre
  have hown : s_.vm.findClass RX1 = some mid.cls := findClass_of_methodNamed Bd.named
  have hlocks := Bd.notSynchronized
  have hin : ∀ w_ ∈ wsX10, w_ ∈ wsX1_guess := fun _ h_ => List.mem_cons_of_mem _ (List.mem_append_right _ h_)
  subst hsz
  have hD := hD0.self (sz := s_.heap.size)
  generalize hAe : va_A (wM cI y_ b_ S tq) s_.heap.size = A at hD ⊢
  have hA : ∀ q_ : Nat, s_.heap.size ≤ q_ → A q_ := fun q_ h_ => by rw [← hAe]; exact Or.inr h_
  have hS_ : va_S A s_.heap s_.heap [] := va_S.rf
  have hP : va_P D vwCl (wM cI y_ b_ S tq) s_.heap := hP
  have hD : va_D A (wM cI y_ b_ S tq) := hD
  have hl := lv_entry ([.ref y_, .int g_, .int p_, .int m_]) (n := 4) (Nat.le_of_ble_eq_true rfl)
  rw [lg_entry_eq]
  generalize (lg_sl ([.ref y_, .int g_, .int p_, .int m_]) ++ List.replicate (4 - (lg_sl ([.ref y_, .int g_, .int p_, .int m_])).length) Slot.unset).toArray = ls at hl ⊢
  have hl : lv_has ls 4 [(0, .ref y_), (1, .int g_), (2, .int p_), (3, .int m_)] := hl
  refine lv_aload_n hx hb_ dX1_guess_0 rfl (lv_at hl 0 rfl) ?_
  refine lv_iconst (v := 0) hx hb_ dX1_guess_1 (by decide) ?_
  have hf53 := hts (.fieldLink RX1 53 "ClockmaskModel" "thrown" "I") (by decide +kernel)
  refine va_put (D := D) (ci := 1) (v := .int 0) (ty := .int) (C := RX1) (T := TX1) (N := 18) hx hb_ hts hin tyX1 tyX1_ok nmX1 hown hK_ hP hD hS_ 0 rfl rfl 17 (by decide) hf53 (fun _ h9 => h9) rfl (by decide +kernel) rfl rfl (Nat.le_of_ble_eq_true rfl) dX1_guess_2 (fun H locs hP hD hS_ => ?_)
  have hP : va_P D vwCl (wM cI y_ b_ S 0) H := hP
  have hD : va_D A (wM cI y_ b_ S 0) := hD
  refine lv_iload_n hx hb_ dX1_guess_5 rfl (lv_at hl 1 rfl) ?_
  refine lv_iconst (v := 0) hx hb_ dX1_guess_6 (by decide) ?_
  refine lv_iconst (v := 2) hx hb_ dX1_guess_7 (by decide) ?_
  refine vp_callSi (W.runS (As := [.int g_, .int 0, .int 2]) (rest := []) ⟨hx, hb_, hml, hown, hts⟩ (c_X1_in l g_ 0 2) (va_cwS 3 hts gX1_guess_X1_in rfl rfl rfl (by decide +kernel) ⟨Nat.le_of_ble_eq_true rfl, Nat.le_of_ble_eq_true rfl⟩) (pN_S) rfl rfl hl.1 rfl (lv_room (Nat.le_of_ble_eq_true rfl)) dX1_guess_8 ⟨Nat.zero_le _, Nat.zero_le _⟩) (fun r_8 h_8 => ?_)
  refine lv_if_eq (tgt := 28) hx hb_ dX1_guess_11 (by decide) (fun c_11 => ?_) (fun c_11 => ?_)
  · skip
    have b_8 := cif_b0 h_8 c_11
    refine lv_aload_n hx hb_ dX1_guess_28 rfl (lv_at hl 0 rfl) ?_
    refine lv_iconst (v := 1) hx hb_ dX1_guess_29 (by decide) ?_
    have hFc := wfree hD hS_ hA
    refine va_calli (va_runV (As := [.int 1]) (rest := []) ⟨hx, hb_, hml, hown, hts⟩ (c_X1_fails l D cI y_ b_ S 0 H.size 1) (cwV 1 hts gX1_guess_X1_fails rfl rfl rfl (by decide +kernel) ⟨Nat.le_of_ble_eq_true rfl, Nat.le_of_ble_eq_true rfl⟩) (pW_V (ci := 1) hP hK_ hD rfl rfl) rfl rfl hl.1 rfl (lv_room (Nat.le_of_ble_eq_true rfl)) dX1_guess_30 ⟨Nat.zero_le _, Nat.zero_le _⟩) hS_ (fun q_ _ h_ => hFc q_ h_) hFc (fun r_30 u_30 t9 H1 locs ht9 hvm9 h_30 hB9 hz9 hk9 hS_ => ?_)
    obtain ⟨e_30, h_30⟩ := h_30
    subst e_30
    subst h_30
    have hP : va_P D vwCl (wM cI y_ b_ S 1) H1 := atW_P hB9 ht9
    have hD : va_D A (wM cI y_ b_ S 1) := atW_D hB9 hFc
    generalize H1 = H at hP hS_ ⊢
    refine lv_pop hx hb_ dX1_guess_33 rfl ?_
    refine lv_iconst (v := 0) hx hb_ dX1_guess_34 (by decide) ?_
    exact W.zret (v := 0) (ty := .boolean) hx hb_ hr rfl (fun t_ ht hW => ⟨⟨_, (S, 1), rfl, cif_f (fun h_ => b_8 ((inm_iff (n := 3) (by decide)).mpr h_.1)), by rw [ht]; exact hP, hD⟩, hS_.F ht⟩) hS_.2.2 dX1_guess_35
  · skip
    have b_8 := cif_b1 h_8 c_11
    have hg : vp_in g_ 3 := (inm_iff (n := 3) (by decide)).mp b_8
    refine lv_iload_n hx hb_ dX1_guess_14 rfl (lv_at hl 2 rfl) ?_
    refine vp_callSi (W.runS (As := [.int p_]) (rest := []) ⟨hx, hb_, hml, hown, hts⟩ (c_X1_isPlayer l p_) (va_cwS 1 hts gX1_guess_X1_isPlayer rfl rfl rfl (by decide +kernel) ⟨Nat.le_of_ble_eq_true rfl, Nat.le_of_ble_eq_true rfl⟩) (pN_S) rfl rfl hl.1 rfl (lv_room (Nat.le_of_ble_eq_true rfl)) dX1_guess_15 ⟨Nat.zero_le _, Nat.zero_le _⟩) (fun r_15 h_15 => ?_)
    refine lv_if_eq (tgt := 28) hx hb_ dX1_guess_18 (by decide) (fun c_18 => ?_) (fun c_18 => ?_)
    · skip
      have b_15 := cif_b0 h_15 c_18
      refine lv_aload_n hx hb_ dX1_guess_28 rfl (lv_at hl 0 rfl) ?_
      refine lv_iconst (v := 1) hx hb_ dX1_guess_29 (by decide) ?_
      have hFc := wfree hD hS_ hA
      refine va_calli (va_runV (As := [.int 1]) (rest := []) ⟨hx, hb_, hml, hown, hts⟩ (c_X1_fails l D cI y_ b_ S 0 H.size 1) (cwV 1 hts gX1_guess_X1_fails rfl rfl rfl (by decide +kernel) ⟨Nat.le_of_ble_eq_true rfl, Nat.le_of_ble_eq_true rfl⟩) (pW_V (ci := 1) hP hK_ hD rfl rfl) rfl rfl hl.1 rfl (lv_room (Nat.le_of_ble_eq_true rfl)) dX1_guess_30 ⟨Nat.zero_le _, Nat.zero_le _⟩) hS_ (fun q_ _ h_ => hFc q_ h_) hFc (fun r_30 u_30 t9 H1 locs ht9 hvm9 h_30 hB9 hz9 hk9 hS_ => ?_)
      obtain ⟨e_30, h_30⟩ := h_30
      subst e_30
      subst h_30
      have hP : va_P D vwCl (wM cI y_ b_ S 1) H1 := atW_P hB9 ht9
      have hD : va_D A (wM cI y_ b_ S 1) := atW_D hB9 hFc
      generalize H1 = H at hP hS_ ⊢
      refine lv_pop hx hb_ dX1_guess_33 rfl ?_
      refine lv_iconst (v := 0) hx hb_ dX1_guess_34 (by decide) ?_
      exact W.zret (v := 0) (ty := .boolean) hx hb_ hr rfl (fun t_ ht hW => ⟨⟨_, (S, 1), rfl, cif_f (fun h_ => b_15 h_.2.1), by rw [ht]; exact hP, hD⟩, hS_.F ht⟩) hS_.2.2 dX1_guess_35
    · skip
      have b_15 := cif_b1 h_15 c_18
      refine lv_iload_n hx hb_ dX1_guess_21 rfl (lv_at hl 3 rfl) ?_
      refine vp_callSi (W.runS (As := [.int m_]) (rest := []) ⟨hx, hb_, hml, hown, hts⟩ (c_X1_isPlayer l m_) (va_cwS 1 hts gX1_guess_X1_isPlayer rfl rfl rfl (by decide +kernel) ⟨Nat.le_of_ble_eq_true rfl, Nat.le_of_ble_eq_true rfl⟩) (pN_S) rfl rfl hl.1 rfl (lv_room (Nat.le_of_ble_eq_true rfl)) dX1_guess_22 ⟨Nat.zero_le _, Nat.zero_le _⟩) (fun r_22 h_22 => ?_)
      refine lv_if_ne (tgt := 36) hx hb_ dX1_guess_25 (by decide) (fun c_25 => ?_) (fun c_25 => ?_)
      · skip
        have b_22 := cif_b1 h_22 c_25
        refine lv_aload_n hx hb_ dX1_guess_36 rfl (lv_at hl 0 rfl) ?_
        have hf13 := hts (.fieldLink RX1 13 "ClockmaskModel" "stage" "[I") (by decide +kernel)
        refine va_get (D := D) (ci := 1) (v := .ref (b_ 2)) (C := RX1) (T := TX1) (N := 18) hx hb_ hts hin hown hK_ hP 0 rfl rfl 1 (by decide) hf13 (fun _ h9 => h9) rfl dX1_guess_37 ?_
        refine lv_iload_n hx hb_ dX1_guess_40 rfl (lv_at hl 2 rfl) ?_
        refine va_iald (f := S 2) (n := 6) hx hb_ hK_ hP 2 0 rfl rfl (by assumption) dX1_guess_41 ?_
        refine lv_if_eq (tgt := 70) hx hb_ dX1_guess_42 (by decide) (fun c_42 => ?_) (fun c_42 => ?_)
        · skip
          refine lv_aload_n hx hb_ dX1_guess_70 rfl (lv_at hl 0 rfl) ?_
          refine lv_iconst (v := 2) hx hb_ dX1_guess_71 (by decide) ?_
          have hFc := wfree hD hS_ hA
          refine va_calli (va_runV (As := [.int 2]) (rest := []) ⟨hx, hb_, hml, hown, hts⟩ (c_X1_fails l D cI y_ b_ S 0 H.size 2) (cwV 1 hts gX1_guess_X1_fails rfl rfl rfl (by decide +kernel) ⟨Nat.le_of_ble_eq_true rfl, Nat.le_of_ble_eq_true rfl⟩) (pW_V (ci := 1) hP hK_ hD rfl rfl) rfl rfl hl.1 rfl (lv_room (Nat.le_of_ble_eq_true rfl)) dX1_guess_72 ⟨Nat.zero_le _, Nat.zero_le _⟩) hS_ (fun q_ _ h_ => hFc q_ h_) hFc (fun r_72 u_72 t9 H1 locs ht9 hvm9 h_72 hB9 hz9 hk9 hS_ => ?_)
          obtain ⟨e_72, h_72⟩ := h_72
          subst e_72
          subst h_72
          have hP : va_P D vwCl (wM cI y_ b_ S 2) H1 := atW_P hB9 ht9
          have hD : va_D A (wM cI y_ b_ S 2) := atW_D hB9 hFc
          generalize H1 = H at hP hS_ ⊢
          refine lv_pop hx hb_ dX1_guess_75 rfl ?_
          refine lv_iconst (v := 0) hx hb_ dX1_guess_76 (by decide) ?_
          exact W.zret (v := 0) (ty := .boolean) hx hb_ hr rfl (fun t_ ht hW => ⟨⟨_, (S, 2), rfl, (cif_t ⟨hg, b_15, b_22⟩).trans (cif_f (fun h_ => h_.1 c_42)), by rw [ht]; exact hP, hD⟩, hS_.F ht⟩) hS_.2.2 dX1_guess_77
        · skip
          refine lv_aload_n hx hb_ dX1_guess_45 rfl (lv_at hl 0 rfl) ?_
          have hf7 := hts (.fieldLink RX1 7 "ClockmaskModel" "masks" "[I") (by decide +kernel)
          refine va_get (D := D) (ci := 1) (v := .ref (b_ 1)) (C := RX1) (T := TX1) (N := 18) hx hb_ hts hin hown hK_ hP 0 rfl rfl 0 (by decide) hf7 (fun _ h9 => h9) rfl dX1_guess_46 ?_
          refine lv_iload_n hx hb_ dX1_guess_49 rfl (lv_at hl 2 rfl) ?_
          refine va_iald (f := S 1) (n := 6) hx hb_ hK_ hP 1 0 rfl rfl (by assumption) dX1_guess_50 ?_
          refine lv_iconst (v := (-1)) hx hb_ dX1_guess_51 (by decide) ?_
          refine lv_icmp_eq (tgt := 70) hx hb_ dX1_guess_52 (by decide) (fun c_52 => ?_) (fun c_52 => ?_)
          · skip
            refine lv_aload_n hx hb_ dX1_guess_70 rfl (lv_at hl 0 rfl) ?_
            refine lv_iconst (v := 2) hx hb_ dX1_guess_71 (by decide) ?_
            have hFc := wfree hD hS_ hA
            refine va_calli (va_runV (As := [.int 2]) (rest := []) ⟨hx, hb_, hml, hown, hts⟩ (c_X1_fails l D cI y_ b_ S 0 H.size 2) (cwV 1 hts gX1_guess_X1_fails rfl rfl rfl (by decide +kernel) ⟨Nat.le_of_ble_eq_true rfl, Nat.le_of_ble_eq_true rfl⟩) (pW_V (ci := 1) hP hK_ hD rfl rfl) rfl rfl hl.1 rfl (lv_room (Nat.le_of_ble_eq_true rfl)) dX1_guess_72 ⟨Nat.zero_le _, Nat.zero_le _⟩) hS_ (fun q_ _ h_ => hFc q_ h_) hFc (fun r_72 u_72 t9 H1 locs ht9 hvm9 h_72 hB9 hz9 hk9 hS_ => ?_)
            obtain ⟨e_72, h_72⟩ := h_72
            subst e_72
            subst h_72
            have hP : va_P D vwCl (wM cI y_ b_ S 2) H1 := atW_P hB9 ht9
            have hD : va_D A (wM cI y_ b_ S 2) := atW_D hB9 hFc
            generalize H1 = H at hP hS_ ⊢
            refine lv_pop hx hb_ dX1_guess_75 rfl ?_
            refine lv_iconst (v := 0) hx hb_ dX1_guess_76 (by decide) ?_
            exact W.zret (v := 0) (ty := .boolean) hx hb_ hr rfl (fun t_ ht hW => ⟨⟨_, (S, 2), rfl, (cif_t ⟨hg, b_15, b_22⟩).trans (cif_f (fun h_ => h_.2.1 c_52)), by rw [ht]; exact hP, hD⟩, hS_.F ht⟩) hS_.2.2 dX1_guess_77
          · skip
            refine lv_aload_n hx hb_ dX1_guess_55 rfl (lv_at hl 0 rfl) ?_
            have hf40 := hts (.fieldLink RX1 40 "ClockmaskModel" "guessed" "[I") (by decide +kernel)
            refine va_get (D := D) (ci := 1) (v := .ref (b_ 13)) (C := RX1) (T := TX1) (N := 18) hx hb_ hts hin hown hK_ hP 0 rfl rfl 12 (by decide) hf40 (fun _ h9 => h9) rfl dX1_guess_56 ?_
            refine lv_bipush (v := 6) hx hb_ dX1_guess_59 (by decide) ?_
            refine lv_iload_n hx hb_ dX1_guess_61 rfl (lv_at hl 1 rfl) ?_
            refine lv_imul hx hb_ dX1_guess_62 ?_
            refine lv_iload_n hx hb_ dX1_guess_63 rfl (lv_at hl 2 rfl) ?_
            refine lv_iadd hx hb_ dX1_guess_64 ?_
            refine va_iald (f := S 13) (n := 18) hx hb_ hK_ hP 11 0 rfl rfl (by rw [gp_comm]; exact gp_in hg b_15) dX1_guess_65 ?_
            refine lv_iconst (v := 1) hx hb_ dX1_guess_66 (by decide) ?_
            refine lv_icmp_ne (tgt := 78) hx hb_ dX1_guess_67 (by decide) (fun c_67 => ?_) (fun c_67 => ?_)
            · skip
              rw [gp_comm] at c_67
              have h13 : S 13 (g_ * 6 + p_).toNatClampNeg = 0 := (hI_.i13 _ (vin_lt (gp_in hg b_15))).resolve_right c_67
              refine lv_aload_n hx hb_ dX1_guess_78 rfl (lv_at hl 0 rfl) ?_
              refine va_get (D := D) (ci := 1) (v := .ref (b_ 13)) (C := RX1) (T := TX1) (N := 18) hx hb_ hts hin hown hK_ hP 0 rfl rfl 12 (by decide) hf40 (fun _ h9 => h9) rfl dX1_guess_79 ?_
              refine lv_bipush (v := 6) hx hb_ dX1_guess_82 (by decide) ?_
              refine lv_iload_n hx hb_ dX1_guess_84 rfl (lv_at hl 1 rfl) ?_
              refine lv_imul hx hb_ dX1_guess_85 ?_
              refine lv_iload_n hx hb_ dX1_guess_86 rfl (lv_at hl 2 rfl) ?_
              refine lv_iadd hx hb_ dX1_guess_87 ?_
              refine lv_iconst (v := 1) hx hb_ dX1_guess_88 (by decide) ?_
              refine va_iast (f := S 13) (n := 18) hx hb_ hK_ hP hD hS_ 11 0 rfl rfl (by rw [gp_comm]; exact gp_in hg b_15) dX1_guess_89 (fun H locs hP hD hS_ => ?_)
              have hP : va_P D vwCl (wMr cI y_ b_ (S 0) (S 1) (S 2) (S 3) (S 4) (S 5) (S 6) (S 7) (S 8) (S 9) (S 10 0) (S 11 0) (S 12) (upd (S 13) ((6 * g_) + p_).toNatClampNeg 1) (S 14 0) (S 15 0) (S 16) 0) H := hP
              have hD : va_D A (wMr cI y_ b_ (S 0) (S 1) (S 2) (S 3) (S 4) (S 5) (S 6) (S 7) (S 8) (S 9) (S 10 0) (S 11 0) (S 12) (upd (S 13) ((6 * g_) + p_).toNatClampNeg 1) (S 14 0) (S 15 0) (S 16) 0) := hD
              refine lv_aload_n hx hb_ dX1_guess_90 rfl (lv_at hl 0 rfl) ?_
              have hf43 := hts (.fieldLink RX1 43 "ClockmaskModel" "pointsOf" "[I") (by decide +kernel)
              refine va_get (D := D) (ci := 1) (v := .ref (b_ 12)) (C := RX1) (T := TX1) (N := 18) hx hb_ hts hin hown hK_ hP 0 rfl rfl 13 (by decide) hf43 (fun _ h9 => h9) rfl dX1_guess_91 ?_
              refine lv_iload_n hx hb_ dX1_guess_94 rfl (lv_at hl 1 rfl) ?_
              refine lv_dup2_11 hx hb_ dX1_guess_95 rfl rfl ?_
              refine va_iald (f := S 12) (n := 3) hx hb_ hK_ hP 12 0 rfl rfl hg dX1_guess_96 ?_
              refine lv_aload_n hx hb_ dX1_guess_97 rfl (lv_at hl 0 rfl) ?_
              refine va_get (D := D) (ci := 1) (v := .ref (b_ 1)) (C := RX1) (T := TX1) (N := 18) hx hb_ hts hin hown hK_ hP 0 rfl rfl 0 (by decide) hf7 (fun _ h9 => h9) rfl dX1_guess_98 ?_
              refine lv_iload_n hx hb_ dX1_guess_101 rfl (lv_at hl 2 rfl) ?_
              refine va_iald (f := S 1) (n := 6) hx hb_ hK_ hP 1 0 rfl rfl (by assumption) dX1_guess_102 ?_
              refine lv_iload_n hx hb_ dX1_guess_103 rfl (lv_at hl 3 rfl) ?_
              refine lv_icmp_ne (tgt := 111) hx hb_ dX1_guess_104 (by decide) (fun c_104 => ?_) (fun c_104 => ?_)
              · skip
                refine lv_iconst (v := (-1)) hx hb_ dX1_guess_111 (by decide) ?_
                refine lv_iadd hx hb_ dX1_guess_112 ?_
                refine va_iast (f := S 12) (n := 3) hx hb_ hK_ hP hD hS_ 12 0 rfl rfl hg dX1_guess_113 (fun H locs hP hD hS_ => ?_)
                have hP : va_P D vwCl (wMr cI y_ b_ (S 0) (S 1) (S 2) (S 3) (S 4) (S 5) (S 6) (S 7) (S 8) (S 9) (S 10 0) (S 11 0) (upd (S 12) g_.toNatClampNeg ((S 12 g_.toNatClampNeg) + (-1))) (upd (S 13) ((6 * g_) + p_).toNatClampNeg 1) (S 14 0) (S 15 0) (S 16) 0) H := hP
                have hD : va_D A (wMr cI y_ b_ (S 0) (S 1) (S 2) (S 3) (S 4) (S 5) (S 6) (S 7) (S 8) (S 9) (S 10 0) (S 11 0) (upd (S 12) g_.toNatClampNeg ((S 12 g_.toNatClampNeg) + (-1))) (upd (S 13) ((6 * g_) + p_).toNatClampNeg 1) (S 14 0) (S 15 0) (S 16) 0) := hD
                refine lv_aload_n hx hb_ dX1_guess_114 rfl (lv_at hl 0 rfl) ?_
                refine va_get (D := D) (ci := 1) (v := .ref (b_ 1)) (C := RX1) (T := TX1) (N := 18) hx hb_ hts hin hown hK_ hP 0 rfl rfl 0 (by decide) hf7 (fun _ h9 => h9) rfl dX1_guess_115 ?_
                refine lv_iload_n hx hb_ dX1_guess_118 rfl (lv_at hl 2 rfl) ?_
                refine va_iald (f := S 1) (n := 6) hx hb_ hK_ hP 1 0 rfl rfl (by assumption) dX1_guess_119 ?_
                refine lv_iload_n hx hb_ dX1_guess_120 rfl (lv_at hl 3 rfl) ?_
                refine lv_icmp_ne (tgt := 128) hx hb_ dX1_guess_121 (by decide) (fun c_121 => ?_) (fun c_121 => ?_)
                · skip
                  refine lv_iconst (v := 0) hx hb_ dX1_guess_128 (by decide) ?_
                  exact W.zret (v := 0) (ty := .boolean) hx hb_ hr rfl (fun t_ ht hW => ⟨⟨_, (row (row S 13 (upd (S 13) ((6 * g_) + p_).toNatClampNeg 1)) 12 (upd (S 12) g_.toNatClampNeg ((S 12 g_.toNatClampNeg) + (-1))), 0), rfl, by rw [gp_comm]; exact (cif_t ⟨hg, b_15, b_22⟩).trans ((cif_t ⟨c_42, c_52, h13⟩).trans (by rw [cif_f c_104, cif_f c_104])), by rw [ht]; exact hP, hD⟩, hS_.F ht⟩) hS_.2.2 dX1_guess_129
                · skip
                  exact absurd c_121 c_104
              · skip
                refine lv_iconst (v := 3) hx hb_ dX1_guess_107 (by decide) ?_
                refine lv_goto (tgt := 112) hx hb_ dX1_guess_108 (by decide) ?_
                refine lv_iadd hx hb_ dX1_guess_112 ?_
                refine va_iast (f := S 12) (n := 3) hx hb_ hK_ hP hD hS_ 12 0 rfl rfl hg dX1_guess_113 (fun H locs hP hD hS_ => ?_)
                have hP : va_P D vwCl (wMr cI y_ b_ (S 0) (S 1) (S 2) (S 3) (S 4) (S 5) (S 6) (S 7) (S 8) (S 9) (S 10 0) (S 11 0) (upd (S 12) g_.toNatClampNeg ((S 12 g_.toNatClampNeg) + 3)) (upd (S 13) ((6 * g_) + p_).toNatClampNeg 1) (S 14 0) (S 15 0) (S 16) 0) H := hP
                have hD : va_D A (wMr cI y_ b_ (S 0) (S 1) (S 2) (S 3) (S 4) (S 5) (S 6) (S 7) (S 8) (S 9) (S 10 0) (S 11 0) (upd (S 12) g_.toNatClampNeg ((S 12 g_.toNatClampNeg) + 3)) (upd (S 13) ((6 * g_) + p_).toNatClampNeg 1) (S 14 0) (S 15 0) (S 16) 0) := hD
                refine lv_aload_n hx hb_ dX1_guess_114 rfl (lv_at hl 0 rfl) ?_
                refine va_get (D := D) (ci := 1) (v := .ref (b_ 1)) (C := RX1) (T := TX1) (N := 18) hx hb_ hts hin hown hK_ hP 0 rfl rfl 0 (by decide) hf7 (fun _ h9 => h9) rfl dX1_guess_115 ?_
                refine lv_iload_n hx hb_ dX1_guess_118 rfl (lv_at hl 2 rfl) ?_
                refine va_iald (f := S 1) (n := 6) hx hb_ hK_ hP 1 0 rfl rfl (by assumption) dX1_guess_119 ?_
                refine lv_iload_n hx hb_ dX1_guess_120 rfl (lv_at hl 3 rfl) ?_
                refine lv_icmp_ne (tgt := 128) hx hb_ dX1_guess_121 (by decide) (fun c_121 => ?_) (fun c_121 => ?_)
                · skip
                  exact absurd c_104 c_121
                · skip
                  refine lv_iconst (v := 1) hx hb_ dX1_guess_124 (by decide) ?_
                  refine lv_goto (tgt := 129) hx hb_ dX1_guess_125 (by decide) ?_
                  exact W.zret (v := 1) (ty := .boolean) hx hb_ hr rfl (fun t_ ht hW => ⟨⟨_, (row (row S 13 (upd (S 13) ((6 * g_) + p_).toNatClampNeg 1)) 12 (upd (S 12) g_.toNatClampNeg ((S 12 g_.toNatClampNeg) + 3)), 0), rfl, by rw [gp_comm]; exact (cif_t ⟨hg, b_15, b_22⟩).trans ((cif_t ⟨c_42, c_52, h13⟩).trans (by rw [cif_t c_104, cif_t c_104])), by rw [ht]; exact hP, hD⟩, hS_.F ht⟩) hS_.2.2 dX1_guess_129
            · skip
              rw [gp_comm] at c_67
              refine lv_aload_n hx hb_ dX1_guess_70 rfl (lv_at hl 0 rfl) ?_
              refine lv_iconst (v := 2) hx hb_ dX1_guess_71 (by decide) ?_
              have hFc := wfree hD hS_ hA
              refine va_calli (va_runV (As := [.int 2]) (rest := []) ⟨hx, hb_, hml, hown, hts⟩ (c_X1_fails l D cI y_ b_ S 0 H.size 2) (cwV 1 hts gX1_guess_X1_fails rfl rfl rfl (by decide +kernel) ⟨Nat.le_of_ble_eq_true rfl, Nat.le_of_ble_eq_true rfl⟩) (pW_V (ci := 1) hP hK_ hD rfl rfl) rfl rfl hl.1 rfl (lv_room (Nat.le_of_ble_eq_true rfl)) dX1_guess_72 ⟨Nat.zero_le _, Nat.zero_le _⟩) hS_ (fun q_ _ h_ => hFc q_ h_) hFc (fun r_72 u_72 t9 H1 locs ht9 hvm9 h_72 hB9 hz9 hk9 hS_ => ?_)
              obtain ⟨e_72, h_72⟩ := h_72
              subst e_72
              subst h_72
              have hP : va_P D vwCl (wM cI y_ b_ S 2) H1 := atW_P hB9 ht9
              have hD : va_D A (wM cI y_ b_ S 2) := atW_D hB9 hFc
              generalize H1 = H at hP hS_ ⊢
              refine lv_pop hx hb_ dX1_guess_75 rfl ?_
              refine lv_iconst (v := 0) hx hb_ dX1_guess_76 (by decide) ?_
              exact W.zret (v := 0) (ty := .boolean) hx hb_ hr rfl (fun t_ ht hW => ⟨⟨_, (S, 2), rfl, (cif_t ⟨hg, b_15, b_22⟩).trans (cif_f (fun h_ => absurd (h_.2.2.symm.trans c_67) (by decide))), by rw [ht]; exact hP, hD⟩, hS_.F ht⟩) hS_.2.2 dX1_guess_77
      · skip
        have b_22 := cif_b0 h_22 c_25
        refine lv_aload_n hx hb_ dX1_guess_28 rfl (lv_at hl 0 rfl) ?_
        refine lv_iconst (v := 1) hx hb_ dX1_guess_29 (by decide) ?_
        have hFc := wfree hD hS_ hA
        refine va_calli (va_runV (As := [.int 1]) (rest := []) ⟨hx, hb_, hml, hown, hts⟩ (c_X1_fails l D cI y_ b_ S 0 H.size 1) (cwV 1 hts gX1_guess_X1_fails rfl rfl rfl (by decide +kernel) ⟨Nat.le_of_ble_eq_true rfl, Nat.le_of_ble_eq_true rfl⟩) (pW_V (ci := 1) hP hK_ hD rfl rfl) rfl rfl hl.1 rfl (lv_room (Nat.le_of_ble_eq_true rfl)) dX1_guess_30 ⟨Nat.zero_le _, Nat.zero_le _⟩) hS_ (fun q_ _ h_ => hFc q_ h_) hFc (fun r_30 u_30 t9 H1 locs ht9 hvm9 h_30 hB9 hz9 hk9 hS_ => ?_)
        obtain ⟨e_30, h_30⟩ := h_30
        subst e_30
        subst h_30
        have hP : va_P D vwCl (wM cI y_ b_ S 1) H1 := atW_P hB9 ht9
        have hD : va_D A (wM cI y_ b_ S 1) := atW_D hB9 hFc
        generalize H1 = H at hP hS_ ⊢
        refine lv_pop hx hb_ dX1_guess_33 rfl ?_
        refine lv_iconst (v := 0) hx hb_ dX1_guess_34 (by decide) ?_
        exact W.zret (v := 0) (ty := .boolean) hx hb_ hr rfl (fun t_ ht hW => ⟨⟨_, (S, 1), rfl, cif_f (fun h_ => b_22 h_.2.2), by rw [ht]; exact hP, hD⟩, hS_.F ht⟩) hS_.2.2 dX1_guess_35
set_option maxHeartbeats 4000000 in
set_option maxRecDepth 100000 in
theorem c_X1_endPlay (l : Launch) (D : va_G) (cI : ClassId) (y_ : Nat) (b_ : Nat → Nat) (S : ST) (tq : Int32) (sz : Nat) (B : Nat) (hI_ : Inv B S) : Met l yX1_endPlay wsX1_endPlay rmX1_endPlay (va_Pc [.ref y_] (pW D (tyM cI) (wM cI y_ b_ S tq) sz)) (va_Qi (fun (r_ : Int32) (u_ : ST × Int32) => k_endPlay S = (u_.2, r_, u_.1)) (fun (u_ : ST × Int32) t_ => atW D (wM cI y_ b_ u_.1 u_.2) (va_A (wM cI y_ b_ S tq) sz) t_) (va_A (wM cI y_ b_ S tq) sz)) 0 0 (va_A (wM cI y_ b_ S tq) sz) := by
  refine Met.ofW (cc := cX1_endPlay) (maxL := 3) (ret := (some .int)) (by decide) rfl ?_
  intro pr env s_ mid args below meth cod s₁ Bd hml hv
  obtain ⟨rfl, hsz, hP, hK_, hD0⟩ := hv
  have hx := Bd.exec
  have hb_ := Bd.bytes
  have hr := Bd.returns
  have hts := atoms_spec (ws := wsX1_endPlay) Bd.pre
  have hown : s_.vm.findClass RX1 = some mid.cls := findClass_of_methodNamed Bd.named
  have hlocks := Bd.notSynchronized
  have hin : ∀ w_ ∈ wsX10, w_ ∈ wsX1_endPlay := fun _ h_ => List.mem_cons_of_mem _ (List.mem_append_right _ h_)
  subst hsz
  have hD := hD0.self (sz := s_.heap.size)
  generalize hAe : va_A (wM cI y_ b_ S tq) s_.heap.size = A at hD ⊢
  have hA : ∀ q_ : Nat, s_.heap.size ≤ q_ → A q_ := fun q_ h_ => by rw [← hAe]; exact Or.inr h_
  have hS_ : va_S A s_.heap s_.heap [] := va_S.rf
  have hP : va_P D vwCl (wM cI y_ b_ S tq) s_.heap := hP
  have hD : va_D A (wM cI y_ b_ S tq) := hD
  have hl := lv_entry ([.ref y_]) (n := 3) (Nat.le_of_ble_eq_true rfl)
  rw [lg_entry_eq]
  generalize (lg_sl ([.ref y_]) ++ List.replicate (3 - (lg_sl ([.ref y_])).length) Slot.unset).toArray = ls at hl ⊢
  have hl : lv_has ls 3 [(0, .ref y_)] := hl
  refine lv_aload_n hx hb_ dX1_endPlay_0 rfl (lv_at hl 0 rfl) ?_
  refine lv_iconst (v := 0) hx hb_ dX1_endPlay_1 (by decide) ?_
  have hf53 := hts (.fieldLink RX1 53 "ClockmaskModel" "thrown" "I") (by decide +kernel)
  refine va_put (D := D) (ci := 1) (v := .int 0) (ty := .int) (C := RX1) (T := TX1) (N := 18) hx hb_ hts hin tyX1 tyX1_ok nmX1 hown hK_ hP hD hS_ 0 rfl rfl 17 (by decide) hf53 (fun _ h9 => h9) rfl (by decide +kernel) rfl rfl (Nat.le_of_ble_eq_true rfl) dX1_endPlay_2 (fun H locs hP hD hS_ => ?_)
  have hP : va_P D vwCl (wM cI y_ b_ S 0) H := hP
  have hD : va_D A (wM cI y_ b_ S 0) := hD
  refine lv_iconst (v := 0) hx hb_ dX1_endPlay_5 (by decide) ?_
  refine lv_istore_n (lv' := [(1, .int 0), (0, .ref y_)]) hx hb_ dX1_endPlay_6 rfl hl (by decide) rfl (fun ls hl => ?_)
  refine lv_iconst (v := 0) hx hb_ dX1_endPlay_7 (by decide) ?_
  refine lv_istore_n (lv' := [(2, .int 0), (1, .int 0), (0, .ref y_)]) hx hb_ dX1_endPlay_8 rfl hl (by decide) rfl (fun ls hl => ?_)
  refine W_gen (fun R Q hR hQ => ?_)
  have loop_9 : ∀ (n_ : Nat) (j_ : Nat) (i1_ : Int32) (i2_ : Int32), (j_ ≤ many S) → (many S + 1 ≤ j_ + n_) → (i2_ = nI j_) → (i1_ = nI (cN (S 8) 2 j_)) → (∀ k_, k_ < j_ → S 8 k_ ≠ 0) → ∀ ls : Array Slot, lv_has ls 3 [(2, .int i2_), (1, .int i1_), (0, .ref y_)] → W pr l env R s_ mid ([.ref y_] : List Value).toArray below meth cod H locs 0 0 Q (F0 mid 9 ls []) := by
    subst hR; subst hQ
    intro n_
    induction n_ with
    | zero =>
      intro j_ i1_ i2_ hj hn e2_ e1_ hnz ls hl
      exfalso; omega
    | succ n_ ih_ =>
      intro j_ i1_ i2_ hj hn e2_ e1_ hnz ls hl
      refine lv_iload_n hx hb_ dX1_endPlay_9 rfl (lv_at hl 0 rfl) ?_
      refine lv_aload_n hx hb_ dX1_endPlay_10 rfl (lv_at hl 2 rfl) ?_
      have hf60 := hts (.fieldLink RX1 60 "ClockmaskModel" "many" "I") (by decide +kernel)
      refine va_get (D := D) (ci := 1) (v := .int (S 10 0)) (C := RX1) (T := TX1) (N := 18) hx hb_ hts hin hown hK_ hP 0 rfl rfl 10 (by decide) hf60 (fun _ h9 => h9) rfl dX1_endPlay_11 ?_
      refine lv_icmp_ge (tgt := 56) hx hb_ dX1_endPlay_14 (by decide) (fun c_14 => ?_) (fun c_14 => ?_)
      · skip
        have hm_ := hI_.m24
        have h6 : many S ≤ j_ := by rw [e2_, hI_.me] at c_14; exact (nI_leI (by omega) (by omega)).mp c_14
        have ej : j_ = many S := by omega
        rw [ej] at e1_
        have hz : ∀ k_, k_ < many S → S 8 k_ ≠ 0 := by rw [ej] at hnz; exact hnz
        refine lv_aload_n hx hb_ dX1_endPlay_56 rfl (lv_at hl 2 rfl) ?_
        refine lv_dup hx hb_ dX1_endPlay_57 rfl ?_
        have hf49 := hts (.fieldLink RX1 49 "ClockmaskModel" "purseNow" "I") (by decide +kernel)
        refine va_get (D := D) (ci := 1) (v := .int (S 14 0)) (C := RX1) (T := TX1) (N := 18) hx hb_ hts hin hown hK_ hP 0 rfl rfl 15 (by decide) hf49 (fun _ h9 => h9) rfl dX1_endPlay_58 ?_
        refine lv_aload_n hx hb_ dX1_endPlay_61 rfl (lv_at hl 2 rfl) ?_
        have hf89 := hts (.fieldLink RX1 89 "ClockmaskModel" "called" "I") (by decide +kernel)
        refine va_get (D := D) (ci := 1) (v := .int (S 11 0)) (C := RX1) (T := TX1) (N := 18) hx hb_ hts hin hown hK_ hP 0 rfl rfl 11 (by decide) hf89 (fun _ h9 => h9) rfl dX1_endPlay_62 ?_
        refine lv_iadd hx hb_ dX1_endPlay_65 ?_
        refine va_put (D := D) (ci := 1) (v := .int ((S 14 0) + (S 11 0))) (ty := .int) (C := RX1) (T := TX1) (N := 18) hx hb_ hts hin tyX1 tyX1_ok nmX1 hown hK_ hP hD hS_ 0 rfl rfl 15 (by decide) hf49 (fun _ h9 => h9) rfl (by decide +kernel) rfl rfl (Nat.le_of_ble_eq_true rfl) dX1_endPlay_66 (fun H locs hP hD hS_ => ?_)
        have hP : va_P D vwCl (wMr cI y_ b_ (S 0) (S 1) (S 2) (S 3) (S 4) (S 5) (S 6) (S 7) (S 8) (S 9) (S 10 0) (S 11 0) (S 12) (S 13) ((S 14 0) + (S 11 0)) (S 15 0) (S 16) 0) H := hP
        have hD : va_D A (wMr cI y_ b_ (S 0) (S 1) (S 2) (S 3) (S 4) (S 5) (S 6) (S 7) (S 8) (S 9) (S 10 0) (S 11 0) (S 12) (S 13) ((S 14 0) + (S 11 0)) (S 15 0) (S 16) 0) := hD
        refine lv_aload_n hx hb_ dX1_endPlay_69 rfl (lv_at hl 2 rfl) ?_
        refine lv_dup hx hb_ dX1_endPlay_70 rfl ?_
        refine va_get (D := D) (ci := 1) (v := .int ((S 14 0) + (S 11 0))) (C := RX1) (T := TX1) (N := 18) hx hb_ hts hin hown hK_ hP 0 rfl rfl 15 (by decide) hf49 (fun _ h9 => h9) rfl dX1_endPlay_71 ?_
        refine lv_aload_n hx hb_ dX1_endPlay_74 rfl (lv_at hl 2 rfl) ?_
        refine va_get (D := D) (ci := 1) (v := .int ((S 14 0) + (S 11 0))) (C := RX1) (T := TX1) (N := 18) hx hb_ hts hin hown hK_ hP 0 rfl rfl 15 (by decide) hf49 (fun _ h9 => h9) rfl dX1_endPlay_75 ?_
        refine lv_iload_n hx hb_ dX1_endPlay_78 rfl (lv_at hl 1 rfl) ?_
        refine lv_icmp_ge (tgt := 89) hx hb_ dX1_endPlay_79 (by decide) (fun c_79 => ?_) (fun c_79 => ?_)
        · skip
          have hpe : S 14 0 + S 11 0 - i1_ = purseE S := by rw [e1_] at c_79 ⊢; exact (cif_f (le_nlt c_79)).symm
          refine lv_iload_n hx hb_ dX1_endPlay_89 rfl (lv_at hl 1 rfl) ?_
          refine lv_isub hx hb_ dX1_endPlay_90 ?_
          refine va_put (D := D) (ci := 1) (v := .int (((S 14 0) + (S 11 0)) - i1_)) (ty := .int) (C := RX1) (T := TX1) (N := 18) hx hb_ hts hin tyX1 tyX1_ok nmX1 hown hK_ hP hD hS_ 0 rfl rfl 15 (by decide) hf49 (fun _ h9 => h9) rfl (by decide +kernel) rfl rfl (Nat.le_of_ble_eq_true rfl) dX1_endPlay_91 (fun H locs hP hD hS_ => ?_)
          have hP : va_P D vwCl (wMr cI y_ b_ (S 0) (S 1) (S 2) (S 3) (S 4) (S 5) (S 6) (S 7) (S 8) (S 9) (S 10 0) (S 11 0) (S 12) (S 13) (((S 14 0) + (S 11 0)) - i1_) (S 15 0) (S 16) 0) H := hP
          have hD : va_D A (wMr cI y_ b_ (S 0) (S 1) (S 2) (S 3) (S 4) (S 5) (S 6) (S 7) (S 8) (S 9) (S 10 0) (S 11 0) (S 12) (S 13) (((S 14 0) + (S 11 0)) - i1_) (S 15 0) (S 16) 0) := hD
          refine lv_iconst (v := 0) hx hb_ dX1_endPlay_94 (by decide) ?_
          refine lv_istore_n (lv' := [(2, .int 0), (1, .int i1_), (0, .ref y_)]) hx hb_ dX1_endPlay_95 rfl hl (by decide) rfl (fun ls hl => ?_)
          refine W_gen (fun R Q hR hQ => ?_)
          have loop_96 : ∀ (n_ : Nat) (j1 : Nat) (i3_ : Int32) (g1 : Nat → Int32) (g2 : Nat → Int32), (j1 ≤ 6) → (7 ≤ j1 + n_) → (i3_ = nI j1) → (g1 = fa_fill (fun _ => -1) (S 1) j1) → (g2 = fa_fill (fun _ => 0) (S 2) j1) → ∀ (H : Heap) (locs : List Loc), va_P D vwCl (wMr cI y_ b_ (S 0) g1 g2 (S 3) (S 4) (S 5) (S 6) (S 7) (S 8) (S 9) (S 10 0) (S 11 0) (S 12) (S 13) (((S 14 0) + (S 11 0)) - i1_) (S 15 0) (S 16) 0) H → va_D A (wMr cI y_ b_ (S 0) g1 g2 (S 3) (S 4) (S 5) (S 6) (S 7) (S 8) (S 9) (S 10 0) (S 11 0) (S 12) (S 13) (((S 14 0) + (S 11 0)) - i1_) (S 15 0) (S 16) 0) → va_S A s_.heap H locs → ∀ ls : Array Slot, lv_has ls 3 [(2, .int i3_), (1, .int i1_), (0, .ref y_)] → W pr l env R s_ mid ([.ref y_] : List Value).toArray below meth cod H locs 0 0 Q (F0 mid 96 ls []) := by
            subst hR; subst hQ
            intro n_
            induction n_ with
            | zero =>
              intro j1 i3_ g1 g2 hj1 hn1 e3_ eg1 eg2 H locs hP hD hS_ ls hl
              exfalso; omega
            | succ n_ ih_ =>
              intro j1 i3_ g1 g2 hj1 hn1 e3_ eg1 eg2 H locs hP hD hS_ ls hl
              refine lv_iload_n hx hb_ dX1_endPlay_96 rfl (lv_at hl 0 rfl) ?_
              refine lv_bipush (v := 6) hx hb_ dX1_endPlay_97 (by decide) ?_
              refine lv_icmp_ge (tgt := 122) hx hb_ dX1_endPlay_99 (by decide) (fun c_99 => ?_) (fun c_99 => ?_)
              · skip
                have h7 : 6 ≤ j1 := ge_of (N := 6) e3_ (by omega) rfl c_99
                refine lv_iconst (v := 0) hx hb_ dX1_endPlay_122 (by decide) ?_
                refine lv_istore_n (lv' := [(2, .int 0), (1, .int i1_), (0, .ref y_)]) hx hb_ dX1_endPlay_123 rfl hl (by decide) rfl (fun ls hl => ?_)
                refine W_gen (fun R Q hR hQ => ?_)
                have loop_124 : ∀ (n_ : Nat) (j3_ : Nat) (i4_ : Int32) (g3_ : Nat → Int32), (j3_ ≤ 18) → (19 ≤ j3_ + n_) → (i4_ = nI j3_) → (g3_ = fa_fill (fun _ => 0) (S 13) j3_) → ∀ (H : Heap) (locs : List Loc), va_P D vwCl (wMr cI y_ b_ (S 0) g1 g2 (S 3) (S 4) (S 5) (S 6) (S 7) (S 8) (S 9) (S 10 0) (S 11 0) (S 12) g3_ (((S 14 0) + (S 11 0)) - i1_) (S 15 0) (S 16) 0) H → va_D A (wMr cI y_ b_ (S 0) g1 g2 (S 3) (S 4) (S 5) (S 6) (S 7) (S 8) (S 9) (S 10 0) (S 11 0) (S 12) g3_ (((S 14 0) + (S 11 0)) - i1_) (S 15 0) (S 16) 0) → va_S A s_.heap H locs → ∀ ls : Array Slot, lv_has ls 3 [(2, .int i4_), (1, .int i1_), (0, .ref y_)] → W pr l env R s_ mid ([.ref y_] : List Value).toArray below meth cod H locs 0 0 Q (F0 mid 124 ls []) := by
                  subst hR; subst hQ
                  intro n_
                  induction n_ with
                  | zero =>
                    intro j3_ i4_ g3_ hj3 hn3 e4_ eg3 H locs hP hD hS_ ls hl
                    exfalso; omega
                  | succ n_ ih_ =>
                    intro j3_ i4_ g3_ hj3 hn3 e4_ eg3 H locs hP hD hS_ ls hl
                    refine lv_iload_n hx hb_ dX1_endPlay_124 rfl (lv_at hl 0 rfl) ?_
                    refine lv_bipush (v := 18) hx hb_ dX1_endPlay_125 (by decide) ?_
                    refine lv_icmp_ge (tgt := 143) hx hb_ dX1_endPlay_127 (by decide) (fun c_127 => ?_) (fun c_127 => ?_)
                    · skip
                      have h8 : 18 ≤ j3_ := ge_of (N := 18) e4_ (by omega) rfl c_127
                      refine lv_aload_n hx hb_ dX1_endPlay_143 rfl (lv_at hl 2 rfl) ?_
                      refine lv_iconst (v := 0) hx hb_ dX1_endPlay_144 (by decide) ?_
                      refine va_put (D := D) (ci := 1) (v := .int 0) (ty := .int) (C := RX1) (T := TX1) (N := 18) hx hb_ hts hin tyX1 tyX1_ok nmX1 hown hK_ hP hD hS_ 0 rfl rfl 10 (by decide) hf60 (fun _ h9 => h9) rfl (by decide +kernel) rfl rfl (Nat.le_of_ble_eq_true rfl) dX1_endPlay_145 (fun H locs hP hD hS_ => ?_)
                      have hP : va_P D vwCl (wMr cI y_ b_ (S 0) g1 g2 (S 3) (S 4) (S 5) (S 6) (S 7) (S 8) (S 9) 0 (S 11 0) (S 12) g3_ (((S 14 0) + (S 11 0)) - i1_) (S 15 0) (S 16) 0) H := hP
                      have hD : va_D A (wMr cI y_ b_ (S 0) g1 g2 (S 3) (S 4) (S 5) (S 6) (S 7) (S 8) (S 9) 0 (S 11 0) (S 12) g3_ (((S 14 0) + (S 11 0)) - i1_) (S 15 0) (S 16) 0) := hD
                      refine lv_aload_n hx hb_ dX1_endPlay_148 rfl (lv_at hl 2 rfl) ?_
                      refine lv_iconst (v := 0) hx hb_ dX1_endPlay_149 (by decide) ?_
                      refine va_put (D := D) (ci := 1) (v := .int 0) (ty := .int) (C := RX1) (T := TX1) (N := 18) hx hb_ hts hin tyX1 tyX1_ok nmX1 hown hK_ hP hD hS_ 0 rfl rfl 11 (by decide) hf89 (fun _ h9 => h9) rfl (by decide +kernel) rfl rfl (Nat.le_of_ble_eq_true rfl) dX1_endPlay_150 (fun H locs hP hD hS_ => ?_)
                      have hP : va_P D vwCl (wMr cI y_ b_ (S 0) g1 g2 (S 3) (S 4) (S 5) (S 6) (S 7) (S 8) (S 9) 0 0 (S 12) g3_ (((S 14 0) + (S 11 0)) - i1_) (S 15 0) (S 16) 0) H := hP
                      have hD : va_D A (wMr cI y_ b_ (S 0) g1 g2 (S 3) (S 4) (S 5) (S 6) (S 7) (S 8) (S 9) 0 0 (S 12) g3_ (((S 14 0) + (S 11 0)) - i1_) (S 15 0) (S 16) 0) := hD
                      refine lv_aload_n hx hb_ dX1_endPlay_153 rfl (lv_at hl 2 rfl) ?_
                      refine lv_dup hx hb_ dX1_endPlay_154 rfl ?_
                      have hf103 := hts (.fieldLink RX1 103 "ClockmaskModel" "ended" "I") (by decide +kernel)
                      refine va_get (D := D) (ci := 1) (v := .int (S 15 0)) (C := RX1) (T := TX1) (N := 18) hx hb_ hts hin hown hK_ hP 0 rfl rfl 16 (by decide) hf103 (fun _ h9 => h9) rfl dX1_endPlay_155 ?_
                      refine lv_iconst (v := 1) hx hb_ dX1_endPlay_158 (by decide) ?_
                      refine lv_iadd hx hb_ dX1_endPlay_159 ?_
                      refine va_put (D := D) (ci := 1) (v := .int ((S 15 0) + 1)) (ty := .int) (C := RX1) (T := TX1) (N := 18) hx hb_ hts hin tyX1 tyX1_ok nmX1 hown hK_ hP hD hS_ 0 rfl rfl 16 (by decide) hf103 (fun _ h9 => h9) rfl (by decide +kernel) rfl rfl (Nat.le_of_ble_eq_true rfl) dX1_endPlay_160 (fun H locs hP hD hS_ => ?_)
                      have hP : va_P D vwCl (wMr cI y_ b_ (S 0) g1 g2 (S 3) (S 4) (S 5) (S 6) (S 7) (S 8) (S 9) 0 0 (S 12) g3_ (((S 14 0) + (S 11 0)) - i1_) ((S 15 0) + 1) (S 16) 0) H := hP
                      have hD : va_D A (wMr cI y_ b_ (S 0) g1 g2 (S 3) (S 4) (S 5) (S 6) (S 7) (S 8) (S 9) 0 0 (S 12) g3_ (((S 14 0) + (S 11 0)) - i1_) ((S 15 0) + 1) (S 16) 0) := hD
                      refine lv_aload_n hx hb_ dX1_endPlay_163 rfl (lv_at hl 2 rfl) ?_
                      refine va_get (D := D) (ci := 1) (v := .int (((S 14 0) + (S 11 0)) - i1_)) (C := RX1) (T := TX1) (N := 18) hx hb_ hts hin hown hK_ hP 0 rfl rfl 15 (by decide) hf49 (fun _ h9 => h9) rfl dX1_endPlay_164 ?_
                      exact W.iret (v := (((S 14 0) + (S 11 0)) - i1_)) hx hb_ hr (fun t_ ht hW => ⟨⟨_, (row (row (row (row (row (row (row S 14 (kf (((S 14 0) + (S 11 0)) - i1_))) 1 g1) 2 g2) 13 g3_) 10 (kf 0)) 11 (kf 0)) 15 (kf ((S 15 0) + 1)), 0), rfl, by rw [hpe, eg1, eg2, eg3, show j1 = 6 by omega, show j3_ = 18 by omega, endM_eq]; exact cif_t hz, by rw [ht]; exact hP, hD⟩, hS_.F ht⟩) hS_.2.2 dX1_endPlay_167
                    · skip
                      have h8 : j3_ < 18 := lt_of (N := 18) e4_ (by omega) rfl c_127
                      refine lv_aload_n hx hb_ dX1_endPlay_130 rfl (lv_at hl 2 rfl) ?_
                      have hf40 := hts (.fieldLink RX1 40 "ClockmaskModel" "guessed" "[I") (by decide +kernel)
                      refine va_get (D := D) (ci := 1) (v := .ref (b_ 13)) (C := RX1) (T := TX1) (N := 18) hx hb_ hts hin hown hK_ hP 0 rfl rfl 12 (by decide) hf40 (fun _ h9 => h9) rfl dX1_endPlay_131 ?_
                      refine lv_iload_n hx hb_ dX1_endPlay_134 rfl (lv_at hl 0 rfl) ?_
                      refine lv_iconst (v := 0) hx hb_ dX1_endPlay_135 (by decide) ?_
                      refine va_iast (f := g3_) (n := 18) hx hb_ hK_ hP hD hS_ 11 0 rfl rfl (by rw [e4_]; exact vp_in_nI h8 (by decide)) dX1_endPlay_136 (fun H locs hP hD hS_ => ?_)
                      have hP : va_P D vwCl (wMr cI y_ b_ (S 0) g1 g2 (S 3) (S 4) (S 5) (S 6) (S 7) (S 8) (S 9) (S 10 0) (S 11 0) (S 12) (upd g3_ i4_.toNatClampNeg 0) (((S 14 0) + (S 11 0)) - i1_) (S 15 0) (S 16) 0) H := hP
                      have hD : va_D A (wMr cI y_ b_ (S 0) g1 g2 (S 3) (S 4) (S 5) (S 6) (S 7) (S 8) (S 9) (S 10 0) (S 11 0) (S 12) (upd g3_ i4_.toNatClampNeg 0) (((S 14 0) + (S 11 0)) - i1_) (S 15 0) (S 16) 0) := hD
                      refine lv_iinc (v := i4_ + 1) (lv' := [(2, .int (i4_ + 1)), (1, .int i1_), (0, .ref y_)]) hx hb_ dX1_endPlay_137 hl (k := 0) rfl rfl (by decide) rfl (fun ls hl => ?_)
                      refine lv_goto (tgt := 124) hx hb_ dX1_endPlay_140 (by decide) ?_
                      exact ih_ (j3_ + 1) (i4_ + 1) (upd g3_ i4_.toNatClampNeg 0) (by omega) (by omega) (by rw [e4_]; exact nI_1 j3_) (by rw [eg3, e4_, nI_clamp (by omega)]; exact fa_fill_succ (fun _ => 0) _ j3_) _ _ hP hD hS_ _ (lv_sub hl [0, 1, 2] rfl)
                exact loop_124 19 0 0 (S 13) (Nat.zero_le _) (by omega) nI_0.symm ((fa_fill_0 _ _).symm) _ _ hP hD hS_ _ (lv_sub hl [0, 1, 2] rfl)
              · skip
                have h7 : j1 < 6 := lt_of (N := 6) e3_ (by omega) rfl c_99
                refine lv_aload_n hx hb_ dX1_endPlay_102 rfl (lv_at hl 2 rfl) ?_
                have hf7 := hts (.fieldLink RX1 7 "ClockmaskModel" "masks" "[I") (by decide +kernel)
                refine va_get (D := D) (ci := 1) (v := .ref (b_ 1)) (C := RX1) (T := TX1) (N := 18) hx hb_ hts hin hown hK_ hP 0 rfl rfl 0 (by decide) hf7 (fun _ h9 => h9) rfl dX1_endPlay_103 ?_
                refine lv_iload_n hx hb_ dX1_endPlay_106 rfl (lv_at hl 0 rfl) ?_
                refine lv_iconst (v := (-1)) hx hb_ dX1_endPlay_107 (by decide) ?_
                refine va_iast (f := g1) (n := 6) hx hb_ hK_ hP hD hS_ 1 0 rfl rfl (by rw [e3_]; exact vp_in_nI h7 (by decide)) dX1_endPlay_108 (fun H locs hP hD hS_ => ?_)
                have hP : va_P D vwCl (wMr cI y_ b_ (S 0) (upd g1 i3_.toNatClampNeg (-1)) g2 (S 3) (S 4) (S 5) (S 6) (S 7) (S 8) (S 9) (S 10 0) (S 11 0) (S 12) (S 13) (((S 14 0) + (S 11 0)) - i1_) (S 15 0) (S 16) 0) H := hP
                have hD : va_D A (wMr cI y_ b_ (S 0) (upd g1 i3_.toNatClampNeg (-1)) g2 (S 3) (S 4) (S 5) (S 6) (S 7) (S 8) (S 9) (S 10 0) (S 11 0) (S 12) (S 13) (((S 14 0) + (S 11 0)) - i1_) (S 15 0) (S 16) 0) := hD
                refine lv_aload_n hx hb_ dX1_endPlay_109 rfl (lv_at hl 2 rfl) ?_
                have hf13 := hts (.fieldLink RX1 13 "ClockmaskModel" "stage" "[I") (by decide +kernel)
                refine va_get (D := D) (ci := 1) (v := .ref (b_ 2)) (C := RX1) (T := TX1) (N := 18) hx hb_ hts hin hown hK_ hP 0 rfl rfl 1 (by decide) hf13 (fun _ h9 => h9) rfl dX1_endPlay_110 ?_
                refine lv_iload_n hx hb_ dX1_endPlay_113 rfl (lv_at hl 0 rfl) ?_
                refine lv_iconst (v := 0) hx hb_ dX1_endPlay_114 (by decide) ?_
                refine va_iast (f := g2) (n := 6) hx hb_ hK_ hP hD hS_ 2 0 rfl rfl (by rw [e3_]; exact vp_in_nI h7 (by decide)) dX1_endPlay_115 (fun H locs hP hD hS_ => ?_)
                have hP : va_P D vwCl (wMr cI y_ b_ (S 0) (upd g1 i3_.toNatClampNeg (-1)) (upd g2 i3_.toNatClampNeg 0) (S 3) (S 4) (S 5) (S 6) (S 7) (S 8) (S 9) (S 10 0) (S 11 0) (S 12) (S 13) (((S 14 0) + (S 11 0)) - i1_) (S 15 0) (S 16) 0) H := hP
                have hD : va_D A (wMr cI y_ b_ (S 0) (upd g1 i3_.toNatClampNeg (-1)) (upd g2 i3_.toNatClampNeg 0) (S 3) (S 4) (S 5) (S 6) (S 7) (S 8) (S 9) (S 10 0) (S 11 0) (S 12) (S 13) (((S 14 0) + (S 11 0)) - i1_) (S 15 0) (S 16) 0) := hD
                refine lv_iinc (v := i3_ + 1) (lv' := [(2, .int (i3_ + 1)), (1, .int i1_), (0, .ref y_)]) hx hb_ dX1_endPlay_116 hl (k := 0) rfl rfl (by decide) rfl (fun ls hl => ?_)
                refine lv_goto (tgt := 96) hx hb_ dX1_endPlay_119 (by decide) ?_
                exact ih_ (j1 + 1) (i3_ + 1) (upd g1 i3_.toNatClampNeg (-1)) (upd g2 i3_.toNatClampNeg 0) (by omega) (by omega) (by rw [e3_]; exact nI_1 j1) (by rw [eg1, e3_, nI_clamp (by omega)]; exact fa_fill_succ (fun _ => -1) _ j1) (by rw [eg2, e3_, nI_clamp (by omega)]; exact fa_fill_succ (fun _ => 0) _ j1) _ _ hP hD hS_ _ (lv_sub hl [0, 1, 2] rfl)
          exact loop_96 7 0 0 (S 1) (S 2) (Nat.zero_le _) (by omega) nI_0.symm ((fa_fill_0 _ _).symm) ((fa_fill_0 _ _).symm) _ _ hP hD hS_ _ (lv_sub hl [0, 1, 2] rfl)
        · skip
          have hpe : S 14 0 + S 11 0 - (S 14 0 + S 11 0) = purseE S := by rw [e1_] at c_79; rw [Int32.sub_self]; exact (cif_t (nle_lt c_79)).symm
          refine lv_aload_n hx hb_ dX1_endPlay_82 rfl (lv_at hl 2 rfl) ?_
          refine va_get (D := D) (ci := 1) (v := .int ((S 14 0) + (S 11 0))) (C := RX1) (T := TX1) (N := 18) hx hb_ hts hin hown hK_ hP 0 rfl rfl 15 (by decide) hf49 (fun _ h9 => h9) rfl dX1_endPlay_83 ?_
          refine lv_goto (tgt := 90) hx hb_ dX1_endPlay_86 (by decide) ?_
          refine lv_isub hx hb_ dX1_endPlay_90 ?_
          refine va_put (D := D) (ci := 1) (v := .int (((S 14 0) + (S 11 0)) - ((S 14 0) + (S 11 0)))) (ty := .int) (C := RX1) (T := TX1) (N := 18) hx hb_ hts hin tyX1 tyX1_ok nmX1 hown hK_ hP hD hS_ 0 rfl rfl 15 (by decide) hf49 (fun _ h9 => h9) rfl (by decide +kernel) rfl rfl (Nat.le_of_ble_eq_true rfl) dX1_endPlay_91 (fun H locs hP hD hS_ => ?_)
          have hP : va_P D vwCl (wMr cI y_ b_ (S 0) (S 1) (S 2) (S 3) (S 4) (S 5) (S 6) (S 7) (S 8) (S 9) (S 10 0) (S 11 0) (S 12) (S 13) (((S 14 0) + (S 11 0)) - ((S 14 0) + (S 11 0))) (S 15 0) (S 16) 0) H := hP
          have hD : va_D A (wMr cI y_ b_ (S 0) (S 1) (S 2) (S 3) (S 4) (S 5) (S 6) (S 7) (S 8) (S 9) (S 10 0) (S 11 0) (S 12) (S 13) (((S 14 0) + (S 11 0)) - ((S 14 0) + (S 11 0))) (S 15 0) (S 16) 0) := hD
          refine lv_iconst (v := 0) hx hb_ dX1_endPlay_94 (by decide) ?_
          refine lv_istore_n (lv' := [(2, .int 0), (1, .int i1_), (0, .ref y_)]) hx hb_ dX1_endPlay_95 rfl hl (by decide) rfl (fun ls hl => ?_)
          refine W_gen (fun R Q hR hQ => ?_)
          have loop_96 : ∀ (n_ : Nat) (j1 : Nat) (i3_ : Int32) (g1 : Nat → Int32) (g2 : Nat → Int32), (j1 ≤ 6) → (7 ≤ j1 + n_) → (i3_ = nI j1) → (g1 = fa_fill (fun _ => -1) (S 1) j1) → (g2 = fa_fill (fun _ => 0) (S 2) j1) → ∀ (H : Heap) (locs : List Loc), va_P D vwCl (wMr cI y_ b_ (S 0) g1 g2 (S 3) (S 4) (S 5) (S 6) (S 7) (S 8) (S 9) (S 10 0) (S 11 0) (S 12) (S 13) (((S 14 0) + (S 11 0)) - ((S 14 0) + (S 11 0))) (S 15 0) (S 16) 0) H → va_D A (wMr cI y_ b_ (S 0) g1 g2 (S 3) (S 4) (S 5) (S 6) (S 7) (S 8) (S 9) (S 10 0) (S 11 0) (S 12) (S 13) (((S 14 0) + (S 11 0)) - ((S 14 0) + (S 11 0))) (S 15 0) (S 16) 0) → va_S A s_.heap H locs → ∀ ls : Array Slot, lv_has ls 3 [(2, .int i3_), (1, .int i1_), (0, .ref y_)] → W pr l env R s_ mid ([.ref y_] : List Value).toArray below meth cod H locs 0 0 Q (F0 mid 96 ls []) := by
            subst hR; subst hQ
            intro n_
            induction n_ with
            | zero =>
              intro j1 i3_ g1 g2 hj1 hn1 e3_ eg1 eg2 H locs hP hD hS_ ls hl
              exfalso; omega
            | succ n_ ih_ =>
              intro j1 i3_ g1 g2 hj1 hn1 e3_ eg1 eg2 H locs hP hD hS_ ls hl
              refine lv_iload_n hx hb_ dX1_endPlay_96 rfl (lv_at hl 0 rfl) ?_
              refine lv_bipush (v := 6) hx hb_ dX1_endPlay_97 (by decide) ?_
              refine lv_icmp_ge (tgt := 122) hx hb_ dX1_endPlay_99 (by decide) (fun c_99 => ?_) (fun c_99 => ?_)
              · skip
                have h7 : 6 ≤ j1 := ge_of (N := 6) e3_ (by omega) rfl c_99
                refine lv_iconst (v := 0) hx hb_ dX1_endPlay_122 (by decide) ?_
                refine lv_istore_n (lv' := [(2, .int 0), (1, .int i1_), (0, .ref y_)]) hx hb_ dX1_endPlay_123 rfl hl (by decide) rfl (fun ls hl => ?_)
                refine W_gen (fun R Q hR hQ => ?_)
                have loop_124 : ∀ (n_ : Nat) (j3_ : Nat) (i4_ : Int32) (g3_ : Nat → Int32), (j3_ ≤ 18) → (19 ≤ j3_ + n_) → (i4_ = nI j3_) → (g3_ = fa_fill (fun _ => 0) (S 13) j3_) → ∀ (H : Heap) (locs : List Loc), va_P D vwCl (wMr cI y_ b_ (S 0) g1 g2 (S 3) (S 4) (S 5) (S 6) (S 7) (S 8) (S 9) (S 10 0) (S 11 0) (S 12) g3_ (((S 14 0) + (S 11 0)) - ((S 14 0) + (S 11 0))) (S 15 0) (S 16) 0) H → va_D A (wMr cI y_ b_ (S 0) g1 g2 (S 3) (S 4) (S 5) (S 6) (S 7) (S 8) (S 9) (S 10 0) (S 11 0) (S 12) g3_ (((S 14 0) + (S 11 0)) - ((S 14 0) + (S 11 0))) (S 15 0) (S 16) 0) → va_S A s_.heap H locs → ∀ ls : Array Slot, lv_has ls 3 [(2, .int i4_), (1, .int i1_), (0, .ref y_)] → W pr l env R s_ mid ([.ref y_] : List Value).toArray below meth cod H locs 0 0 Q (F0 mid 124 ls []) := by
                  subst hR; subst hQ
                  intro n_
                  induction n_ with
                  | zero =>
                    intro j3_ i4_ g3_ hj3 hn3 e4_ eg3 H locs hP hD hS_ ls hl
                    exfalso; omega
                  | succ n_ ih_ =>
                    intro j3_ i4_ g3_ hj3 hn3 e4_ eg3 H locs hP hD hS_ ls hl
                    refine lv_iload_n hx hb_ dX1_endPlay_124 rfl (lv_at hl 0 rfl) ?_
                    refine lv_bipush (v := 18) hx hb_ dX1_endPlay_125 (by decide) ?_
                    refine lv_icmp_ge (tgt := 143) hx hb_ dX1_endPlay_127 (by decide) (fun c_127 => ?_) (fun c_127 => ?_)
                    · skip
                      have h8 : 18 ≤ j3_ := ge_of (N := 18) e4_ (by omega) rfl c_127
                      refine lv_aload_n hx hb_ dX1_endPlay_143 rfl (lv_at hl 2 rfl) ?_
                      refine lv_iconst (v := 0) hx hb_ dX1_endPlay_144 (by decide) ?_
                      refine va_put (D := D) (ci := 1) (v := .int 0) (ty := .int) (C := RX1) (T := TX1) (N := 18) hx hb_ hts hin tyX1 tyX1_ok nmX1 hown hK_ hP hD hS_ 0 rfl rfl 10 (by decide) hf60 (fun _ h9 => h9) rfl (by decide +kernel) rfl rfl (Nat.le_of_ble_eq_true rfl) dX1_endPlay_145 (fun H locs hP hD hS_ => ?_)
                      have hP : va_P D vwCl (wMr cI y_ b_ (S 0) g1 g2 (S 3) (S 4) (S 5) (S 6) (S 7) (S 8) (S 9) 0 (S 11 0) (S 12) g3_ (((S 14 0) + (S 11 0)) - ((S 14 0) + (S 11 0))) (S 15 0) (S 16) 0) H := hP
                      have hD : va_D A (wMr cI y_ b_ (S 0) g1 g2 (S 3) (S 4) (S 5) (S 6) (S 7) (S 8) (S 9) 0 (S 11 0) (S 12) g3_ (((S 14 0) + (S 11 0)) - ((S 14 0) + (S 11 0))) (S 15 0) (S 16) 0) := hD
                      refine lv_aload_n hx hb_ dX1_endPlay_148 rfl (lv_at hl 2 rfl) ?_
                      refine lv_iconst (v := 0) hx hb_ dX1_endPlay_149 (by decide) ?_
                      refine va_put (D := D) (ci := 1) (v := .int 0) (ty := .int) (C := RX1) (T := TX1) (N := 18) hx hb_ hts hin tyX1 tyX1_ok nmX1 hown hK_ hP hD hS_ 0 rfl rfl 11 (by decide) hf89 (fun _ h9 => h9) rfl (by decide +kernel) rfl rfl (Nat.le_of_ble_eq_true rfl) dX1_endPlay_150 (fun H locs hP hD hS_ => ?_)
                      have hP : va_P D vwCl (wMr cI y_ b_ (S 0) g1 g2 (S 3) (S 4) (S 5) (S 6) (S 7) (S 8) (S 9) 0 0 (S 12) g3_ (((S 14 0) + (S 11 0)) - ((S 14 0) + (S 11 0))) (S 15 0) (S 16) 0) H := hP
                      have hD : va_D A (wMr cI y_ b_ (S 0) g1 g2 (S 3) (S 4) (S 5) (S 6) (S 7) (S 8) (S 9) 0 0 (S 12) g3_ (((S 14 0) + (S 11 0)) - ((S 14 0) + (S 11 0))) (S 15 0) (S 16) 0) := hD
                      refine lv_aload_n hx hb_ dX1_endPlay_153 rfl (lv_at hl 2 rfl) ?_
                      refine lv_dup hx hb_ dX1_endPlay_154 rfl ?_
                      have hf103 := hts (.fieldLink RX1 103 "ClockmaskModel" "ended" "I") (by decide +kernel)
                      refine va_get (D := D) (ci := 1) (v := .int (S 15 0)) (C := RX1) (T := TX1) (N := 18) hx hb_ hts hin hown hK_ hP 0 rfl rfl 16 (by decide) hf103 (fun _ h9 => h9) rfl dX1_endPlay_155 ?_
                      refine lv_iconst (v := 1) hx hb_ dX1_endPlay_158 (by decide) ?_
                      refine lv_iadd hx hb_ dX1_endPlay_159 ?_
                      refine va_put (D := D) (ci := 1) (v := .int ((S 15 0) + 1)) (ty := .int) (C := RX1) (T := TX1) (N := 18) hx hb_ hts hin tyX1 tyX1_ok nmX1 hown hK_ hP hD hS_ 0 rfl rfl 16 (by decide) hf103 (fun _ h9 => h9) rfl (by decide +kernel) rfl rfl (Nat.le_of_ble_eq_true rfl) dX1_endPlay_160 (fun H locs hP hD hS_ => ?_)
                      have hP : va_P D vwCl (wMr cI y_ b_ (S 0) g1 g2 (S 3) (S 4) (S 5) (S 6) (S 7) (S 8) (S 9) 0 0 (S 12) g3_ (((S 14 0) + (S 11 0)) - ((S 14 0) + (S 11 0))) ((S 15 0) + 1) (S 16) 0) H := hP
                      have hD : va_D A (wMr cI y_ b_ (S 0) g1 g2 (S 3) (S 4) (S 5) (S 6) (S 7) (S 8) (S 9) 0 0 (S 12) g3_ (((S 14 0) + (S 11 0)) - ((S 14 0) + (S 11 0))) ((S 15 0) + 1) (S 16) 0) := hD
                      refine lv_aload_n hx hb_ dX1_endPlay_163 rfl (lv_at hl 2 rfl) ?_
                      refine va_get (D := D) (ci := 1) (v := .int (((S 14 0) + (S 11 0)) - ((S 14 0) + (S 11 0)))) (C := RX1) (T := TX1) (N := 18) hx hb_ hts hin hown hK_ hP 0 rfl rfl 15 (by decide) hf49 (fun _ h9 => h9) rfl dX1_endPlay_164 ?_
                      exact W.iret (v := (((S 14 0) + (S 11 0)) - ((S 14 0) + (S 11 0)))) hx hb_ hr (fun t_ ht hW => ⟨⟨_, (row (row (row (row (row (row (row S 14 (kf (((S 14 0) + (S 11 0)) - ((S 14 0) + (S 11 0))))) 1 g1) 2 g2) 13 g3_) 10 (kf 0)) 11 (kf 0)) 15 (kf ((S 15 0) + 1)), 0), rfl, by rw [hpe, eg1, eg2, eg3, show j1 = 6 by omega, show j3_ = 18 by omega, endM_eq]; exact cif_t hz, by rw [ht]; exact hP, hD⟩, hS_.F ht⟩) hS_.2.2 dX1_endPlay_167
                    · skip
                      have h8 : j3_ < 18 := lt_of (N := 18) e4_ (by omega) rfl c_127
                      refine lv_aload_n hx hb_ dX1_endPlay_130 rfl (lv_at hl 2 rfl) ?_
                      have hf40 := hts (.fieldLink RX1 40 "ClockmaskModel" "guessed" "[I") (by decide +kernel)
                      refine va_get (D := D) (ci := 1) (v := .ref (b_ 13)) (C := RX1) (T := TX1) (N := 18) hx hb_ hts hin hown hK_ hP 0 rfl rfl 12 (by decide) hf40 (fun _ h9 => h9) rfl dX1_endPlay_131 ?_
                      refine lv_iload_n hx hb_ dX1_endPlay_134 rfl (lv_at hl 0 rfl) ?_
                      refine lv_iconst (v := 0) hx hb_ dX1_endPlay_135 (by decide) ?_
                      refine va_iast (f := g3_) (n := 18) hx hb_ hK_ hP hD hS_ 11 0 rfl rfl (by rw [e4_]; exact vp_in_nI h8 (by decide)) dX1_endPlay_136 (fun H locs hP hD hS_ => ?_)
                      have hP : va_P D vwCl (wMr cI y_ b_ (S 0) g1 g2 (S 3) (S 4) (S 5) (S 6) (S 7) (S 8) (S 9) (S 10 0) (S 11 0) (S 12) (upd g3_ i4_.toNatClampNeg 0) (((S 14 0) + (S 11 0)) - ((S 14 0) + (S 11 0))) (S 15 0) (S 16) 0) H := hP
                      have hD : va_D A (wMr cI y_ b_ (S 0) g1 g2 (S 3) (S 4) (S 5) (S 6) (S 7) (S 8) (S 9) (S 10 0) (S 11 0) (S 12) (upd g3_ i4_.toNatClampNeg 0) (((S 14 0) + (S 11 0)) - ((S 14 0) + (S 11 0))) (S 15 0) (S 16) 0) := hD
                      refine lv_iinc (v := i4_ + 1) (lv' := [(2, .int (i4_ + 1)), (1, .int i1_), (0, .ref y_)]) hx hb_ dX1_endPlay_137 hl (k := 0) rfl rfl (by decide) rfl (fun ls hl => ?_)
                      refine lv_goto (tgt := 124) hx hb_ dX1_endPlay_140 (by decide) ?_
                      exact ih_ (j3_ + 1) (i4_ + 1) (upd g3_ i4_.toNatClampNeg 0) (by omega) (by omega) (by rw [e4_]; exact nI_1 j3_) (by rw [eg3, e4_, nI_clamp (by omega)]; exact fa_fill_succ (fun _ => 0) _ j3_) _ _ hP hD hS_ _ (lv_sub hl [0, 1, 2] rfl)
                exact loop_124 19 0 0 (S 13) (Nat.zero_le _) (by omega) nI_0.symm ((fa_fill_0 _ _).symm) _ _ hP hD hS_ _ (lv_sub hl [0, 1, 2] rfl)
              · skip
                have h7 : j1 < 6 := lt_of (N := 6) e3_ (by omega) rfl c_99
                refine lv_aload_n hx hb_ dX1_endPlay_102 rfl (lv_at hl 2 rfl) ?_
                have hf7 := hts (.fieldLink RX1 7 "ClockmaskModel" "masks" "[I") (by decide +kernel)
                refine va_get (D := D) (ci := 1) (v := .ref (b_ 1)) (C := RX1) (T := TX1) (N := 18) hx hb_ hts hin hown hK_ hP 0 rfl rfl 0 (by decide) hf7 (fun _ h9 => h9) rfl dX1_endPlay_103 ?_
                refine lv_iload_n hx hb_ dX1_endPlay_106 rfl (lv_at hl 0 rfl) ?_
                refine lv_iconst (v := (-1)) hx hb_ dX1_endPlay_107 (by decide) ?_
                refine va_iast (f := g1) (n := 6) hx hb_ hK_ hP hD hS_ 1 0 rfl rfl (by rw [e3_]; exact vp_in_nI h7 (by decide)) dX1_endPlay_108 (fun H locs hP hD hS_ => ?_)
                have hP : va_P D vwCl (wMr cI y_ b_ (S 0) (upd g1 i3_.toNatClampNeg (-1)) g2 (S 3) (S 4) (S 5) (S 6) (S 7) (S 8) (S 9) (S 10 0) (S 11 0) (S 12) (S 13) (((S 14 0) + (S 11 0)) - ((S 14 0) + (S 11 0))) (S 15 0) (S 16) 0) H := hP
                have hD : va_D A (wMr cI y_ b_ (S 0) (upd g1 i3_.toNatClampNeg (-1)) g2 (S 3) (S 4) (S 5) (S 6) (S 7) (S 8) (S 9) (S 10 0) (S 11 0) (S 12) (S 13) (((S 14 0) + (S 11 0)) - ((S 14 0) + (S 11 0))) (S 15 0) (S 16) 0) := hD
                refine lv_aload_n hx hb_ dX1_endPlay_109 rfl (lv_at hl 2 rfl) ?_
                have hf13 := hts (.fieldLink RX1 13 "ClockmaskModel" "stage" "[I") (by decide +kernel)
                refine va_get (D := D) (ci := 1) (v := .ref (b_ 2)) (C := RX1) (T := TX1) (N := 18) hx hb_ hts hin hown hK_ hP 0 rfl rfl 1 (by decide) hf13 (fun _ h9 => h9) rfl dX1_endPlay_110 ?_
                refine lv_iload_n hx hb_ dX1_endPlay_113 rfl (lv_at hl 0 rfl) ?_
                refine lv_iconst (v := 0) hx hb_ dX1_endPlay_114 (by decide) ?_
                refine va_iast (f := g2) (n := 6) hx hb_ hK_ hP hD hS_ 2 0 rfl rfl (by rw [e3_]; exact vp_in_nI h7 (by decide)) dX1_endPlay_115 (fun H locs hP hD hS_ => ?_)
                have hP : va_P D vwCl (wMr cI y_ b_ (S 0) (upd g1 i3_.toNatClampNeg (-1)) (upd g2 i3_.toNatClampNeg 0) (S 3) (S 4) (S 5) (S 6) (S 7) (S 8) (S 9) (S 10 0) (S 11 0) (S 12) (S 13) (((S 14 0) + (S 11 0)) - ((S 14 0) + (S 11 0))) (S 15 0) (S 16) 0) H := hP
                have hD : va_D A (wMr cI y_ b_ (S 0) (upd g1 i3_.toNatClampNeg (-1)) (upd g2 i3_.toNatClampNeg 0) (S 3) (S 4) (S 5) (S 6) (S 7) (S 8) (S 9) (S 10 0) (S 11 0) (S 12) (S 13) (((S 14 0) + (S 11 0)) - ((S 14 0) + (S 11 0))) (S 15 0) (S 16) 0) := hD
                refine lv_iinc (v := i3_ + 1) (lv' := [(2, .int (i3_ + 1)), (1, .int i1_), (0, .ref y_)]) hx hb_ dX1_endPlay_116 hl (k := 0) rfl rfl (by decide) rfl (fun ls hl => ?_)
                refine lv_goto (tgt := 96) hx hb_ dX1_endPlay_119 (by decide) ?_
                exact ih_ (j1 + 1) (i3_ + 1) (upd g1 i3_.toNatClampNeg (-1)) (upd g2 i3_.toNatClampNeg 0) (by omega) (by omega) (by rw [e3_]; exact nI_1 j1) (by rw [eg1, e3_, nI_clamp (by omega)]; exact fa_fill_succ (fun _ => -1) _ j1) (by rw [eg2, e3_, nI_clamp (by omega)]; exact fa_fill_succ (fun _ => 0) _ j1) _ _ hP hD hS_ _ (lv_sub hl [0, 1, 2] rfl)
          exact loop_96 7 0 0 (S 1) (S 2) (Nat.zero_le _) (by omega) nI_0.symm ((fa_fill_0 _ _).symm) ((fa_fill_0 _ _).symm) _ _ hP hD hS_ _ (lv_sub hl [0, 1, 2] rfl)
      · skip
        have hm_ := hI_.m24
        have h6 : j_ < many S := by rw [e2_, hI_.me] at c_14; exact Nat.lt_of_not_le (fun z_ => c_14 ((nI_leI (by omega) (by omega)).mpr z_))
        have hi24 : vp_in i2_ 24 := by rw [e2_]; exact vp_in_nI (by omega) (by decide)
        refine lv_aload_n hx hb_ dX1_endPlay_17 rfl (lv_at hl 2 rfl) ?_
        have hf34 := hts (.fieldLink RX1 34 "ClockmaskModel" "states" "[I") (by decide +kernel)
        refine va_get (D := D) (ci := 1) (v := .ref (b_ 8)) (C := RX1) (T := TX1) (N := 18) hx hb_ hts hin hown hK_ hP 0 rfl rfl 8 (by decide) hf34 (fun _ h9 => h9) rfl dX1_endPlay_18 ?_
        refine lv_iload_n hx hb_ dX1_endPlay_21 rfl (lv_at hl 0 rfl) ?_
        refine va_iald (f := S 8) (n := 24) hx hb_ hK_ hP 9 0 rfl rfl hi24 dX1_endPlay_22 ?_
        refine lv_if_ne (tgt := 32) hx hb_ dX1_endPlay_23 (by decide) (fun c_23 => ?_) (fun c_23 => ?_)
        · skip
          have c9_ : S 8 j_ ≠ 0 := by rwa [e2_, nI_clamp (by omega)] at c_23
          refine lv_iload_n hx hb_ dX1_endPlay_32 rfl (lv_at hl 1 rfl) ?_
          refine lv_aload_n hx hb_ dX1_endPlay_33 rfl (lv_at hl 2 rfl) ?_
          refine va_get (D := D) (ci := 1) (v := .ref (b_ 8)) (C := RX1) (T := TX1) (N := 18) hx hb_ hts hin hown hK_ hP 0 rfl rfl 8 (by decide) hf34 (fun _ h9 => h9) rfl dX1_endPlay_34 ?_
          refine lv_iload_n hx hb_ dX1_endPlay_37 rfl (lv_at hl 0 rfl) ?_
          refine va_iald (f := S 8) (n := 24) hx hb_ hK_ hP 9 0 rfl rfl hi24 dX1_endPlay_38 ?_
          refine lv_iconst (v := 2) hx hb_ dX1_endPlay_39 (by decide) ?_
          refine lv_icmp_ne (tgt := 47) hx hb_ dX1_endPlay_40 (by decide) (fun c_40 => ?_) (fun c_40 => ?_)
          · skip
            have d9 : ¬ S 8 j_ = 2 := by rwa [e2_, nI_clamp (by omega)] at c_40
            refine lv_iconst (v := 0) hx hb_ dX1_endPlay_47 (by decide) ?_
            refine lv_iadd hx hb_ dX1_endPlay_48 ?_
            refine lv_istore_n (lv' := [(1, .int (i1_ + 0)), (2, .int i2_), (0, .ref y_)]) hx hb_ dX1_endPlay_49 rfl hl (by decide) rfl (fun ls hl => ?_)
            refine lv_iinc (v := i2_ + 1) (lv' := [(2, .int (i2_ + 1)), (1, .int (i1_ + 0)), (0, .ref y_)]) hx hb_ dX1_endPlay_50 hl (k := 1) rfl rfl (by decide) rfl (fun ls hl => ?_)
            refine lv_goto (tgt := 9) hx hb_ dX1_endPlay_53 (by decide) ?_
            exact ih_ (j_ + 1) (i1_ + 0) (i2_ + 1) (by omega) (by omega) (by rw [e2_]; exact nI_1 j_) (by rw [e1_, cN, cif_f d9, Int32.add_zero]) (lt_s hnz c9_) _ (lv_sub hl [0, 1, 2] rfl)
          · skip
            have d9 : S 8 j_ = 2 := by rwa [e2_, nI_clamp (by omega)] at c_40
            refine lv_iconst (v := 1) hx hb_ dX1_endPlay_43 (by decide) ?_
            refine lv_goto (tgt := 48) hx hb_ dX1_endPlay_44 (by decide) ?_
            refine lv_iadd hx hb_ dX1_endPlay_48 ?_
            refine lv_istore_n (lv' := [(1, .int (i1_ + 1)), (2, .int i2_), (0, .ref y_)]) hx hb_ dX1_endPlay_49 rfl hl (by decide) rfl (fun ls hl => ?_)
            refine lv_iinc (v := i2_ + 1) (lv' := [(2, .int (i2_ + 1)), (1, .int (i1_ + 1)), (0, .ref y_)]) hx hb_ dX1_endPlay_50 hl (k := 1) rfl rfl (by decide) rfl (fun ls hl => ?_)
            refine lv_goto (tgt := 9) hx hb_ dX1_endPlay_53 (by decide) ?_
            exact ih_ (j_ + 1) (i1_ + 1) (i2_ + 1) (by omega) (by omega) (by rw [e2_]; exact nI_1 j_) (by rw [e1_, cN, cif_t d9]; exact nI_1 _) (lt_s hnz c9_) _ (lv_sub hl [0, 1, 2] rfl)
        · skip
          have c9_ : S 8 j_ = 0 := by rwa [e2_, nI_clamp (by omega)] at c_23
          refine lv_aload_n hx hb_ dX1_endPlay_26 rfl (lv_at hl 2 rfl) ?_
          refine lv_iconst (v := 1) hx hb_ dX1_endPlay_27 (by decide) ?_
          have hFc := wfree hD hS_ hA
          refine va_calli (va_runV (As := [.int 1]) (rest := []) ⟨hx, hb_, hml, hown, hts⟩ (c_X1_fails l D cI y_ b_ S 0 H.size 1) (cwV 1 hts gX1_endPlay_X1_fails rfl rfl rfl (by decide +kernel) ⟨Nat.le_of_ble_eq_true rfl, Nat.le_of_ble_eq_true rfl⟩) (pW_V (ci := 1) hP hK_ hD rfl rfl) rfl rfl hl.1 rfl (lv_room (Nat.le_of_ble_eq_true rfl)) dX1_endPlay_28 ⟨Nat.zero_le _, Nat.zero_le _⟩) hS_ (fun q_ _ h_ => hFc q_ h_) hFc (fun r_28 u_28 t9 H1 locs ht9 hvm9 h_28 hB9 hz9 hk9 hS_ => ?_)
          obtain ⟨e_28, h_28⟩ := h_28
          subst e_28
          subst h_28
          have hP : va_P D vwCl (wM cI y_ b_ S 1) H1 := atW_P hB9 ht9
          have hD : va_D A (wM cI y_ b_ S 1) := atW_D hB9 hFc
          generalize H1 = H at hP hS_ ⊢
          exact W.iret (v := 0) hx hb_ hr (fun t_ ht hW => ⟨⟨_, (S, 1), rfl, cif_f (fun h_ => h_ j_ h6 c9_), by rw [ht]; exact hP, hD⟩, hS_.F ht⟩) hS_.2.2 dX1_endPlay_31
  exact loop_9 (many S + 1) 0 0 0 (Nat.zero_le _) (by omega) nI_0.symm nI_0.symm (fun k_ hk => absurd hk (Nat.not_lt_zero k_)) _ (lv_sub hl [0, 1, 2] rfl)
