set_option maxHeartbeats 4000000 in
set_option maxRecDepth 100000 in
theorem c_X0_costumeOf (l : Launch) (hfl : l.stackTraces = false) (D : va_G) (cI cZ : ClassId) (x : Nat) (a : Nat → Nat) (S : ST) (p : Int32) : vy_Met l yX0_costumeOf wsX0_costumeOf rmX0_costumeOf (va_Pc [.ref x, .int p] (fun U => (pR D (tyX cI cZ) (wX cI cZ x a S)) U ∧ pG U)) (vp_Si (fun r => k_costumeOf S p = (0, r, S))) (xcs (fun E => E = xIO ∧ k_costumeOf S p = (1, 0, S))) 1 6 (fun _ => False) := by
  refine vy_ofW (cc := cX0_costumeOf) (maxL := 2) (ret := (some .int)) (by decide) rfl ?_
  intro pr env s mid args below meth cod s₁ Bd hml hout hv
  obtain ⟨rfl, ⟨hP, hK⟩, hG0⟩ := hv
  have hG : xG (fun q => s.heap.size ≤ q) s s.heap := hG0
  have hx := Bd.exec
  have hb := Bd.bytes
  have hr := Bd.returns
  have hts := atoms_spec (ws := wsX0_costumeOf) Bd.pre
  have hown : s.vm.findClass RX0 = some mid.cls := findClass_of_methodNamed Bd.named
  have hlocks := Bd.notSynchronized
  have hin : ∀ w ∈ wsX00, w ∈ wsX0_costumeOf := fun _ h => List.mem_cons_of_mem _ (List.mem_append_left _ (List.mem_append_right _ h))
  have hl := lv_entry ([.ref x, .int p]) (n := 2) (Nat.le_of_ble_eq_true rfl)
  rw [lg_entry_eq]
  generalize (lg_sl ([.ref x, .int p]) ++ List.replicate (2 - (lg_sl ([.ref x, .int p])).length) Slot.unset).toArray = ls at hl ⊢
  have hl : lv_has ls 2 [(0, .ref x), (1, .int p)] := hl
  refine lv_iload_n hx hb dX0_costumeOf_0 rfl (lv_at hl 1 rfl) ?_
  refine vy_csv (vy_runS (As := [.int p]) (rest := []) ⟨hx, hb, hml, hown, hts⟩ (c_X0_requirePlayer l hfl p) (va_cwS 1 hts gX0_costumeOf_X0_requirePlayer rfl rfl rfl (by decide +kernel) ⟨Nat.le_of_ble_eq_true rfl, Nat.le_of_ble_eq_true rfl⟩) (pT_S (pN_S) hG (fun _ h => h)) rfl rfl hl.1 rfl (lv_room (Nat.le_of_ble_eq_true rfl)) dX0_costumeOf_1 ⟨Nat.le_of_ble_eq_true rfl, Nat.le_of_ble_eq_true rfl⟩) (fun E ce q9 H1 hPE hz9 hk9 hc9 hv9 hcl9 => vy_out hout hlocks (⟨hPE.1, cif_f hPE.2⟩) hz9 hk9 hc9 hv9 hcl9 (by decide) (by decide)) (fun h_1 => ?_)
  refine lv_aload_n hx hb dX0_costumeOf_4 rfl (lv_at hl 0 rfl) ?_
  have hf9 := hts (.fieldLink RX0 9 "Clockmask" "costumeOfPlayer" "[I") (by decide +kernel)
  refine va_get (D := D) (ci := 0) (v := .ref (a 0)) (C := RX0) (T := TX0) (N := 17) hx hb hts hin hown hK hP 0 rfl rfl 0 (by decide) hf9 (fun _ h9 => h9) rfl dX0_costumeOf_5 ?_
  refine lv_iload_n hx hb dX0_costumeOf_8 rfl (lv_at hl 1 rfl) ?_
  refine va_iald (f := S 0) (n := 6) hx hb hK hP 1 0 rfl rfl (by assumption) dX0_costumeOf_9 ?_
  exact vy_ret (W.iret (v := S 0 p.toNatClampNeg) hx hb hr (fun t ht hW => ⟨_, rfl, cif_t h_1, ht⟩) (fun q h => by cases h) dX0_costumeOf_10)
set_option maxHeartbeats 4000000 in
set_option maxRecDepth 100000 in
theorem c_X0_wear (l : Launch) (hfl : l.stackTraces = false) (D : va_G) (cI cZ : ClassId) (x : Nat) (a : Nat → Nat) (S : ST) (c : Int32) : vy_Met l yX0_wear wsX0_wear rmX0_wear (va_Pc [.ref x, .int c] (fun U => (pR D (tyX cI cZ) (wX cI cZ x a S)) U ∧ pG U)) (vp_Si (fun r => k_wear S c = (0, r, S))) (xcs (fun E => E = xIO ∧ k_wear S c = (1, 0, S))) 1 6 (fun _ => False) := by
  refine vy_ofW (cc := cX0_wear) (maxL := 2) (ret := (some .int)) (by decide) rfl ?_
  intro pr env s mid args below meth cod s₁ Bd hml hout hv
  obtain ⟨rfl, ⟨hP, hK⟩, hG0⟩ := hv
  have hG : xG (fun q => s.heap.size ≤ q) s s.heap := hG0
  have hx := Bd.exec
  have hb := Bd.bytes
  have hr := Bd.returns
  have hts := atoms_spec (ws := wsX0_wear) Bd.pre
  have hown : s.vm.findClass RX0 = some mid.cls := findClass_of_methodNamed Bd.named
  have hlocks := Bd.notSynchronized
  have hin : ∀ w ∈ wsX00, w ∈ wsX0_wear := fun _ h => List.mem_cons_of_mem _ (List.mem_append_left _ (List.mem_append_right _ h))
  have hl := lv_entry ([.ref x, .int c]) (n := 2) (Nat.le_of_ble_eq_true rfl)
  rw [lg_entry_eq]
  generalize (lg_sl ([.ref x, .int c]) ++ List.replicate (2 - (lg_sl ([.ref x, .int c])).length) Slot.unset).toArray = ls at hl ⊢
  have hl : lv_has ls 2 [(0, .ref x), (1, .int c)] := hl
  refine lv_iload_n hx hb dX0_wear_0 rfl (lv_at hl 1 rfl) ?_
  refine vy_csv (vy_runS (As := [.int c]) (rest := []) ⟨hx, hb, hml, hown, hts⟩ (c_X0_requireCostume l hfl c) (va_cwS 1 hts gX0_wear_X0_requireCostume rfl rfl rfl (by decide +kernel) ⟨Nat.le_of_ble_eq_true rfl, Nat.le_of_ble_eq_true rfl⟩) (pT_S (pN_S) hG (fun _ h => h)) rfl rfl hl.1 rfl (lv_room (Nat.le_of_ble_eq_true rfl)) dX0_wear_1 ⟨Nat.le_of_ble_eq_true rfl, Nat.le_of_ble_eq_true rfl⟩) (fun E ce q9 H1 hPE hz9 hk9 hc9 hv9 hcl9 => vy_out hout hlocks (⟨hPE.1, cif_f hPE.2⟩) hz9 hk9 hc9 hv9 hcl9 (by decide) (by decide)) (fun h_1 => ?_)
  refine lv_aload_n hx hb dX0_wear_4 rfl (lv_at hl 0 rfl) ?_
  have hf20 := hts (.fieldLink RX0 20 "Clockmask" "wearOfCostume" "[I") (by decide +kernel)
  refine va_get (D := D) (ci := 0) (v := .ref (a 3)) (C := RX0) (T := TX0) (N := 17) hx hb hts hin hown hK hP 0 rfl rfl 3 (by decide) hf20 (fun _ h9 => h9) rfl dX0_wear_5 ?_
  refine lv_iload_n hx hb dX0_wear_8 rfl (lv_at hl 1 rfl) ?_
  refine va_iald (f := S 3) (n := 8) hx hb hK hP 4 0 rfl rfl (by assumption) dX0_wear_9 ?_
  exact vy_ret (W.iret (v := S 3 c.toNatClampNeg) hx hb hr (fun t ht hW => ⟨_, rfl, cif_t h_1, ht⟩) (fun q h => by cases h) dX0_wear_10)
set_option maxHeartbeats 4000000 in
set_option maxRecDepth 100000 in
theorem c_X0_maskOf (l : Launch) (hfl : l.stackTraces = false) (D : va_G) (cI cZ : ClassId) (x : Nat) (a : Nat → Nat) (S : ST) (p : Int32) : vy_Met l yX0_maskOf wsX0_maskOf rmX0_maskOf (va_Pc [.ref x, .int p] (fun U => (pR D (tyX cI cZ) (wX cI cZ x a S)) U ∧ pG U)) (vp_Si (fun r => k_maskOf S p = (0, r, S))) (xcs (fun E => E = xIO ∧ k_maskOf S p = (1, 0, S))) 1 6 (fun _ => False) := by
  refine vy_ofW (cc := cX0_maskOf) (maxL := 2) (ret := (some .int)) (by decide) rfl ?_
  intro pr env s mid args below meth cod s₁ Bd hml hout hv
  obtain ⟨rfl, ⟨hP, hK⟩, hG0⟩ := hv
  have hG : xG (fun q => s.heap.size ≤ q) s s.heap := hG0
  have hx := Bd.exec
  have hb := Bd.bytes
  have hr := Bd.returns
  have hts := atoms_spec (ws := wsX0_maskOf) Bd.pre
  have hown : s.vm.findClass RX0 = some mid.cls := findClass_of_methodNamed Bd.named
  have hlocks := Bd.notSynchronized
  have hin : ∀ w ∈ wsX00, w ∈ wsX0_maskOf := fun _ h => List.mem_cons_of_mem _ (List.mem_append_left _ (List.mem_append_right _ h))
  have hl := lv_entry ([.ref x, .int p]) (n := 2) (Nat.le_of_ble_eq_true rfl)
  rw [lg_entry_eq]
  generalize (lg_sl ([.ref x, .int p]) ++ List.replicate (2 - (lg_sl ([.ref x, .int p])).length) Slot.unset).toArray = ls at hl ⊢
  have hl : lv_has ls 2 [(0, .ref x), (1, .int p)] := hl
  refine lv_iload_n hx hb dX0_maskOf_0 rfl (lv_at hl 1 rfl) ?_
  refine vy_csv (vy_runS (As := [.int p]) (rest := []) ⟨hx, hb, hml, hown, hts⟩ (c_X0_requirePlayer l hfl p) (va_cwS 1 hts gX0_maskOf_X0_requirePlayer rfl rfl rfl (by decide +kernel) ⟨Nat.le_of_ble_eq_true rfl, Nat.le_of_ble_eq_true rfl⟩) (pT_S (pN_S) hG (fun _ h => h)) rfl rfl hl.1 rfl (lv_room (Nat.le_of_ble_eq_true rfl)) dX0_maskOf_1 ⟨Nat.le_of_ble_eq_true rfl, Nat.le_of_ble_eq_true rfl⟩) (fun E ce q9 H1 hPE hz9 hk9 hc9 hv9 hcl9 => vy_out hout hlocks (⟨hPE.1, cif_f hPE.2⟩) hz9 hk9 hc9 hv9 hcl9 (by decide) (by decide)) (fun h_1 => ?_)
  refine lv_aload_n hx hb dX0_maskOf_4 rfl (lv_at hl 0 rfl) ?_
  have hf13 := hts (.fieldLink RX0 13 "Clockmask" "maskOfPlayer" "[I") (by decide +kernel)
  refine va_get (D := D) (ci := 0) (v := .ref (a 1)) (C := RX0) (T := TX0) (N := 17) hx hb hts hin hown hK hP 0 rfl rfl 1 (by decide) hf13 (fun _ h9 => h9) rfl dX0_maskOf_5 ?_
  refine lv_iload_n hx hb dX0_maskOf_8 rfl (lv_at hl 1 rfl) ?_
  refine va_iald (f := S 1) (n := 6) hx hb hK hP 2 0 rfl rfl (by assumption) dX0_maskOf_9 ?_
  exact vy_ret (W.iret (v := S 1 p.toNatClampNeg) hx hb hr (fun t ht hW => ⟨_, rfl, cif_t h_1, ht⟩) (fun q h => by cases h) dX0_maskOf_10)
set_option maxHeartbeats 4000000 in
set_option maxRecDepth 100000 in
theorem c_X0_points (l : Launch) (hfl : l.stackTraces = false) (D : va_G) (cI cZ : ClassId) (x : Nat) (a : Nat → Nat) (S : ST) (g : Int32) : vy_Met l yX0_points wsX0_points rmX0_points (va_Pc [.ref x, .int g] (fun U => (pR D (tyX cI cZ) (wX cI cZ x a S)) U ∧ pG U)) (vp_Si (fun r => k_points S g = (0, r, S))) (xcs (fun E => E = xIO ∧ k_points S g = (1, 0, S))) 1 6 (fun _ => False) := by
  refine vy_ofW (cc := cX0_points) (maxL := 2) (ret := (some .int)) (by decide) rfl ?_
  intro pr env s mid args below meth cod s₁ Bd hml hout hv
  obtain ⟨rfl, ⟨hP, hK⟩, hG0⟩ := hv
  have hG : xG (fun q => s.heap.size ≤ q) s s.heap := hG0
  have hx := Bd.exec
  have hb := Bd.bytes
  have hr := Bd.returns
  have hts := atoms_spec (ws := wsX0_points) Bd.pre
  have hown : s.vm.findClass RX0 = some mid.cls := findClass_of_methodNamed Bd.named
  have hlocks := Bd.notSynchronized
  have hin : ∀ w ∈ wsX00, w ∈ wsX0_points := fun _ h => List.mem_cons_of_mem _ (List.mem_append_left _ (List.mem_append_right _ h))
  have hl := lv_entry ([.ref x, .int g]) (n := 2) (Nat.le_of_ble_eq_true rfl)
  rw [lg_entry_eq]
  generalize (lg_sl ([.ref x, .int g]) ++ List.replicate (2 - (lg_sl ([.ref x, .int g])).length) Slot.unset).toArray = ls at hl ⊢
  have hl : lv_has ls 2 [(0, .ref x), (1, .int g)] := hl
  refine lv_iload_n hx hb dX0_points_0 rfl (lv_at hl 1 rfl) ?_
  refine vy_csv (vy_runS (As := [.int g]) (rest := []) ⟨hx, hb, hml, hown, hts⟩ (c_X0_requireGuesser l hfl g) (va_cwS 1 hts gX0_points_X0_requireGuesser rfl rfl rfl (by decide +kernel) ⟨Nat.le_of_ble_eq_true rfl, Nat.le_of_ble_eq_true rfl⟩) (pT_S (pN_S) hG (fun _ h => h)) rfl rfl hl.1 rfl (lv_room (Nat.le_of_ble_eq_true rfl)) dX0_points_1 ⟨Nat.le_of_ble_eq_true rfl, Nat.le_of_ble_eq_true rfl⟩) (fun E ce q9 H1 hPE hz9 hk9 hc9 hv9 hcl9 => vy_out hout hlocks (⟨hPE.1, cif_f hPE.2⟩) hz9 hk9 hc9 hv9 hcl9 (by decide) (by decide)) (fun h_1 => ?_)
  refine lv_aload_n hx hb dX0_points_4 rfl (lv_at hl 0 rfl) ?_
  have hf41 := hts (.fieldLink RX0 41 "Clockmask" "pointsOfGuesser" "[I") (by decide +kernel)
  refine va_get (D := D) (ci := 0) (v := .ref (a 12)) (C := RX0) (T := TX0) (N := 17) hx hb hts hin hown hK hP 0 rfl rfl 12 (by decide) hf41 (fun _ h9 => h9) rfl dX0_points_5 ?_
  refine lv_iload_n hx hb dX0_points_8 rfl (lv_at hl 1 rfl) ?_
  refine va_iald (f := S 12) (n := 3) hx hb hK hP 11 0 rfl rfl (by assumption) dX0_points_9 ?_
  exact vy_ret (W.iret (v := S 12 g.toNatClampNeg) hx hb hr (fun t ht hW => ⟨_, rfl, cif_t h_1, ht⟩) (fun q h => by cases h) dX0_points_10)
set_option maxHeartbeats 4000000 in
set_option maxRecDepth 100000 in
theorem c_X0_isOn (l : Launch) (hfl : l.stackTraces = false) (D : va_G) (cI cZ : ClassId) (x : Nat) (a : Nat → Nat) (S : ST) (p : Int32) (B : Nat) (hI : Inv B S) : vy_Met l yX0_isOn wsX0_isOn rmX0_isOn (va_Pc [.ref x, .int p] (fun U => (pR D (tyX cI cZ) (wX cI cZ x a S)) U ∧ pG U)) (vp_Si (fun r => k_isOn S p = (0, r, S))) (xcs (fun E => E = xIO ∧ k_isOn S p = (1, 0, S))) 1 6 (fun _ => False) := by
  refine vy_ofW (cc := cX0_isOn) (maxL := 2) (ret := (some .boolean)) (by decide) rfl ?_
  intro pr env s mid args below meth cod s₁ Bd hml hout hv
  obtain ⟨rfl, ⟨hP, hK⟩, hG0⟩ := hv
  have hG : xG (fun q => s.heap.size ≤ q) s s.heap := hG0
  have hx := Bd.exec
  have hb := Bd.bytes
  have hr := Bd.returns
  have hts := atoms_spec (ws := wsX0_isOn) Bd.pre
  have hown : s.vm.findClass RX0 = some mid.cls := findClass_of_methodNamed Bd.named
  have hlocks := Bd.notSynchronized
  have hin : ∀ w ∈ wsX00, w ∈ wsX0_isOn := fun _ h => List.mem_cons_of_mem _ (List.mem_append_left _ (List.mem_append_right _ h))
  have hl := lv_entry ([.ref x, .int p]) (n := 2) (Nat.le_of_ble_eq_true rfl)
  rw [lg_entry_eq]
  generalize (lg_sl ([.ref x, .int p]) ++ List.replicate (2 - (lg_sl ([.ref x, .int p])).length) Slot.unset).toArray = ls at hl ⊢
  have hl : lv_has ls 2 [(0, .ref x), (1, .int p)] := hl
  refine lv_iload_n hx hb dX0_isOn_0 rfl (lv_at hl 1 rfl) ?_
  refine vy_csv (vy_runS (As := [.int p]) (rest := []) ⟨hx, hb, hml, hown, hts⟩ (c_X0_requirePlayer l hfl p) (va_cwS 1 hts gX0_isOn_X0_requirePlayer rfl rfl rfl (by decide +kernel) ⟨Nat.le_of_ble_eq_true rfl, Nat.le_of_ble_eq_true rfl⟩) (pT_S (pN_S) hG (fun _ h => h)) rfl rfl hl.1 rfl (lv_room (Nat.le_of_ble_eq_true rfl)) dX0_isOn_1 ⟨Nat.le_of_ble_eq_true rfl, Nat.le_of_ble_eq_true rfl⟩) (fun E ce q9 H1 hPE hz9 hk9 hc9 hv9 hcl9 => vy_out hout hlocks (⟨hPE.1, cif_f hPE.2⟩) hz9 hk9 hc9 hv9 hcl9 (by decide) (by decide)) (fun h_1 => ?_)
  refine lv_aload_n hx hb dX0_isOn_4 rfl (lv_at hl 0 rfl) ?_
  have hf16 := hts (.fieldLink RX0 16 "Clockmask" "onStage" "[Z") (by decide +kernel)
  refine va_get (D := D) (ci := 0) (v := .ref (a 2)) (C := RX0) (T := TX0) (N := 17) hx hb hts hin hown hK hP 0 rfl rfl 2 (by decide) hf16 (fun _ h9 => h9) rfl dX0_isOn_5 ?_
  refine lv_iload_n hx hb dX0_isOn_8 rfl (lv_at hl 1 rfl) ?_
  refine va_zald (f := S 2) (n := 6) hx hb hK hP 3 1 rfl rfl (by assumption) dX0_isOn_9 ?_
  exact vy_ret (W.zret (v := S 2 p.toNatClampNeg) (ty := .boolean) hx hb hr (by rcases hI.i2 _ (vin_lt h_1) with h | h <;> rw [h] <;> rfl) (fun t ht hW => ⟨_, rfl, cif_t h_1, ht⟩) (fun q h => by cases h) dX0_isOn_10)
set_option maxHeartbeats 4000000 in
set_option maxRecDepth 100000 in
theorem c_X0_stateOf (l : Launch) (hfl : l.stackTraces = false) (D : va_G) (cI cZ : ClassId) (x : Nat) (a : Nat → Nat) (S : ST) (q : Int32) (B : Nat) (hI : Inv B S) : vy_Met l yX0_stateOf wsX0_stateOf rmX0_stateOf (va_Pc [.ref x, .int q] (fun U => (pR D (tyX cI cZ) (wX cI cZ x a S)) U ∧ pG U)) (vp_Si (fun r => k_stateOf S q = (0, r, S))) (xcs (fun E => E = xIO ∧ k_stateOf S q = (1, 0, S))) 1 6 (fun _ => False) := by
  refine vy_ofW (cc := cX0_stateOf) (maxL := 2) (ret := (some .int)) (by decide) rfl ?_
  intro pr env s mid args below meth cod s₁ Bd hml hout hv
  obtain ⟨rfl, ⟨hP, hK⟩, hG0⟩ := hv
  have hG : xG (fun q => s.heap.size ≤ q) s s.heap := hG0
  have hx := Bd.exec
  have hb := Bd.bytes
  have hr := Bd.returns
  have hts := atoms_spec (ws := wsX0_stateOf) Bd.pre
  have hown : s.vm.findClass RX0 = some mid.cls := findClass_of_methodNamed Bd.named
  have hlocks := Bd.notSynchronized
  have hin : ∀ w ∈ wsX00, w ∈ wsX0_stateOf := fun _ h => List.mem_cons_of_mem _ (List.mem_append_left _ (List.mem_append_right _ h))
  have hl := lv_entry ([.ref x, .int q]) (n := 2) (Nat.le_of_ble_eq_true rfl)
  rw [lg_entry_eq]
  generalize (lg_sl ([.ref x, .int q]) ++ List.replicate (2 - (lg_sl ([.ref x, .int q])).length) Slot.unset).toArray = ls at hl ⊢
  have hl : lv_has ls 2 [(0, .ref x), (1, .int q)] := hl
  refine lv_aload_n hx hb dX0_stateOf_0 rfl (lv_at hl 0 rfl) ?_
  refine lv_iload_n hx hb dX0_stateOf_1 rfl (lv_at hl 1 rfl) ?_
  refine vy_csv (vy_runV (As := [.int q]) (rest := []) ⟨hx, hb, hml, hown, hts⟩ (c_X0_requireCue l hfl D cI cZ x a S q) (cwV 1 hts gX0_stateOf_X0_requireCue rfl rfl rfl (by decide +kernel) ⟨Nat.le_of_ble_eq_true rfl, Nat.le_of_ble_eq_true rfl⟩) (pT_V (pR_V (ci := 0) hP hK rfl rfl) hG (fun _ h => h)) rfl rfl hl.1 rfl (lv_room (Nat.le_of_ble_eq_true rfl)) dX0_stateOf_2 ⟨Nat.le_of_ble_eq_true rfl, Nat.le_of_ble_eq_true rfl⟩) (fun E ce q9 H1 hPE hz9 hk9 hc9 hv9 hcl9 => vy_out hout hlocks (⟨hPE.1, cif_f hPE.2⟩) hz9 hk9 hc9 hv9 hcl9 (by decide) (by decide)) (fun h_2 => ?_)
  refine lv_aload_n hx hb dX0_stateOf_5 rfl (lv_at hl 0 rfl) ?_
  have hf35 := hts (.fieldLink RX0 35 "Clockmask" "cueState" "[I") (by decide +kernel)
  refine va_get (D := D) (ci := 0) (v := .ref (a 8)) (C := RX0) (T := TX0) (N := 17) hx hb hts hin hown hK hP 0 rfl rfl 8 (by decide) hf35 (fun _ h9 => h9) rfl dX0_stateOf_6 ?_
  refine lv_iload_n hx hb dX0_stateOf_9 rfl (lv_at hl 1 rfl) ?_
  refine va_iald (f := S 8) (n := 24) hx hb hK hP 9 0 rfl rfl (hI.q24 h_2) dX0_stateOf_10 ?_
  exact vy_ret (W.iret (v := S 8 q.toNatClampNeg) hx hb hr (fun t ht hW => ⟨_, rfl, cif_t h_2, ht⟩) (fun q h => by cases h) dX0_stateOf_11)
set_option maxHeartbeats 4000000 in
set_option maxRecDepth 100000 in
theorem c_X0_wearerOf (l : Launch) (hfl : l.stackTraces = false) (D : va_G) (cI cZ : ClassId) (x : Nat) (a : Nat → Nat) (S : ST) (m : Int32) : vy_Met l yX0_wearerOf wsX0_wearerOf rmX0_wearerOf (va_Pc [.ref x, .int m] (fun U => (pR D (tyX cI cZ) (wX cI cZ x a S)) U ∧ pG U)) (vp_Si (fun r => k_wearerOf S m = (0, r, S))) (xcs (fun E => E = xIO ∧ k_wearerOf S m = (1, 0, S))) 1 6 (fun _ => False) := by
  refine vy_ofW (cc := cX0_wearerOf) (maxL := 2) (ret := (some .int)) (by decide) rfl ?_
  intro pr env s mid args below meth cod s₁ Bd hml hout hv
  obtain ⟨rfl, ⟨hP, hK⟩, hG0⟩ := hv
  have hG : xG (fun q => s.heap.size ≤ q) s s.heap := hG0
  have hx := Bd.exec
  have hb := Bd.bytes
  have hr := Bd.returns
  have hts := atoms_spec (ws := wsX0_wearerOf) Bd.pre
  have hown : s.vm.findClass RX0 = some mid.cls := findClass_of_methodNamed Bd.named
  have hlocks := Bd.notSynchronized
  have hin : ∀ w ∈ wsX00, w ∈ wsX0_wearerOf := fun _ h => List.mem_cons_of_mem _ (List.mem_append_left _ (List.mem_append_right _ h))
  have hl := lv_entry ([.ref x, .int m]) (n := 2) (Nat.le_of_ble_eq_true rfl)
  rw [lg_entry_eq]
  generalize (lg_sl ([.ref x, .int m]) ++ List.replicate (2 - (lg_sl ([.ref x, .int m])).length) Slot.unset).toArray = ls at hl ⊢
  have hl : lv_has ls 2 [(0, .ref x), (1, .int m)] := hl
  refine lv_iload_n hx hb dX0_wearerOf_0 rfl (lv_at hl 1 rfl) ?_
  refine vy_csv (vy_runS (As := [.int m]) (rest := []) ⟨hx, hb, hml, hown, hts⟩ (c_X0_requireMask l hfl m) (va_cwS 1 hts gX0_wearerOf_X0_requireMask rfl rfl rfl (by decide +kernel) ⟨Nat.le_of_ble_eq_true rfl, Nat.le_of_ble_eq_true rfl⟩) (pT_S (pN_S) hG (fun _ h => h)) rfl rfl hl.1 rfl (lv_room (Nat.le_of_ble_eq_true rfl)) dX0_wearerOf_1 ⟨Nat.le_of_ble_eq_true rfl, Nat.le_of_ble_eq_true rfl⟩) (fun E ce q9 H1 hPE hz9 hk9 hc9 hv9 hcl9 => vy_out hout hlocks (⟨hPE.1, cif_f hPE.2⟩) hz9 hk9 hc9 hv9 hcl9 (by decide) (by decide)) (fun h_1 => ?_)
  refine lv_aload_n hx hb dX0_wearerOf_4 rfl (lv_at hl 0 rfl) ?_
  refine lv_iload_n hx hb dX0_wearerOf_5 rfl (lv_at hl 1 rfl) ?_
  refine vp_callSi (W.runV (As := [.int m]) (rest := []) ⟨hx, hb, hml, hown, hts⟩ (c_X0_playerBehind l D cI cZ x a S m) (cwV 1 hts gX0_wearerOf_X0_playerBehind rfl rfl rfl (by decide +kernel) ⟨Nat.le_of_ble_eq_true rfl, Nat.le_of_ble_eq_true rfl⟩) (pR_V (ci := 0) hP hK rfl rfl) rfl rfl hl.1 rfl (lv_room (Nat.le_of_ble_eq_true rfl)) dX0_wearerOf_6 ⟨Nat.zero_le _, Nat.zero_le _⟩) (fun r_6 h_6 => ?_)
  subst h_6
  exact vy_ret (W.iret (v := fI (S 1) m) hx hb hr (fun t ht hW => ⟨_, rfl, cif_t h_1, ht⟩) (fun q h => by cases h) dX0_wearerOf_9)
set_option maxHeartbeats 4000000 in
set_option maxRecDepth 100000 in
theorem c_X0_canCall (l : Launch) (hfl : l.stackTraces = false) (D : va_G) (cI cZ : ClassId) (x : Nat) (a : Nat → Nat) (S : ST) (q : Int32) (B : Nat) (hI : Inv B S) : vy_Met l yX0_canCall wsX0_canCall rmX0_canCall (va_Pc [.ref x, .int q] (fun U => (pR D (tyX cI cZ) (wX cI cZ x a S)) U ∧ pG U)) (vp_Si (fun r => k_canCall S q = (0, r, S))) (xcs (fun E => E = xIO ∧ k_canCall S q = (1, 0, S))) 1 6 (fun _ => False) := by
  refine vy_ofW (cc := cX0_canCall) (maxL := 2) (ret := (some .boolean)) (by decide) rfl ?_
  intro pr env s mid args below meth cod s₁ Bd hml hout hv
  obtain ⟨rfl, ⟨hP, hK⟩, hG0⟩ := hv
  have hG : xG (fun q => s.heap.size ≤ q) s s.heap := hG0
  have hx := Bd.exec
  have hb := Bd.bytes
  have hr := Bd.returns
  have hts := atoms_spec (ws := wsX0_canCall) Bd.pre
  have hown : s.vm.findClass RX0 = some mid.cls := findClass_of_methodNamed Bd.named
  have hlocks := Bd.notSynchronized
  have hin : ∀ w ∈ wsX00, w ∈ wsX0_canCall := fun _ h => List.mem_cons_of_mem _ (List.mem_append_left _ (List.mem_append_right _ h))
  have hl := lv_entry ([.ref x, .int q]) (n := 2) (Nat.le_of_ble_eq_true rfl)
  rw [lg_entry_eq]
  generalize (lg_sl ([.ref x, .int q]) ++ List.replicate (2 - (lg_sl ([.ref x, .int q])).length) Slot.unset).toArray = ls at hl ⊢
  have hl : lv_has ls 2 [(0, .ref x), (1, .int q)] := hl
  refine lv_aload_n hx hb dX0_canCall_0 rfl (lv_at hl 0 rfl) ?_
  refine lv_iload_n hx hb dX0_canCall_1 rfl (lv_at hl 1 rfl) ?_
  refine vy_csv (vy_runV (As := [.int q]) (rest := []) ⟨hx, hb, hml, hown, hts⟩ (c_X0_requireCue l hfl D cI cZ x a S q) (cwV 1 hts gX0_canCall_X0_requireCue rfl rfl rfl (by decide +kernel) ⟨Nat.le_of_ble_eq_true rfl, Nat.le_of_ble_eq_true rfl⟩) (pT_V (pR_V (ci := 0) hP hK rfl rfl) hG (fun _ h => h)) rfl rfl hl.1 rfl (lv_room (Nat.le_of_ble_eq_true rfl)) dX0_canCall_2 ⟨Nat.le_of_ble_eq_true rfl, Nat.le_of_ble_eq_true rfl⟩) (fun E ce q9 H1 hPE hz9 hk9 hc9 hv9 hcl9 => vy_out hout hlocks (⟨hPE.1, cif_f hPE.2⟩) hz9 hk9 hc9 hv9 hcl9 (by decide) (by decide)) (fun h_2 => ?_)
  refine lv_aload_n hx hb dX0_canCall_5 rfl (lv_at hl 0 rfl) ?_
  refine lv_iload_n hx hb dX0_canCall_6 rfl (lv_at hl 1 rfl) ?_
  refine vp_callSi (W.runV (As := [.int q]) (rest := []) ⟨hx, hb, hml, hown, hts⟩ (c_X0_isCallable l D cI cZ x a S q (hI.q24 h_2) (hI.cueq h_2)) (cwV 1 hts gX0_canCall_X0_isCallable rfl rfl rfl (by decide +kernel) ⟨Nat.le_of_ble_eq_true rfl, Nat.le_of_ble_eq_true rfl⟩) (pR_V (ci := 0) hP hK rfl rfl) rfl rfl hl.1 rfl (lv_room (Nat.le_of_ble_eq_true rfl)) dX0_canCall_7 ⟨Nat.zero_le _, Nat.zero_le _⟩) (fun r_7 h_7 => ?_)
  exact vy_ret (W.zret (v := r_7) (ty := .boolean) hx hb hr (by rw [h_7]; exact cif_nar) (fun t ht hW => ⟨_, rfl, by rw [h_7]; exact cif_t h_2, ht⟩) (fun q h => by cases h) dX0_canCall_10)
set_option maxHeartbeats 4000000 in
set_option maxRecDepth 100000 in
theorem c_X0_purse (l : Launch) (D : va_G) (cI cZ : ClassId) (x : Nat) (a : Nat → Nat) (S : ST) : Met l yX0_purse wsX0_purse rmX0_purse (va_Pc [.ref x] (pR D (tyX cI cZ) (wX cI cZ x a S))) (vp_Si (fun r => r = S 14 0)) 0 0 (fun _ => False) := by
  refine Met.ofW (cc := cX0_purse) (maxL := 1) (ret := (some .int)) (by decide) rfl ?_
  intro pr env s mid args below meth cod s₁ Bd hml hv
  obtain ⟨rfl, hP, hK⟩ := hv
  have hx := Bd.exec
  have hb := Bd.bytes
  have hr := Bd.returns
  have hts := atoms_spec (ws := wsX0_purse) Bd.pre
  have hown : s.vm.findClass RX0 = some mid.cls := findClass_of_methodNamed Bd.named
  have hlocks := Bd.notSynchronized
  have hin : ∀ w ∈ wsX00, w ∈ wsX0_purse := fun _ h => List.mem_cons_of_mem _ (List.mem_append_right _ h)
  have hl := lv_entry ([.ref x]) (n := 1) (Nat.le_of_ble_eq_true rfl)
  rw [lg_entry_eq]
  generalize (lg_sl ([.ref x]) ++ List.replicate (1 - (lg_sl ([.ref x])).length) Slot.unset).toArray = ls at hl ⊢
  have hl : lv_has ls 1 [(0, .ref x)] := hl
  refine lv_aload_n hx hb dX0_purse_0 rfl (lv_at hl 0 rfl) ?_
  have hf47 := hts (.fieldLink RX0 47 "Clockmask" "purse" "I") (by decide +kernel)
  refine va_get (D := D) (ci := 0) (v := .int (S 14 0)) (C := RX0) (T := TX0) (N := 17) hx hb hts hin hown hK hP 0 rfl rfl 14 (by decide) hf47 (fun _ h9 => h9) rfl dX0_purse_1 ?_
  exact W.iret (v := S 14 0) hx hb hr (fun t ht hW => ⟨_, rfl, rfl, ht⟩) (fun q h => by cases h) dX0_purse_4
set_option maxHeartbeats 4000000 in
set_option maxRecDepth 100000 in
theorem c_X0_cues (l : Launch) (D : va_G) (cI cZ : ClassId) (x : Nat) (a : Nat → Nat) (S : ST) : Met l yX0_cues wsX0_cues rmX0_cues (va_Pc [.ref x] (pR D (tyX cI cZ) (wX cI cZ x a S))) (vp_Si (fun r => r = S 10 0)) 0 0 (fun _ => False) := by
  refine Met.ofW (cc := cX0_cues) (maxL := 1) (ret := (some .int)) (by decide) rfl ?_
  intro pr env s mid args below meth cod s₁ Bd hml hv
  obtain ⟨rfl, hP, hK⟩ := hv
  have hx := Bd.exec
  have hb := Bd.bytes
  have hr := Bd.returns
  have hts := atoms_spec (ws := wsX0_cues) Bd.pre
  have hown : s.vm.findClass RX0 = some mid.cls := findClass_of_methodNamed Bd.named
  have hlocks := Bd.notSynchronized
  have hin : ∀ w ∈ wsX00, w ∈ wsX0_cues := fun _ h => List.mem_cons_of_mem _ (List.mem_append_right _ h)
  have hl := lv_entry ([.ref x]) (n := 1) (Nat.le_of_ble_eq_true rfl)
  rw [lg_entry_eq]
  generalize (lg_sl ([.ref x]) ++ List.replicate (1 - (lg_sl ([.ref x])).length) Slot.unset).toArray = ls at hl ⊢
  have hl : lv_has ls 1 [(0, .ref x)] := hl
  refine lv_aload_n hx hb dX0_cues_0 rfl (lv_at hl 0 rfl) ?_
  have hf104 := hts (.fieldLink RX0 104 "Clockmask" "cueCount" "I") (by decide +kernel)
  refine va_get (D := D) (ci := 0) (v := .int (S 10 0)) (C := RX0) (T := TX0) (N := 17) hx hb hts hin hown hK hP 0 rfl rfl 10 (by decide) hf104 (fun _ h9 => h9) rfl dX0_cues_1 ?_
  exact W.iret (v := S 10 0) hx hb hr (fun t ht hW => ⟨_, rfl, rfl, ht⟩) (fun q h => by cases h) dX0_cues_4
set_option maxHeartbeats 4000000 in
set_option maxRecDepth 100000 in
theorem c_X0_plays (l : Launch) (D : va_G) (cI cZ : ClassId) (x : Nat) (a : Nat → Nat) (S : ST) : Met l yX0_plays wsX0_plays rmX0_plays (va_Pc [.ref x] (pR D (tyX cI cZ) (wX cI cZ x a S))) (vp_Si (fun r => r = S 15 0)) 0 0 (fun _ => False) := by
  refine Met.ofW (cc := cX0_plays) (maxL := 1) (ret := (some .int)) (by decide) rfl ?_
  intro pr env s mid args below meth cod s₁ Bd hml hv
  obtain ⟨rfl, hP, hK⟩ := hv
  have hx := Bd.exec
  have hb := Bd.bytes
  have hr := Bd.returns
  have hts := atoms_spec (ws := wsX0_plays) Bd.pre
  have hown : s.vm.findClass RX0 = some mid.cls := findClass_of_methodNamed Bd.named
  have hlocks := Bd.notSynchronized
  have hin : ∀ w ∈ wsX00, w ∈ wsX0_plays := fun _ h => List.mem_cons_of_mem _ (List.mem_append_right _ h)
  have hl := lv_entry ([.ref x]) (n := 1) (Nat.le_of_ble_eq_true rfl)
  rw [lg_entry_eq]
  generalize (lg_sl ([.ref x]) ++ List.replicate (1 - (lg_sl ([.ref x])).length) Slot.unset).toArray = ls at hl ⊢
  have hl : lv_has ls 1 [(0, .ref x)] := hl
  refine lv_aload_n hx hb dX0_plays_0 rfl (lv_at hl 0 rfl) ?_
  have hf162 := hts (.fieldLink RX0 162 "Clockmask" "endedPlays" "I") (by decide +kernel)
  refine va_get (D := D) (ci := 0) (v := .int (S 15 0)) (C := RX0) (T := TX0) (N := 17) hx hb hts hin hown hK hP 0 rfl rfl 15 (by decide) hf162 (fun _ h9 => h9) rfl dX0_plays_1 ?_
  exact W.iret (v := S 15 0) hx hb hr (fun t ht hW => ⟨_, rfl, rfl, ht⟩) (fun q h => by cases h) dX0_plays_4
set_option maxHeartbeats 4000000 in
set_option maxRecDepth 100000 in
theorem c_X0_dress (l : Launch) (hfl : l.stackTraces = false) (D : va_G) (cI cZ : ClassId) (x : Nat) (a : Nat → Nat) (S : ST) (sz : Nat) (p : Int32) (c : Int32) : vy_Met l yX0_dress wsX0_dress rmX0_dress (va_Pc [.ref x, .int p, .int c] (fun U => (pW D (tyX cI cZ) (wX cI cZ x a S) sz) U ∧ pG U)) (va_Qi (fun (r : Int32) (u : ST) => k_dress S p c = (0, r, u)) (fun (u : ST) t => atW D (wX cI cZ x a u) (va_A (wX cI cZ x a S) sz) t) (va_A (wX cI cZ x a S) sz)) (xcs (fun E => (E = xIO ∧ k_dress S p c = (1, 0, S)) ∨ (E = xIA ∧ k_dress S p c = (2, 0, S)) ∨ (E = xIS ∧ k_dress S p c = (3, 0, S)))) 1 6 (va_A (wX cI cZ x a S) sz) := by
  refine vy_ofW (cc := cX0_dress) (maxL := 5) (ret := (some .int)) (by decide) rfl ?_
  intro pr env s mid args below meth cod s₁ Bd hml hout hv
  obtain ⟨rfl, ⟨hsz, hP, hK, hD0⟩, hG0⟩ := hv
  have hG : xG (fun q => s.heap.size ≤ q) s s.heap := hG0
  have hx := Bd.exec
  have hb := Bd.bytes
  have hr := Bd.returns
  have hts := atoms_spec (ws := wsX0_dress) Bd.pre
  have hown : s.vm.findClass RX0 = some mid.cls := findClass_of_methodNamed Bd.named
  have hlocks := Bd.notSynchronized
  have hin : ∀ w ∈ wsX00, w ∈ wsX0_dress := fun _ h => List.mem_cons_of_mem _ (List.mem_append_left _ (List.mem_append_left _ (List.mem_append_left _ (List.mem_append_right _ h))))
  subst hsz
  have hD := hD0.self (sz := s.heap.size)
  generalize hAe : va_A (wX cI cZ x a S) s.heap.size = A at hD ⊢
  have hA : ∀ q : Nat, s.heap.size ≤ q → A q := fun q h => by rw [← hAe]; exact Or.inr h
  have hS : va_S A s.heap s.heap [] := va_S.rf
  have hP : va_P D vwCl (wX cI cZ x a S) s.heap := hP
  have hD : va_D A (wX cI cZ x a S) := hD
  have hl := lv_entry ([.ref x, .int p, .int c]) (n := 5) (Nat.le_of_ble_eq_true rfl)
  rw [lg_entry_eq]
  generalize (lg_sl ([.ref x, .int p, .int c]) ++ List.replicate (5 - (lg_sl ([.ref x, .int p, .int c])).length) Slot.unset).toArray = ls at hl ⊢
  have hl : lv_has ls 5 [(0, .ref x), (1, .int p), (2, .int c)] := hl
  refine lv_iload_n hx hb dX0_dress_0 rfl (lv_at hl 1 rfl) ?_
  refine vy_csv (vy_runS (As := [.int p]) (rest := []) ⟨hx, hb, hml, hown, hts⟩ (c_X0_requirePlayer l hfl p) (va_cwS 1 hts gX0_dress_X0_requirePlayer rfl rfl rfl (by decide +kernel) ⟨Nat.le_of_ble_eq_true rfl, Nat.le_of_ble_eq_true rfl⟩) (pT_S (pN_S) hG (fun _ h => h)) rfl rfl hl.1 rfl (lv_room (Nat.le_of_ble_eq_true rfl)) dX0_dress_1 ⟨Nat.le_of_ble_eq_true rfl, Nat.le_of_ble_eq_true rfl⟩) (fun E ce q9 H1 hPE hz9 hk9 hc9 hv9 hcl9 => vy_out hout hlocks (Or.inl ⟨hPE.1, cif_f (fun h => hPE.2 h.1)⟩) hz9 hk9 hc9 hv9 hcl9 (by decide) (by decide)) (fun h_1 => ?_)
  refine lv_iload_n hx hb dX0_dress_4 rfl (lv_at hl 2 rfl) ?_
  refine vy_csv (vy_runS (As := [.int c]) (rest := []) ⟨hx, hb, hml, hown, hts⟩ (c_X0_requireCostume l hfl c) (va_cwS 1 hts gX0_dress_X0_requireCostume rfl rfl rfl (by decide +kernel) ⟨Nat.le_of_ble_eq_true rfl, Nat.le_of_ble_eq_true rfl⟩) (pT_S (pN_S) hG (fun _ h => h)) rfl rfl hl.1 rfl (lv_room (Nat.le_of_ble_eq_true rfl)) dX0_dress_5 ⟨Nat.le_of_ble_eq_true rfl, Nat.le_of_ble_eq_true rfl⟩) (fun E ce q9 H1 hPE hz9 hk9 hc9 hv9 hcl9 => vy_out hout hlocks (Or.inl ⟨hPE.1, cif_f (fun h => hPE.2 h.2)⟩) hz9 hk9 hc9 hv9 hcl9 (by decide) (by decide)) (fun h_5 => ?_)
  refine lv_iload_n hx hb dX0_dress_8 rfl (lv_at hl 2 rfl) ?_
  refine lv_iload_n hx hb dX0_dress_9 rfl (lv_at hl 1 rfl) ?_
  refine vp_callSi (W.runS (As := [.int c, .int p]) (rest := []) ⟨hx, hb, hml, hown, hts⟩ (c_X0_fits l c p h_5 h_1) (va_cwS 2 hts gX0_dress_X0_fits rfl rfl rfl (by decide +kernel) ⟨Nat.le_of_ble_eq_true rfl, Nat.le_of_ble_eq_true rfl⟩) (pN_S) rfl rfl hl.1 rfl (lv_room (Nat.le_of_ble_eq_true rfl)) dX0_dress_10 ⟨Nat.zero_le _, Nat.zero_le _⟩) (fun r_10 h_10 => ?_)
  refine lv_if_ne (tgt := 26) hx hb dX0_dress_13 (by decide) (fun c_13 => ?_) (fun c_13 => ?_)
  · skip
    have b_10 := cif_b1 h_10 c_13
    refine lv_aload_n hx hb dX0_dress_26 rfl (lv_at hl 0 rfl) ?_
    have hf16 := hts (.fieldLink RX0 16 "Clockmask" "onStage" "[Z") (by decide +kernel)
    refine va_get (D := D) (ci := 0) (v := .ref (a 2)) (C := RX0) (T := TX0) (N := 17) hx hb hts hin hown hK hP 0 rfl rfl 2 (by decide) hf16 (fun _ h9 => h9) rfl dX0_dress_27 ?_
    refine lv_iload_n hx hb dX0_dress_30 rfl (lv_at hl 1 rfl) ?_
    refine va_zald (f := S 2) (n := 6) hx hb hK hP 3 1 rfl rfl (by assumption) dX0_dress_31 ?_
    refine lv_if_eq (tgt := 45) hx hb dX0_dress_32 (by decide) (fun c_32 => ?_) (fun c_32 => ?_)
    · skip
      refine lv_aload_n hx hb dX0_dress_45 rfl (lv_at hl 0 rfl) ?_
      refine lv_iload_n hx hb dX0_dress_46 rfl (lv_at hl 2 rfl) ?_
      refine vp_callSi (W.runV (As := [.int c]) (rest := []) ⟨hx, hb, hml, hown, hts⟩ (c_X0_playerIn l D cI cZ x a S c) (cwV 1 hts gX0_dress_X0_playerIn rfl rfl rfl (by decide +kernel) ⟨Nat.le_of_ble_eq_true rfl, Nat.le_of_ble_eq_true rfl⟩) (pR_V (ci := 0) hP hK rfl rfl) rfl rfl hl.1 rfl (lv_room (Nat.le_of_ble_eq_true rfl)) dX0_dress_47 ⟨Nat.zero_le _, Nat.zero_le _⟩) (fun r_47 h_47 => ?_)
      subst h_47
      refine lv_istore_n (lv' := [(3, .int (fI (S 0) c)), (0, .ref x), (1, .int p), (2, .int c)]) hx hb dX0_dress_50 rfl hl (by decide) rfl (fun ls hl => ?_)
      refine lv_iload_n hx hb dX0_dress_51 rfl (lv_at hl 0 rfl) ?_
      refine lv_iconst (v := (-1)) hx hb dX0_dress_52 (by decide) ?_
      refine lv_icmp_eq (tgt := 71) hx hb dX0_dress_53 (by decide) (fun c_53 => ?_) (fun c_53 => ?_)
      · skip
        have hf : fI (S 0) c = -1 ∨ fI (S 0) c = p := Or.inl c_53
        refine lv_aload_n hx hb dX0_dress_71 rfl (lv_at hl 1 rfl) ?_
        have hf20 := hts (.fieldLink RX0 20 "Clockmask" "wearOfCostume" "[I") (by decide +kernel)
        refine va_get (D := D) (ci := 0) (v := .ref (a 3)) (C := RX0) (T := TX0) (N := 17) hx hb hts hin hown hK hP 0 rfl rfl 3 (by decide) hf20 (fun _ h9 => h9) rfl dX0_dress_72 ?_
        refine lv_iload_n hx hb dX0_dress_75 rfl (lv_at hl 3 rfl) ?_
        refine va_iald (f := S 3) (n := 8) hx hb hK hP 4 0 rfl rfl (by assumption) dX0_dress_76 ?_
        refine lv_iconst (v := 3) hx hb dX0_dress_77 (by decide) ?_
        refine lv_icmp_lt (tgt := 91) hx hb dX0_dress_78 (by decide) (fun c_78 => ?_) (fun c_78 => ?_)
        · skip
          refine lv_aload_n hx hb dX0_dress_91 rfl (lv_at hl 1 rfl) ?_
          have hf9 := hts (.fieldLink RX0 9 "Clockmask" "costumeOfPlayer" "[I") (by decide +kernel)
          refine va_get (D := D) (ci := 0) (v := .ref (a 0)) (C := RX0) (T := TX0) (N := 17) hx hb hts hin hown hK hP 0 rfl rfl 0 (by decide) hf9 (fun _ h9 => h9) rfl dX0_dress_92 ?_
          refine lv_iload_n hx hb dX0_dress_95 rfl (lv_at hl 2 rfl) ?_
          refine va_iald (f := S 0) (n := 6) hx hb hK hP 1 0 rfl rfl (by assumption) dX0_dress_96 ?_
          refine lv_istore (lv' := [(4, .int (S 0 p.toNatClampNeg)), (3, .int (fI (S 0) c)), (0, .ref x), (1, .int p), (2, .int c)]) hx hb dX0_dress_97 hl (by decide) rfl (fun ls hl => ?_)
          refine lv_aload_n hx hb dX0_dress_99 rfl (lv_at hl 2 rfl) ?_
          refine va_get (D := D) (ci := 0) (v := .ref (a 0)) (C := RX0) (T := TX0) (N := 17) hx hb hts hin hown hK hP 0 rfl rfl 0 (by decide) hf9 (fun _ h9 => h9) rfl dX0_dress_100 ?_
          refine lv_iload_n hx hb dX0_dress_103 rfl (lv_at hl 3 rfl) ?_
          refine lv_iload_n hx hb dX0_dress_104 rfl (lv_at hl 4 rfl) ?_
          refine va_iast (f := S 0) (n := 6) hx hb hK hP hD hS 1 0 rfl rfl (by assumption) dX0_dress_105 (fun H locs hP hD hS => ?_)
          have hP : va_P D vwCl (wXr cI cZ x a (upd (S 0) p.toNatClampNeg c) (S 1) (S 2) (S 3) (S 4) (S 5) (S 6) (S 7) (S 8) (S 9) (S 10 0) (S 11 0) (S 12) (S 13) (S 14 0) (S 15 0) (S 16)) H := hP
          have hD : va_D A (wXr cI cZ x a (upd (S 0) p.toNatClampNeg c) (S 1) (S 2) (S 3) (S 4) (S 5) (S 6) (S 7) (S 8) (S 9) (S 10 0) (S 11 0) (S 12) (S 13) (S 14 0) (S 15 0) (S 16)) := hD
          refine lv_iload hx hb dX0_dress_106 (lv_at hl 0 rfl) ?_
          exact vy_ret (W.iret (v := S 0 p.toNatClampNeg) hx hb hr (fun t ht hW => ⟨⟨_, row S 0 (upd (S 0) p.toNatClampNeg c), rfl, (cif_t ⟨h_1, h_5⟩).trans ((cif_t b_10).trans (cif_t ⟨c_32, hf, c_78⟩)), by rw [ht]; exact hP, hD⟩, hS.F ht⟩) hS.2.2 dX0_dress_108)
        · skip
          exact x_throwS (text := "the costume is torn") hx hb hfl hown (by decide) (hts (.classLink RX0 78 xIS) (by decide +kernel)) (hts (.initialized xIS) (by decide +kernel)) (fun w h => hts w (List.mem_cons_of_mem _ (List.mem_append_left _ (List.mem_append_right _ h)))) xIS_b xIS_g hG (by decide) (hl.1.trans hml.symm) dX0_dress_81 dX0_dress_84 dX0_dress_85 dX0_dress_87 dX0_dress_90 hout ⟨by decide, by decide, by decide, by decide⟩ hlocks (Or.inr (Or.inr ⟨rfl, (cif_t ⟨h_1, h_5⟩).trans ((cif_t b_10).trans (cif_f (fun h => c_78 h.2.2)))⟩))
      · skip
        refine lv_iload_n hx hb dX0_dress_56 rfl (lv_at hl 0 rfl) ?_
        refine lv_iload_n hx hb dX0_dress_57 rfl (lv_at hl 2 rfl) ?_
        refine lv_icmp_eq (tgt := 71) hx hb dX0_dress_58 (by decide) (fun c_58 => ?_) (fun c_58 => ?_)
        · skip
          have hf : fI (S 0) c = -1 ∨ fI (S 0) c = p := Or.inr c_58
          refine lv_aload_n hx hb dX0_dress_71 rfl (lv_at hl 1 rfl) ?_
          have hf20 := hts (.fieldLink RX0 20 "Clockmask" "wearOfCostume" "[I") (by decide +kernel)
          refine va_get (D := D) (ci := 0) (v := .ref (a 3)) (C := RX0) (T := TX0) (N := 17) hx hb hts hin hown hK hP 0 rfl rfl 3 (by decide) hf20 (fun _ h9 => h9) rfl dX0_dress_72 ?_
          refine lv_iload_n hx hb dX0_dress_75 rfl (lv_at hl 3 rfl) ?_
          refine va_iald (f := S 3) (n := 8) hx hb hK hP 4 0 rfl rfl (by assumption) dX0_dress_76 ?_
          refine lv_iconst (v := 3) hx hb dX0_dress_77 (by decide) ?_
          refine lv_icmp_lt (tgt := 91) hx hb dX0_dress_78 (by decide) (fun c_78 => ?_) (fun c_78 => ?_)
          · skip
            refine lv_aload_n hx hb dX0_dress_91 rfl (lv_at hl 1 rfl) ?_
            have hf9 := hts (.fieldLink RX0 9 "Clockmask" "costumeOfPlayer" "[I") (by decide +kernel)
            refine va_get (D := D) (ci := 0) (v := .ref (a 0)) (C := RX0) (T := TX0) (N := 17) hx hb hts hin hown hK hP 0 rfl rfl 0 (by decide) hf9 (fun _ h9 => h9) rfl dX0_dress_92 ?_
            refine lv_iload_n hx hb dX0_dress_95 rfl (lv_at hl 2 rfl) ?_
            refine va_iald (f := S 0) (n := 6) hx hb hK hP 1 0 rfl rfl (by assumption) dX0_dress_96 ?_
            refine lv_istore (lv' := [(4, .int (S 0 p.toNatClampNeg)), (3, .int (fI (S 0) c)), (0, .ref x), (1, .int p), (2, .int c)]) hx hb dX0_dress_97 hl (by decide) rfl (fun ls hl => ?_)
            refine lv_aload_n hx hb dX0_dress_99 rfl (lv_at hl 2 rfl) ?_
            refine va_get (D := D) (ci := 0) (v := .ref (a 0)) (C := RX0) (T := TX0) (N := 17) hx hb hts hin hown hK hP 0 rfl rfl 0 (by decide) hf9 (fun _ h9 => h9) rfl dX0_dress_100 ?_
            refine lv_iload_n hx hb dX0_dress_103 rfl (lv_at hl 3 rfl) ?_
            refine lv_iload_n hx hb dX0_dress_104 rfl (lv_at hl 4 rfl) ?_
            refine va_iast (f := S 0) (n := 6) hx hb hK hP hD hS 1 0 rfl rfl (by assumption) dX0_dress_105 (fun H locs hP hD hS => ?_)
            have hP : va_P D vwCl (wXr cI cZ x a (upd (S 0) p.toNatClampNeg c) (S 1) (S 2) (S 3) (S 4) (S 5) (S 6) (S 7) (S 8) (S 9) (S 10 0) (S 11 0) (S 12) (S 13) (S 14 0) (S 15 0) (S 16)) H := hP
            have hD : va_D A (wXr cI cZ x a (upd (S 0) p.toNatClampNeg c) (S 1) (S 2) (S 3) (S 4) (S 5) (S 6) (S 7) (S 8) (S 9) (S 10 0) (S 11 0) (S 12) (S 13) (S 14 0) (S 15 0) (S 16)) := hD
            refine lv_iload hx hb dX0_dress_106 (lv_at hl 0 rfl) ?_
            exact vy_ret (W.iret (v := S 0 p.toNatClampNeg) hx hb hr (fun t ht hW => ⟨⟨_, row S 0 (upd (S 0) p.toNatClampNeg c), rfl, (cif_t ⟨h_1, h_5⟩).trans ((cif_t b_10).trans (cif_t ⟨c_32, hf, c_78⟩)), by rw [ht]; exact hP, hD⟩, hS.F ht⟩) hS.2.2 dX0_dress_108)
          · skip
            exact x_throwS (text := "the costume is torn") hx hb hfl hown (by decide) (hts (.classLink RX0 78 xIS) (by decide +kernel)) (hts (.initialized xIS) (by decide +kernel)) (fun w h => hts w (List.mem_cons_of_mem _ (List.mem_append_left _ (List.mem_append_right _ h)))) xIS_b xIS_g hG (by decide) (hl.1.trans hml.symm) dX0_dress_81 dX0_dress_84 dX0_dress_85 dX0_dress_87 dX0_dress_90 hout ⟨by decide, by decide, by decide, by decide⟩ hlocks (Or.inr (Or.inr ⟨rfl, (cif_t ⟨h_1, h_5⟩).trans ((cif_t b_10).trans (cif_f (fun h => c_78 h.2.2)))⟩))
        · skip
          exact x_throwS (text := "the costume is on another player") hx hb hfl hown (by decide) (hts (.classLink RX0 78 xIS) (by decide +kernel)) (hts (.initialized xIS) (by decide +kernel)) (fun w h => hts w (List.mem_cons_of_mem _ (List.mem_append_left _ (List.mem_append_right _ h)))) xIS_b xIS_g hG (by decide) (hl.1.trans hml.symm) dX0_dress_61 dX0_dress_64 dX0_dress_65 dX0_dress_67 dX0_dress_70 hout ⟨by decide, by decide, by decide, by decide⟩ hlocks (Or.inr (Or.inr ⟨rfl, (cif_t ⟨h_1, h_5⟩).trans ((cif_t b_10).trans (cif_f (fun h => h.2.1.elim c_53 c_58)))⟩))
    · skip
      exact x_throwS (text := "the player is on stage") hx hb hfl hown (by decide) (hts (.classLink RX0 78 xIS) (by decide +kernel)) (hts (.initialized xIS) (by decide +kernel)) (fun w h => hts w (List.mem_cons_of_mem _ (List.mem_append_left _ (List.mem_append_right _ h)))) xIS_b xIS_g hG (by decide) (hl.1.trans hml.symm) dX0_dress_35 dX0_dress_38 dX0_dress_39 dX0_dress_41 dX0_dress_44 hout ⟨by decide, by decide, by decide, by decide⟩ hlocks (Or.inr (Or.inr ⟨rfl, (cif_t ⟨h_1, h_5⟩).trans ((cif_t b_10).trans (cif_f (fun h => c_32 h.1)))⟩))
  · skip
    have b_10 := cif_b0 h_10 c_13
    exact x_throwS (text := "the costume does not fit") hx hb hfl hown (by decide) (hts (.classLink RX0 71 xIA) (by decide +kernel)) (hts (.initialized xIA) (by decide +kernel)) (fun w h => hts w (List.mem_cons_of_mem _ (List.mem_append_left _ (List.mem_append_left _ (List.mem_append_right _ h))))) xIA_b xIA_g hG (by decide) (hl.1.trans hml.symm) dX0_dress_16 dX0_dress_19 dX0_dress_20 dX0_dress_22 dX0_dress_25 hout ⟨by decide, by decide, by decide, by decide⟩ hlocks (Or.inr (Or.inl ⟨rfl, (cif_t ⟨h_1, h_5⟩).trans (cif_f b_10)⟩))
set_option maxHeartbeats 4000000 in
set_option maxRecDepth 100000 in
theorem c_X0_addCue (l : Launch) (hfl : l.stackTraces = false) (D : va_G) (cI cZ : ClassId) (x : Nat) (a : Nat → Nat) (S : ST) (sz : Nat) (k : Int32) (p : Int32) (o : Int32) (w : Int32) (B : Nat) (hI : Inv B S) : vy_Met l yX0_addCue wsX0_addCue rmX0_addCue (va_Pc [.ref x, .int k, .int p, .int o, .int w] (fun U => (pW D (tyX cI cZ) (wX cI cZ x a S) sz) U ∧ pG U)) (va_Qi (fun (r : Int32) (u : ST) => k_addCue S k p o w = (0, r, u)) (fun (u : ST) t => atW D (wX cI cZ x a u) (va_A (wX cI cZ x a S) sz) t) (va_A (wX cI cZ x a S) sz)) (xcs (fun E => (E = xIA ∧ k_addCue S k p o w = (1, 0, S)) ∨ (E = xIO ∧ k_addCue S k p o w = (2, 0, S)) ∨ (E = xIS ∧ k_addCue S k p o w = (3, 0, S)))) 1 6 (va_A (wX cI cZ x a S) sz) := by
  refine vy_ofW (cc := cX0_addCue) (maxL := 6) (ret := (some .int)) (by decide) rfl ?_
  intro pr env s mid args below meth cod s₁ Bd hml hout hv
  obtain ⟨rfl, ⟨hsz, hP, hK, hD0⟩, hG0⟩ := hv
  have hG : xG (fun q => s.heap.size ≤ q) s s.heap := hG0
  have hx := Bd.exec
  have hb := Bd.bytes
  have hr := Bd.returns
  have hts := atoms_spec (ws := wsX0_addCue) Bd.pre
  have hown : s.vm.findClass RX0 = some mid.cls := findClass_of_methodNamed Bd.named
  have hlocks := Bd.notSynchronized
  have hin : ∀ w ∈ wsX00, w ∈ wsX0_addCue := fun _ h => List.mem_cons_of_mem _ (List.mem_append_left _ (List.mem_append_left _ (List.mem_append_left _ (List.mem_append_right _ h))))
  subst hsz
  have hD := hD0.self (sz := s.heap.size)
  generalize hAe : va_A (wX cI cZ x a S) s.heap.size = A at hD ⊢
  have hA : ∀ q : Nat, s.heap.size ≤ q → A q := fun q h => by rw [← hAe]; exact Or.inr h
  have hS : va_S A s.heap s.heap [] := va_S.rf
  have hP : va_P D vwCl (wX cI cZ x a S) s.heap := hP
  have hD : va_D A (wX cI cZ x a S) := hD
  have hl := lv_entry ([.ref x, .int k, .int p, .int o, .int w]) (n := 6) (Nat.le_of_ble_eq_true rfl)
  rw [lg_entry_eq]
  generalize (lg_sl ([.ref x, .int k, .int p, .int o, .int w]) ++ List.replicate (6 - (lg_sl ([.ref x, .int k, .int p, .int o, .int w])).length) Slot.unset).toArray = ls at hl ⊢
  have hl : lv_has ls 6 [(0, .ref x), (1, .int k), (2, .int p), (3, .int o), (4, .int w)] := hl
  refine lv_iload_n hx hb dX0_addCue_0 rfl (lv_at hl 1 rfl) ?_
  refine lv_if_lt (tgt := 9) hx hb dX0_addCue_1 (by decide) (fun c_1 => ?_) (fun c_1 => ?_)
  · skip
    exact x_throwS (text := "no such kind of cue") hx hb hfl hown (by decide) (hts (.classLink RX0 71 xIA) (by decide +kernel)) (hts (.initialized xIA) (by decide +kernel)) (fun w h => hts w (List.mem_cons_of_mem _ (List.mem_append_left _ (List.mem_append_left _ (List.mem_append_right _ h))))) xIA_b xIA_g hG (by decide) (hl.1.trans hml.symm) dX0_addCue_9 dX0_addCue_12 dX0_addCue_13 dX0_addCue_15 dX0_addCue_18 hout ⟨by decide, by decide, by decide, by decide⟩ hlocks (Or.inl ⟨rfl, cif_f (fun h => h.1 c_1)⟩)
  · skip
    refine lv_iload_n hx hb dX0_addCue_4 rfl (lv_at hl 1 rfl) ?_
    refine lv_iconst (v := 4) hx hb dX0_addCue_5 (by decide) ?_
    refine lv_icmp_le (tgt := 19) hx hb dX0_addCue_6 (by decide) (fun c_6 => ?_) (fun c_6 => ?_)
    · skip
      refine lv_iload_n hx hb dX0_addCue_19 rfl (lv_at hl 2 rfl) ?_
      refine vy_csv (vy_runS (As := [.int p]) (rest := []) ⟨hx, hb, hml, hown, hts⟩ (c_X0_requirePlayer l hfl p) (va_cwS 1 hts gX0_addCue_X0_requirePlayer rfl rfl rfl (by decide +kernel) ⟨Nat.le_of_ble_eq_true rfl, Nat.le_of_ble_eq_true rfl⟩) (pT_S (pN_S) hG (fun _ h => h)) rfl rfl hl.1 rfl (lv_room (Nat.le_of_ble_eq_true rfl)) dX0_addCue_20 ⟨Nat.le_of_ble_eq_true rfl, Nat.le_of_ble_eq_true rfl⟩) (fun E ce q9 H1 hPE hz9 hk9 hc9 hv9 hcl9 => vy_out hout hlocks (Or.inr (Or.inl ⟨hPE.1, (cif_t ⟨c_1, c_6⟩).trans (cif_f (fun h => hPE.2 h.1))⟩)) hz9 hk9 hc9 hv9 hcl9 (by decide) (by decide)) (fun h_20 => ?_)
      refine lv_iload_n hx hb dX0_addCue_23 rfl (lv_at hl 1 rfl) ?_
      refine lv_iload_n hx hb dX0_addCue_24 rfl (lv_at hl 3 rfl) ?_
      refine vy_csv (vy_runS (As := [.int k, .int o]) (rest := []) ⟨hx, hb, hml, hown, hts⟩ (c_X0_requireOther l hfl k o) (va_cwS 2 hts gX0_addCue_X0_requireOther rfl rfl rfl (by decide +kernel) ⟨Nat.le_of_ble_eq_true rfl, Nat.le_of_ble_eq_true rfl⟩) (pT_S (pN_S) hG (fun _ h => h)) rfl rfl hl.1 rfl (lv_room (Nat.le_of_ble_eq_true rfl)) dX0_addCue_25 ⟨Nat.le_of_ble_eq_true rfl, Nat.le_of_ble_eq_true rfl⟩) (fun E ce q9 H1 hPE hz9 hk9 hc9 hv9 hcl9 => vy_out hout hlocks (Or.inr (Or.inl ⟨hPE.1, (cif_t ⟨c_1, c_6⟩).trans (cif_f (fun h => hPE.2 h.2.1))⟩)) hz9 hk9 hc9 hv9 hcl9 (by decide) (by decide)) (fun h_25 => ?_)
      refine lv_iload hx hb dX0_addCue_28 (lv_at hl 4 rfl) ?_
      refine lv_iconst (v := (-1)) hx hb dX0_addCue_30 (by decide) ?_
      refine lv_icmp_eq (tgt := 40) hx hb dX0_addCue_31 (by decide) (fun c_31 => ?_) (fun c_31 => ?_)
      · skip
        have h2 : w = -1 ∨ vp_in w (many S) := Or.inl c_31
        refine lv_aload_n hx hb dX0_addCue_40 rfl (lv_at hl 0 rfl) ?_
        have hf104 := hts (.fieldLink RX0 104 "Clockmask" "cueCount" "I") (by decide +kernel)
        refine va_get (D := D) (ci := 0) (v := .int (S 10 0)) (C := RX0) (T := TX0) (N := 17) hx hb hts hin hown hK hP 0 rfl rfl 10 (by decide) hf104 (fun _ h9 => h9) rfl dX0_addCue_41 ?_
        refine lv_bipush (v := 24) hx hb dX0_addCue_44 (by decide) ?_
        refine lv_icmp_lt (tgt := 59) hx hb dX0_addCue_46 (by decide) (fun c_46 => ?_) (fun c_46 => ?_)
        · skip
          refine lv_iload_n hx hb dX0_addCue_59 rfl (lv_at hl 1 rfl) ?_
          refine lv_iconst (v := 4) hx hb dX0_addCue_60 (by decide) ?_
          refine lv_icmp_ne (tgt := 79) hx hb dX0_addCue_61 (by decide) (fun c_61 => ?_) (fun c_61 => ?_)
          · skip
            have hn : ¬ (k = 4 ∧ p = o) := fun z => c_61 z.1
            refine lv_iload hx hb dX0_addCue_79 (lv_at hl 4 rfl) ?_
            refine lv_iconst (v := (-1)) hx hb dX0_addCue_81 (by decide) ?_
            refine lv_icmp_eq (tgt := 106) hx hb dX0_addCue_82 (by decide) (fun c_82 => ?_) (fun c_82 => ?_)
            · skip
              have hw3 : w = -1 ∨ S 8 w.toNatClampNeg ≠ 2 := Or.inl c_82
              have hc24 : vp_in (S 10 0) 24 := hI.lt24 c_46
              refine lv_aload_n hx hb dX0_addCue_106 rfl (lv_at hl 0 rfl) ?_
              refine va_get (D := D) (ci := 0) (v := .int (S 10 0)) (C := RX0) (T := TX0) (N := 17) hx hb hts hin hown hK hP 0 rfl rfl 10 (by decide) hf104 (fun _ h9 => h9) rfl dX0_addCue_107 ?_
              refine lv_istore (lv' := [(5, .int (S 10 0)), (0, .ref x), (1, .int k), (2, .int p), (3, .int o), (4, .int w)]) hx hb dX0_addCue_110 hl (by decide) rfl (fun ls hl => ?_)
              refine lv_aload_n hx hb dX0_addCue_112 rfl (lv_at hl 1 rfl) ?_
              have hf23 := hts (.fieldLink RX0 23 "Clockmask" "cueKind" "[I") (by decide +kernel)
              refine va_get (D := D) (ci := 0) (v := .ref (a 4)) (C := RX0) (T := TX0) (N := 17) hx hb hts hin hown hK hP 0 rfl rfl 4 (by decide) hf23 (fun _ h9 => h9) rfl dX0_addCue_113 ?_
              refine lv_iload hx hb dX0_addCue_116 (lv_at hl 0 rfl) ?_
              refine lv_iload_n hx hb dX0_addCue_118 rfl (lv_at hl 2 rfl) ?_
              refine va_iast (f := S 4) (n := 24) hx hb hK hP hD hS 5 0 rfl rfl (by assumption) dX0_addCue_119 (fun H locs hP hD hS => ?_)
              have hP : va_P D vwCl (wXr cI cZ x a (S 0) (S 1) (S 2) (S 3) (upd (S 4) (S 10 0).toNatClampNeg k) (S 5) (S 6) (S 7) (S 8) (S 9) (S 10 0) (S 11 0) (S 12) (S 13) (S 14 0) (S 15 0) (S 16)) H := hP
              have hD : va_D A (wXr cI cZ x a (S 0) (S 1) (S 2) (S 3) (upd (S 4) (S 10 0).toNatClampNeg k) (S 5) (S 6) (S 7) (S 8) (S 9) (S 10 0) (S 11 0) (S 12) (S 13) (S 14 0) (S 15 0) (S 16)) := hD
              refine lv_aload_n hx hb dX0_addCue_120 rfl (lv_at hl 1 rfl) ?_
              have hf26 := hts (.fieldLink RX0 26 "Clockmask" "cuePlayer" "[I") (by decide +kernel)
              refine va_get (D := D) (ci := 0) (v := .ref (a 5)) (C := RX0) (T := TX0) (N := 17) hx hb hts hin hown hK hP 0 rfl rfl 5 (by decide) hf26 (fun _ h9 => h9) rfl dX0_addCue_121 ?_
              refine lv_iload hx hb dX0_addCue_124 (lv_at hl 0 rfl) ?_
              refine lv_iload_n hx hb dX0_addCue_126 rfl (lv_at hl 3 rfl) ?_
              refine va_iast (f := S 5) (n := 24) hx hb hK hP hD hS 6 0 rfl rfl (by assumption) dX0_addCue_127 (fun H locs hP hD hS => ?_)
              have hP : va_P D vwCl (wXr cI cZ x a (S 0) (S 1) (S 2) (S 3) (upd (S 4) (S 10 0).toNatClampNeg k) (upd (S 5) (S 10 0).toNatClampNeg p) (S 6) (S 7) (S 8) (S 9) (S 10 0) (S 11 0) (S 12) (S 13) (S 14 0) (S 15 0) (S 16)) H := hP
              have hD : va_D A (wXr cI cZ x a (S 0) (S 1) (S 2) (S 3) (upd (S 4) (S 10 0).toNatClampNeg k) (upd (S 5) (S 10 0).toNatClampNeg p) (S 6) (S 7) (S 8) (S 9) (S 10 0) (S 11 0) (S 12) (S 13) (S 14 0) (S 15 0) (S 16)) := hD
              refine lv_aload_n hx hb dX0_addCue_128 rfl (lv_at hl 1 rfl) ?_
              have hf29 := hts (.fieldLink RX0 29 "Clockmask" "cueOther" "[I") (by decide +kernel)
              refine va_get (D := D) (ci := 0) (v := .ref (a 6)) (C := RX0) (T := TX0) (N := 17) hx hb hts hin hown hK hP 0 rfl rfl 6 (by decide) hf29 (fun _ h9 => h9) rfl dX0_addCue_129 ?_
              refine lv_iload hx hb dX0_addCue_132 (lv_at hl 0 rfl) ?_
              refine lv_iload_n hx hb dX0_addCue_134 rfl (lv_at hl 4 rfl) ?_
              refine va_iast (f := S 6) (n := 24) hx hb hK hP hD hS 7 0 rfl rfl (by assumption) dX0_addCue_135 (fun H locs hP hD hS => ?_)
              have hP : va_P D vwCl (wXr cI cZ x a (S 0) (S 1) (S 2) (S 3) (upd (S 4) (S 10 0).toNatClampNeg k) (upd (S 5) (S 10 0).toNatClampNeg p) (upd (S 6) (S 10 0).toNatClampNeg o) (S 7) (S 8) (S 9) (S 10 0) (S 11 0) (S 12) (S 13) (S 14 0) (S 15 0) (S 16)) H := hP
              have hD : va_D A (wXr cI cZ x a (S 0) (S 1) (S 2) (S 3) (upd (S 4) (S 10 0).toNatClampNeg k) (upd (S 5) (S 10 0).toNatClampNeg p) (upd (S 6) (S 10 0).toNatClampNeg o) (S 7) (S 8) (S 9) (S 10 0) (S 11 0) (S 12) (S 13) (S 14 0) (S 15 0) (S 16)) := hD
              refine lv_aload_n hx hb dX0_addCue_136 rfl (lv_at hl 1 rfl) ?_
              have hf32 := hts (.fieldLink RX0 32 "Clockmask" "cueWaits" "[I") (by decide +kernel)
              refine va_get (D := D) (ci := 0) (v := .ref (a 7)) (C := RX0) (T := TX0) (N := 17) hx hb hts hin hown hK hP 0 rfl rfl 7 (by decide) hf32 (fun _ h9 => h9) rfl dX0_addCue_137 ?_
              refine lv_iload hx hb dX0_addCue_140 (lv_at hl 0 rfl) ?_
              refine lv_iload hx hb dX0_addCue_142 (lv_at hl 5 rfl) ?_
              refine va_iast (f := S 7) (n := 24) hx hb hK hP hD hS 8 0 rfl rfl (by assumption) dX0_addCue_144 (fun H locs hP hD hS => ?_)
              have hP : va_P D vwCl (wXr cI cZ x a (S 0) (S 1) (S 2) (S 3) (upd (S 4) (S 10 0).toNatClampNeg k) (upd (S 5) (S 10 0).toNatClampNeg p) (upd (S 6) (S 10 0).toNatClampNeg o) (upd (S 7) (S 10 0).toNatClampNeg w) (S 8) (S 9) (S 10 0) (S 11 0) (S 12) (S 13) (S 14 0) (S 15 0) (S 16)) H := hP
              have hD : va_D A (wXr cI cZ x a (S 0) (S 1) (S 2) (S 3) (upd (S 4) (S 10 0).toNatClampNeg k) (upd (S 5) (S 10 0).toNatClampNeg p) (upd (S 6) (S 10 0).toNatClampNeg o) (upd (S 7) (S 10 0).toNatClampNeg w) (S 8) (S 9) (S 10 0) (S 11 0) (S 12) (S 13) (S 14 0) (S 15 0) (S 16)) := hD
              refine lv_aload_n hx hb dX0_addCue_145 rfl (lv_at hl 1 rfl) ?_
              have hf35 := hts (.fieldLink RX0 35 "Clockmask" "cueState" "[I") (by decide +kernel)
              refine va_get (D := D) (ci := 0) (v := .ref (a 8)) (C := RX0) (T := TX0) (N := 17) hx hb hts hin hown hK hP 0 rfl rfl 8 (by decide) hf35 (fun _ h9 => h9) rfl dX0_addCue_146 ?_
              refine lv_iload hx hb dX0_addCue_149 (lv_at hl 0 rfl) ?_
              refine lv_iconst (v := 0) hx hb dX0_addCue_151 (by decide) ?_
              refine va_iast (f := S 8) (n := 24) hx hb hK hP hD hS 9 0 rfl rfl (by assumption) dX0_addCue_152 (fun H locs hP hD hS => ?_)
              have hP : va_P D vwCl (wXr cI cZ x a (S 0) (S 1) (S 2) (S 3) (upd (S 4) (S 10 0).toNatClampNeg k) (upd (S 5) (S 10 0).toNatClampNeg p) (upd (S 6) (S 10 0).toNatClampNeg o) (upd (S 7) (S 10 0).toNatClampNeg w) (upd (S 8) (S 10 0).toNatClampNeg 0) (S 9) (S 10 0) (S 11 0) (S 12) (S 13) (S 14 0) (S 15 0) (S 16)) H := hP
              have hD : va_D A (wXr cI cZ x a (S 0) (S 1) (S 2) (S 3) (upd (S 4) (S 10 0).toNatClampNeg k) (upd (S 5) (S 10 0).toNatClampNeg p) (upd (S 6) (S 10 0).toNatClampNeg o) (upd (S 7) (S 10 0).toNatClampNeg w) (upd (S 8) (S 10 0).toNatClampNeg 0) (S 9) (S 10 0) (S 11 0) (S 12) (S 13) (S 14 0) (S 15 0) (S 16)) := hD
              refine lv_aload_n hx hb dX0_addCue_153 rfl (lv_at hl 1 rfl) ?_
              refine lv_dup hx hb dX0_addCue_154 rfl ?_
              refine va_get (D := D) (ci := 0) (v := .int (S 10 0)) (C := RX0) (T := TX0) (N := 17) hx hb hts hin hown hK hP 0 rfl rfl 10 (by decide) hf104 (fun _ h9 => h9) rfl dX0_addCue_155 ?_
              refine lv_iconst (v := 1) hx hb dX0_addCue_158 (by decide) ?_
              refine lv_iadd hx hb dX0_addCue_159 ?_
              refine va_put (D := D) (ci := 0) (v := .int ((S 10 0) + 1)) (ty := .int) (C := RX0) (T := TX0) (N := 17) hx hb hts hin tyX0 tyX0_ok nmX0 hown hK hP hD hS 0 rfl rfl 10 (by decide) hf104 (fun _ h9 => h9) rfl (by decide +kernel) rfl rfl (Nat.le_of_ble_eq_true rfl) dX0_addCue_160 (fun H locs hP hD hS => ?_)
              have hP : va_P D vwCl (wXr cI cZ x a (S 0) (S 1) (S 2) (S 3) (upd (S 4) (S 10 0).toNatClampNeg k) (upd (S 5) (S 10 0).toNatClampNeg p) (upd (S 6) (S 10 0).toNatClampNeg o) (upd (S 7) (S 10 0).toNatClampNeg w) (upd (S 8) (S 10 0).toNatClampNeg 0) (S 9) ((S 10 0) + 1) (S 11 0) (S 12) (S 13) (S 14 0) (S 15 0) (S 16)) H := hP
              have hD : va_D A (wXr cI cZ x a (S 0) (S 1) (S 2) (S 3) (upd (S 4) (S 10 0).toNatClampNeg k) (upd (S 5) (S 10 0).toNatClampNeg p) (upd (S 6) (S 10 0).toNatClampNeg o) (upd (S 7) (S 10 0).toNatClampNeg w) (upd (S 8) (S 10 0).toNatClampNeg 0) (S 9) ((S 10 0) + 1) (S 11 0) (S 12) (S 13) (S 14 0) (S 15 0) (S 16)) := hD
              refine lv_iload hx hb dX0_addCue_163 (lv_at hl 0 rfl) ?_
              exact vy_ret (W.iret (v := S 10 0) hx hb hr (fun t ht hW => ⟨⟨_, row (row (row (row (row (row S 4 (upd (S 4) (S 10 0).toNatClampNeg k)) 5 (upd (S 5) (S 10 0).toNatClampNeg p)) 6 (upd (S 6) (S 10 0).toNatClampNeg o)) 7 (upd (S 7) (S 10 0).toNatClampNeg w)) 8 (upd (S 8) (S 10 0).toNatClampNeg 0)) 10 (kf ((S 10 0) + 1)), rfl, (cif_t ⟨c_1, c_6⟩).trans ((cif_t ⟨h_20, h_25, h2⟩).trans (cif_t ⟨c_46, hn, hw3⟩)), by rw [ht]; exact hP, hD⟩, hS.F ht⟩) hS.2.2 dX0_addCue_165)
            · skip
              refine lv_aload_n hx hb dX0_addCue_85 rfl (lv_at hl 0 rfl) ?_
              have hf35 := hts (.fieldLink RX0 35 "Clockmask" "cueState" "[I") (by decide +kernel)
              refine va_get (D := D) (ci := 0) (v := .ref (a 8)) (C := RX0) (T := TX0) (N := 17) hx hb hts hin hown hK hP 0 rfl rfl 8 (by decide) hf35 (fun _ h9 => h9) rfl dX0_addCue_86 ?_
              refine lv_iload hx hb dX0_addCue_89 (lv_at hl 4 rfl) ?_
              refine va_iald (f := S 8) (n := 24) hx hb hK hP 9 0 rfl rfl (hI.q24 (h2.resolve_left c_82)) dX0_addCue_91 ?_
              refine lv_iconst (v := 2) hx hb dX0_addCue_92 (by decide) ?_
              refine lv_icmp_ne (tgt := 106) hx hb dX0_addCue_93 (by decide) (fun c_93 => ?_) (fun c_93 => ?_)
              · skip
                have hw3 : w = -1 ∨ S 8 w.toNatClampNeg ≠ 2 := Or.inr c_93
                have hc24 : vp_in (S 10 0) 24 := hI.lt24 c_46
                refine lv_aload_n hx hb dX0_addCue_106 rfl (lv_at hl 0 rfl) ?_
                refine va_get (D := D) (ci := 0) (v := .int (S 10 0)) (C := RX0) (T := TX0) (N := 17) hx hb hts hin hown hK hP 0 rfl rfl 10 (by decide) hf104 (fun _ h9 => h9) rfl dX0_addCue_107 ?_
                refine lv_istore (lv' := [(5, .int (S 10 0)), (0, .ref x), (1, .int k), (2, .int p), (3, .int o), (4, .int w)]) hx hb dX0_addCue_110 hl (by decide) rfl (fun ls hl => ?_)
                refine lv_aload_n hx hb dX0_addCue_112 rfl (lv_at hl 1 rfl) ?_
                have hf23 := hts (.fieldLink RX0 23 "Clockmask" "cueKind" "[I") (by decide +kernel)
                refine va_get (D := D) (ci := 0) (v := .ref (a 4)) (C := RX0) (T := TX0) (N := 17) hx hb hts hin hown hK hP 0 rfl rfl 4 (by decide) hf23 (fun _ h9 => h9) rfl dX0_addCue_113 ?_
                refine lv_iload hx hb dX0_addCue_116 (lv_at hl 0 rfl) ?_
                refine lv_iload_n hx hb dX0_addCue_118 rfl (lv_at hl 2 rfl) ?_
                refine va_iast (f := S 4) (n := 24) hx hb hK hP hD hS 5 0 rfl rfl (by assumption) dX0_addCue_119 (fun H locs hP hD hS => ?_)
                have hP : va_P D vwCl (wXr cI cZ x a (S 0) (S 1) (S 2) (S 3) (upd (S 4) (S 10 0).toNatClampNeg k) (S 5) (S 6) (S 7) (S 8) (S 9) (S 10 0) (S 11 0) (S 12) (S 13) (S 14 0) (S 15 0) (S 16)) H := hP
                have hD : va_D A (wXr cI cZ x a (S 0) (S 1) (S 2) (S 3) (upd (S 4) (S 10 0).toNatClampNeg k) (S 5) (S 6) (S 7) (S 8) (S 9) (S 10 0) (S 11 0) (S 12) (S 13) (S 14 0) (S 15 0) (S 16)) := hD
                refine lv_aload_n hx hb dX0_addCue_120 rfl (lv_at hl 1 rfl) ?_
                have hf26 := hts (.fieldLink RX0 26 "Clockmask" "cuePlayer" "[I") (by decide +kernel)
                refine va_get (D := D) (ci := 0) (v := .ref (a 5)) (C := RX0) (T := TX0) (N := 17) hx hb hts hin hown hK hP 0 rfl rfl 5 (by decide) hf26 (fun _ h9 => h9) rfl dX0_addCue_121 ?_
                refine lv_iload hx hb dX0_addCue_124 (lv_at hl 0 rfl) ?_
                refine lv_iload_n hx hb dX0_addCue_126 rfl (lv_at hl 3 rfl) ?_
                refine va_iast (f := S 5) (n := 24) hx hb hK hP hD hS 6 0 rfl rfl (by assumption) dX0_addCue_127 (fun H locs hP hD hS => ?_)
                have hP : va_P D vwCl (wXr cI cZ x a (S 0) (S 1) (S 2) (S 3) (upd (S 4) (S 10 0).toNatClampNeg k) (upd (S 5) (S 10 0).toNatClampNeg p) (S 6) (S 7) (S 8) (S 9) (S 10 0) (S 11 0) (S 12) (S 13) (S 14 0) (S 15 0) (S 16)) H := hP
                have hD : va_D A (wXr cI cZ x a (S 0) (S 1) (S 2) (S 3) (upd (S 4) (S 10 0).toNatClampNeg k) (upd (S 5) (S 10 0).toNatClampNeg p) (S 6) (S 7) (S 8) (S 9) (S 10 0) (S 11 0) (S 12) (S 13) (S 14 0) (S 15 0) (S 16)) := hD
                refine lv_aload_n hx hb dX0_addCue_128 rfl (lv_at hl 1 rfl) ?_
                have hf29 := hts (.fieldLink RX0 29 "Clockmask" "cueOther" "[I") (by decide +kernel)
                refine va_get (D := D) (ci := 0) (v := .ref (a 6)) (C := RX0) (T := TX0) (N := 17) hx hb hts hin hown hK hP 0 rfl rfl 6 (by decide) hf29 (fun _ h9 => h9) rfl dX0_addCue_129 ?_
                refine lv_iload hx hb dX0_addCue_132 (lv_at hl 0 rfl) ?_
                refine lv_iload_n hx hb dX0_addCue_134 rfl (lv_at hl 4 rfl) ?_
                refine va_iast (f := S 6) (n := 24) hx hb hK hP hD hS 7 0 rfl rfl (by assumption) dX0_addCue_135 (fun H locs hP hD hS => ?_)
                have hP : va_P D vwCl (wXr cI cZ x a (S 0) (S 1) (S 2) (S 3) (upd (S 4) (S 10 0).toNatClampNeg k) (upd (S 5) (S 10 0).toNatClampNeg p) (upd (S 6) (S 10 0).toNatClampNeg o) (S 7) (S 8) (S 9) (S 10 0) (S 11 0) (S 12) (S 13) (S 14 0) (S 15 0) (S 16)) H := hP
                have hD : va_D A (wXr cI cZ x a (S 0) (S 1) (S 2) (S 3) (upd (S 4) (S 10 0).toNatClampNeg k) (upd (S 5) (S 10 0).toNatClampNeg p) (upd (S 6) (S 10 0).toNatClampNeg o) (S 7) (S 8) (S 9) (S 10 0) (S 11 0) (S 12) (S 13) (S 14 0) (S 15 0) (S 16)) := hD
                refine lv_aload_n hx hb dX0_addCue_136 rfl (lv_at hl 1 rfl) ?_
                have hf32 := hts (.fieldLink RX0 32 "Clockmask" "cueWaits" "[I") (by decide +kernel)
                refine va_get (D := D) (ci := 0) (v := .ref (a 7)) (C := RX0) (T := TX0) (N := 17) hx hb hts hin hown hK hP 0 rfl rfl 7 (by decide) hf32 (fun _ h9 => h9) rfl dX0_addCue_137 ?_
                refine lv_iload hx hb dX0_addCue_140 (lv_at hl 0 rfl) ?_
                refine lv_iload hx hb dX0_addCue_142 (lv_at hl 5 rfl) ?_
                refine va_iast (f := S 7) (n := 24) hx hb hK hP hD hS 8 0 rfl rfl (by assumption) dX0_addCue_144 (fun H locs hP hD hS => ?_)
                have hP : va_P D vwCl (wXr cI cZ x a (S 0) (S 1) (S 2) (S 3) (upd (S 4) (S 10 0).toNatClampNeg k) (upd (S 5) (S 10 0).toNatClampNeg p) (upd (S 6) (S 10 0).toNatClampNeg o) (upd (S 7) (S 10 0).toNatClampNeg w) (S 8) (S 9) (S 10 0) (S 11 0) (S 12) (S 13) (S 14 0) (S 15 0) (S 16)) H := hP
                have hD : va_D A (wXr cI cZ x a (S 0) (S 1) (S 2) (S 3) (upd (S 4) (S 10 0).toNatClampNeg k) (upd (S 5) (S 10 0).toNatClampNeg p) (upd (S 6) (S 10 0).toNatClampNeg o) (upd (S 7) (S 10 0).toNatClampNeg w) (S 8) (S 9) (S 10 0) (S 11 0) (S 12) (S 13) (S 14 0) (S 15 0) (S 16)) := hD
                refine lv_aload_n hx hb dX0_addCue_145 rfl (lv_at hl 1 rfl) ?_
                refine va_get (D := D) (ci := 0) (v := .ref (a 8)) (C := RX0) (T := TX0) (N := 17) hx hb hts hin hown hK hP 0 rfl rfl 8 (by decide) hf35 (fun _ h9 => h9) rfl dX0_addCue_146 ?_
                refine lv_iload hx hb dX0_addCue_149 (lv_at hl 0 rfl) ?_
                refine lv_iconst (v := 0) hx hb dX0_addCue_151 (by decide) ?_
                refine va_iast (f := S 8) (n := 24) hx hb hK hP hD hS 9 0 rfl rfl (by assumption) dX0_addCue_152 (fun H locs hP hD hS => ?_)
                have hP : va_P D vwCl (wXr cI cZ x a (S 0) (S 1) (S 2) (S 3) (upd (S 4) (S 10 0).toNatClampNeg k) (upd (S 5) (S 10 0).toNatClampNeg p) (upd (S 6) (S 10 0).toNatClampNeg o) (upd (S 7) (S 10 0).toNatClampNeg w) (upd (S 8) (S 10 0).toNatClampNeg 0) (S 9) (S 10 0) (S 11 0) (S 12) (S 13) (S 14 0) (S 15 0) (S 16)) H := hP
                have hD : va_D A (wXr cI cZ x a (S 0) (S 1) (S 2) (S 3) (upd (S 4) (S 10 0).toNatClampNeg k) (upd (S 5) (S 10 0).toNatClampNeg p) (upd (S 6) (S 10 0).toNatClampNeg o) (upd (S 7) (S 10 0).toNatClampNeg w) (upd (S 8) (S 10 0).toNatClampNeg 0) (S 9) (S 10 0) (S 11 0) (S 12) (S 13) (S 14 0) (S 15 0) (S 16)) := hD
                refine lv_aload_n hx hb dX0_addCue_153 rfl (lv_at hl 1 rfl) ?_
                refine lv_dup hx hb dX0_addCue_154 rfl ?_
                refine va_get (D := D) (ci := 0) (v := .int (S 10 0)) (C := RX0) (T := TX0) (N := 17) hx hb hts hin hown hK hP 0 rfl rfl 10 (by decide) hf104 (fun _ h9 => h9) rfl dX0_addCue_155 ?_
                refine lv_iconst (v := 1) hx hb dX0_addCue_158 (by decide) ?_
                refine lv_iadd hx hb dX0_addCue_159 ?_
                refine va_put (D := D) (ci := 0) (v := .int ((S 10 0) + 1)) (ty := .int) (C := RX0) (T := TX0) (N := 17) hx hb hts hin tyX0 tyX0_ok nmX0 hown hK hP hD hS 0 rfl rfl 10 (by decide) hf104 (fun _ h9 => h9) rfl (by decide +kernel) rfl rfl (Nat.le_of_ble_eq_true rfl) dX0_addCue_160 (fun H locs hP hD hS => ?_)
                have hP : va_P D vwCl (wXr cI cZ x a (S 0) (S 1) (S 2) (S 3) (upd (S 4) (S 10 0).toNatClampNeg k) (upd (S 5) (S 10 0).toNatClampNeg p) (upd (S 6) (S 10 0).toNatClampNeg o) (upd (S 7) (S 10 0).toNatClampNeg w) (upd (S 8) (S 10 0).toNatClampNeg 0) (S 9) ((S 10 0) + 1) (S 11 0) (S 12) (S 13) (S 14 0) (S 15 0) (S 16)) H := hP
                have hD : va_D A (wXr cI cZ x a (S 0) (S 1) (S 2) (S 3) (upd (S 4) (S 10 0).toNatClampNeg k) (upd (S 5) (S 10 0).toNatClampNeg p) (upd (S 6) (S 10 0).toNatClampNeg o) (upd (S 7) (S 10 0).toNatClampNeg w) (upd (S 8) (S 10 0).toNatClampNeg 0) (S 9) ((S 10 0) + 1) (S 11 0) (S 12) (S 13) (S 14 0) (S 15 0) (S 16)) := hD
                refine lv_iload hx hb dX0_addCue_163 (lv_at hl 0 rfl) ?_
                exact vy_ret (W.iret (v := S 10 0) hx hb hr (fun t ht hW => ⟨⟨_, row (row (row (row (row (row S 4 (upd (S 4) (S 10 0).toNatClampNeg k)) 5 (upd (S 5) (S 10 0).toNatClampNeg p)) 6 (upd (S 6) (S 10 0).toNatClampNeg o)) 7 (upd (S 7) (S 10 0).toNatClampNeg w)) 8 (upd (S 8) (S 10 0).toNatClampNeg 0)) 10 (kf ((S 10 0) + 1)), rfl, (cif_t ⟨c_1, c_6⟩).trans ((cif_t ⟨h_20, h_25, h2⟩).trans (cif_t ⟨c_46, hn, hw3⟩)), by rw [ht]; exact hP, hD⟩, hS.F ht⟩) hS.2.2 dX0_addCue_165)
              · skip
                exact x_throwS (text := "the cue for which to wait was missed") hx hb hfl hown (by decide) (hts (.classLink RX0 78 xIS) (by decide +kernel)) (hts (.initialized xIS) (by decide +kernel)) (fun w h => hts w (List.mem_cons_of_mem _ (List.mem_append_left _ (List.mem_append_right _ h)))) xIS_b xIS_g hG (by decide) (hl.1.trans hml.symm) dX0_addCue_96 dX0_addCue_99 dX0_addCue_100 dX0_addCue_102 dX0_addCue_105 hout ⟨by decide, by decide, by decide, by decide⟩ hlocks (Or.inr (Or.inr ⟨rfl, (cif_t ⟨c_1, c_6⟩).trans ((cif_t ⟨h_20, h_25, h2⟩).trans (cif_f (fun h => h.2.2.elim c_82 (fun z => z c_93))))⟩))
          · skip
            refine lv_iload_n hx hb dX0_addCue_64 rfl (lv_at hl 2 rfl) ?_
            refine lv_iload_n hx hb dX0_addCue_65 rfl (lv_at hl 3 rfl) ?_
            refine lv_icmp_ne (tgt := 79) hx hb dX0_addCue_66 (by decide) (fun c_66 => ?_) (fun c_66 => ?_)
            · skip
              have hn : ¬ (k = 4 ∧ p = o) := fun z => c_66 z.2
              refine lv_iload hx hb dX0_addCue_79 (lv_at hl 4 rfl) ?_
              refine lv_iconst (v := (-1)) hx hb dX0_addCue_81 (by decide) ?_
              refine lv_icmp_eq (tgt := 106) hx hb dX0_addCue_82 (by decide) (fun c_82 => ?_) (fun c_82 => ?_)
              · skip
                have hw3 : w = -1 ∨ S 8 w.toNatClampNeg ≠ 2 := Or.inl c_82
                have hc24 : vp_in (S 10 0) 24 := hI.lt24 c_46
                refine lv_aload_n hx hb dX0_addCue_106 rfl (lv_at hl 0 rfl) ?_
                refine va_get (D := D) (ci := 0) (v := .int (S 10 0)) (C := RX0) (T := TX0) (N := 17) hx hb hts hin hown hK hP 0 rfl rfl 10 (by decide) hf104 (fun _ h9 => h9) rfl dX0_addCue_107 ?_
                refine lv_istore (lv' := [(5, .int (S 10 0)), (0, .ref x), (1, .int k), (2, .int p), (3, .int o), (4, .int w)]) hx hb dX0_addCue_110 hl (by decide) rfl (fun ls hl => ?_)
                refine lv_aload_n hx hb dX0_addCue_112 rfl (lv_at hl 1 rfl) ?_
                have hf23 := hts (.fieldLink RX0 23 "Clockmask" "cueKind" "[I") (by decide +kernel)
                refine va_get (D := D) (ci := 0) (v := .ref (a 4)) (C := RX0) (T := TX0) (N := 17) hx hb hts hin hown hK hP 0 rfl rfl 4 (by decide) hf23 (fun _ h9 => h9) rfl dX0_addCue_113 ?_
                refine lv_iload hx hb dX0_addCue_116 (lv_at hl 0 rfl) ?_
                refine lv_iload_n hx hb dX0_addCue_118 rfl (lv_at hl 2 rfl) ?_
                refine va_iast (f := S 4) (n := 24) hx hb hK hP hD hS 5 0 rfl rfl (by assumption) dX0_addCue_119 (fun H locs hP hD hS => ?_)
                have hP : va_P D vwCl (wXr cI cZ x a (S 0) (S 1) (S 2) (S 3) (upd (S 4) (S 10 0).toNatClampNeg k) (S 5) (S 6) (S 7) (S 8) (S 9) (S 10 0) (S 11 0) (S 12) (S 13) (S 14 0) (S 15 0) (S 16)) H := hP
                have hD : va_D A (wXr cI cZ x a (S 0) (S 1) (S 2) (S 3) (upd (S 4) (S 10 0).toNatClampNeg k) (S 5) (S 6) (S 7) (S 8) (S 9) (S 10 0) (S 11 0) (S 12) (S 13) (S 14 0) (S 15 0) (S 16)) := hD
                refine lv_aload_n hx hb dX0_addCue_120 rfl (lv_at hl 1 rfl) ?_
                have hf26 := hts (.fieldLink RX0 26 "Clockmask" "cuePlayer" "[I") (by decide +kernel)
                refine va_get (D := D) (ci := 0) (v := .ref (a 5)) (C := RX0) (T := TX0) (N := 17) hx hb hts hin hown hK hP 0 rfl rfl 5 (by decide) hf26 (fun _ h9 => h9) rfl dX0_addCue_121 ?_
                refine lv_iload hx hb dX0_addCue_124 (lv_at hl 0 rfl) ?_
                refine lv_iload_n hx hb dX0_addCue_126 rfl (lv_at hl 3 rfl) ?_
                refine va_iast (f := S 5) (n := 24) hx hb hK hP hD hS 6 0 rfl rfl (by assumption) dX0_addCue_127 (fun H locs hP hD hS => ?_)
                have hP : va_P D vwCl (wXr cI cZ x a (S 0) (S 1) (S 2) (S 3) (upd (S 4) (S 10 0).toNatClampNeg k) (upd (S 5) (S 10 0).toNatClampNeg p) (S 6) (S 7) (S 8) (S 9) (S 10 0) (S 11 0) (S 12) (S 13) (S 14 0) (S 15 0) (S 16)) H := hP
                have hD : va_D A (wXr cI cZ x a (S 0) (S 1) (S 2) (S 3) (upd (S 4) (S 10 0).toNatClampNeg k) (upd (S 5) (S 10 0).toNatClampNeg p) (S 6) (S 7) (S 8) (S 9) (S 10 0) (S 11 0) (S 12) (S 13) (S 14 0) (S 15 0) (S 16)) := hD
                refine lv_aload_n hx hb dX0_addCue_128 rfl (lv_at hl 1 rfl) ?_
                have hf29 := hts (.fieldLink RX0 29 "Clockmask" "cueOther" "[I") (by decide +kernel)
                refine va_get (D := D) (ci := 0) (v := .ref (a 6)) (C := RX0) (T := TX0) (N := 17) hx hb hts hin hown hK hP 0 rfl rfl 6 (by decide) hf29 (fun _ h9 => h9) rfl dX0_addCue_129 ?_
                refine lv_iload hx hb dX0_addCue_132 (lv_at hl 0 rfl) ?_
                refine lv_iload_n hx hb dX0_addCue_134 rfl (lv_at hl 4 rfl) ?_
                refine va_iast (f := S 6) (n := 24) hx hb hK hP hD hS 7 0 rfl rfl (by assumption) dX0_addCue_135 (fun H locs hP hD hS => ?_)
                have hP : va_P D vwCl (wXr cI cZ x a (S 0) (S 1) (S 2) (S 3) (upd (S 4) (S 10 0).toNatClampNeg k) (upd (S 5) (S 10 0).toNatClampNeg p) (upd (S 6) (S 10 0).toNatClampNeg o) (S 7) (S 8) (S 9) (S 10 0) (S 11 0) (S 12) (S 13) (S 14 0) (S 15 0) (S 16)) H := hP
                have hD : va_D A (wXr cI cZ x a (S 0) (S 1) (S 2) (S 3) (upd (S 4) (S 10 0).toNatClampNeg k) (upd (S 5) (S 10 0).toNatClampNeg p) (upd (S 6) (S 10 0).toNatClampNeg o) (S 7) (S 8) (S 9) (S 10 0) (S 11 0) (S 12) (S 13) (S 14 0) (S 15 0) (S 16)) := hD
                refine lv_aload_n hx hb dX0_addCue_136 rfl (lv_at hl 1 rfl) ?_
                have hf32 := hts (.fieldLink RX0 32 "Clockmask" "cueWaits" "[I") (by decide +kernel)
                refine va_get (D := D) (ci := 0) (v := .ref (a 7)) (C := RX0) (T := TX0) (N := 17) hx hb hts hin hown hK hP 0 rfl rfl 7 (by decide) hf32 (fun _ h9 => h9) rfl dX0_addCue_137 ?_
                refine lv_iload hx hb dX0_addCue_140 (lv_at hl 0 rfl) ?_
                refine lv_iload hx hb dX0_addCue_142 (lv_at hl 5 rfl) ?_
                refine va_iast (f := S 7) (n := 24) hx hb hK hP hD hS 8 0 rfl rfl (by assumption) dX0_addCue_144 (fun H locs hP hD hS => ?_)
                have hP : va_P D vwCl (wXr cI cZ x a (S 0) (S 1) (S 2) (S 3) (upd (S 4) (S 10 0).toNatClampNeg k) (upd (S 5) (S 10 0).toNatClampNeg p) (upd (S 6) (S 10 0).toNatClampNeg o) (upd (S 7) (S 10 0).toNatClampNeg w) (S 8) (S 9) (S 10 0) (S 11 0) (S 12) (S 13) (S 14 0) (S 15 0) (S 16)) H := hP
                have hD : va_D A (wXr cI cZ x a (S 0) (S 1) (S 2) (S 3) (upd (S 4) (S 10 0).toNatClampNeg k) (upd (S 5) (S 10 0).toNatClampNeg p) (upd (S 6) (S 10 0).toNatClampNeg o) (upd (S 7) (S 10 0).toNatClampNeg w) (S 8) (S 9) (S 10 0) (S 11 0) (S 12) (S 13) (S 14 0) (S 15 0) (S 16)) := hD
                refine lv_aload_n hx hb dX0_addCue_145 rfl (lv_at hl 1 rfl) ?_
                have hf35 := hts (.fieldLink RX0 35 "Clockmask" "cueState" "[I") (by decide +kernel)
                refine va_get (D := D) (ci := 0) (v := .ref (a 8)) (C := RX0) (T := TX0) (N := 17) hx hb hts hin hown hK hP 0 rfl rfl 8 (by decide) hf35 (fun _ h9 => h9) rfl dX0_addCue_146 ?_
                refine lv_iload hx hb dX0_addCue_149 (lv_at hl 0 rfl) ?_
                refine lv_iconst (v := 0) hx hb dX0_addCue_151 (by decide) ?_
                refine va_iast (f := S 8) (n := 24) hx hb hK hP hD hS 9 0 rfl rfl (by assumption) dX0_addCue_152 (fun H locs hP hD hS => ?_)
                have hP : va_P D vwCl (wXr cI cZ x a (S 0) (S 1) (S 2) (S 3) (upd (S 4) (S 10 0).toNatClampNeg k) (upd (S 5) (S 10 0).toNatClampNeg p) (upd (S 6) (S 10 0).toNatClampNeg o) (upd (S 7) (S 10 0).toNatClampNeg w) (upd (S 8) (S 10 0).toNatClampNeg 0) (S 9) (S 10 0) (S 11 0) (S 12) (S 13) (S 14 0) (S 15 0) (S 16)) H := hP
                have hD : va_D A (wXr cI cZ x a (S 0) (S 1) (S 2) (S 3) (upd (S 4) (S 10 0).toNatClampNeg k) (upd (S 5) (S 10 0).toNatClampNeg p) (upd (S 6) (S 10 0).toNatClampNeg o) (upd (S 7) (S 10 0).toNatClampNeg w) (upd (S 8) (S 10 0).toNatClampNeg 0) (S 9) (S 10 0) (S 11 0) (S 12) (S 13) (S 14 0) (S 15 0) (S 16)) := hD
                refine lv_aload_n hx hb dX0_addCue_153 rfl (lv_at hl 1 rfl) ?_
                refine lv_dup hx hb dX0_addCue_154 rfl ?_
                refine va_get (D := D) (ci := 0) (v := .int (S 10 0)) (C := RX0) (T := TX0) (N := 17) hx hb hts hin hown hK hP 0 rfl rfl 10 (by decide) hf104 (fun _ h9 => h9) rfl dX0_addCue_155 ?_
                refine lv_iconst (v := 1) hx hb dX0_addCue_158 (by decide) ?_
                refine lv_iadd hx hb dX0_addCue_159 ?_
                refine va_put (D := D) (ci := 0) (v := .int ((S 10 0) + 1)) (ty := .int) (C := RX0) (T := TX0) (N := 17) hx hb hts hin tyX0 tyX0_ok nmX0 hown hK hP hD hS 0 rfl rfl 10 (by decide) hf104 (fun _ h9 => h9) rfl (by decide +kernel) rfl rfl (Nat.le_of_ble_eq_true rfl) dX0_addCue_160 (fun H locs hP hD hS => ?_)
                have hP : va_P D vwCl (wXr cI cZ x a (S 0) (S 1) (S 2) (S 3) (upd (S 4) (S 10 0).toNatClampNeg k) (upd (S 5) (S 10 0).toNatClampNeg p) (upd (S 6) (S 10 0).toNatClampNeg o) (upd (S 7) (S 10 0).toNatClampNeg w) (upd (S 8) (S 10 0).toNatClampNeg 0) (S 9) ((S 10 0) + 1) (S 11 0) (S 12) (S 13) (S 14 0) (S 15 0) (S 16)) H := hP
                have hD : va_D A (wXr cI cZ x a (S 0) (S 1) (S 2) (S 3) (upd (S 4) (S 10 0).toNatClampNeg k) (upd (S 5) (S 10 0).toNatClampNeg p) (upd (S 6) (S 10 0).toNatClampNeg o) (upd (S 7) (S 10 0).toNatClampNeg w) (upd (S 8) (S 10 0).toNatClampNeg 0) (S 9) ((S 10 0) + 1) (S 11 0) (S 12) (S 13) (S 14 0) (S 15 0) (S 16)) := hD
                refine lv_iload hx hb dX0_addCue_163 (lv_at hl 0 rfl) ?_
                exact vy_ret (W.iret (v := S 10 0) hx hb hr (fun t ht hW => ⟨⟨_, row (row (row (row (row (row S 4 (upd (S 4) (S 10 0).toNatClampNeg k)) 5 (upd (S 5) (S 10 0).toNatClampNeg p)) 6 (upd (S 6) (S 10 0).toNatClampNeg o)) 7 (upd (S 7) (S 10 0).toNatClampNeg w)) 8 (upd (S 8) (S 10 0).toNatClampNeg 0)) 10 (kf ((S 10 0) + 1)), rfl, (cif_t ⟨c_1, c_6⟩).trans ((cif_t ⟨h_20, h_25, h2⟩).trans (cif_t ⟨c_46, hn, hw3⟩)), by rw [ht]; exact hP, hD⟩, hS.F ht⟩) hS.2.2 dX0_addCue_165)
              · skip
                refine lv_aload_n hx hb dX0_addCue_85 rfl (lv_at hl 0 rfl) ?_
                have hf35 := hts (.fieldLink RX0 35 "Clockmask" "cueState" "[I") (by decide +kernel)
                refine va_get (D := D) (ci := 0) (v := .ref (a 8)) (C := RX0) (T := TX0) (N := 17) hx hb hts hin hown hK hP 0 rfl rfl 8 (by decide) hf35 (fun _ h9 => h9) rfl dX0_addCue_86 ?_
                refine lv_iload hx hb dX0_addCue_89 (lv_at hl 4 rfl) ?_
                refine va_iald (f := S 8) (n := 24) hx hb hK hP 9 0 rfl rfl (hI.q24 (h2.resolve_left c_82)) dX0_addCue_91 ?_
                refine lv_iconst (v := 2) hx hb dX0_addCue_92 (by decide) ?_
                refine lv_icmp_ne (tgt := 106) hx hb dX0_addCue_93 (by decide) (fun c_93 => ?_) (fun c_93 => ?_)
                · skip
                  have hw3 : w = -1 ∨ S 8 w.toNatClampNeg ≠ 2 := Or.inr c_93
                  have hc24 : vp_in (S 10 0) 24 := hI.lt24 c_46
                  refine lv_aload_n hx hb dX0_addCue_106 rfl (lv_at hl 0 rfl) ?_
                  refine va_get (D := D) (ci := 0) (v := .int (S 10 0)) (C := RX0) (T := TX0) (N := 17) hx hb hts hin hown hK hP 0 rfl rfl 10 (by decide) hf104 (fun _ h9 => h9) rfl dX0_addCue_107 ?_
                  refine lv_istore (lv' := [(5, .int (S 10 0)), (0, .ref x), (1, .int k), (2, .int p), (3, .int o), (4, .int w)]) hx hb dX0_addCue_110 hl (by decide) rfl (fun ls hl => ?_)
                  refine lv_aload_n hx hb dX0_addCue_112 rfl (lv_at hl 1 rfl) ?_
                  have hf23 := hts (.fieldLink RX0 23 "Clockmask" "cueKind" "[I") (by decide +kernel)
                  refine va_get (D := D) (ci := 0) (v := .ref (a 4)) (C := RX0) (T := TX0) (N := 17) hx hb hts hin hown hK hP 0 rfl rfl 4 (by decide) hf23 (fun _ h9 => h9) rfl dX0_addCue_113 ?_
                  refine lv_iload hx hb dX0_addCue_116 (lv_at hl 0 rfl) ?_
                  refine lv_iload_n hx hb dX0_addCue_118 rfl (lv_at hl 2 rfl) ?_
                  refine va_iast (f := S 4) (n := 24) hx hb hK hP hD hS 5 0 rfl rfl (by assumption) dX0_addCue_119 (fun H locs hP hD hS => ?_)
                  have hP : va_P D vwCl (wXr cI cZ x a (S 0) (S 1) (S 2) (S 3) (upd (S 4) (S 10 0).toNatClampNeg k) (S 5) (S 6) (S 7) (S 8) (S 9) (S 10 0) (S 11 0) (S 12) (S 13) (S 14 0) (S 15 0) (S 16)) H := hP
                  have hD : va_D A (wXr cI cZ x a (S 0) (S 1) (S 2) (S 3) (upd (S 4) (S 10 0).toNatClampNeg k) (S 5) (S 6) (S 7) (S 8) (S 9) (S 10 0) (S 11 0) (S 12) (S 13) (S 14 0) (S 15 0) (S 16)) := hD
                  refine lv_aload_n hx hb dX0_addCue_120 rfl (lv_at hl 1 rfl) ?_
                  have hf26 := hts (.fieldLink RX0 26 "Clockmask" "cuePlayer" "[I") (by decide +kernel)
                  refine va_get (D := D) (ci := 0) (v := .ref (a 5)) (C := RX0) (T := TX0) (N := 17) hx hb hts hin hown hK hP 0 rfl rfl 5 (by decide) hf26 (fun _ h9 => h9) rfl dX0_addCue_121 ?_
                  refine lv_iload hx hb dX0_addCue_124 (lv_at hl 0 rfl) ?_
                  refine lv_iload_n hx hb dX0_addCue_126 rfl (lv_at hl 3 rfl) ?_
                  refine va_iast (f := S 5) (n := 24) hx hb hK hP hD hS 6 0 rfl rfl (by assumption) dX0_addCue_127 (fun H locs hP hD hS => ?_)
                  have hP : va_P D vwCl (wXr cI cZ x a (S 0) (S 1) (S 2) (S 3) (upd (S 4) (S 10 0).toNatClampNeg k) (upd (S 5) (S 10 0).toNatClampNeg p) (S 6) (S 7) (S 8) (S 9) (S 10 0) (S 11 0) (S 12) (S 13) (S 14 0) (S 15 0) (S 16)) H := hP
                  have hD : va_D A (wXr cI cZ x a (S 0) (S 1) (S 2) (S 3) (upd (S 4) (S 10 0).toNatClampNeg k) (upd (S 5) (S 10 0).toNatClampNeg p) (S 6) (S 7) (S 8) (S 9) (S 10 0) (S 11 0) (S 12) (S 13) (S 14 0) (S 15 0) (S 16)) := hD
                  refine lv_aload_n hx hb dX0_addCue_128 rfl (lv_at hl 1 rfl) ?_
                  have hf29 := hts (.fieldLink RX0 29 "Clockmask" "cueOther" "[I") (by decide +kernel)
                  refine va_get (D := D) (ci := 0) (v := .ref (a 6)) (C := RX0) (T := TX0) (N := 17) hx hb hts hin hown hK hP 0 rfl rfl 6 (by decide) hf29 (fun _ h9 => h9) rfl dX0_addCue_129 ?_
                  refine lv_iload hx hb dX0_addCue_132 (lv_at hl 0 rfl) ?_
                  refine lv_iload_n hx hb dX0_addCue_134 rfl (lv_at hl 4 rfl) ?_
                  refine va_iast (f := S 6) (n := 24) hx hb hK hP hD hS 7 0 rfl rfl (by assumption) dX0_addCue_135 (fun H locs hP hD hS => ?_)
                  have hP : va_P D vwCl (wXr cI cZ x a (S 0) (S 1) (S 2) (S 3) (upd (S 4) (S 10 0).toNatClampNeg k) (upd (S 5) (S 10 0).toNatClampNeg p) (upd (S 6) (S 10 0).toNatClampNeg o) (S 7) (S 8) (S 9) (S 10 0) (S 11 0) (S 12) (S 13) (S 14 0) (S 15 0) (S 16)) H := hP
                  have hD : va_D A (wXr cI cZ x a (S 0) (S 1) (S 2) (S 3) (upd (S 4) (S 10 0).toNatClampNeg k) (upd (S 5) (S 10 0).toNatClampNeg p) (upd (S 6) (S 10 0).toNatClampNeg o) (S 7) (S 8) (S 9) (S 10 0) (S 11 0) (S 12) (S 13) (S 14 0) (S 15 0) (S 16)) := hD
                  refine lv_aload_n hx hb dX0_addCue_136 rfl (lv_at hl 1 rfl) ?_
                  have hf32 := hts (.fieldLink RX0 32 "Clockmask" "cueWaits" "[I") (by decide +kernel)
                  refine va_get (D := D) (ci := 0) (v := .ref (a 7)) (C := RX0) (T := TX0) (N := 17) hx hb hts hin hown hK hP 0 rfl rfl 7 (by decide) hf32 (fun _ h9 => h9) rfl dX0_addCue_137 ?_
                  refine lv_iload hx hb dX0_addCue_140 (lv_at hl 0 rfl) ?_
                  refine lv_iload hx hb dX0_addCue_142 (lv_at hl 5 rfl) ?_
                  refine va_iast (f := S 7) (n := 24) hx hb hK hP hD hS 8 0 rfl rfl (by assumption) dX0_addCue_144 (fun H locs hP hD hS => ?_)
                  have hP : va_P D vwCl (wXr cI cZ x a (S 0) (S 1) (S 2) (S 3) (upd (S 4) (S 10 0).toNatClampNeg k) (upd (S 5) (S 10 0).toNatClampNeg p) (upd (S 6) (S 10 0).toNatClampNeg o) (upd (S 7) (S 10 0).toNatClampNeg w) (S 8) (S 9) (S 10 0) (S 11 0) (S 12) (S 13) (S 14 0) (S 15 0) (S 16)) H := hP
                  have hD : va_D A (wXr cI cZ x a (S 0) (S 1) (S 2) (S 3) (upd (S 4) (S 10 0).toNatClampNeg k) (upd (S 5) (S 10 0).toNatClampNeg p) (upd (S 6) (S 10 0).toNatClampNeg o) (upd (S 7) (S 10 0).toNatClampNeg w) (S 8) (S 9) (S 10 0) (S 11 0) (S 12) (S 13) (S 14 0) (S 15 0) (S 16)) := hD
                  refine lv_aload_n hx hb dX0_addCue_145 rfl (lv_at hl 1 rfl) ?_
                  refine va_get (D := D) (ci := 0) (v := .ref (a 8)) (C := RX0) (T := TX0) (N := 17) hx hb hts hin hown hK hP 0 rfl rfl 8 (by decide) hf35 (fun _ h9 => h9) rfl dX0_addCue_146 ?_
                  refine lv_iload hx hb dX0_addCue_149 (lv_at hl 0 rfl) ?_
                  refine lv_iconst (v := 0) hx hb dX0_addCue_151 (by decide) ?_
                  refine va_iast (f := S 8) (n := 24) hx hb hK hP hD hS 9 0 rfl rfl (by assumption) dX0_addCue_152 (fun H locs hP hD hS => ?_)
                  have hP : va_P D vwCl (wXr cI cZ x a (S 0) (S 1) (S 2) (S 3) (upd (S 4) (S 10 0).toNatClampNeg k) (upd (S 5) (S 10 0).toNatClampNeg p) (upd (S 6) (S 10 0).toNatClampNeg o) (upd (S 7) (S 10 0).toNatClampNeg w) (upd (S 8) (S 10 0).toNatClampNeg 0) (S 9) (S 10 0) (S 11 0) (S 12) (S 13) (S 14 0) (S 15 0) (S 16)) H := hP
                  have hD : va_D A (wXr cI cZ x a (S 0) (S 1) (S 2) (S 3) (upd (S 4) (S 10 0).toNatClampNeg k) (upd (S 5) (S 10 0).toNatClampNeg p) (upd (S 6) (S 10 0).toNatClampNeg o) (upd (S 7) (S 10 0).toNatClampNeg w) (upd (S 8) (S 10 0).toNatClampNeg 0) (S 9) (S 10 0) (S 11 0) (S 12) (S 13) (S 14 0) (S 15 0) (S 16)) := hD
                  refine lv_aload_n hx hb dX0_addCue_153 rfl (lv_at hl 1 rfl) ?_
                  refine lv_dup hx hb dX0_addCue_154 rfl ?_
                  refine va_get (D := D) (ci := 0) (v := .int (S 10 0)) (C := RX0) (T := TX0) (N := 17) hx hb hts hin hown hK hP 0 rfl rfl 10 (by decide) hf104 (fun _ h9 => h9) rfl dX0_addCue_155 ?_
                  refine lv_iconst (v := 1) hx hb dX0_addCue_158 (by decide) ?_
                  refine lv_iadd hx hb dX0_addCue_159 ?_
                  refine va_put (D := D) (ci := 0) (v := .int ((S 10 0) + 1)) (ty := .int) (C := RX0) (T := TX0) (N := 17) hx hb hts hin tyX0 tyX0_ok nmX0 hown hK hP hD hS 0 rfl rfl 10 (by decide) hf104 (fun _ h9 => h9) rfl (by decide +kernel) rfl rfl (Nat.le_of_ble_eq_true rfl) dX0_addCue_160 (fun H locs hP hD hS => ?_)
                  have hP : va_P D vwCl (wXr cI cZ x a (S 0) (S 1) (S 2) (S 3) (upd (S 4) (S 10 0).toNatClampNeg k) (upd (S 5) (S 10 0).toNatClampNeg p) (upd (S 6) (S 10 0).toNatClampNeg o) (upd (S 7) (S 10 0).toNatClampNeg w) (upd (S 8) (S 10 0).toNatClampNeg 0) (S 9) ((S 10 0) + 1) (S 11 0) (S 12) (S 13) (S 14 0) (S 15 0) (S 16)) H := hP
                  have hD : va_D A (wXr cI cZ x a (S 0) (S 1) (S 2) (S 3) (upd (S 4) (S 10 0).toNatClampNeg k) (upd (S 5) (S 10 0).toNatClampNeg p) (upd (S 6) (S 10 0).toNatClampNeg o) (upd (S 7) (S 10 0).toNatClampNeg w) (upd (S 8) (S 10 0).toNatClampNeg 0) (S 9) ((S 10 0) + 1) (S 11 0) (S 12) (S 13) (S 14 0) (S 15 0) (S 16)) := hD
                  refine lv_iload hx hb dX0_addCue_163 (lv_at hl 0 rfl) ?_
                  exact vy_ret (W.iret (v := S 10 0) hx hb hr (fun t ht hW => ⟨⟨_, row (row (row (row (row (row S 4 (upd (S 4) (S 10 0).toNatClampNeg k)) 5 (upd (S 5) (S 10 0).toNatClampNeg p)) 6 (upd (S 6) (S 10 0).toNatClampNeg o)) 7 (upd (S 7) (S 10 0).toNatClampNeg w)) 8 (upd (S 8) (S 10 0).toNatClampNeg 0)) 10 (kf ((S 10 0) + 1)), rfl, (cif_t ⟨c_1, c_6⟩).trans ((cif_t ⟨h_20, h_25, h2⟩).trans (cif_t ⟨c_46, hn, hw3⟩)), by rw [ht]; exact hP, hD⟩, hS.F ht⟩) hS.2.2 dX0_addCue_165)
                · skip
                  exact x_throwS (text := "the cue for which to wait was missed") hx hb hfl hown (by decide) (hts (.classLink RX0 78 xIS) (by decide +kernel)) (hts (.initialized xIS) (by decide +kernel)) (fun w h => hts w (List.mem_cons_of_mem _ (List.mem_append_left _ (List.mem_append_right _ h)))) xIS_b xIS_g hG (by decide) (hl.1.trans hml.symm) dX0_addCue_96 dX0_addCue_99 dX0_addCue_100 dX0_addCue_102 dX0_addCue_105 hout ⟨by decide, by decide, by decide, by decide⟩ hlocks (Or.inr (Or.inr ⟨rfl, (cif_t ⟨c_1, c_6⟩).trans ((cif_t ⟨h_20, h_25, h2⟩).trans (cif_f (fun h => h.2.2.elim c_82 (fun z => z c_93))))⟩))
            · skip
              exact x_throwS (text := "a player cannot swap with itself") hx hb hfl hown (by decide) (hts (.classLink RX0 78 xIS) (by decide +kernel)) (hts (.initialized xIS) (by decide +kernel)) (fun w h => hts w (List.mem_cons_of_mem _ (List.mem_append_left _ (List.mem_append_right _ h)))) xIS_b xIS_g hG (by decide) (hl.1.trans hml.symm) dX0_addCue_69 dX0_addCue_72 dX0_addCue_73 dX0_addCue_75 dX0_addCue_78 hout ⟨by decide, by decide, by decide, by decide⟩ hlocks (Or.inr (Or.inr ⟨rfl, (cif_t ⟨c_1, c_6⟩).trans ((cif_t ⟨h_20, h_25, h2⟩).trans (cif_f (fun h => h.2.1 ⟨c_61, c_66⟩)))⟩))
        · skip
          exact x_throwS (text := "the play has no room for another cue") hx hb hfl hown (by decide) (hts (.classLink RX0 78 xIS) (by decide +kernel)) (hts (.initialized xIS) (by decide +kernel)) (fun w h => hts w (List.mem_cons_of_mem _ (List.mem_append_left _ (List.mem_append_right _ h)))) xIS_b xIS_g hG (by decide) (hl.1.trans hml.symm) dX0_addCue_49 dX0_addCue_52 dX0_addCue_53 dX0_addCue_55 dX0_addCue_58 hout ⟨by decide, by decide, by decide, by decide⟩ hlocks (Or.inr (Or.inr ⟨rfl, (cif_t ⟨c_1, c_6⟩).trans ((cif_t ⟨h_20, h_25, h2⟩).trans (cif_f (fun h => c_46 h.1)))⟩))
      · skip
        refine lv_aload_n hx hb dX0_addCue_34 rfl (lv_at hl 0 rfl) ?_
        refine lv_iload hx hb dX0_addCue_35 (lv_at hl 4 rfl) ?_
        refine vy_csv (vy_runV (As := [.int w]) (rest := []) ⟨hx, hb, hml, hown, hts⟩ (c_X0_requireCue l hfl D cI cZ x a S w) (cwV 1 hts gX0_addCue_X0_requireCue rfl rfl rfl (by decide +kernel) ⟨Nat.le_of_ble_eq_true rfl, Nat.le_of_ble_eq_true rfl⟩) (pT_V (pR_V (ci := 0) hP hK rfl rfl) hG (fun _ h => h)) rfl rfl hl.1 rfl (lv_room (Nat.le_of_ble_eq_true rfl)) dX0_addCue_37 ⟨Nat.le_of_ble_eq_true rfl, Nat.le_of_ble_eq_true rfl⟩) (fun E ce q9 H1 hPE hz9 hk9 hc9 hv9 hcl9 => vy_out hout hlocks (Or.inr (Or.inl ⟨hPE.1, (cif_t ⟨c_1, c_6⟩).trans (cif_f (fun h => h.2.2.elim c_31 hPE.2))⟩)) hz9 hk9 hc9 hv9 hcl9 (by decide) (by decide)) (fun h_37 => ?_)
        have h2 : w = -1 ∨ vp_in w (many S) := Or.inr h_37
        refine lv_aload_n hx hb dX0_addCue_40 rfl (lv_at hl 0 rfl) ?_
        have hf104 := hts (.fieldLink RX0 104 "Clockmask" "cueCount" "I") (by decide +kernel)
        refine va_get (D := D) (ci := 0) (v := .int (S 10 0)) (C := RX0) (T := TX0) (N := 17) hx hb hts hin hown hK hP 0 rfl rfl 10 (by decide) hf104 (fun _ h9 => h9) rfl dX0_addCue_41 ?_
        refine lv_bipush (v := 24) hx hb dX0_addCue_44 (by decide) ?_
        refine lv_icmp_lt (tgt := 59) hx hb dX0_addCue_46 (by decide) (fun c_46 => ?_) (fun c_46 => ?_)
        · skip
          refine lv_iload_n hx hb dX0_addCue_59 rfl (lv_at hl 1 rfl) ?_
          refine lv_iconst (v := 4) hx hb dX0_addCue_60 (by decide) ?_
          refine lv_icmp_ne (tgt := 79) hx hb dX0_addCue_61 (by decide) (fun c_61 => ?_) (fun c_61 => ?_)
          · skip
            have hn : ¬ (k = 4 ∧ p = o) := fun z => c_61 z.1
            refine lv_iload hx hb dX0_addCue_79 (lv_at hl 4 rfl) ?_
            refine lv_iconst (v := (-1)) hx hb dX0_addCue_81 (by decide) ?_
            refine lv_icmp_eq (tgt := 106) hx hb dX0_addCue_82 (by decide) (fun c_82 => ?_) (fun c_82 => ?_)
            · skip
              have hw3 : w = -1 ∨ S 8 w.toNatClampNeg ≠ 2 := Or.inl c_82
              have hc24 : vp_in (S 10 0) 24 := hI.lt24 c_46
              refine lv_aload_n hx hb dX0_addCue_106 rfl (lv_at hl 0 rfl) ?_
              refine va_get (D := D) (ci := 0) (v := .int (S 10 0)) (C := RX0) (T := TX0) (N := 17) hx hb hts hin hown hK hP 0 rfl rfl 10 (by decide) hf104 (fun _ h9 => h9) rfl dX0_addCue_107 ?_
              refine lv_istore (lv' := [(5, .int (S 10 0)), (0, .ref x), (1, .int k), (2, .int p), (3, .int o), (4, .int w)]) hx hb dX0_addCue_110 hl (by decide) rfl (fun ls hl => ?_)
              refine lv_aload_n hx hb dX0_addCue_112 rfl (lv_at hl 1 rfl) ?_
              have hf23 := hts (.fieldLink RX0 23 "Clockmask" "cueKind" "[I") (by decide +kernel)
              refine va_get (D := D) (ci := 0) (v := .ref (a 4)) (C := RX0) (T := TX0) (N := 17) hx hb hts hin hown hK hP 0 rfl rfl 4 (by decide) hf23 (fun _ h9 => h9) rfl dX0_addCue_113 ?_
              refine lv_iload hx hb dX0_addCue_116 (lv_at hl 0 rfl) ?_
              refine lv_iload_n hx hb dX0_addCue_118 rfl (lv_at hl 2 rfl) ?_
              refine va_iast (f := S 4) (n := 24) hx hb hK hP hD hS 5 0 rfl rfl (by assumption) dX0_addCue_119 (fun H locs hP hD hS => ?_)
              have hP : va_P D vwCl (wXr cI cZ x a (S 0) (S 1) (S 2) (S 3) (upd (S 4) (S 10 0).toNatClampNeg k) (S 5) (S 6) (S 7) (S 8) (S 9) (S 10 0) (S 11 0) (S 12) (S 13) (S 14 0) (S 15 0) (S 16)) H := hP
              have hD : va_D A (wXr cI cZ x a (S 0) (S 1) (S 2) (S 3) (upd (S 4) (S 10 0).toNatClampNeg k) (S 5) (S 6) (S 7) (S 8) (S 9) (S 10 0) (S 11 0) (S 12) (S 13) (S 14 0) (S 15 0) (S 16)) := hD
              refine lv_aload_n hx hb dX0_addCue_120 rfl (lv_at hl 1 rfl) ?_
              have hf26 := hts (.fieldLink RX0 26 "Clockmask" "cuePlayer" "[I") (by decide +kernel)
              refine va_get (D := D) (ci := 0) (v := .ref (a 5)) (C := RX0) (T := TX0) (N := 17) hx hb hts hin hown hK hP 0 rfl rfl 5 (by decide) hf26 (fun _ h9 => h9) rfl dX0_addCue_121 ?_
              refine lv_iload hx hb dX0_addCue_124 (lv_at hl 0 rfl) ?_
              refine lv_iload_n hx hb dX0_addCue_126 rfl (lv_at hl 3 rfl) ?_
              refine va_iast (f := S 5) (n := 24) hx hb hK hP hD hS 6 0 rfl rfl (by assumption) dX0_addCue_127 (fun H locs hP hD hS => ?_)
              have hP : va_P D vwCl (wXr cI cZ x a (S 0) (S 1) (S 2) (S 3) (upd (S 4) (S 10 0).toNatClampNeg k) (upd (S 5) (S 10 0).toNatClampNeg p) (S 6) (S 7) (S 8) (S 9) (S 10 0) (S 11 0) (S 12) (S 13) (S 14 0) (S 15 0) (S 16)) H := hP
              have hD : va_D A (wXr cI cZ x a (S 0) (S 1) (S 2) (S 3) (upd (S 4) (S 10 0).toNatClampNeg k) (upd (S 5) (S 10 0).toNatClampNeg p) (S 6) (S 7) (S 8) (S 9) (S 10 0) (S 11 0) (S 12) (S 13) (S 14 0) (S 15 0) (S 16)) := hD
              refine lv_aload_n hx hb dX0_addCue_128 rfl (lv_at hl 1 rfl) ?_
              have hf29 := hts (.fieldLink RX0 29 "Clockmask" "cueOther" "[I") (by decide +kernel)
              refine va_get (D := D) (ci := 0) (v := .ref (a 6)) (C := RX0) (T := TX0) (N := 17) hx hb hts hin hown hK hP 0 rfl rfl 6 (by decide) hf29 (fun _ h9 => h9) rfl dX0_addCue_129 ?_
              refine lv_iload hx hb dX0_addCue_132 (lv_at hl 0 rfl) ?_
              refine lv_iload_n hx hb dX0_addCue_134 rfl (lv_at hl 4 rfl) ?_
              refine va_iast (f := S 6) (n := 24) hx hb hK hP hD hS 7 0 rfl rfl (by assumption) dX0_addCue_135 (fun H locs hP hD hS => ?_)
              have hP : va_P D vwCl (wXr cI cZ x a (S 0) (S 1) (S 2) (S 3) (upd (S 4) (S 10 0).toNatClampNeg k) (upd (S 5) (S 10 0).toNatClampNeg p) (upd (S 6) (S 10 0).toNatClampNeg o) (S 7) (S 8) (S 9) (S 10 0) (S 11 0) (S 12) (S 13) (S 14 0) (S 15 0) (S 16)) H := hP
              have hD : va_D A (wXr cI cZ x a (S 0) (S 1) (S 2) (S 3) (upd (S 4) (S 10 0).toNatClampNeg k) (upd (S 5) (S 10 0).toNatClampNeg p) (upd (S 6) (S 10 0).toNatClampNeg o) (S 7) (S 8) (S 9) (S 10 0) (S 11 0) (S 12) (S 13) (S 14 0) (S 15 0) (S 16)) := hD
              refine lv_aload_n hx hb dX0_addCue_136 rfl (lv_at hl 1 rfl) ?_
              have hf32 := hts (.fieldLink RX0 32 "Clockmask" "cueWaits" "[I") (by decide +kernel)
              refine va_get (D := D) (ci := 0) (v := .ref (a 7)) (C := RX0) (T := TX0) (N := 17) hx hb hts hin hown hK hP 0 rfl rfl 7 (by decide) hf32 (fun _ h9 => h9) rfl dX0_addCue_137 ?_
              refine lv_iload hx hb dX0_addCue_140 (lv_at hl 0 rfl) ?_
              refine lv_iload hx hb dX0_addCue_142 (lv_at hl 5 rfl) ?_
              refine va_iast (f := S 7) (n := 24) hx hb hK hP hD hS 8 0 rfl rfl (by assumption) dX0_addCue_144 (fun H locs hP hD hS => ?_)
              have hP : va_P D vwCl (wXr cI cZ x a (S 0) (S 1) (S 2) (S 3) (upd (S 4) (S 10 0).toNatClampNeg k) (upd (S 5) (S 10 0).toNatClampNeg p) (upd (S 6) (S 10 0).toNatClampNeg o) (upd (S 7) (S 10 0).toNatClampNeg w) (S 8) (S 9) (S 10 0) (S 11 0) (S 12) (S 13) (S 14 0) (S 15 0) (S 16)) H := hP
              have hD : va_D A (wXr cI cZ x a (S 0) (S 1) (S 2) (S 3) (upd (S 4) (S 10 0).toNatClampNeg k) (upd (S 5) (S 10 0).toNatClampNeg p) (upd (S 6) (S 10 0).toNatClampNeg o) (upd (S 7) (S 10 0).toNatClampNeg w) (S 8) (S 9) (S 10 0) (S 11 0) (S 12) (S 13) (S 14 0) (S 15 0) (S 16)) := hD
              refine lv_aload_n hx hb dX0_addCue_145 rfl (lv_at hl 1 rfl) ?_
              have hf35 := hts (.fieldLink RX0 35 "Clockmask" "cueState" "[I") (by decide +kernel)
              refine va_get (D := D) (ci := 0) (v := .ref (a 8)) (C := RX0) (T := TX0) (N := 17) hx hb hts hin hown hK hP 0 rfl rfl 8 (by decide) hf35 (fun _ h9 => h9) rfl dX0_addCue_146 ?_
              refine lv_iload hx hb dX0_addCue_149 (lv_at hl 0 rfl) ?_
              refine lv_iconst (v := 0) hx hb dX0_addCue_151 (by decide) ?_
              refine va_iast (f := S 8) (n := 24) hx hb hK hP hD hS 9 0 rfl rfl (by assumption) dX0_addCue_152 (fun H locs hP hD hS => ?_)
              have hP : va_P D vwCl (wXr cI cZ x a (S 0) (S 1) (S 2) (S 3) (upd (S 4) (S 10 0).toNatClampNeg k) (upd (S 5) (S 10 0).toNatClampNeg p) (upd (S 6) (S 10 0).toNatClampNeg o) (upd (S 7) (S 10 0).toNatClampNeg w) (upd (S 8) (S 10 0).toNatClampNeg 0) (S 9) (S 10 0) (S 11 0) (S 12) (S 13) (S 14 0) (S 15 0) (S 16)) H := hP
              have hD : va_D A (wXr cI cZ x a (S 0) (S 1) (S 2) (S 3) (upd (S 4) (S 10 0).toNatClampNeg k) (upd (S 5) (S 10 0).toNatClampNeg p) (upd (S 6) (S 10 0).toNatClampNeg o) (upd (S 7) (S 10 0).toNatClampNeg w) (upd (S 8) (S 10 0).toNatClampNeg 0) (S 9) (S 10 0) (S 11 0) (S 12) (S 13) (S 14 0) (S 15 0) (S 16)) := hD
              refine lv_aload_n hx hb dX0_addCue_153 rfl (lv_at hl 1 rfl) ?_
              refine lv_dup hx hb dX0_addCue_154 rfl ?_
              refine va_get (D := D) (ci := 0) (v := .int (S 10 0)) (C := RX0) (T := TX0) (N := 17) hx hb hts hin hown hK hP 0 rfl rfl 10 (by decide) hf104 (fun _ h9 => h9) rfl dX0_addCue_155 ?_
              refine lv_iconst (v := 1) hx hb dX0_addCue_158 (by decide) ?_
              refine lv_iadd hx hb dX0_addCue_159 ?_
              refine va_put (D := D) (ci := 0) (v := .int ((S 10 0) + 1)) (ty := .int) (C := RX0) (T := TX0) (N := 17) hx hb hts hin tyX0 tyX0_ok nmX0 hown hK hP hD hS 0 rfl rfl 10 (by decide) hf104 (fun _ h9 => h9) rfl (by decide +kernel) rfl rfl (Nat.le_of_ble_eq_true rfl) dX0_addCue_160 (fun H locs hP hD hS => ?_)
              have hP : va_P D vwCl (wXr cI cZ x a (S 0) (S 1) (S 2) (S 3) (upd (S 4) (S 10 0).toNatClampNeg k) (upd (S 5) (S 10 0).toNatClampNeg p) (upd (S 6) (S 10 0).toNatClampNeg o) (upd (S 7) (S 10 0).toNatClampNeg w) (upd (S 8) (S 10 0).toNatClampNeg 0) (S 9) ((S 10 0) + 1) (S 11 0) (S 12) (S 13) (S 14 0) (S 15 0) (S 16)) H := hP
              have hD : va_D A (wXr cI cZ x a (S 0) (S 1) (S 2) (S 3) (upd (S 4) (S 10 0).toNatClampNeg k) (upd (S 5) (S 10 0).toNatClampNeg p) (upd (S 6) (S 10 0).toNatClampNeg o) (upd (S 7) (S 10 0).toNatClampNeg w) (upd (S 8) (S 10 0).toNatClampNeg 0) (S 9) ((S 10 0) + 1) (S 11 0) (S 12) (S 13) (S 14 0) (S 15 0) (S 16)) := hD
              refine lv_iload hx hb dX0_addCue_163 (lv_at hl 0 rfl) ?_
              exact vy_ret (W.iret (v := S 10 0) hx hb hr (fun t ht hW => ⟨⟨_, row (row (row (row (row (row S 4 (upd (S 4) (S 10 0).toNatClampNeg k)) 5 (upd (S 5) (S 10 0).toNatClampNeg p)) 6 (upd (S 6) (S 10 0).toNatClampNeg o)) 7 (upd (S 7) (S 10 0).toNatClampNeg w)) 8 (upd (S 8) (S 10 0).toNatClampNeg 0)) 10 (kf ((S 10 0) + 1)), rfl, (cif_t ⟨c_1, c_6⟩).trans ((cif_t ⟨h_20, h_25, h2⟩).trans (cif_t ⟨c_46, hn, hw3⟩)), by rw [ht]; exact hP, hD⟩, hS.F ht⟩) hS.2.2 dX0_addCue_165)
            · skip
              refine lv_aload_n hx hb dX0_addCue_85 rfl (lv_at hl 0 rfl) ?_
              have hf35 := hts (.fieldLink RX0 35 "Clockmask" "cueState" "[I") (by decide +kernel)
              refine va_get (D := D) (ci := 0) (v := .ref (a 8)) (C := RX0) (T := TX0) (N := 17) hx hb hts hin hown hK hP 0 rfl rfl 8 (by decide) hf35 (fun _ h9 => h9) rfl dX0_addCue_86 ?_
              refine lv_iload hx hb dX0_addCue_89 (lv_at hl 4 rfl) ?_
              refine va_iald (f := S 8) (n := 24) hx hb hK hP 9 0 rfl rfl (hI.q24 (h2.resolve_left c_82)) dX0_addCue_91 ?_
              refine lv_iconst (v := 2) hx hb dX0_addCue_92 (by decide) ?_
              refine lv_icmp_ne (tgt := 106) hx hb dX0_addCue_93 (by decide) (fun c_93 => ?_) (fun c_93 => ?_)
              · skip
                have hw3 : w = -1 ∨ S 8 w.toNatClampNeg ≠ 2 := Or.inr c_93
                have hc24 : vp_in (S 10 0) 24 := hI.lt24 c_46
                refine lv_aload_n hx hb dX0_addCue_106 rfl (lv_at hl 0 rfl) ?_
                refine va_get (D := D) (ci := 0) (v := .int (S 10 0)) (C := RX0) (T := TX0) (N := 17) hx hb hts hin hown hK hP 0 rfl rfl 10 (by decide) hf104 (fun _ h9 => h9) rfl dX0_addCue_107 ?_
                refine lv_istore (lv' := [(5, .int (S 10 0)), (0, .ref x), (1, .int k), (2, .int p), (3, .int o), (4, .int w)]) hx hb dX0_addCue_110 hl (by decide) rfl (fun ls hl => ?_)
                refine lv_aload_n hx hb dX0_addCue_112 rfl (lv_at hl 1 rfl) ?_
                have hf23 := hts (.fieldLink RX0 23 "Clockmask" "cueKind" "[I") (by decide +kernel)
                refine va_get (D := D) (ci := 0) (v := .ref (a 4)) (C := RX0) (T := TX0) (N := 17) hx hb hts hin hown hK hP 0 rfl rfl 4 (by decide) hf23 (fun _ h9 => h9) rfl dX0_addCue_113 ?_
                refine lv_iload hx hb dX0_addCue_116 (lv_at hl 0 rfl) ?_
                refine lv_iload_n hx hb dX0_addCue_118 rfl (lv_at hl 2 rfl) ?_
                refine va_iast (f := S 4) (n := 24) hx hb hK hP hD hS 5 0 rfl rfl (by assumption) dX0_addCue_119 (fun H locs hP hD hS => ?_)
                have hP : va_P D vwCl (wXr cI cZ x a (S 0) (S 1) (S 2) (S 3) (upd (S 4) (S 10 0).toNatClampNeg k) (S 5) (S 6) (S 7) (S 8) (S 9) (S 10 0) (S 11 0) (S 12) (S 13) (S 14 0) (S 15 0) (S 16)) H := hP
                have hD : va_D A (wXr cI cZ x a (S 0) (S 1) (S 2) (S 3) (upd (S 4) (S 10 0).toNatClampNeg k) (S 5) (S 6) (S 7) (S 8) (S 9) (S 10 0) (S 11 0) (S 12) (S 13) (S 14 0) (S 15 0) (S 16)) := hD
                refine lv_aload_n hx hb dX0_addCue_120 rfl (lv_at hl 1 rfl) ?_
                have hf26 := hts (.fieldLink RX0 26 "Clockmask" "cuePlayer" "[I") (by decide +kernel)
                refine va_get (D := D) (ci := 0) (v := .ref (a 5)) (C := RX0) (T := TX0) (N := 17) hx hb hts hin hown hK hP 0 rfl rfl 5 (by decide) hf26 (fun _ h9 => h9) rfl dX0_addCue_121 ?_
                refine lv_iload hx hb dX0_addCue_124 (lv_at hl 0 rfl) ?_
                refine lv_iload_n hx hb dX0_addCue_126 rfl (lv_at hl 3 rfl) ?_
                refine va_iast (f := S 5) (n := 24) hx hb hK hP hD hS 6 0 rfl rfl (by assumption) dX0_addCue_127 (fun H locs hP hD hS => ?_)
                have hP : va_P D vwCl (wXr cI cZ x a (S 0) (S 1) (S 2) (S 3) (upd (S 4) (S 10 0).toNatClampNeg k) (upd (S 5) (S 10 0).toNatClampNeg p) (S 6) (S 7) (S 8) (S 9) (S 10 0) (S 11 0) (S 12) (S 13) (S 14 0) (S 15 0) (S 16)) H := hP
                have hD : va_D A (wXr cI cZ x a (S 0) (S 1) (S 2) (S 3) (upd (S 4) (S 10 0).toNatClampNeg k) (upd (S 5) (S 10 0).toNatClampNeg p) (S 6) (S 7) (S 8) (S 9) (S 10 0) (S 11 0) (S 12) (S 13) (S 14 0) (S 15 0) (S 16)) := hD
                refine lv_aload_n hx hb dX0_addCue_128 rfl (lv_at hl 1 rfl) ?_
                have hf29 := hts (.fieldLink RX0 29 "Clockmask" "cueOther" "[I") (by decide +kernel)
                refine va_get (D := D) (ci := 0) (v := .ref (a 6)) (C := RX0) (T := TX0) (N := 17) hx hb hts hin hown hK hP 0 rfl rfl 6 (by decide) hf29 (fun _ h9 => h9) rfl dX0_addCue_129 ?_
                refine lv_iload hx hb dX0_addCue_132 (lv_at hl 0 rfl) ?_
                refine lv_iload_n hx hb dX0_addCue_134 rfl (lv_at hl 4 rfl) ?_
                refine va_iast (f := S 6) (n := 24) hx hb hK hP hD hS 7 0 rfl rfl (by assumption) dX0_addCue_135 (fun H locs hP hD hS => ?_)
                have hP : va_P D vwCl (wXr cI cZ x a (S 0) (S 1) (S 2) (S 3) (upd (S 4) (S 10 0).toNatClampNeg k) (upd (S 5) (S 10 0).toNatClampNeg p) (upd (S 6) (S 10 0).toNatClampNeg o) (S 7) (S 8) (S 9) (S 10 0) (S 11 0) (S 12) (S 13) (S 14 0) (S 15 0) (S 16)) H := hP
                have hD : va_D A (wXr cI cZ x a (S 0) (S 1) (S 2) (S 3) (upd (S 4) (S 10 0).toNatClampNeg k) (upd (S 5) (S 10 0).toNatClampNeg p) (upd (S 6) (S 10 0).toNatClampNeg o) (S 7) (S 8) (S 9) (S 10 0) (S 11 0) (S 12) (S 13) (S 14 0) (S 15 0) (S 16)) := hD
                refine lv_aload_n hx hb dX0_addCue_136 rfl (lv_at hl 1 rfl) ?_
                have hf32 := hts (.fieldLink RX0 32 "Clockmask" "cueWaits" "[I") (by decide +kernel)
                refine va_get (D := D) (ci := 0) (v := .ref (a 7)) (C := RX0) (T := TX0) (N := 17) hx hb hts hin hown hK hP 0 rfl rfl 7 (by decide) hf32 (fun _ h9 => h9) rfl dX0_addCue_137 ?_
                refine lv_iload hx hb dX0_addCue_140 (lv_at hl 0 rfl) ?_
                refine lv_iload hx hb dX0_addCue_142 (lv_at hl 5 rfl) ?_
                refine va_iast (f := S 7) (n := 24) hx hb hK hP hD hS 8 0 rfl rfl (by assumption) dX0_addCue_144 (fun H locs hP hD hS => ?_)
                have hP : va_P D vwCl (wXr cI cZ x a (S 0) (S 1) (S 2) (S 3) (upd (S 4) (S 10 0).toNatClampNeg k) (upd (S 5) (S 10 0).toNatClampNeg p) (upd (S 6) (S 10 0).toNatClampNeg o) (upd (S 7) (S 10 0).toNatClampNeg w) (S 8) (S 9) (S 10 0) (S 11 0) (S 12) (S 13) (S 14 0) (S 15 0) (S 16)) H := hP
                have hD : va_D A (wXr cI cZ x a (S 0) (S 1) (S 2) (S 3) (upd (S 4) (S 10 0).toNatClampNeg k) (upd (S 5) (S 10 0).toNatClampNeg p) (upd (S 6) (S 10 0).toNatClampNeg o) (upd (S 7) (S 10 0).toNatClampNeg w) (S 8) (S 9) (S 10 0) (S 11 0) (S 12) (S 13) (S 14 0) (S 15 0) (S 16)) := hD
                refine lv_aload_n hx hb dX0_addCue_145 rfl (lv_at hl 1 rfl) ?_
                refine va_get (D := D) (ci := 0) (v := .ref (a 8)) (C := RX0) (T := TX0) (N := 17) hx hb hts hin hown hK hP 0 rfl rfl 8 (by decide) hf35 (fun _ h9 => h9) rfl dX0_addCue_146 ?_
                refine lv_iload hx hb dX0_addCue_149 (lv_at hl 0 rfl) ?_
                refine lv_iconst (v := 0) hx hb dX0_addCue_151 (by decide) ?_
                refine va_iast (f := S 8) (n := 24) hx hb hK hP hD hS 9 0 rfl rfl (by assumption) dX0_addCue_152 (fun H locs hP hD hS => ?_)
                have hP : va_P D vwCl (wXr cI cZ x a (S 0) (S 1) (S 2) (S 3) (upd (S 4) (S 10 0).toNatClampNeg k) (upd (S 5) (S 10 0).toNatClampNeg p) (upd (S 6) (S 10 0).toNatClampNeg o) (upd (S 7) (S 10 0).toNatClampNeg w) (upd (S 8) (S 10 0).toNatClampNeg 0) (S 9) (S 10 0) (S 11 0) (S 12) (S 13) (S 14 0) (S 15 0) (S 16)) H := hP
                have hD : va_D A (wXr cI cZ x a (S 0) (S 1) (S 2) (S 3) (upd (S 4) (S 10 0).toNatClampNeg k) (upd (S 5) (S 10 0).toNatClampNeg p) (upd (S 6) (S 10 0).toNatClampNeg o) (upd (S 7) (S 10 0).toNatClampNeg w) (upd (S 8) (S 10 0).toNatClampNeg 0) (S 9) (S 10 0) (S 11 0) (S 12) (S 13) (S 14 0) (S 15 0) (S 16)) := hD
                refine lv_aload_n hx hb dX0_addCue_153 rfl (lv_at hl 1 rfl) ?_
                refine lv_dup hx hb dX0_addCue_154 rfl ?_
                refine va_get (D := D) (ci := 0) (v := .int (S 10 0)) (C := RX0) (T := TX0) (N := 17) hx hb hts hin hown hK hP 0 rfl rfl 10 (by decide) hf104 (fun _ h9 => h9) rfl dX0_addCue_155 ?_
                refine lv_iconst (v := 1) hx hb dX0_addCue_158 (by decide) ?_
                refine lv_iadd hx hb dX0_addCue_159 ?_
                refine va_put (D := D) (ci := 0) (v := .int ((S 10 0) + 1)) (ty := .int) (C := RX0) (T := TX0) (N := 17) hx hb hts hin tyX0 tyX0_ok nmX0 hown hK hP hD hS 0 rfl rfl 10 (by decide) hf104 (fun _ h9 => h9) rfl (by decide +kernel) rfl rfl (Nat.le_of_ble_eq_true rfl) dX0_addCue_160 (fun H locs hP hD hS => ?_)
                have hP : va_P D vwCl (wXr cI cZ x a (S 0) (S 1) (S 2) (S 3) (upd (S 4) (S 10 0).toNatClampNeg k) (upd (S 5) (S 10 0).toNatClampNeg p) (upd (S 6) (S 10 0).toNatClampNeg o) (upd (S 7) (S 10 0).toNatClampNeg w) (upd (S 8) (S 10 0).toNatClampNeg 0) (S 9) ((S 10 0) + 1) (S 11 0) (S 12) (S 13) (S 14 0) (S 15 0) (S 16)) H := hP
                have hD : va_D A (wXr cI cZ x a (S 0) (S 1) (S 2) (S 3) (upd (S 4) (S 10 0).toNatClampNeg k) (upd (S 5) (S 10 0).toNatClampNeg p) (upd (S 6) (S 10 0).toNatClampNeg o) (upd (S 7) (S 10 0).toNatClampNeg w) (upd (S 8) (S 10 0).toNatClampNeg 0) (S 9) ((S 10 0) + 1) (S 11 0) (S 12) (S 13) (S 14 0) (S 15 0) (S 16)) := hD
                refine lv_iload hx hb dX0_addCue_163 (lv_at hl 0 rfl) ?_
                exact vy_ret (W.iret (v := S 10 0) hx hb hr (fun t ht hW => ⟨⟨_, row (row (row (row (row (row S 4 (upd (S 4) (S 10 0).toNatClampNeg k)) 5 (upd (S 5) (S 10 0).toNatClampNeg p)) 6 (upd (S 6) (S 10 0).toNatClampNeg o)) 7 (upd (S 7) (S 10 0).toNatClampNeg w)) 8 (upd (S 8) (S 10 0).toNatClampNeg 0)) 10 (kf ((S 10 0) + 1)), rfl, (cif_t ⟨c_1, c_6⟩).trans ((cif_t ⟨h_20, h_25, h2⟩).trans (cif_t ⟨c_46, hn, hw3⟩)), by rw [ht]; exact hP, hD⟩, hS.F ht⟩) hS.2.2 dX0_addCue_165)
              · skip
                exact x_throwS (text := "the cue for which to wait was missed") hx hb hfl hown (by decide) (hts (.classLink RX0 78 xIS) (by decide +kernel)) (hts (.initialized xIS) (by decide +kernel)) (fun w h => hts w (List.mem_cons_of_mem _ (List.mem_append_left _ (List.mem_append_right _ h)))) xIS_b xIS_g hG (by decide) (hl.1.trans hml.symm) dX0_addCue_96 dX0_addCue_99 dX0_addCue_100 dX0_addCue_102 dX0_addCue_105 hout ⟨by decide, by decide, by decide, by decide⟩ hlocks (Or.inr (Or.inr ⟨rfl, (cif_t ⟨c_1, c_6⟩).trans ((cif_t ⟨h_20, h_25, h2⟩).trans (cif_f (fun h => h.2.2.elim c_82 (fun z => z c_93))))⟩))
          · skip
            refine lv_iload_n hx hb dX0_addCue_64 rfl (lv_at hl 2 rfl) ?_
            refine lv_iload_n hx hb dX0_addCue_65 rfl (lv_at hl 3 rfl) ?_
            refine lv_icmp_ne (tgt := 79) hx hb dX0_addCue_66 (by decide) (fun c_66 => ?_) (fun c_66 => ?_)
            · skip
              have hn : ¬ (k = 4 ∧ p = o) := fun z => c_66 z.2
              refine lv_iload hx hb dX0_addCue_79 (lv_at hl 4 rfl) ?_
              refine lv_iconst (v := (-1)) hx hb dX0_addCue_81 (by decide) ?_
              refine lv_icmp_eq (tgt := 106) hx hb dX0_addCue_82 (by decide) (fun c_82 => ?_) (fun c_82 => ?_)
              · skip
                have hw3 : w = -1 ∨ S 8 w.toNatClampNeg ≠ 2 := Or.inl c_82
                have hc24 : vp_in (S 10 0) 24 := hI.lt24 c_46
                refine lv_aload_n hx hb dX0_addCue_106 rfl (lv_at hl 0 rfl) ?_
                refine va_get (D := D) (ci := 0) (v := .int (S 10 0)) (C := RX0) (T := TX0) (N := 17) hx hb hts hin hown hK hP 0 rfl rfl 10 (by decide) hf104 (fun _ h9 => h9) rfl dX0_addCue_107 ?_
                refine lv_istore (lv' := [(5, .int (S 10 0)), (0, .ref x), (1, .int k), (2, .int p), (3, .int o), (4, .int w)]) hx hb dX0_addCue_110 hl (by decide) rfl (fun ls hl => ?_)
                refine lv_aload_n hx hb dX0_addCue_112 rfl (lv_at hl 1 rfl) ?_
                have hf23 := hts (.fieldLink RX0 23 "Clockmask" "cueKind" "[I") (by decide +kernel)
                refine va_get (D := D) (ci := 0) (v := .ref (a 4)) (C := RX0) (T := TX0) (N := 17) hx hb hts hin hown hK hP 0 rfl rfl 4 (by decide) hf23 (fun _ h9 => h9) rfl dX0_addCue_113 ?_
                refine lv_iload hx hb dX0_addCue_116 (lv_at hl 0 rfl) ?_
                refine lv_iload_n hx hb dX0_addCue_118 rfl (lv_at hl 2 rfl) ?_
                refine va_iast (f := S 4) (n := 24) hx hb hK hP hD hS 5 0 rfl rfl (by assumption) dX0_addCue_119 (fun H locs hP hD hS => ?_)
                have hP : va_P D vwCl (wXr cI cZ x a (S 0) (S 1) (S 2) (S 3) (upd (S 4) (S 10 0).toNatClampNeg k) (S 5) (S 6) (S 7) (S 8) (S 9) (S 10 0) (S 11 0) (S 12) (S 13) (S 14 0) (S 15 0) (S 16)) H := hP
                have hD : va_D A (wXr cI cZ x a (S 0) (S 1) (S 2) (S 3) (upd (S 4) (S 10 0).toNatClampNeg k) (S 5) (S 6) (S 7) (S 8) (S 9) (S 10 0) (S 11 0) (S 12) (S 13) (S 14 0) (S 15 0) (S 16)) := hD
                refine lv_aload_n hx hb dX0_addCue_120 rfl (lv_at hl 1 rfl) ?_
                have hf26 := hts (.fieldLink RX0 26 "Clockmask" "cuePlayer" "[I") (by decide +kernel)
                refine va_get (D := D) (ci := 0) (v := .ref (a 5)) (C := RX0) (T := TX0) (N := 17) hx hb hts hin hown hK hP 0 rfl rfl 5 (by decide) hf26 (fun _ h9 => h9) rfl dX0_addCue_121 ?_
                refine lv_iload hx hb dX0_addCue_124 (lv_at hl 0 rfl) ?_
                refine lv_iload_n hx hb dX0_addCue_126 rfl (lv_at hl 3 rfl) ?_
                refine va_iast (f := S 5) (n := 24) hx hb hK hP hD hS 6 0 rfl rfl (by assumption) dX0_addCue_127 (fun H locs hP hD hS => ?_)
                have hP : va_P D vwCl (wXr cI cZ x a (S 0) (S 1) (S 2) (S 3) (upd (S 4) (S 10 0).toNatClampNeg k) (upd (S 5) (S 10 0).toNatClampNeg p) (S 6) (S 7) (S 8) (S 9) (S 10 0) (S 11 0) (S 12) (S 13) (S 14 0) (S 15 0) (S 16)) H := hP
                have hD : va_D A (wXr cI cZ x a (S 0) (S 1) (S 2) (S 3) (upd (S 4) (S 10 0).toNatClampNeg k) (upd (S 5) (S 10 0).toNatClampNeg p) (S 6) (S 7) (S 8) (S 9) (S 10 0) (S 11 0) (S 12) (S 13) (S 14 0) (S 15 0) (S 16)) := hD
                refine lv_aload_n hx hb dX0_addCue_128 rfl (lv_at hl 1 rfl) ?_
                have hf29 := hts (.fieldLink RX0 29 "Clockmask" "cueOther" "[I") (by decide +kernel)
                refine va_get (D := D) (ci := 0) (v := .ref (a 6)) (C := RX0) (T := TX0) (N := 17) hx hb hts hin hown hK hP 0 rfl rfl 6 (by decide) hf29 (fun _ h9 => h9) rfl dX0_addCue_129 ?_
                refine lv_iload hx hb dX0_addCue_132 (lv_at hl 0 rfl) ?_
                refine lv_iload_n hx hb dX0_addCue_134 rfl (lv_at hl 4 rfl) ?_
                refine va_iast (f := S 6) (n := 24) hx hb hK hP hD hS 7 0 rfl rfl (by assumption) dX0_addCue_135 (fun H locs hP hD hS => ?_)
                have hP : va_P D vwCl (wXr cI cZ x a (S 0) (S 1) (S 2) (S 3) (upd (S 4) (S 10 0).toNatClampNeg k) (upd (S 5) (S 10 0).toNatClampNeg p) (upd (S 6) (S 10 0).toNatClampNeg o) (S 7) (S 8) (S 9) (S 10 0) (S 11 0) (S 12) (S 13) (S 14 0) (S 15 0) (S 16)) H := hP
                have hD : va_D A (wXr cI cZ x a (S 0) (S 1) (S 2) (S 3) (upd (S 4) (S 10 0).toNatClampNeg k) (upd (S 5) (S 10 0).toNatClampNeg p) (upd (S 6) (S 10 0).toNatClampNeg o) (S 7) (S 8) (S 9) (S 10 0) (S 11 0) (S 12) (S 13) (S 14 0) (S 15 0) (S 16)) := hD
                refine lv_aload_n hx hb dX0_addCue_136 rfl (lv_at hl 1 rfl) ?_
                have hf32 := hts (.fieldLink RX0 32 "Clockmask" "cueWaits" "[I") (by decide +kernel)
                refine va_get (D := D) (ci := 0) (v := .ref (a 7)) (C := RX0) (T := TX0) (N := 17) hx hb hts hin hown hK hP 0 rfl rfl 7 (by decide) hf32 (fun _ h9 => h9) rfl dX0_addCue_137 ?_
                refine lv_iload hx hb dX0_addCue_140 (lv_at hl 0 rfl) ?_
                refine lv_iload hx hb dX0_addCue_142 (lv_at hl 5 rfl) ?_
                refine va_iast (f := S 7) (n := 24) hx hb hK hP hD hS 8 0 rfl rfl (by assumption) dX0_addCue_144 (fun H locs hP hD hS => ?_)
                have hP : va_P D vwCl (wXr cI cZ x a (S 0) (S 1) (S 2) (S 3) (upd (S 4) (S 10 0).toNatClampNeg k) (upd (S 5) (S 10 0).toNatClampNeg p) (upd (S 6) (S 10 0).toNatClampNeg o) (upd (S 7) (S 10 0).toNatClampNeg w) (S 8) (S 9) (S 10 0) (S 11 0) (S 12) (S 13) (S 14 0) (S 15 0) (S 16)) H := hP
                have hD : va_D A (wXr cI cZ x a (S 0) (S 1) (S 2) (S 3) (upd (S 4) (S 10 0).toNatClampNeg k) (upd (S 5) (S 10 0).toNatClampNeg p) (upd (S 6) (S 10 0).toNatClampNeg o) (upd (S 7) (S 10 0).toNatClampNeg w) (S 8) (S 9) (S 10 0) (S 11 0) (S 12) (S 13) (S 14 0) (S 15 0) (S 16)) := hD
                refine lv_aload_n hx hb dX0_addCue_145 rfl (lv_at hl 1 rfl) ?_
                have hf35 := hts (.fieldLink RX0 35 "Clockmask" "cueState" "[I") (by decide +kernel)
                refine va_get (D := D) (ci := 0) (v := .ref (a 8)) (C := RX0) (T := TX0) (N := 17) hx hb hts hin hown hK hP 0 rfl rfl 8 (by decide) hf35 (fun _ h9 => h9) rfl dX0_addCue_146 ?_
                refine lv_iload hx hb dX0_addCue_149 (lv_at hl 0 rfl) ?_
                refine lv_iconst (v := 0) hx hb dX0_addCue_151 (by decide) ?_
                refine va_iast (f := S 8) (n := 24) hx hb hK hP hD hS 9 0 rfl rfl (by assumption) dX0_addCue_152 (fun H locs hP hD hS => ?_)
                have hP : va_P D vwCl (wXr cI cZ x a (S 0) (S 1) (S 2) (S 3) (upd (S 4) (S 10 0).toNatClampNeg k) (upd (S 5) (S 10 0).toNatClampNeg p) (upd (S 6) (S 10 0).toNatClampNeg o) (upd (S 7) (S 10 0).toNatClampNeg w) (upd (S 8) (S 10 0).toNatClampNeg 0) (S 9) (S 10 0) (S 11 0) (S 12) (S 13) (S 14 0) (S 15 0) (S 16)) H := hP
                have hD : va_D A (wXr cI cZ x a (S 0) (S 1) (S 2) (S 3) (upd (S 4) (S 10 0).toNatClampNeg k) (upd (S 5) (S 10 0).toNatClampNeg p) (upd (S 6) (S 10 0).toNatClampNeg o) (upd (S 7) (S 10 0).toNatClampNeg w) (upd (S 8) (S 10 0).toNatClampNeg 0) (S 9) (S 10 0) (S 11 0) (S 12) (S 13) (S 14 0) (S 15 0) (S 16)) := hD
                refine lv_aload_n hx hb dX0_addCue_153 rfl (lv_at hl 1 rfl) ?_
                refine lv_dup hx hb dX0_addCue_154 rfl ?_
                refine va_get (D := D) (ci := 0) (v := .int (S 10 0)) (C := RX0) (T := TX0) (N := 17) hx hb hts hin hown hK hP 0 rfl rfl 10 (by decide) hf104 (fun _ h9 => h9) rfl dX0_addCue_155 ?_
                refine lv_iconst (v := 1) hx hb dX0_addCue_158 (by decide) ?_
                refine lv_iadd hx hb dX0_addCue_159 ?_
                refine va_put (D := D) (ci := 0) (v := .int ((S 10 0) + 1)) (ty := .int) (C := RX0) (T := TX0) (N := 17) hx hb hts hin tyX0 tyX0_ok nmX0 hown hK hP hD hS 0 rfl rfl 10 (by decide) hf104 (fun _ h9 => h9) rfl (by decide +kernel) rfl rfl (Nat.le_of_ble_eq_true rfl) dX0_addCue_160 (fun H locs hP hD hS => ?_)
                have hP : va_P D vwCl (wXr cI cZ x a (S 0) (S 1) (S 2) (S 3) (upd (S 4) (S 10 0).toNatClampNeg k) (upd (S 5) (S 10 0).toNatClampNeg p) (upd (S 6) (S 10 0).toNatClampNeg o) (upd (S 7) (S 10 0).toNatClampNeg w) (upd (S 8) (S 10 0).toNatClampNeg 0) (S 9) ((S 10 0) + 1) (S 11 0) (S 12) (S 13) (S 14 0) (S 15 0) (S 16)) H := hP
                have hD : va_D A (wXr cI cZ x a (S 0) (S 1) (S 2) (S 3) (upd (S 4) (S 10 0).toNatClampNeg k) (upd (S 5) (S 10 0).toNatClampNeg p) (upd (S 6) (S 10 0).toNatClampNeg o) (upd (S 7) (S 10 0).toNatClampNeg w) (upd (S 8) (S 10 0).toNatClampNeg 0) (S 9) ((S 10 0) + 1) (S 11 0) (S 12) (S 13) (S 14 0) (S 15 0) (S 16)) := hD
                refine lv_iload hx hb dX0_addCue_163 (lv_at hl 0 rfl) ?_
                exact vy_ret (W.iret (v := S 10 0) hx hb hr (fun t ht hW => ⟨⟨_, row (row (row (row (row (row S 4 (upd (S 4) (S 10 0).toNatClampNeg k)) 5 (upd (S 5) (S 10 0).toNatClampNeg p)) 6 (upd (S 6) (S 10 0).toNatClampNeg o)) 7 (upd (S 7) (S 10 0).toNatClampNeg w)) 8 (upd (S 8) (S 10 0).toNatClampNeg 0)) 10 (kf ((S 10 0) + 1)), rfl, (cif_t ⟨c_1, c_6⟩).trans ((cif_t ⟨h_20, h_25, h2⟩).trans (cif_t ⟨c_46, hn, hw3⟩)), by rw [ht]; exact hP, hD⟩, hS.F ht⟩) hS.2.2 dX0_addCue_165)
              · skip
                refine lv_aload_n hx hb dX0_addCue_85 rfl (lv_at hl 0 rfl) ?_
                have hf35 := hts (.fieldLink RX0 35 "Clockmask" "cueState" "[I") (by decide +kernel)
                refine va_get (D := D) (ci := 0) (v := .ref (a 8)) (C := RX0) (T := TX0) (N := 17) hx hb hts hin hown hK hP 0 rfl rfl 8 (by decide) hf35 (fun _ h9 => h9) rfl dX0_addCue_86 ?_
                refine lv_iload hx hb dX0_addCue_89 (lv_at hl 4 rfl) ?_
                refine va_iald (f := S 8) (n := 24) hx hb hK hP 9 0 rfl rfl (hI.q24 (h2.resolve_left c_82)) dX0_addCue_91 ?_
                refine lv_iconst (v := 2) hx hb dX0_addCue_92 (by decide) ?_
                refine lv_icmp_ne (tgt := 106) hx hb dX0_addCue_93 (by decide) (fun c_93 => ?_) (fun c_93 => ?_)
                · skip
                  have hw3 : w = -1 ∨ S 8 w.toNatClampNeg ≠ 2 := Or.inr c_93
                  have hc24 : vp_in (S 10 0) 24 := hI.lt24 c_46
                  refine lv_aload_n hx hb dX0_addCue_106 rfl (lv_at hl 0 rfl) ?_
                  refine va_get (D := D) (ci := 0) (v := .int (S 10 0)) (C := RX0) (T := TX0) (N := 17) hx hb hts hin hown hK hP 0 rfl rfl 10 (by decide) hf104 (fun _ h9 => h9) rfl dX0_addCue_107 ?_
                  refine lv_istore (lv' := [(5, .int (S 10 0)), (0, .ref x), (1, .int k), (2, .int p), (3, .int o), (4, .int w)]) hx hb dX0_addCue_110 hl (by decide) rfl (fun ls hl => ?_)
                  refine lv_aload_n hx hb dX0_addCue_112 rfl (lv_at hl 1 rfl) ?_
                  have hf23 := hts (.fieldLink RX0 23 "Clockmask" "cueKind" "[I") (by decide +kernel)
                  refine va_get (D := D) (ci := 0) (v := .ref (a 4)) (C := RX0) (T := TX0) (N := 17) hx hb hts hin hown hK hP 0 rfl rfl 4 (by decide) hf23 (fun _ h9 => h9) rfl dX0_addCue_113 ?_
                  refine lv_iload hx hb dX0_addCue_116 (lv_at hl 0 rfl) ?_
                  refine lv_iload_n hx hb dX0_addCue_118 rfl (lv_at hl 2 rfl) ?_
                  refine va_iast (f := S 4) (n := 24) hx hb hK hP hD hS 5 0 rfl rfl (by assumption) dX0_addCue_119 (fun H locs hP hD hS => ?_)
                  have hP : va_P D vwCl (wXr cI cZ x a (S 0) (S 1) (S 2) (S 3) (upd (S 4) (S 10 0).toNatClampNeg k) (S 5) (S 6) (S 7) (S 8) (S 9) (S 10 0) (S 11 0) (S 12) (S 13) (S 14 0) (S 15 0) (S 16)) H := hP
                  have hD : va_D A (wXr cI cZ x a (S 0) (S 1) (S 2) (S 3) (upd (S 4) (S 10 0).toNatClampNeg k) (S 5) (S 6) (S 7) (S 8) (S 9) (S 10 0) (S 11 0) (S 12) (S 13) (S 14 0) (S 15 0) (S 16)) := hD
                  refine lv_aload_n hx hb dX0_addCue_120 rfl (lv_at hl 1 rfl) ?_
                  have hf26 := hts (.fieldLink RX0 26 "Clockmask" "cuePlayer" "[I") (by decide +kernel)
                  refine va_get (D := D) (ci := 0) (v := .ref (a 5)) (C := RX0) (T := TX0) (N := 17) hx hb hts hin hown hK hP 0 rfl rfl 5 (by decide) hf26 (fun _ h9 => h9) rfl dX0_addCue_121 ?_
                  refine lv_iload hx hb dX0_addCue_124 (lv_at hl 0 rfl) ?_
                  refine lv_iload_n hx hb dX0_addCue_126 rfl (lv_at hl 3 rfl) ?_
                  refine va_iast (f := S 5) (n := 24) hx hb hK hP hD hS 6 0 rfl rfl (by assumption) dX0_addCue_127 (fun H locs hP hD hS => ?_)
                  have hP : va_P D vwCl (wXr cI cZ x a (S 0) (S 1) (S 2) (S 3) (upd (S 4) (S 10 0).toNatClampNeg k) (upd (S 5) (S 10 0).toNatClampNeg p) (S 6) (S 7) (S 8) (S 9) (S 10 0) (S 11 0) (S 12) (S 13) (S 14 0) (S 15 0) (S 16)) H := hP
                  have hD : va_D A (wXr cI cZ x a (S 0) (S 1) (S 2) (S 3) (upd (S 4) (S 10 0).toNatClampNeg k) (upd (S 5) (S 10 0).toNatClampNeg p) (S 6) (S 7) (S 8) (S 9) (S 10 0) (S 11 0) (S 12) (S 13) (S 14 0) (S 15 0) (S 16)) := hD
                  refine lv_aload_n hx hb dX0_addCue_128 rfl (lv_at hl 1 rfl) ?_
                  have hf29 := hts (.fieldLink RX0 29 "Clockmask" "cueOther" "[I") (by decide +kernel)
                  refine va_get (D := D) (ci := 0) (v := .ref (a 6)) (C := RX0) (T := TX0) (N := 17) hx hb hts hin hown hK hP 0 rfl rfl 6 (by decide) hf29 (fun _ h9 => h9) rfl dX0_addCue_129 ?_
                  refine lv_iload hx hb dX0_addCue_132 (lv_at hl 0 rfl) ?_
                  refine lv_iload_n hx hb dX0_addCue_134 rfl (lv_at hl 4 rfl) ?_
                  refine va_iast (f := S 6) (n := 24) hx hb hK hP hD hS 7 0 rfl rfl (by assumption) dX0_addCue_135 (fun H locs hP hD hS => ?_)
                  have hP : va_P D vwCl (wXr cI cZ x a (S 0) (S 1) (S 2) (S 3) (upd (S 4) (S 10 0).toNatClampNeg k) (upd (S 5) (S 10 0).toNatClampNeg p) (upd (S 6) (S 10 0).toNatClampNeg o) (S 7) (S 8) (S 9) (S 10 0) (S 11 0) (S 12) (S 13) (S 14 0) (S 15 0) (S 16)) H := hP
                  have hD : va_D A (wXr cI cZ x a (S 0) (S 1) (S 2) (S 3) (upd (S 4) (S 10 0).toNatClampNeg k) (upd (S 5) (S 10 0).toNatClampNeg p) (upd (S 6) (S 10 0).toNatClampNeg o) (S 7) (S 8) (S 9) (S 10 0) (S 11 0) (S 12) (S 13) (S 14 0) (S 15 0) (S 16)) := hD
                  refine lv_aload_n hx hb dX0_addCue_136 rfl (lv_at hl 1 rfl) ?_
                  have hf32 := hts (.fieldLink RX0 32 "Clockmask" "cueWaits" "[I") (by decide +kernel)
                  refine va_get (D := D) (ci := 0) (v := .ref (a 7)) (C := RX0) (T := TX0) (N := 17) hx hb hts hin hown hK hP 0 rfl rfl 7 (by decide) hf32 (fun _ h9 => h9) rfl dX0_addCue_137 ?_
                  refine lv_iload hx hb dX0_addCue_140 (lv_at hl 0 rfl) ?_
                  refine lv_iload hx hb dX0_addCue_142 (lv_at hl 5 rfl) ?_
                  refine va_iast (f := S 7) (n := 24) hx hb hK hP hD hS 8 0 rfl rfl (by assumption) dX0_addCue_144 (fun H locs hP hD hS => ?_)
                  have hP : va_P D vwCl (wXr cI cZ x a (S 0) (S 1) (S 2) (S 3) (upd (S 4) (S 10 0).toNatClampNeg k) (upd (S 5) (S 10 0).toNatClampNeg p) (upd (S 6) (S 10 0).toNatClampNeg o) (upd (S 7) (S 10 0).toNatClampNeg w) (S 8) (S 9) (S 10 0) (S 11 0) (S 12) (S 13) (S 14 0) (S 15 0) (S 16)) H := hP
                  have hD : va_D A (wXr cI cZ x a (S 0) (S 1) (S 2) (S 3) (upd (S 4) (S 10 0).toNatClampNeg k) (upd (S 5) (S 10 0).toNatClampNeg p) (upd (S 6) (S 10 0).toNatClampNeg o) (upd (S 7) (S 10 0).toNatClampNeg w) (S 8) (S 9) (S 10 0) (S 11 0) (S 12) (S 13) (S 14 0) (S 15 0) (S 16)) := hD
                  refine lv_aload_n hx hb dX0_addCue_145 rfl (lv_at hl 1 rfl) ?_
                  refine va_get (D := D) (ci := 0) (v := .ref (a 8)) (C := RX0) (T := TX0) (N := 17) hx hb hts hin hown hK hP 0 rfl rfl 8 (by decide) hf35 (fun _ h9 => h9) rfl dX0_addCue_146 ?_
                  refine lv_iload hx hb dX0_addCue_149 (lv_at hl 0 rfl) ?_
                  refine lv_iconst (v := 0) hx hb dX0_addCue_151 (by decide) ?_
                  refine va_iast (f := S 8) (n := 24) hx hb hK hP hD hS 9 0 rfl rfl (by assumption) dX0_addCue_152 (fun H locs hP hD hS => ?_)
                  have hP : va_P D vwCl (wXr cI cZ x a (S 0) (S 1) (S 2) (S 3) (upd (S 4) (S 10 0).toNatClampNeg k) (upd (S 5) (S 10 0).toNatClampNeg p) (upd (S 6) (S 10 0).toNatClampNeg o) (upd (S 7) (S 10 0).toNatClampNeg w) (upd (S 8) (S 10 0).toNatClampNeg 0) (S 9) (S 10 0) (S 11 0) (S 12) (S 13) (S 14 0) (S 15 0) (S 16)) H := hP
                  have hD : va_D A (wXr cI cZ x a (S 0) (S 1) (S 2) (S 3) (upd (S 4) (S 10 0).toNatClampNeg k) (upd (S 5) (S 10 0).toNatClampNeg p) (upd (S 6) (S 10 0).toNatClampNeg o) (upd (S 7) (S 10 0).toNatClampNeg w) (upd (S 8) (S 10 0).toNatClampNeg 0) (S 9) (S 10 0) (S 11 0) (S 12) (S 13) (S 14 0) (S 15 0) (S 16)) := hD
                  refine lv_aload_n hx hb dX0_addCue_153 rfl (lv_at hl 1 rfl) ?_
                  refine lv_dup hx hb dX0_addCue_154 rfl ?_
                  refine va_get (D := D) (ci := 0) (v := .int (S 10 0)) (C := RX0) (T := TX0) (N := 17) hx hb hts hin hown hK hP 0 rfl rfl 10 (by decide) hf104 (fun _ h9 => h9) rfl dX0_addCue_155 ?_
                  refine lv_iconst (v := 1) hx hb dX0_addCue_158 (by decide) ?_
                  refine lv_iadd hx hb dX0_addCue_159 ?_
                  refine va_put (D := D) (ci := 0) (v := .int ((S 10 0) + 1)) (ty := .int) (C := RX0) (T := TX0) (N := 17) hx hb hts hin tyX0 tyX0_ok nmX0 hown hK hP hD hS 0 rfl rfl 10 (by decide) hf104 (fun _ h9 => h9) rfl (by decide +kernel) rfl rfl (Nat.le_of_ble_eq_true rfl) dX0_addCue_160 (fun H locs hP hD hS => ?_)
                  have hP : va_P D vwCl (wXr cI cZ x a (S 0) (S 1) (S 2) (S 3) (upd (S 4) (S 10 0).toNatClampNeg k) (upd (S 5) (S 10 0).toNatClampNeg p) (upd (S 6) (S 10 0).toNatClampNeg o) (upd (S 7) (S 10 0).toNatClampNeg w) (upd (S 8) (S 10 0).toNatClampNeg 0) (S 9) ((S 10 0) + 1) (S 11 0) (S 12) (S 13) (S 14 0) (S 15 0) (S 16)) H := hP
                  have hD : va_D A (wXr cI cZ x a (S 0) (S 1) (S 2) (S 3) (upd (S 4) (S 10 0).toNatClampNeg k) (upd (S 5) (S 10 0).toNatClampNeg p) (upd (S 6) (S 10 0).toNatClampNeg o) (upd (S 7) (S 10 0).toNatClampNeg w) (upd (S 8) (S 10 0).toNatClampNeg 0) (S 9) ((S 10 0) + 1) (S 11 0) (S 12) (S 13) (S 14 0) (S 15 0) (S 16)) := hD
                  refine lv_iload hx hb dX0_addCue_163 (lv_at hl 0 rfl) ?_
                  exact vy_ret (W.iret (v := S 10 0) hx hb hr (fun t ht hW => ⟨⟨_, row (row (row (row (row (row S 4 (upd (S 4) (S 10 0).toNatClampNeg k)) 5 (upd (S 5) (S 10 0).toNatClampNeg p)) 6 (upd (S 6) (S 10 0).toNatClampNeg o)) 7 (upd (S 7) (S 10 0).toNatClampNeg w)) 8 (upd (S 8) (S 10 0).toNatClampNeg 0)) 10 (kf ((S 10 0) + 1)), rfl, (cif_t ⟨c_1, c_6⟩).trans ((cif_t ⟨h_20, h_25, h2⟩).trans (cif_t ⟨c_46, hn, hw3⟩)), by rw [ht]; exact hP, hD⟩, hS.F ht⟩) hS.2.2 dX0_addCue_165)
                · skip
                  exact x_throwS (text := "the cue for which to wait was missed") hx hb hfl hown (by decide) (hts (.classLink RX0 78 xIS) (by decide +kernel)) (hts (.initialized xIS) (by decide +kernel)) (fun w h => hts w (List.mem_cons_of_mem _ (List.mem_append_left _ (List.mem_append_right _ h)))) xIS_b xIS_g hG (by decide) (hl.1.trans hml.symm) dX0_addCue_96 dX0_addCue_99 dX0_addCue_100 dX0_addCue_102 dX0_addCue_105 hout ⟨by decide, by decide, by decide, by decide⟩ hlocks (Or.inr (Or.inr ⟨rfl, (cif_t ⟨c_1, c_6⟩).trans ((cif_t ⟨h_20, h_25, h2⟩).trans (cif_f (fun h => h.2.2.elim c_82 (fun z => z c_93))))⟩))
            · skip
              exact x_throwS (text := "a player cannot swap with itself") hx hb hfl hown (by decide) (hts (.classLink RX0 78 xIS) (by decide +kernel)) (hts (.initialized xIS) (by decide +kernel)) (fun w h => hts w (List.mem_cons_of_mem _ (List.mem_append_left _ (List.mem_append_right _ h)))) xIS_b xIS_g hG (by decide) (hl.1.trans hml.symm) dX0_addCue_69 dX0_addCue_72 dX0_addCue_73 dX0_addCue_75 dX0_addCue_78 hout ⟨by decide, by decide, by decide, by decide⟩ hlocks (Or.inr (Or.inr ⟨rfl, (cif_t ⟨c_1, c_6⟩).trans ((cif_t ⟨h_20, h_25, h2⟩).trans (cif_f (fun h => h.2.1 ⟨c_61, c_66⟩)))⟩))
        · skip
          exact x_throwS (text := "the play has no room for another cue") hx hb hfl hown (by decide) (hts (.classLink RX0 78 xIS) (by decide +kernel)) (hts (.initialized xIS) (by decide +kernel)) (fun w h => hts w (List.mem_cons_of_mem _ (List.mem_append_left _ (List.mem_append_right _ h)))) xIS_b xIS_g hG (by decide) (hl.1.trans hml.symm) dX0_addCue_49 dX0_addCue_52 dX0_addCue_53 dX0_addCue_55 dX0_addCue_58 hout ⟨by decide, by decide, by decide, by decide⟩ hlocks (Or.inr (Or.inr ⟨rfl, (cif_t ⟨c_1, c_6⟩).trans ((cif_t ⟨h_20, h_25, h2⟩).trans (cif_f (fun h => c_46 h.1)))⟩))
    · skip
      exact x_throwS (text := "no such kind of cue") hx hb hfl hown (by decide) (hts (.classLink RX0 71 xIA) (by decide +kernel)) (hts (.initialized xIA) (by decide +kernel)) (fun w h => hts w (List.mem_cons_of_mem _ (List.mem_append_left _ (List.mem_append_left _ (List.mem_append_right _ h))))) xIA_b xIA_g hG (by decide) (hl.1.trans hml.symm) dX0_addCue_9 dX0_addCue_12 dX0_addCue_13 dX0_addCue_15 dX0_addCue_18 hout ⟨by decide, by decide, by decide, by decide⟩ hlocks (Or.inl ⟨rfl, cif_f (fun h => c_6 h.2)⟩)
set_option maxHeartbeats 4000000 in
set_option maxRecDepth 100000 in
theorem c_X0_call (l : Launch) (hfl : l.stackTraces = false) (D : va_G) (cI cZ : ClassId) (x : Nat) (a : Nat → Nat) (S : ST) (sz : Nat) (q : Int32) (B : Nat) (hI : Inv B S) : vy_Met l yX0_call wsX0_call rmX0_call (va_Pc [.ref x, .int q] (fun U => (pW D (tyX cI cZ) (wX cI cZ x a S) sz) U ∧ pG U)) (va_Qi (fun (r : Int32) (u : ST) => k_call S q = (0, r, u)) (fun (u : ST) t => atW D (wX cI cZ x a u) (va_A (wX cI cZ x a S) sz) t) (va_A (wX cI cZ x a S) sz)) (xcs (fun E => (E = xIO ∧ k_call S q = (1, 0, S)) ∨ (E = xIS ∧ k_call S q = (2, 0, S)))) 1 6 (va_A (wX cI cZ x a S) sz) := by
  refine vy_ofW (cc := cX0_call) (maxL := 2) (ret := (some .int)) (by decide) rfl ?_
  intro pr env s mid args below meth cod s₁ Bd hml hout hv
  obtain ⟨rfl, ⟨hsz, hP, hK, hD0⟩, hG0⟩ := hv
  have hG : xG (fun q => s.heap.size ≤ q) s s.heap := hG0
  have hx := Bd.exec
  have hb := Bd.bytes
  have hr := Bd.returns
  have hts := atoms_spec (ws := wsX0_call) Bd.pre
  have hown : s.vm.findClass RX0 = some mid.cls := findClass_of_methodNamed Bd.named
  have hlocks := Bd.notSynchronized
  have hin : ∀ w ∈ wsX00, w ∈ wsX0_call := fun _ h => List.mem_cons_of_mem _ (List.mem_append_left _ (List.mem_append_left _ (List.mem_append_right _ h)))
  subst hsz
  have hD := hD0.self (sz := s.heap.size)
  generalize hAe : va_A (wX cI cZ x a S) s.heap.size = A at hD ⊢
  have hA : ∀ q : Nat, s.heap.size ≤ q → A q := fun q h => by rw [← hAe]; exact Or.inr h
  have hS : va_S A s.heap s.heap [] := va_S.rf
  have hP : va_P D vwCl (wX cI cZ x a S) s.heap := hP
  have hD : va_D A (wX cI cZ x a S) := hD
  have hl := lv_entry ([.ref x, .int q]) (n := 2) (Nat.le_of_ble_eq_true rfl)
  rw [lg_entry_eq]
  generalize (lg_sl ([.ref x, .int q]) ++ List.replicate (2 - (lg_sl ([.ref x, .int q])).length) Slot.unset).toArray = ls at hl ⊢
  have hl : lv_has ls 2 [(0, .ref x), (1, .int q)] := hl
  refine lv_aload_n hx hb dX0_call_0 rfl (lv_at hl 0 rfl) ?_
  refine lv_iload_n hx hb dX0_call_1 rfl (lv_at hl 1 rfl) ?_
  refine vy_csv (vy_runV (As := [.int q]) (rest := []) ⟨hx, hb, hml, hown, hts⟩ (c_X0_requireCue l hfl D cI cZ x a S q) (cwV 1 hts gX0_call_X0_requireCue rfl rfl rfl (by decide +kernel) ⟨Nat.le_of_ble_eq_true rfl, Nat.le_of_ble_eq_true rfl⟩) (pT_V (pR_V (ci := 0) hP hK rfl rfl) hG (fun _ h => h)) rfl rfl hl.1 rfl (lv_room (Nat.le_of_ble_eq_true rfl)) dX0_call_2 ⟨Nat.le_of_ble_eq_true rfl, Nat.le_of_ble_eq_true rfl⟩) (fun E ce q9 H1 hPE hz9 hk9 hc9 hv9 hcl9 => vy_out hout hlocks (Or.inl ⟨hPE.1, cif_f hPE.2⟩) hz9 hk9 hc9 hv9 hcl9 (by decide) (by decide)) (fun h_2 => ?_)
  refine lv_aload_n hx hb dX0_call_5 rfl (lv_at hl 0 rfl) ?_
  refine lv_iload_n hx hb dX0_call_6 rfl (lv_at hl 1 rfl) ?_
  refine vp_callSi (W.runV (As := [.int q]) (rest := []) ⟨hx, hb, hml, hown, hts⟩ (c_X0_isCallable l D cI cZ x a S q (hI.q24 h_2) (hI.cueq h_2)) (cwV 1 hts gX0_call_X0_isCallable rfl rfl rfl (by decide +kernel) ⟨Nat.le_of_ble_eq_true rfl, Nat.le_of_ble_eq_true rfl⟩) (pR_V (ci := 0) hP hK rfl rfl) rfl rfl hl.1 rfl (lv_room (Nat.le_of_ble_eq_true rfl)) dX0_call_7 ⟨Nat.zero_le _, Nat.zero_le _⟩) (fun r_7 h_7 => ?_)
  refine lv_if_ne (tgt := 23) hx hb dX0_call_10 (by decide) (fun c_10 => ?_) (fun c_10 => ?_)
  · skip
    have b_7 := cif_b1 h_7 c_10
    refine lv_aload_n hx hb dX0_call_23 rfl (lv_at hl 0 rfl) ?_
    refine lv_iload_n hx hb dX0_call_24 rfl (lv_at hl 1 rfl) ?_
    have hFc := wfree hD hS hA
    refine va_callv (va_runV (As := [.int q]) (rest := []) ⟨hx, hb, hml, hown, hts⟩ (c_X0_carryOut l D cI cZ x a S s.heap.size q (hI.q24 h_2) (hI.cueq h_2) (hI.cl (vin_lt h_2) (by rw [b_7.1]; decide)) (hI.ex (vin_lt h_2) b_7)) (cwV 1 hts gX0_call_X0_carryOut rfl rfl rfl (by decide +kernel) ⟨Nat.le_of_ble_eq_true rfl, Nat.le_of_ble_eq_true rfl⟩) (pW_V (ci := 0) hP hK hD rfl rfl) rfl rfl hl.1 rfl (lv_room (Nat.le_of_ble_eq_true rfl)) dX0_call_25 ⟨Nat.zero_le _, Nat.zero_le _⟩) hS (fun q _ h => hFc q h) hFc (fun u_25 t9 H1 locs ht9 hvm9 h_25 hB9 hz9 hk9 hS => ?_)
    have hP : va_P D vwCl (wX cI cZ x a u_25) H1 := atW_P hB9 ht9
    have hD : va_D A (wX cI cZ x a u_25) := atW_D hB9 hFc
    generalize H1 = H at hP hS ⊢
    refine lv_aload_n hx hb dX0_call_28 rfl (lv_at hl 0 rfl) ?_
    have hf122 := hts (.fieldLink RX0 122 "Clockmask" "calledCount" "I") (by decide +kernel)
    refine va_get (D := D) (ci := 0) (v := .int (u_25 11 0)) (C := RX0) (T := TX0) (N := 17) hx hb hts hin hown hK hP 0 rfl rfl 11 (by decide) hf122 (fun _ h9 => h9) rfl dX0_call_29 ?_
    exact vy_ret (W.iret (v := u_25 11 0) hx hb hr (fun t ht hW => ⟨⟨_, u_25, rfl, by rw [h_25, callQ_11]; exact (cif_t h_2).trans (cif_t b_7), by rw [ht]; exact hP, hD⟩, hS.F ht⟩) hS.2.2 dX0_call_32)
  · skip
    have b_7 := cif_b0 h_7 c_10
    exact x_throwS (text := "the cue cannot be called") hx hb hfl hown (by decide) (hts (.classLink RX0 78 xIS) (by decide +kernel)) (hts (.initialized xIS) (by decide +kernel)) (fun w h => hts w (List.mem_cons_of_mem _ (List.mem_append_left _ (List.mem_append_right _ h)))) xIS_b xIS_g hG (by decide) (hl.1.trans hml.symm) dX0_call_13 dX0_call_16 dX0_call_17 dX0_call_19 dX0_call_22 hout ⟨by decide, by decide, by decide, by decide⟩ hlocks (Or.inr ⟨rfl, (cif_t h_2).trans (cif_f b_7)⟩)
set_option maxHeartbeats 4000000 in
set_option maxRecDepth 100000 in
theorem c_X0_run (l : Launch) (D : va_G) (cI cZ : ClassId) (x : Nat) (a : Nat → Nat) (S : ST) (sz : Nat) (B : Nat) (hI : Inv B S) : Met l yX0_run wsX0_run rmX0_run (va_Pc [.ref x] (pW D (tyX cI cZ) (wX cI cZ x a S) sz)) (va_Qi (fun (r : Int32) (u : ST) => k_run S = (0, r, u)) (fun (u : ST) t => atW D (wX cI cZ x a u) (va_A (wX cI cZ x a S) sz) t) (va_A (wX cI cZ x a S) sz)) 0 0 (va_A (wX cI cZ x a S) sz) := by
  refine Met.ofW (cc := cX0_run) (maxL := 4) (ret := (some .int)) (by decide) rfl ?_
  intro pr env s mid args below meth cod s₁ Bd hml hv
  obtain ⟨rfl, hsz, hP, hK, hD0⟩ := hv
  have hx := Bd.exec
  have hb := Bd.bytes
  have hr := Bd.returns
  have hts := atoms_spec (ws := wsX0_run) Bd.pre
  have hown : s.vm.findClass RX0 = some mid.cls := findClass_of_methodNamed Bd.named
  have hlocks := Bd.notSynchronized
  have hin : ∀ w ∈ wsX00, w ∈ wsX0_run := fun _ h => List.mem_cons_of_mem _ (List.mem_append_right _ h)
  subst hsz
  have hD := hD0.self (sz := s.heap.size)
  generalize hAe : va_A (wX cI cZ x a S) s.heap.size = A at hD ⊢
  have hA : ∀ q : Nat, s.heap.size ≤ q → A q := fun q h => by rw [← hAe]; exact Or.inr h
  have hS : va_S A s.heap s.heap [] := va_S.rf
  have hP : va_P D vwCl (wX cI cZ x a S) s.heap := hP
  have hD : va_D A (wX cI cZ x a S) := hD
  have hl := lv_entry ([.ref x]) (n := 4) (Nat.le_of_ble_eq_true rfl)
  rw [lg_entry_eq]
  generalize (lg_sl ([.ref x]) ++ List.replicate (4 - (lg_sl ([.ref x])).length) Slot.unset).toArray = ls at hl ⊢
  have hl : lv_has ls 4 [(0, .ref x)] := hl
  refine lv_aload_n hx hb dX0_run_0 rfl (lv_at hl 0 rfl) ?_
  have hf122 := hts (.fieldLink RX0 122 "Clockmask" "calledCount" "I") (by decide +kernel)
  refine va_get (D := D) (ci := 0) (v := .int (S 11 0)) (C := RX0) (T := TX0) (N := 17) hx hb hts hin hown hK hP 0 rfl rfl 11 (by decide) hf122 (fun _ h9 => h9) rfl dX0_run_1 ?_
  refine lv_istore_n (lv' := [(1, .int (S 11 0)), (0, .ref x)]) hx hb dX0_run_4 rfl hl (by decide) rfl (fun ls hl => ?_)
  refine lv_aload_n hx hb dX0_run_5 rfl (lv_at hl 1 rfl) ?_
  refine vp_callSi (W.runV (As := []) (rest := []) ⟨hx, hb, hml, hown, hts⟩ (c_X0_firstCallable l D cI cZ x a S hI.m24 hI.me (fun k hk => hI.cue hk)) (cwV 0 hts gX0_run_X0_firstCallable rfl rfl rfl (by decide +kernel) ⟨Nat.le_of_ble_eq_true rfl, Nat.le_of_ble_eq_true rfl⟩) (pR_V (ci := 0) hP hK rfl rfl) rfl rfl hl.1 rfl (lv_room (Nat.le_of_ble_eq_true rfl)) dX0_run_6 ⟨Nat.zero_le _, Nat.zero_le _⟩) (fun r_6 h_6 => ?_)
  subst h_6
  refine lv_istore_n (lv' := [(2, .int (cif (fstN (cal S) (many S) < many S) (nI (fstN (cal S) (many S))) (-1))), (1, .int (S 11 0)), (0, .ref x)]) hx hb dX0_run_9 rfl hl (by decide) rfl (fun ls hl => ?_)
  refine lv_iconst (v := 0) hx hb dX0_run_10 (by decide) ?_
  refine lv_istore_n (lv' := [(3, .int 0), (2, .int (cif (fstN (cal S) (many S) < many S) (nI (fstN (cal S) (many S))) (-1))), (1, .int (S 11 0)), (0, .ref x)]) hx hb dX0_run_11 rfl hl (by decide) rfl (fun ls hl => ?_)
  refine W_gen (fun R Q hR hQ => ?_)
  have loop_12 : ∀ (n : Nat) (j : Nat) (i2 : Int32) (i3 : Int32) (S1 : ST), (j ≤ 24) → (25 ≤ j + n) → (i3 = nI j) → (i2 = cif (fstN (cal S1) (many S1) < many S1) (nI (fstN (cal S1) (many S1))) (-1)) → (runN (24 - j) S1 = runN 24 S) → (Inv B S1) → ∀ (H : Heap) (locs : List Loc), va_P D vwCl (wX cI cZ x a S1) H → va_D A (wX cI cZ x a S1) → va_S A s.heap H locs → ∀ ls : Array Slot, lv_has ls 4 [(3, .int i3), (2, .int i2), (1, .int (S 11 0)), (0, .ref x)] → W pr l env R s mid ([.ref x] : List Value).toArray below meth cod H locs 0 0 Q (F0 mid 12 ls []) := by
    subst hR; subst hQ
    intro n
    induction n with
    | zero =>
      intro j i2 i3 S1 hj hn e3 e2 eR hI1 H locs hP hD hS ls hl
      exfalso; omega
    | succ n ih =>
      intro j i2 i3 S1 hj hn e3 e2 eR hI1 H locs hP hD hS ls hl
      refine lv_iload_n hx hb dX0_run_12 rfl (lv_at hl 0 rfl) ?_
      refine lv_bipush (v := 24) hx hb dX0_run_13 (by decide) ?_
      refine lv_icmp_ge (tgt := 39) hx hb dX0_run_15 (by decide) (fun c_15 => ?_) (fun c_15 => ?_)
      · skip
        have h6 : 24 ≤ j := ge_of (N := 24) e3 (by omega) rfl c_15
        refine lv_aload_n hx hb dX0_run_39 rfl (lv_at hl 3 rfl) ?_
        refine va_get (D := D) (ci := 0) (v := .int (S1 11 0)) (C := RX0) (T := TX0) (N := 17) hx hb hts hin hown hK hP 0 rfl rfl 11 (by decide) hf122 (fun _ h9 => h9) rfl dX0_run_40 ?_
        refine lv_iload_n hx hb dX0_run_43 rfl (lv_at hl 2 rfl) ?_
        refine lv_isub hx hb dX0_run_44 ?_
        exact W.iret (v := (S1 11 0) - (S 11 0)) hx hb hr (fun t ht hW => ⟨⟨_, S1, rfl, by unfold k_run; rw [← eR, show 24 - j = 0 by omega]; rfl, by rw [ht]; exact hP, hD⟩, hS.F ht⟩) hS.2.2 dX0_run_45
      · skip
        have h6 : j < 24 := lt_of (N := 24) e3 (by omega) rfl c_15
        refine lv_iload_n hx hb dX0_run_18 rfl (lv_at hl 1 rfl) ?_
        refine lv_iconst (v := (-1)) hx hb dX0_run_19 (by decide) ?_
        refine lv_icmp_eq (tgt := 39) hx hb dX0_run_20 (by decide) (fun c_20 => ?_) (fun c_20 => ?_)
        · skip
          refine lv_aload_n hx hb dX0_run_39 rfl (lv_at hl 3 rfl) ?_
          refine va_get (D := D) (ci := 0) (v := .int (S1 11 0)) (C := RX0) (T := TX0) (N := 17) hx hb hts hin hown hK hP 0 rfl rfl 11 (by decide) hf122 (fun _ h9 => h9) rfl dX0_run_40 ?_
          refine lv_iload_n hx hb dX0_run_43 rfl (lv_at hl 2 rfl) ?_
          refine lv_isub hx hb dX0_run_44 ?_
          exact W.iret (v := (S1 11 0) - (S 11 0)) hx hb hr (fun t ht hW => ⟨⟨_, S1, rfl, by unfold k_run; rw [← eR, runN_stop (fc_none hI1.m24 (e2.symm.trans c_20))], by rw [ht]; exact hP, hD⟩, hS.F ht⟩) hS.2.2 dX0_run_45
        · skip
          have hlt : fstN (cal S1) (many S1) < many S1 := fc_some e2 c_20
          have ei : i2 = nI (fstN (cal S1) (many S1)) := by rw [e2, cif_t hlt]
          have hm1 := hI1.m24
          have hq : vp_in i2 (many S1) := by rw [ei]; exact vp_in_nI hlt (by omega)
          have hk : cal S1 i2.toNatClampNeg := by rw [ei, nI_clamp (by omega)]; exact fstN_yes _ _ hlt
          refine lv_aload_n hx hb dX0_run_23 rfl (lv_at hl 3 rfl) ?_
          refine lv_iload_n hx hb dX0_run_24 rfl (lv_at hl 1 rfl) ?_
          have hFc := wfree hD hS hA
          refine va_callv (va_runV (As := [.int i2]) (rest := []) ⟨hx, hb, hml, hown, hts⟩ (c_X0_carryOut l D cI cZ x a S1 H.size i2 (hI1.q24 hq) (hI1.cueq hq) (hI1.cl (vin_lt hq) (by rw [hk.1]; decide)) (hI1.ex (vin_lt hq) hk)) (cwV 1 hts gX0_run_X0_carryOut rfl rfl rfl (by decide +kernel) ⟨Nat.le_of_ble_eq_true rfl, Nat.le_of_ble_eq_true rfl⟩) (pW_V (ci := 0) hP hK hD rfl rfl) rfl rfl hl.1 rfl (lv_room (Nat.le_of_ble_eq_true rfl)) dX0_run_25 ⟨Nat.zero_le _, Nat.zero_le _⟩) hS (fun q _ h => hFc q h) hFc (fun u_25 t9 H1 locs ht9 hvm9 h_25 hB9 hz9 hk9 hS => ?_)
          have hP : va_P D vwCl (wX cI cZ x a u_25) H1 := atW_P hB9 ht9
          have hD : va_D A (wX cI cZ x a u_25) := atW_D hB9 hFc
          generalize H1 = H at hP hS ⊢
          have hI2 : Inv B u_25 := by rw [h_25]; exact hI1.call hq hk
          refine lv_aload_n hx hb dX0_run_28 rfl (lv_at hl 3 rfl) ?_
          refine vp_callSi (W.runV (As := []) (rest := []) ⟨hx, hb, hml, hown, hts⟩ (c_X0_firstCallable l D cI cZ x a u_25 hI2.m24 hI2.me (fun k hk => hI2.cue hk)) (cwV 0 hts gX0_run_X0_firstCallable rfl rfl rfl (by decide +kernel) ⟨Nat.le_of_ble_eq_true rfl, Nat.le_of_ble_eq_true rfl⟩) (pR_V (ci := 0) hP hK rfl rfl) rfl rfl hl.1 rfl (lv_room (Nat.le_of_ble_eq_true rfl)) dX0_run_29 ⟨Nat.zero_le _, Nat.zero_le _⟩) (fun r_29 h_29 => ?_)
          subst h_29
          refine lv_istore_n (lv' := [(2, .int (cif (fstN (cal u_25) (many u_25) < many u_25) (nI (fstN (cal u_25) (many u_25))) (-1))), (3, .int i3), (1, .int (S 11 0)), (0, .ref x)]) hx hb dX0_run_32 rfl hl (by decide) rfl (fun ls hl => ?_)
          refine lv_iinc (v := i3 + 1) (lv' := [(3, .int (i3 + 1)), (2, .int (cif (fstN (cal u_25) (many u_25) < many u_25) (nI (fstN (cal u_25) (many u_25))) (-1))), (1, .int (S 11 0)), (0, .ref x)]) hx hb dX0_run_33 hl (k := 1) rfl rfl (by decide) rfl (fun ls hl => ?_)
          refine lv_goto (tgt := 12) hx hb dX0_run_36 (by decide) ?_
          exact ih (j + 1) (cif (fstN (cal u_25) (many u_25) < many u_25) (nI (fstN (cal u_25) (many u_25))) (-1)) (i3 + 1) u_25 (by omega) (by omega) (by rw [e3]; exact nI_1 j) rfl (by rw [← eR, show 24 - j = (24 - (j + 1)) + 1 by omega, runN, cif_t hlt, h_25, ei]) hI2 _ _ hP hD hS _ (lv_sub hl [0, 1, 2, 3] rfl)
  exact loop_12 25 0 (cif (fstN (cal S) (many S) < many S) (nI (fstN (cal S) (many S))) (-1)) 0 S (Nat.zero_le _) (by omega) nI_0.symm rfl rfl hI _ _ hP hD hS _ (lv_sub hl [0, 1, 2, 3] rfl)
set_option maxHeartbeats 4000000 in
set_option maxRecDepth 100000 in
theorem c_X0_miss (l : Launch) (hfl : l.stackTraces = false) (D : va_G) (cI cZ : ClassId) (x : Nat) (a : Nat → Nat) (S : ST) (sz : Nat) (q : Int32) (B : Nat) (hI : Inv B S) : vy_Met l yX0_miss wsX0_miss rmX0_miss (va_Pc [.ref x, .int q] (fun U => (pW D (tyX cI cZ) (wX cI cZ x a S) sz) U ∧ pG U)) (va_Qi (fun (r : Int32) (u : ST) => k_miss S q = (0, r, u)) (fun (u : ST) t => atW D (wX cI cZ x a u) (va_A (wX cI cZ x a S) sz) t) (va_A (wX cI cZ x a S) sz)) (xcs (fun E => (E = xIO ∧ k_miss S q = (1, 0, S)) ∨ (E = xIS ∧ k_miss S q = (2, 0, S)))) 1 6 (va_A (wX cI cZ x a S) sz) := by
  refine vy_ofW (cc := cX0_miss) (maxL := 4) (ret := (some .int)) (by decide) rfl ?_
  intro pr env s mid args below meth cod s₁ Bd hml hout hv
  obtain ⟨rfl, ⟨hsz, hP, hK, hD0⟩, hG0⟩ := hv
  have hG : xG (fun q => s.heap.size ≤ q) s s.heap := hG0
  have hx := Bd.exec
  have hb := Bd.bytes
  have hr := Bd.returns
  have hts := atoms_spec (ws := wsX0_miss) Bd.pre
  have hown : s.vm.findClass RX0 = some mid.cls := findClass_of_methodNamed Bd.named
  have hlocks := Bd.notSynchronized
  have hin : ∀ w ∈ wsX00, w ∈ wsX0_miss := fun _ h => List.mem_cons_of_mem _ (List.mem_append_left _ (List.mem_append_left _ (List.mem_append_right _ h)))
  subst hsz
  have hD := hD0.self (sz := s.heap.size)
  generalize hAe : va_A (wX cI cZ x a S) s.heap.size = A at hD ⊢
  have hA : ∀ q : Nat, s.heap.size ≤ q → A q := fun q h => by rw [← hAe]; exact Or.inr h
  have hS : va_S A s.heap s.heap [] := va_S.rf
  have hP : va_P D vwCl (wX cI cZ x a S) s.heap := hP
  have hD : va_D A (wX cI cZ x a S) := hD
  have hl := lv_entry ([.ref x, .int q]) (n := 4) (Nat.le_of_ble_eq_true rfl)
  rw [lg_entry_eq]
  generalize (lg_sl ([.ref x, .int q]) ++ List.replicate (4 - (lg_sl ([.ref x, .int q])).length) Slot.unset).toArray = ls at hl ⊢
  have hl : lv_has ls 4 [(0, .ref x), (1, .int q)] := hl
  refine lv_aload_n hx hb dX0_miss_0 rfl (lv_at hl 0 rfl) ?_
  refine lv_iload_n hx hb dX0_miss_1 rfl (lv_at hl 1 rfl) ?_
  refine vy_csv (vy_runV (As := [.int q]) (rest := []) ⟨hx, hb, hml, hown, hts⟩ (c_X0_requireCue l hfl D cI cZ x a S q) (cwV 1 hts gX0_miss_X0_requireCue rfl rfl rfl (by decide +kernel) ⟨Nat.le_of_ble_eq_true rfl, Nat.le_of_ble_eq_true rfl⟩) (pT_V (pR_V (ci := 0) hP hK rfl rfl) hG (fun _ h => h)) rfl rfl hl.1 rfl (lv_room (Nat.le_of_ble_eq_true rfl)) dX0_miss_2 ⟨Nat.le_of_ble_eq_true rfl, Nat.le_of_ble_eq_true rfl⟩) (fun E ce q9 H1 hPE hz9 hk9 hc9 hv9 hcl9 => vy_out hout hlocks (Or.inl ⟨hPE.1, cif_f hPE.2⟩) hz9 hk9 hc9 hv9 hcl9 (by decide) (by decide)) (fun h_2 => ?_)
  refine lv_aload_n hx hb dX0_miss_5 rfl (lv_at hl 0 rfl) ?_
  have hf35 := hts (.fieldLink RX0 35 "Clockmask" "cueState" "[I") (by decide +kernel)
  refine va_get (D := D) (ci := 0) (v := .ref (a 8)) (C := RX0) (T := TX0) (N := 17) hx hb hts hin hown hK hP 0 rfl rfl 8 (by decide) hf35 (fun _ h9 => h9) rfl dX0_miss_6 ?_
  refine lv_iload_n hx hb dX0_miss_9 rfl (lv_at hl 1 rfl) ?_
  refine va_iald (f := S 8) (n := 24) hx hb hK hP 9 0 rfl rfl (hI.q24 h_2) dX0_miss_10 ?_
  refine lv_if_eq (tgt := 24) hx hb dX0_miss_11 (by decide) (fun c_11 => ?_) (fun c_11 => ?_)
  · skip
    refine lv_aload_n hx hb dX0_miss_24 rfl (lv_at hl 0 rfl) ?_
    refine va_get (D := D) (ci := 0) (v := .ref (a 8)) (C := RX0) (T := TX0) (N := 17) hx hb hts hin hown hK hP 0 rfl rfl 8 (by decide) hf35 (fun _ h9 => h9) rfl dX0_miss_25 ?_
    refine lv_iload_n hx hb dX0_miss_28 rfl (lv_at hl 1 rfl) ?_
    refine lv_iconst (v := 2) hx hb dX0_miss_29 (by decide) ?_
    refine va_iast (f := S 8) (n := 24) hx hb hK hP hD hS 9 0 rfl rfl (hI.q24 h_2) dX0_miss_30 (fun H locs hP hD hS => ?_)
    have hP : va_P D vwCl (wXr cI cZ x a (S 0) (S 1) (S 2) (S 3) (S 4) (S 5) (S 6) (S 7) (upd (S 8) q.toNatClampNeg 2) (S 9) (S 10 0) (S 11 0) (S 12) (S 13) (S 14 0) (S 15 0) (S 16)) H := hP
    have hD : va_D A (wXr cI cZ x a (S 0) (S 1) (S 2) (S 3) (S 4) (S 5) (S 6) (S 7) (upd (S 8) q.toNatClampNeg 2) (S 9) (S 10 0) (S 11 0) (S 12) (S 13) (S 14 0) (S 15 0) (S 16)) := hD
    refine lv_iconst (v := 1) hx hb dX0_miss_31 (by decide) ?_
    refine lv_istore_n (lv' := [(2, .int 1), (0, .ref x), (1, .int q)]) hx hb dX0_miss_32 rfl hl (by decide) rfl (fun ls hl => ?_)
    refine lv_iload_n hx hb dX0_miss_33 rfl (lv_at hl 2 rfl) ?_
    refine lv_iconst (v := 1) hx hb dX0_miss_34 (by decide) ?_
    refine lv_iadd hx hb dX0_miss_35 ?_
    refine lv_istore_n (lv' := [(3, .int (q + 1)), (2, .int 1), (0, .ref x), (1, .int q)]) hx hb dX0_miss_36 rfl hl (by decide) rfl (fun ls hl => ?_)
    refine W_gen (fun R Q hR hQ => ?_)
    have loop_37 : ∀ (n : Nat) (j d : Nat) (i2 : Int32) (i3 : Int32) (g : Nat → Int32), (j + d = many S) → (d < n) → (i3 = nI j) → (ms S g i2 j d = ms S (upd (S 8) q.toNatClampNeg 2) 1 (q.toNatClampNeg + 1) (many S - (q.toNatClampNeg + 1))) → ∀ (H : Heap) (locs : List Loc), va_P D vwCl (wXr cI cZ x a (S 0) (S 1) (S 2) (S 3) (S 4) (S 5) (S 6) (S 7) g (S 9) (S 10 0) (S 11 0) (S 12) (S 13) (S 14 0) (S 15 0) (S 16)) H → va_D A (wXr cI cZ x a (S 0) (S 1) (S 2) (S 3) (S 4) (S 5) (S 6) (S 7) g (S 9) (S 10 0) (S 11 0) (S 12) (S 13) (S 14 0) (S 15 0) (S 16)) → va_S A s.heap H locs → ∀ ls : Array Slot, lv_has ls 4 [(3, .int i3), (2, .int i2), (0, .ref x), (1, .int q)] → W pr l env R s mid ([.ref x, .int q] : List Value).toArray below meth cod H locs 0 0 Q (F0 mid 37 ls []) := by
      subst hR; subst hQ
      intro n
      induction n with
      | zero =>
        intro j d i2 i3 g hj hn e3 eM H locs hP hD hS ls hl
        exfalso; omega
      | succ n ih =>
        intro j d i2 i3 g hj hn e3 eM H locs hP hD hS ls hl
        refine lv_iload_n hx hb dX0_miss_37 rfl (lv_at hl 0 rfl) ?_
        refine lv_aload_n hx hb dX0_miss_38 rfl (lv_at hl 2 rfl) ?_
        have hf104 := hts (.fieldLink RX0 104 "Clockmask" "cueCount" "I") (by decide +kernel)
        refine va_get (D := D) (ci := 0) (v := .int (S 10 0)) (C := RX0) (T := TX0) (N := 17) hx hb hts hin hown hK hP 0 rfl rfl 10 (by decide) hf104 (fun _ h9 => h9) rfl dX0_miss_39 ?_
        refine lv_icmp_ge (tgt := 78) hx hb dX0_miss_42 (by decide) (fun c_42 => ?_) (fun c_42 => ?_)
        · skip
          have h6 : many S ≤ j := by rw [e3, hI.me] at c_42; exact (nI_leI (by have := hI.m24; omega) (by have := hI.m24; omega)).mp c_42
          refine lv_iload_n hx hb dX0_miss_78 rfl (lv_at hl 1 rfl) ?_
          exact vy_ret (W.iret (v := i2) hx hb hr (fun t ht hW => ⟨⟨_, row S 8 g, rfl, (cif_t h_2).trans ((cif_t c_11).trans (by rw [← eM, show d = 0 by omega]; rfl)), by rw [ht]; exact hP, hD⟩, hS.F ht⟩) hS.2.2 dX0_miss_79)
        · skip
          have hm := hI.m24
          have h6 : j < many S := by rw [e3, hI.me] at c_42; exact Nat.lt_of_not_le (fun z => c_42 ((nI_leI (by omega) (by omega)).mpr z))
          obtain ⟨d1, rfl⟩ : ∃ d1, d = d1 + 1 := ⟨d - 1, by omega⟩
          have hi24 : vp_in i3 24 := by rw [e3]; exact vp_in_nI (by omega) (by decide)
          have hw24 : S 7 i3.toNatClampNeg = -1 ∨ vp_in (S 7 i3.toNatClampNeg) 24 := by rw [e3, nI_clamp (by omega)]; exact (hI.cue h6).2.2.2.1
          refine lv_aload_n hx hb dX0_miss_45 rfl (lv_at hl 2 rfl) ?_
          refine va_get (D := D) (ci := 0) (v := .ref (a 8)) (C := RX0) (T := TX0) (N := 17) hx hb hts hin hown hK hP 0 rfl rfl 8 (by decide) hf35 (fun _ h9 => h9) rfl dX0_miss_46 ?_
          refine lv_iload_n hx hb dX0_miss_49 rfl (lv_at hl 0 rfl) ?_
          refine va_iald (f := g) (n := 24) hx hb hK hP 9 0 rfl rfl hi24 dX0_miss_50 ?_
          refine lv_if_ne (tgt := 72) hx hb dX0_miss_51 (by decide) (fun c_51 => ?_) (fun c_51 => ?_)
          · skip
            have c51 : ¬ g j = 0 := by rwa [e3, nI_clamp (by omega)] at c_51
            refine lv_iinc (v := i3 + 1) (lv' := [(3, .int (i3 + 1)), (2, .int i2), (0, .ref x), (1, .int q)]) hx hb dX0_miss_72 hl (k := 0) rfl rfl (by decide) rfl (fun ls hl => ?_)
            refine lv_goto (tgt := 37) hx hb dX0_miss_75 (by decide) ?_
            exact ih (j + 1) d1 i2 (i3 + 1) g (by omega) (by omega) (by rw [e3]; exact nI_1 j) (by rw [← eM, ms, cif_f (fun h => c51 h.1)]) _ _ hP hD hS _ (lv_sub hl [0, 1, 2, 3] rfl)
          · skip
            have c51 : g j = 0 := by rwa [e3, nI_clamp (by omega)] at c_51
            refine lv_aload_n hx hb dX0_miss_54 rfl (lv_at hl 2 rfl) ?_
            refine lv_iload_n hx hb dX0_miss_55 rfl (lv_at hl 0 rfl) ?_
            have hPs : va_P D vwCl (wX cI cZ x a (row S 8 g)) H := hP
            refine vp_callSi (W.runV (As := [.int i3]) (rest := []) ⟨hx, hb, hml, hown, hts⟩ (c_X0_waitsForMissed l D cI cZ x a (row S 8 g) i3 hi24 (by rw [row_ne (by decide)]; exact hw24)) (cwV 1 hts gX0_miss_X0_waitsForMissed rfl rfl rfl (by decide +kernel) ⟨Nat.le_of_ble_eq_true rfl, Nat.le_of_ble_eq_true rfl⟩) (pR_V (ci := 0) hPs hK rfl rfl) rfl rfl hl.1 rfl (lv_room (Nat.le_of_ble_eq_true rfl)) dX0_miss_56 ⟨Nat.zero_le _, Nat.zero_le _⟩) (fun r_56 h_56 => ?_)
            refine lv_if_eq (tgt := 72) hx hb dX0_miss_59 (by decide) (fun c_59 => ?_) (fun c_59 => ?_)
            · skip
              have b_56 := cif_b0 h_56 c_59
              have b56 : ¬ (S 7 j ≠ -1 ∧ g (S 7 j).toNatClampNeg = 2) := by rwa [e3, nI_clamp (by omega), row_ne (by decide), row_same] at b_56
              refine lv_iinc (v := i3 + 1) (lv' := [(3, .int (i3 + 1)), (2, .int i2), (0, .ref x), (1, .int q)]) hx hb dX0_miss_72 hl (k := 0) rfl rfl (by decide) rfl (fun ls hl => ?_)
              refine lv_goto (tgt := 37) hx hb dX0_miss_75 (by decide) ?_
              exact ih (j + 1) d1 i2 (i3 + 1) g (by omega) (by omega) (by rw [e3]; exact nI_1 j) (by rw [← eM, ms, cif_f (fun h => b56 h.2)]) _ _ hP hD hS _ (lv_sub hl [0, 1, 2, 3] rfl)
            · skip
              have b_56 := cif_b1 h_56 c_59
              have b56 : S 7 j ≠ -1 ∧ g (S 7 j).toNatClampNeg = 2 := by rwa [e3, nI_clamp (by omega), row_ne (by decide), row_same] at b_56
              refine lv_aload_n hx hb dX0_miss_62 rfl (lv_at hl 2 rfl) ?_
              refine va_get (D := D) (ci := 0) (v := .ref (a 8)) (C := RX0) (T := TX0) (N := 17) hx hb hts hin hown hK hP 0 rfl rfl 8 (by decide) hf35 (fun _ h9 => h9) rfl dX0_miss_63 ?_
              refine lv_iload_n hx hb dX0_miss_66 rfl (lv_at hl 0 rfl) ?_
              refine lv_iconst (v := 2) hx hb dX0_miss_67 (by decide) ?_
              refine va_iast (f := g) (n := 24) hx hb hK hP hD hS 9 0 rfl rfl hi24 dX0_miss_68 (fun H locs hP hD hS => ?_)
              have hP : va_P D vwCl (wXr cI cZ x a (S 0) (S 1) (S 2) (S 3) (S 4) (S 5) (S 6) (S 7) (upd g i3.toNatClampNeg 2) (S 9) (S 10 0) (S 11 0) (S 12) (S 13) (S 14 0) (S 15 0) (S 16)) H := hP
              have hD : va_D A (wXr cI cZ x a (S 0) (S 1) (S 2) (S 3) (S 4) (S 5) (S 6) (S 7) (upd g i3.toNatClampNeg 2) (S 9) (S 10 0) (S 11 0) (S 12) (S 13) (S 14 0) (S 15 0) (S 16)) := hD
              refine lv_iinc (v := i2 + 1) (lv' := [(2, .int (i2 + 1)), (3, .int i3), (0, .ref x), (1, .int q)]) hx hb dX0_miss_69 hl (k := 1) rfl rfl (by decide) rfl (fun ls hl => ?_)
              refine lv_iinc (v := i3 + 1) (lv' := [(3, .int (i3 + 1)), (2, .int (i2 + 1)), (0, .ref x), (1, .int q)]) hx hb dX0_miss_72 hl (k := 1) rfl rfl (by decide) rfl (fun ls hl => ?_)
              refine lv_goto (tgt := 37) hx hb dX0_miss_75 (by decide) ?_
              exact ih (j + 1) d1 (i2 + 1) (i3 + 1) (upd g i3.toNatClampNeg 2) (by omega) (by omega) (by rw [e3]; exact nI_1 j) (by rw [← eM, ms, cif_t ⟨c51, b56⟩, e3, nI_clamp (by omega)]) _ _ hP hD hS _ (lv_sub hl [0, 1, 2, 3] rfl)
    have hq2 := vin_lt h_2
    exact loop_37 (many S + 1) (q.toNatClampNeg + 1) (many S - (q.toNatClampNeg + 1)) 1 (q + 1) (upd (S 8) q.toNatClampNeg 2) (by omega) (by omega) ((congrArg (fun z => z + 1) (vin_nI (hI.q24 h_2) (by decide))).trans (nI_1 _)) rfl _ _ hP hD hS _ (lv_sub hl [0, 1, 2, 3] rfl)
  · skip
    exact x_throwS (text := "the cue is not waiting") hx hb hfl hown (by decide) (hts (.classLink RX0 78 xIS) (by decide +kernel)) (hts (.initialized xIS) (by decide +kernel)) (fun w h => hts w (List.mem_cons_of_mem _ (List.mem_append_left _ (List.mem_append_right _ h)))) xIS_b xIS_g hG (by decide) (hl.1.trans hml.symm) dX0_miss_14 dX0_miss_17 dX0_miss_18 dX0_miss_20 dX0_miss_23 hout ⟨by decide, by decide, by decide, by decide⟩ hlocks (Or.inr ⟨rfl, (cif_t h_2).trans (cif_f c_11)⟩)
set_option maxHeartbeats 4000000 in
set_option maxRecDepth 100000 in
theorem c_X0_maskByCues (l : Launch) (hfl : l.stackTraces = false) (D : va_G) (cI cZ : ClassId) (x : Nat) (a : Nat → Nat) (S : ST) (sz : Nat) (p : Int32) (B : Nat) (hI : Inv B S) : vy_Met l yX0_maskByCues wsX0_maskByCues rmX0_maskByCues (va_Pc [.ref x, .int p] (fun U => (pW D (tyX cI cZ) (wX cI cZ x a S) sz) U ∧ pG U)) (va_Qi (fun (r : Int32) (u : ST) => k_maskByCues S p = (0, r, u)) (fun (u : ST) t => atW D (wX cI cZ x a u) (va_A (wX cI cZ x a S) sz) t) (va_A (wX cI cZ x a S) sz)) (xcs (fun E => E = xIO ∧ k_maskByCues S p = (1, 0, S))) 1 6 (va_A (wX cI cZ x a S) sz) := by
  refine vy_ofW (cc := cX0_maskByCues) (maxL := 3) (ret := (some .int)) (by decide) rfl ?_
  intro pr env s mid args below meth cod s₁ Bd hml hout hv
  obtain ⟨rfl, ⟨hsz, hP, hK, hD0⟩, hG0⟩ := hv
  have hG : xG (fun q => s.heap.size ≤ q) s s.heap := hG0
  have hx := Bd.exec
  have hb := Bd.bytes
  have hr := Bd.returns
  have hts := atoms_spec (ws := wsX0_maskByCues) Bd.pre
  have hown : s.vm.findClass RX0 = some mid.cls := findClass_of_methodNamed Bd.named
  have hlocks := Bd.notSynchronized
  have hin : ∀ w ∈ wsX00, w ∈ wsX0_maskByCues := fun _ h => List.mem_cons_of_mem _ (List.mem_append_left _ (List.mem_append_right _ h))
  subst hsz
  have hD := hD0.self (sz := s.heap.size)
  generalize hAe : va_A (wX cI cZ x a S) s.heap.size = A at hD ⊢
  have hA : ∀ q : Nat, s.heap.size ≤ q → A q := fun q h => by rw [← hAe]; exact Or.inr h
  have hS : va_S A s.heap s.heap [] := va_S.rf
  have hP : va_P D vwCl (wX cI cZ x a S) s.heap := hP
  have hD : va_D A (wX cI cZ x a S) := hD
  have hl := lv_entry ([.ref x, .int p]) (n := 3) (Nat.le_of_ble_eq_true rfl)
  rw [lg_entry_eq]
  generalize (lg_sl ([.ref x, .int p]) ++ List.replicate (3 - (lg_sl ([.ref x, .int p])).length) Slot.unset).toArray = ls at hl ⊢
  have hl : lv_has ls 3 [(0, .ref x), (1, .int p)] := hl
  refine lv_iload_n hx hb dX0_maskByCues_0 rfl (lv_at hl 1 rfl) ?_
  refine vy_csv (vy_runS (As := [.int p]) (rest := []) ⟨hx, hb, hml, hown, hts⟩ (c_X0_requirePlayer l hfl p) (va_cwS 1 hts gX0_maskByCues_X0_requirePlayer rfl rfl rfl (by decide +kernel) ⟨Nat.le_of_ble_eq_true rfl, Nat.le_of_ble_eq_true rfl⟩) (pT_S (pN_S) hG (fun _ h => h)) rfl rfl hl.1 rfl (lv_room (Nat.le_of_ble_eq_true rfl)) dX0_maskByCues_1 ⟨Nat.le_of_ble_eq_true rfl, Nat.le_of_ble_eq_true rfl⟩) (fun E ce q9 H1 hPE hz9 hk9 hc9 hv9 hcl9 => vy_out hout hlocks (⟨hPE.1, cif_f hPE.2⟩) hz9 hk9 hc9 hv9 hcl9 (by decide) (by decide)) (fun h_1 => ?_)
  refine lv_aload_n hx hb dX0_maskByCues_4 rfl (lv_at hl 0 rfl) ?_
  have hf51 := hts (.fieldLink RX0 51 "Clockmask" "replayedMasks" "[I") (by decide +kernel)
  refine va_get (D := D) (ci := 0) (v := .ref (a 16)) (C := RX0) (T := TX0) (N := 17) hx hb hts hin hown hK hP 0 rfl rfl 16 (by decide) hf51 (fun _ h9 => h9) rfl dX0_maskByCues_5 ?_
  refine lv_iconst (v := (-1)) hx hb dX0_maskByCues_8 (by decide) ?_
  have hFc := va_free (wc := [(a 16, .inl (cI, 6, .inl (S 16)))]) hD hS hA [13] rfl
  refine va_callv (va_runS (As := [.ref (a 16), .int (-1)]) (rest := []) ⟨hx, hb, hml, hown, hts⟩ (c_J7_fill_53178 l D cI (a 16) (S 16) s.heap.size (-1)) (va_cwS 2 hts gX0_maskByCues_J7_fill_53178 rfl rfl rfl (by decide +kernel) ⟨Nat.le_of_ble_eq_true rfl, Nat.le_of_ble_eq_true rfl⟩) (pW_S (hP.sub (ws' := [(a 16, .inl (cI, 6, .inl (S 16)))]) [13] rfl) (hK.sub (tys' := tyM cI) [0] rfl) (hD.sub [13] (by decide) rfl)) rfl rfl hl.1 rfl (lv_room (Nat.le_of_ble_eq_true rfl)) dX0_maskByCues_9 ⟨Nat.zero_le _, Nat.zero_le _⟩) hS (fun q _ h => hFc q h) hFc (fun u_9 t9 H1 locs ht9 hvm9 h_9 hB9 hz9 hk9 hS => ?_)
  have hP1 := atW_P hB9 ht9
  have hD1 := hB9.2
  have hJ9 := va_join (wr := (wX cI cZ x a S).eraseIdx 13) hP hD [13] [0, 1, 2, 3, 4, 5, 6, 7, 8, 9, 10, 11, 12] rfl rfl (by decide) (by decide) hk9 hFc hP1 hD1
  subst h_9
  have hP : va_P D vwCl (wXr cI cZ x a (S 0) (S 1) (S 2) (S 3) (S 4) (S 5) (S 6) (S 7) (S 8) (S 9) (S 10 0) (S 11 0) (S 12) (S 13) (S 14 0) (S 15 0) (fa_fill (fun _ => (-1)) (S 16) 6)) H1 := hJ9.1.sub [0, 1, 2, 3, 4, 5, 6, 7, 8, 9, 10, 11, 12, 13] rfl
  have hD : va_D A (wXr cI cZ x a (S 0) (S 1) (S 2) (S 3) (S 4) (S 5) (S 6) (S 7) (S 8) (S 9) (S 10 0) (S 11 0) (S 12) (S 13) (S 14 0) (S 15 0) (fa_fill (fun _ => (-1)) (S 16) 6)) := hJ9.2.sub [0, 1, 2, 3, 4, 5, 6, 7, 8, 9, 10, 11, 12, 13] (by decide) rfl
  generalize H1 = H at hP hS ⊢
  refine lv_iconst (v := 0) hx hb dX0_maskByCues_12 (by decide) ?_
  refine lv_istore_n (lv' := [(2, .int 0), (0, .ref x), (1, .int p)]) hx hb dX0_maskByCues_13 rfl hl (by decide) rfl (fun ls hl => ?_)
  refine W_gen (fun R Q hR hQ => ?_)
  have loop_14 : ∀ (n : Nat) (j : Nat) (i2 : Int32) (g : Nat → Int32), (j ≤ cN (S 8) 1 (many S)) → (cN (S 8) 1 (many S) + 1 ≤ j + n) → (i2 = nI j) → (g = rpN S j) → ∀ (H : Heap) (locs : List Loc), va_P D vwCl (wXr cI cZ x a (S 0) (S 1) (S 2) (S 3) (S 4) (S 5) (S 6) (S 7) (S 8) (S 9) (S 10 0) (S 11 0) (S 12) (S 13) (S 14 0) (S 15 0) g) H → va_D A (wXr cI cZ x a (S 0) (S 1) (S 2) (S 3) (S 4) (S 5) (S 6) (S 7) (S 8) (S 9) (S 10 0) (S 11 0) (S 12) (S 13) (S 14 0) (S 15 0) g) → va_S A s.heap H locs → ∀ ls : Array Slot, lv_has ls 3 [(2, .int i2), (0, .ref x), (1, .int p)] → W pr l env R s mid ([.ref x, .int p] : List Value).toArray below meth cod H locs 0 0 Q (F0 mid 14 ls []) := by
    subst hR; subst hQ
    intro n
    induction n with
    | zero =>
      intro j i2 g hj hn e2 eg H locs hP hD hS ls hl
      exfalso; omega
    | succ n ih =>
      intro j i2 g hj hn e2 eg H locs hP hD hS ls hl
      have hm := hI.m24
      have hc9 := cN_le (S 8) 1 (many S)
      refine lv_iload_n hx hb dX0_maskByCues_14 rfl (lv_at hl 0 rfl) ?_
      refine lv_aload_n hx hb dX0_maskByCues_15 rfl (lv_at hl 1 rfl) ?_
      have hf122 := hts (.fieldLink RX0 122 "Clockmask" "calledCount" "I") (by decide +kernel)
      refine va_get (D := D) (ci := 0) (v := .int (S 11 0)) (C := RX0) (T := TX0) (N := 17) hx hb hts hin hown hK hP 0 rfl rfl 11 (by decide) hf122 (fun _ h9 => h9) rfl dX0_maskByCues_16 ?_
      refine lv_icmp_ge (tgt := 42) hx hb dX0_maskByCues_19 (by decide) (fun c_19 => ?_) (fun c_19 => ?_)
      · skip
        have h6 : cN (S 8) 1 (many S) ≤ j := by rw [e2, hI.ce] at c_19; exact (nI_leI (by omega) (by omega)).mp c_19
        refine lv_aload_n hx hb dX0_maskByCues_42 rfl (lv_at hl 1 rfl) ?_
        refine va_get (D := D) (ci := 0) (v := .ref (a 16)) (C := RX0) (T := TX0) (N := 17) hx hb hts hin hown hK hP 0 rfl rfl 16 (by decide) hf51 (fun _ h9 => h9) rfl dX0_maskByCues_43 ?_
        refine lv_iload_n hx hb dX0_maskByCues_46 rfl (lv_at hl 2 rfl) ?_
        refine va_iald (f := g) (n := 6) hx hb hK hP 13 0 rfl rfl (by assumption) dX0_maskByCues_47 ?_
        exact vy_ret (W.iret (v := g p.toNatClampNeg) hx hb hr (fun t ht hW => ⟨⟨_, row S 16 g, rfl, by rw [eg, show j = (S 11 0).toNatClampNeg by rw [hI.ce, nI_clamp (by omega)]; omega]; exact cif_t h_1, by rw [ht]; exact hP, hD⟩, hS.F ht⟩) hS.2.2 dX0_maskByCues_48)
      · skip
        have h6 : j < cN (S 8) 1 (many S) := by rw [e2, hI.ce] at c_19; exact Nat.lt_of_not_le (fun z => c_19 ((nI_leI (by omega) (by omega)).mpr z))
        have h9 : vp_in (S 9 i2.toNatClampNeg) (many S) := by rw [e2, nI_clamp (by omega)]; exact hI.i9 j h6
        have hcf := hI.cueq h9
        refine lv_aload_n hx hb dX0_maskByCues_22 rfl (lv_at hl 1 rfl) ?_
        refine lv_aload_n hx hb dX0_maskByCues_23 rfl (lv_at hl 1 rfl) ?_
        have hf38 := hts (.fieldLink RX0 38 "Clockmask" "calledCues" "[I") (by decide +kernel)
        refine va_get (D := D) (ci := 0) (v := .ref (a 9)) (C := RX0) (T := TX0) (N := 17) hx hb hts hin hown hK hP 0 rfl rfl 9 (by decide) hf38 (fun _ h9 => h9) rfl dX0_maskByCues_24 ?_
        refine lv_iload_n hx hb dX0_maskByCues_27 rfl (lv_at hl 0 rfl) ?_
        refine va_iald (f := S 9) (n := 24) hx hb hK hP 10 0 rfl rfl (by rw [e2]; exact vp_in_nI (by omega) (by decide)) dX0_maskByCues_28 ?_
        refine lv_aload_n hx hb dX0_maskByCues_29 rfl (lv_at hl 1 rfl) ?_
        refine va_get (D := D) (ci := 0) (v := .ref (a 16)) (C := RX0) (T := TX0) (N := 17) hx hb hts hin hown hK hP 0 rfl rfl 16 (by decide) hf51 (fun _ h9 => h9) rfl dX0_maskByCues_30 ?_
        have hPs : va_P D vwCl (wX cI cZ x a (row S 16 g)) H := hP
        have hDs : va_D A (wX cI cZ x a (row S 16 g)) := hD
        have hFc := wfree hDs hS hA
        refine va_callv (va_runV (As := [.int (S 9 i2.toNatClampNeg), .ref (a 16)]) (rest := []) ⟨hx, hb, hml, hown, hts⟩ (c_X0_moveMasks_16 l D cI cZ x a (row S 16 g) H.size (S 9 i2.toNatClampNeg) (hI.q24 h9) (by rw [row_ne (by decide)]; exact hcf.2.1) (by rw [row_ne (by decide), row_ne (by decide)]; exact hcf.2.2.1)) (cwV 2 hts gX0_maskByCues_X0_moveMasks rfl rfl rfl (by decide +kernel) ⟨Nat.le_of_ble_eq_true rfl, Nat.le_of_ble_eq_true rfl⟩) (pW_V (ci := 0) hPs hK hDs rfl rfl) rfl rfl hl.1 rfl (lv_room (Nat.le_of_ble_eq_true rfl)) dX0_maskByCues_33 ⟨Nat.zero_le _, Nat.zero_le _⟩) hS (fun q _ h => hFc q h) hFc (fun u_33 t9 H1 locs ht9 hvm9 h_33 hB9 hz9 hk9 hS => ?_)
        subst h_33
        have hP : va_P D vwCl (wXr cI cZ x a (S 0) (S 1) (S 2) (S 3) (S 4) (S 5) (S 6) (S 7) (S 8) (S 9) (S 10 0) (S 11 0) (S 12) (S 13) (S 14 0) (S 15 0) (mv (row S 16 g) (S 9 i2.toNatClampNeg).toNatClampNeg g)) H1 := atW_P hB9 ht9
        have hD : va_D A (wXr cI cZ x a (S 0) (S 1) (S 2) (S 3) (S 4) (S 5) (S 6) (S 7) (S 8) (S 9) (S 10 0) (S 11 0) (S 12) (S 13) (S 14 0) (S 15 0) (mv (row S 16 g) (S 9 i2.toNatClampNeg).toNatClampNeg g)) := atW_D hB9 hFc
        generalize H1 = H at hP hS ⊢
        refine lv_iinc (v := i2 + 1) (lv' := [(2, .int (i2 + 1)), (0, .ref x), (1, .int p)]) hx hb dX0_maskByCues_36 hl (k := 0) rfl rfl (by decide) rfl (fun ls hl => ?_)
        refine lv_goto (tgt := 14) hx hb dX0_maskByCues_39 (by decide) ?_
        exact ih (j + 1) (i2 + 1) (mv (row S 16 g) (S 9 i2.toNatClampNeg).toNatClampNeg g) (by omega) (by omega) (by rw [e2]; exact nI_1 j) (by rw [mv_cong (S := S) (row_ne (by decide)) (row_ne (by decide)) (row_ne (by decide)), eg, e2, nI_clamp (by omega)]; rfl) _ _ hP hD hS _ (lv_sub hl [0, 1, 2] rfl)
  exact loop_14 (cN (S 8) 1 (many S) + 1) 0 0 (fa_fill (fun _ => (-1)) (S 16) 6) (Nat.zero_le _) (by omega) nI_0.symm rfl _ _ hP hD hS _ (lv_sub hl [0, 1, 2] rfl)
set_option maxHeartbeats 4000000 in
set_option maxRecDepth 100000 in
theorem c_X0_guess (l : Launch) (hfl : l.stackTraces = false) (D : va_G) (cI cZ : ClassId) (x : Nat) (a : Nat → Nat) (S : ST) (sz : Nat) (g : Int32) (p : Int32) (m : Int32) : vy_Met l yX0_guess wsX0_guess rmX0_guess (va_Pc [.ref x, .int g, .int p, .int m] (fun U => (pW D (tyX cI cZ) (wX cI cZ x a S) sz) U ∧ pG U)) (va_Qi (fun (r : Int32) (u : ST) => k_guess S g p m = (0, r, u)) (fun (u : ST) t => atW D (wX cI cZ x a u) (va_A (wX cI cZ x a S) sz) t) (va_A (wX cI cZ x a S) sz)) (xcs (fun E => (E = xIO ∧ k_guess S g p m = (1, 0, S)) ∨ (E = xIS ∧ k_guess S g p m = (2, 0, S)))) 1 6 (va_A (wX cI cZ x a S) sz) := by
  refine vy_ofW (cc := cX0_guess) (maxL := 6) (ret := (some .boolean)) (by decide) rfl ?_
  intro pr env s mid args below meth cod s₁ Bd hml hout hv
  obtain ⟨rfl, ⟨hsz, hP, hK, hD0⟩, hG0⟩ := hv
  have hG : xG (fun q => s.heap.size ≤ q) s s.heap := hG0
  have hx := Bd.exec
  have hb := Bd.bytes
  have hr := Bd.returns
  have hts := atoms_spec (ws := wsX0_guess) Bd.pre
  have hown : s.vm.findClass RX0 = some mid.cls := findClass_of_methodNamed Bd.named
  have hlocks := Bd.notSynchronized
  have hin : ∀ w ∈ wsX00, w ∈ wsX0_guess := fun _ h => List.mem_cons_of_mem _ (List.mem_append_left _ (List.mem_append_left _ (List.mem_append_right _ h)))
  subst hsz
  have hD := hD0.self (sz := s.heap.size)
  generalize hAe : va_A (wX cI cZ x a S) s.heap.size = A at hD ⊢
  have hA : ∀ q : Nat, s.heap.size ≤ q → A q := fun q h => by rw [← hAe]; exact Or.inr h
  have hS : va_S A s.heap s.heap [] := va_S.rf
  have hP : va_P D vwCl (wX cI cZ x a S) s.heap := hP
  have hD : va_D A (wX cI cZ x a S) := hD
  have hl := lv_entry ([.ref x, .int g, .int p, .int m]) (n := 6) (Nat.le_of_ble_eq_true rfl)
  rw [lg_entry_eq]
  generalize (lg_sl ([.ref x, .int g, .int p, .int m]) ++ List.replicate (6 - (lg_sl ([.ref x, .int g, .int p, .int m])).length) Slot.unset).toArray = ls at hl ⊢
  have hl : lv_has ls 6 [(0, .ref x), (1, .int g), (2, .int p), (3, .int m)] := hl
  refine lv_iload_n hx hb dX0_guess_0 rfl (lv_at hl 1 rfl) ?_
  refine vy_csv (vy_runS (As := [.int g]) (rest := []) ⟨hx, hb, hml, hown, hts⟩ (c_X0_requireGuesser l hfl g) (va_cwS 1 hts gX0_guess_X0_requireGuesser rfl rfl rfl (by decide +kernel) ⟨Nat.le_of_ble_eq_true rfl, Nat.le_of_ble_eq_true rfl⟩) (pT_S (pN_S) hG (fun _ h => h)) rfl rfl hl.1 rfl (lv_room (Nat.le_of_ble_eq_true rfl)) dX0_guess_1 ⟨Nat.le_of_ble_eq_true rfl, Nat.le_of_ble_eq_true rfl⟩) (fun E ce q9 H1 hPE hz9 hk9 hc9 hv9 hcl9 => vy_out hout hlocks (Or.inl ⟨hPE.1, cif_f (fun h => hPE.2 h.1)⟩) hz9 hk9 hc9 hv9 hcl9 (by decide) (by decide)) (fun h_1 => ?_)
  refine lv_iload_n hx hb dX0_guess_4 rfl (lv_at hl 2 rfl) ?_
  refine vy_csv (vy_runS (As := [.int p]) (rest := []) ⟨hx, hb, hml, hown, hts⟩ (c_X0_requirePlayer l hfl p) (va_cwS 1 hts gX0_guess_X0_requirePlayer rfl rfl rfl (by decide +kernel) ⟨Nat.le_of_ble_eq_true rfl, Nat.le_of_ble_eq_true rfl⟩) (pT_S (pN_S) hG (fun _ h => h)) rfl rfl hl.1 rfl (lv_room (Nat.le_of_ble_eq_true rfl)) dX0_guess_5 ⟨Nat.le_of_ble_eq_true rfl, Nat.le_of_ble_eq_true rfl⟩) (fun E ce q9 H1 hPE hz9 hk9 hc9 hv9 hcl9 => vy_out hout hlocks (Or.inl ⟨hPE.1, cif_f (fun h => hPE.2 h.2.1)⟩) hz9 hk9 hc9 hv9 hcl9 (by decide) (by decide)) (fun h_5 => ?_)
  refine lv_iload_n hx hb dX0_guess_8 rfl (lv_at hl 3 rfl) ?_
  refine vy_csv (vy_runS (As := [.int m]) (rest := []) ⟨hx, hb, hml, hown, hts⟩ (c_X0_requireMask l hfl m) (va_cwS 1 hts gX0_guess_X0_requireMask rfl rfl rfl (by decide +kernel) ⟨Nat.le_of_ble_eq_true rfl, Nat.le_of_ble_eq_true rfl⟩) (pT_S (pN_S) hG (fun _ h => h)) rfl rfl hl.1 rfl (lv_room (Nat.le_of_ble_eq_true rfl)) dX0_guess_9 ⟨Nat.le_of_ble_eq_true rfl, Nat.le_of_ble_eq_true rfl⟩) (fun E ce q9 H1 hPE hz9 hk9 hc9 hv9 hcl9 => vy_out hout hlocks (Or.inl ⟨hPE.1, cif_f (fun h => hPE.2 h.2.2)⟩) hz9 hk9 hc9 hv9 hcl9 (by decide) (by decide)) (fun h_9 => ?_)
  refine lv_aload_n hx hb dX0_guess_12 rfl (lv_at hl 0 rfl) ?_
  have hf16 := hts (.fieldLink RX0 16 "Clockmask" "onStage" "[Z") (by decide +kernel)
  refine va_get (D := D) (ci := 0) (v := .ref (a 2)) (C := RX0) (T := TX0) (N := 17) hx hb hts hin hown hK hP 0 rfl rfl 2 (by decide) hf16 (fun _ h9 => h9) rfl dX0_guess_13 ?_
  refine lv_iload_n hx hb dX0_guess_16 rfl (lv_at hl 2 rfl) ?_
  refine va_zald (f := S 2) (n := 6) hx hb hK hP 3 1 rfl rfl (by assumption) dX0_guess_17 ?_
  refine lv_if_eq (tgt := 31) hx hb dX0_guess_18 (by decide) (fun c_18 => ?_) (fun c_18 => ?_)
  · skip
    exact x_throwS (text := "the player is not on stage with a mask") hx hb hfl hown (by decide) (hts (.classLink RX0 78 xIS) (by decide +kernel)) (hts (.initialized xIS) (by decide +kernel)) (fun w h => hts w (List.mem_cons_of_mem _ (List.mem_append_left _ (List.mem_append_right _ h)))) xIS_b xIS_g hG (by decide) (hl.1.trans hml.symm) dX0_guess_31 dX0_guess_34 dX0_guess_35 dX0_guess_37 dX0_guess_40 hout ⟨by decide, by decide, by decide, by decide⟩ hlocks (Or.inr ⟨rfl, (cif_t ⟨h_1, h_5, h_9⟩).trans (cif_f (fun h => h.1 c_18))⟩)
  · skip
    refine lv_aload_n hx hb dX0_guess_21 rfl (lv_at hl 0 rfl) ?_
    have hf13 := hts (.fieldLink RX0 13 "Clockmask" "maskOfPlayer" "[I") (by decide +kernel)
    refine va_get (D := D) (ci := 0) (v := .ref (a 1)) (C := RX0) (T := TX0) (N := 17) hx hb hts hin hown hK hP 0 rfl rfl 1 (by decide) hf13 (fun _ h9 => h9) rfl dX0_guess_22 ?_
    refine lv_iload_n hx hb dX0_guess_25 rfl (lv_at hl 2 rfl) ?_
    refine va_iald (f := S 1) (n := 6) hx hb hK hP 2 0 rfl rfl (by assumption) dX0_guess_26 ?_
    refine lv_iconst (v := (-1)) hx hb dX0_guess_27 (by decide) ?_
    refine lv_icmp_ne (tgt := 41) hx hb dX0_guess_28 (by decide) (fun c_28 => ?_) (fun c_28 => ?_)
    · skip
      refine lv_iload_n hx hb dX0_guess_41 rfl (lv_at hl 1 rfl) ?_
      refine lv_bipush (v := 6) hx hb dX0_guess_42 (by decide) ?_
      refine lv_imul hx hb dX0_guess_44 ?_
      refine lv_iload_n hx hb dX0_guess_45 rfl (lv_at hl 2 rfl) ?_
      refine lv_iadd hx hb dX0_guess_46 ?_
      refine lv_istore (lv' := [(4, .int ((g * 6) + p)), (0, .ref x), (1, .int g), (2, .int p), (3, .int m)]) hx hb dX0_guess_47 hl (by decide) rfl (fun ls hl => ?_)
      refine lv_aload_n hx hb dX0_guess_49 rfl (lv_at hl 1 rfl) ?_
      have hf44 := hts (.fieldLink RX0 44 "Clockmask" "guessed" "[Z") (by decide +kernel)
      refine va_get (D := D) (ci := 0) (v := .ref (a 13)) (C := RX0) (T := TX0) (N := 17) hx hb hts hin hown hK hP 0 rfl rfl 13 (by decide) hf44 (fun _ h9 => h9) rfl dX0_guess_50 ?_
      refine lv_iload hx hb dX0_guess_53 (lv_at hl 0 rfl) ?_
      refine va_zald (f := S 13) (n := 18) hx hb hK hP 12 1 rfl rfl (gp_in h_1 h_5) dX0_guess_55 ?_
      refine lv_if_eq (tgt := 69) hx hb dX0_guess_56 (by decide) (fun c_56 => ?_) (fun c_56 => ?_)
      · skip
        refine lv_aload_n hx hb dX0_guess_69 rfl (lv_at hl 1 rfl) ?_
        refine va_get (D := D) (ci := 0) (v := .ref (a 13)) (C := RX0) (T := TX0) (N := 17) hx hb hts hin hown hK hP 0 rfl rfl 13 (by decide) hf44 (fun _ h9 => h9) rfl dX0_guess_70 ?_
        refine lv_iload hx hb dX0_guess_73 (lv_at hl 0 rfl) ?_
        refine lv_iconst (v := 1) hx hb dX0_guess_75 (by decide) ?_
        refine va_zast (f := S 13) (n := 18) hx hb hK hP hD hS 12 1 rfl rfl (gp_in h_1 h_5) dX0_guess_76 (fun H locs hP hD hS => ?_)
        have hP : va_P D vwCl (wXr cI cZ x a (S 0) (S 1) (S 2) (S 3) (S 4) (S 5) (S 6) (S 7) (S 8) (S 9) (S 10 0) (S 11 0) (S 12) (upd (S 13) ((g * 6) + p).toNatClampNeg 1) (S 14 0) (S 15 0) (S 16)) H := hP
        have hD : va_D A (wXr cI cZ x a (S 0) (S 1) (S 2) (S 3) (S 4) (S 5) (S 6) (S 7) (S 8) (S 9) (S 10 0) (S 11 0) (S 12) (upd (S 13) ((g * 6) + p).toNatClampNeg 1) (S 14 0) (S 15 0) (S 16)) := hD
        refine lv_aload_n hx hb dX0_guess_77 rfl (lv_at hl 1 rfl) ?_
        refine va_get (D := D) (ci := 0) (v := .ref (a 1)) (C := RX0) (T := TX0) (N := 17) hx hb hts hin hown hK hP 0 rfl rfl 1 (by decide) hf13 (fun _ h9 => h9) rfl dX0_guess_78 ?_
        refine lv_iload_n hx hb dX0_guess_81 rfl (lv_at hl 3 rfl) ?_
        refine va_iald (f := S 1) (n := 6) hx hb hK hP 2 0 rfl rfl (by assumption) dX0_guess_82 ?_
        refine lv_iload_n hx hb dX0_guess_83 rfl (lv_at hl 4 rfl) ?_
        refine lv_icmp_ne (tgt := 91) hx hb dX0_guess_84 (by decide) (fun c_84 => ?_) (fun c_84 => ?_)
        · skip
          refine lv_iconst (v := 0) hx hb dX0_guess_91 (by decide) ?_
          refine lv_istore (lv' := [(5, .int 0), (4, .int ((g * 6) + p)), (0, .ref x), (1, .int g), (2, .int p), (3, .int m)]) hx hb dX0_guess_92 hl (by decide) rfl (fun ls hl => ?_)
          refine lv_aload_n hx hb dX0_guess_94 rfl (lv_at hl 2 rfl) ?_
          have hf41 := hts (.fieldLink RX0 41 "Clockmask" "pointsOfGuesser" "[I") (by decide +kernel)
          refine va_get (D := D) (ci := 0) (v := .ref (a 12)) (C := RX0) (T := TX0) (N := 17) hx hb hts hin hown hK hP 0 rfl rfl 12 (by decide) hf41 (fun _ h9 => h9) rfl dX0_guess_95 ?_
          refine lv_iload_n hx hb dX0_guess_98 rfl (lv_at hl 3 rfl) ?_
          refine lv_dup2_11 hx hb dX0_guess_99 rfl rfl ?_
          refine va_iald (f := S 12) (n := 3) hx hb hK hP 11 0 rfl rfl (by assumption) dX0_guess_100 ?_
          refine lv_iload hx hb dX0_guess_101 (lv_at hl 0 rfl) ?_
          refine lv_if_eq (tgt := 110) hx hb dX0_guess_103 (by decide) (fun c_103 => ?_) (fun c_103 => ?_)
          · skip
            refine lv_iconst (v := (-1)) hx hb dX0_guess_110 (by decide) ?_
            refine lv_iadd hx hb dX0_guess_111 ?_
            refine va_iast (f := S 12) (n := 3) hx hb hK hP hD hS 11 0 rfl rfl (by assumption) dX0_guess_112 (fun H locs hP hD hS => ?_)
            have hP : va_P D vwCl (wXr cI cZ x a (S 0) (S 1) (S 2) (S 3) (S 4) (S 5) (S 6) (S 7) (S 8) (S 9) (S 10 0) (S 11 0) (upd (S 12) g.toNatClampNeg ((S 12 g.toNatClampNeg) + (-1))) (upd (S 13) ((g * 6) + p).toNatClampNeg 1) (S 14 0) (S 15 0) (S 16)) H := hP
            have hD : va_D A (wXr cI cZ x a (S 0) (S 1) (S 2) (S 3) (S 4) (S 5) (S 6) (S 7) (S 8) (S 9) (S 10 0) (S 11 0) (upd (S 12) g.toNatClampNeg ((S 12 g.toNatClampNeg) + (-1))) (upd (S 13) ((g * 6) + p).toNatClampNeg 1) (S 14 0) (S 15 0) (S 16)) := hD
            refine lv_iload hx hb dX0_guess_113 (lv_at hl 0 rfl) ?_
            exact vy_ret (W.zret (v := 0) (ty := .boolean) hx hb hr rfl (fun t ht hW => ⟨⟨_, row (row S 13 (upd (S 13) ((g * 6) + p).toNatClampNeg 1)) 12 (upd (S 12) g.toNatClampNeg ((S 12 g.toNatClampNeg) + (-1))), rfl, (cif_t ⟨h_1, h_5, h_9⟩).trans ((cif_t ⟨c_18, c_28, c_56⟩).trans (by rw [cif_f c_84, cif_f c_84])), by rw [ht]; exact hP, hD⟩, hS.F ht⟩) hS.2.2 dX0_guess_115)
          · skip
            exact absurd c_103 (by decide)
        · skip
          refine lv_iconst (v := 1) hx hb dX0_guess_87 (by decide) ?_
          refine lv_goto (tgt := 92) hx hb dX0_guess_88 (by decide) ?_
          refine lv_istore (lv' := [(5, .int 1), (4, .int ((g * 6) + p)), (0, .ref x), (1, .int g), (2, .int p), (3, .int m)]) hx hb dX0_guess_92 hl (by decide) rfl (fun ls hl => ?_)
          refine lv_aload_n hx hb dX0_guess_94 rfl (lv_at hl 2 rfl) ?_
          have hf41 := hts (.fieldLink RX0 41 "Clockmask" "pointsOfGuesser" "[I") (by decide +kernel)
          refine va_get (D := D) (ci := 0) (v := .ref (a 12)) (C := RX0) (T := TX0) (N := 17) hx hb hts hin hown hK hP 0 rfl rfl 12 (by decide) hf41 (fun _ h9 => h9) rfl dX0_guess_95 ?_
          refine lv_iload_n hx hb dX0_guess_98 rfl (lv_at hl 3 rfl) ?_
          refine lv_dup2_11 hx hb dX0_guess_99 rfl rfl ?_
          refine va_iald (f := S 12) (n := 3) hx hb hK hP 11 0 rfl rfl (by assumption) dX0_guess_100 ?_
          refine lv_iload hx hb dX0_guess_101 (lv_at hl 0 rfl) ?_
          refine lv_if_eq (tgt := 110) hx hb dX0_guess_103 (by decide) (fun c_103 => ?_) (fun c_103 => ?_)
          · skip
            exact absurd c_103 (by decide)
          · skip
            refine lv_iconst (v := 3) hx hb dX0_guess_106 (by decide) ?_
            refine lv_goto (tgt := 111) hx hb dX0_guess_107 (by decide) ?_
            refine lv_iadd hx hb dX0_guess_111 ?_
            refine va_iast (f := S 12) (n := 3) hx hb hK hP hD hS 11 0 rfl rfl (by assumption) dX0_guess_112 (fun H locs hP hD hS => ?_)
            have hP : va_P D vwCl (wXr cI cZ x a (S 0) (S 1) (S 2) (S 3) (S 4) (S 5) (S 6) (S 7) (S 8) (S 9) (S 10 0) (S 11 0) (upd (S 12) g.toNatClampNeg ((S 12 g.toNatClampNeg) + 3)) (upd (S 13) ((g * 6) + p).toNatClampNeg 1) (S 14 0) (S 15 0) (S 16)) H := hP
            have hD : va_D A (wXr cI cZ x a (S 0) (S 1) (S 2) (S 3) (S 4) (S 5) (S 6) (S 7) (S 8) (S 9) (S 10 0) (S 11 0) (upd (S 12) g.toNatClampNeg ((S 12 g.toNatClampNeg) + 3)) (upd (S 13) ((g * 6) + p).toNatClampNeg 1) (S 14 0) (S 15 0) (S 16)) := hD
            refine lv_iload hx hb dX0_guess_113 (lv_at hl 0 rfl) ?_
            exact vy_ret (W.zret (v := 1) (ty := .boolean) hx hb hr rfl (fun t ht hW => ⟨⟨_, row (row S 13 (upd (S 13) ((g * 6) + p).toNatClampNeg 1)) 12 (upd (S 12) g.toNatClampNeg ((S 12 g.toNatClampNeg) + 3)), rfl, (cif_t ⟨h_1, h_5, h_9⟩).trans ((cif_t ⟨c_18, c_28, c_56⟩).trans (by rw [cif_t c_84, cif_t c_84])), by rw [ht]; exact hP, hD⟩, hS.F ht⟩) hS.2.2 dX0_guess_115)
      · skip
        exact x_throwS (text := "the guesser has guessed this part in this play") hx hb hfl hown (by decide) (hts (.classLink RX0 78 xIS) (by decide +kernel)) (hts (.initialized xIS) (by decide +kernel)) (fun w h => hts w (List.mem_cons_of_mem _ (List.mem_append_left _ (List.mem_append_right _ h)))) xIS_b xIS_g hG (by decide) (hl.1.trans hml.symm) dX0_guess_59 dX0_guess_62 dX0_guess_63 dX0_guess_65 dX0_guess_68 hout ⟨by decide, by decide, by decide, by decide⟩ hlocks (Or.inr ⟨rfl, (cif_t ⟨h_1, h_5, h_9⟩).trans (cif_f (fun h => c_56 h.2.2))⟩)
    · skip
      exact x_throwS (text := "the player is not on stage with a mask") hx hb hfl hown (by decide) (hts (.classLink RX0 78 xIS) (by decide +kernel)) (hts (.initialized xIS) (by decide +kernel)) (fun w h => hts w (List.mem_cons_of_mem _ (List.mem_append_left _ (List.mem_append_right _ h)))) xIS_b xIS_g hG (by decide) (hl.1.trans hml.symm) dX0_guess_31 dX0_guess_34 dX0_guess_35 dX0_guess_37 dX0_guess_40 hout ⟨by decide, by decide, by decide, by decide⟩ hlocks (Or.inr ⟨rfl, (cif_t ⟨h_1, h_5, h_9⟩).trans (cif_f (fun h => h.2.1 c_28))⟩)
set_option maxHeartbeats 4000000 in
set_option maxRecDepth 100000 in
theorem c_X0_endPlay (l : Launch) (hfl : l.stackTraces = false) (D : va_G) (cI cZ : ClassId) (x : Nat) (a : Nat → Nat) (S : ST) (sz : Nat) (B : Nat) (hI : Inv B S) (hB : B ≤ 100000) : vy_Met l yX0_endPlay wsX0_endPlay rmX0_endPlay (va_Pc [.ref x] (fun U => (pW D (tyX cI cZ) (wX cI cZ x a S) sz) U ∧ pG U)) (va_Qi (fun (r : Int32) (u : ST) => k_endPlay S = (0, r, u)) (fun (u : ST) t => atW D (wX cI cZ x a u) (va_A (wX cI cZ x a S) sz) t) (va_A (wX cI cZ x a S) sz)) (xcs (fun E => E = xIS ∧ k_endPlay S = (1, 0, S))) 1 6 (va_A (wX cI cZ x a S) sz) := by
  refine vy_ofW (cc := cX0_endPlay) (maxL := 1) (ret := (some .int)) (by decide) rfl ?_
  intro pr env s mid args below meth cod s₁ Bd hml hout hv
  obtain ⟨rfl, ⟨hsz, hP, hK, hD0⟩, hG0⟩ := hv
  have hG : xG (fun q => s.heap.size ≤ q) s s.heap := hG0
  have hx := Bd.exec
  have hb := Bd.bytes
  have hr := Bd.returns
  have hts := atoms_spec (ws := wsX0_endPlay) Bd.pre
  have hown : s.vm.findClass RX0 = some mid.cls := findClass_of_methodNamed Bd.named
  have hlocks := Bd.notSynchronized
  have hin : ∀ w ∈ wsX00, w ∈ wsX0_endPlay := fun _ h => List.mem_cons_of_mem _ (List.mem_append_left _ (List.mem_append_right _ h))
  subst hsz
  have hD := hD0.self (sz := s.heap.size)
  generalize hAe : va_A (wX cI cZ x a S) s.heap.size = A at hD ⊢
  have hA : ∀ q : Nat, s.heap.size ≤ q → A q := fun q h => by rw [← hAe]; exact Or.inr h
  have hS : va_S A s.heap s.heap [] := va_S.rf
  have hP : va_P D vwCl (wX cI cZ x a S) s.heap := hP
  have hD : va_D A (wX cI cZ x a S) := hD
  have hl := lv_entry ([.ref x]) (n := 1) (Nat.le_of_ble_eq_true rfl)
  rw [lg_entry_eq]
  generalize (lg_sl ([.ref x]) ++ List.replicate (1 - (lg_sl ([.ref x])).length) Slot.unset).toArray = ls at hl ⊢
  have hl : lv_has ls 1 [(0, .ref x)] := hl
  refine lv_aload_n hx hb dX0_endPlay_0 rfl (lv_at hl 0 rfl) ?_
  refine lv_iconst (v := 0) hx hb dX0_endPlay_1 (by decide) ?_
  refine vp_callSi (W.runV (As := [.int 0]) (rest := []) ⟨hx, hb, hml, hown, hts⟩ (c_X0_countCues l D cI cZ x a S 0 hI.m24 hI.me) (cwV 1 hts gX0_endPlay_X0_countCues rfl rfl rfl (by decide +kernel) ⟨Nat.le_of_ble_eq_true rfl, Nat.le_of_ble_eq_true rfl⟩) (pR_V (ci := 0) hP hK rfl rfl) rfl rfl hl.1 rfl (lv_room (Nat.le_of_ble_eq_true rfl)) dX0_endPlay_2 ⟨Nat.zero_le _, Nat.zero_le _⟩) (fun r_2 h_2 => ?_)
  subst h_2
  refine lv_if_le (tgt := 18) hx hb dX0_endPlay_5 (by decide) (fun c_5 => ?_) (fun c_5 => ?_)
  · skip
    have hz := no_zero hI.m24 c_5
    refine lv_aload_n hx hb dX0_endPlay_18 rfl (lv_at hl 0 rfl) ?_
    refine lv_iconst (v := 0) hx hb dX0_endPlay_19 (by decide) ?_
    refine lv_aload_n hx hb dX0_endPlay_20 rfl (lv_at hl 0 rfl) ?_
    have hf47 := hts (.fieldLink RX0 47 "Clockmask" "purse" "I") (by decide +kernel)
    refine va_get (D := D) (ci := 0) (v := .int (S 14 0)) (C := RX0) (T := TX0) (N := 17) hx hb hts hin hown hK hP 0 rfl rfl 14 (by decide) hf47 (fun _ h9 => h9) rfl dX0_endPlay_21 ?_
    refine lv_aload_n hx hb dX0_endPlay_24 rfl (lv_at hl 0 rfl) ?_
    refine lv_iconst (v := 1) hx hb dX0_endPlay_25 (by decide) ?_
    refine vp_callSi (W.runV (As := [.int 1]) (rest := [.int (S 14 0), .int 0, .ref x]) ⟨hx, hb, hml, hown, hts⟩ (c_X0_countCues l D cI cZ x a S 1 hI.m24 hI.me) (cwV 1 hts gX0_endPlay_X0_countCues rfl rfl rfl (by decide +kernel) ⟨Nat.le_of_ble_eq_true rfl, Nat.le_of_ble_eq_true rfl⟩) (pR_V (ci := 0) hP hK rfl rfl) rfl rfl hl.1 rfl (lv_room (Nat.le_of_ble_eq_true rfl)) dX0_endPlay_26 ⟨Nat.zero_le _, Nat.zero_le _⟩) (fun r_26 h_26 => ?_)
    subst h_26
    refine lv_iadd hx hb dX0_endPlay_29 ?_
    refine lv_aload_n hx hb dX0_endPlay_30 rfl (lv_at hl 0 rfl) ?_
    refine lv_iconst (v := 2) hx hb dX0_endPlay_31 (by decide) ?_
    refine vp_callSi (W.runV (As := [.int 2]) (rest := [.int ((S 14 0) + (nI (cN (S 8) 1 (many S)))), .int 0, .ref x]) ⟨hx, hb, hml, hown, hts⟩ (c_X0_countCues l D cI cZ x a S 2 hI.m24 hI.me) (cwV 1 hts gX0_endPlay_X0_countCues rfl rfl rfl (by decide +kernel) ⟨Nat.le_of_ble_eq_true rfl, Nat.le_of_ble_eq_true rfl⟩) (pR_V (ci := 0) hP hK rfl rfl) rfl rfl hl.1 rfl (lv_room (Nat.le_of_ble_eq_true rfl)) dX0_endPlay_32 ⟨Nat.zero_le _, Nat.zero_le _⟩) (fun r_32 h_32 => ?_)
    subst h_32
    refine lv_isub hx hb dX0_endPlay_35 ?_
    refine va_mmax (own := RX0) (index := 156) hx hb (hml.trans hl.1.symm) hown (hts (.methodLink RX0 156 Lib.Math.max.name) (by decide +kernel)) (hts (.static Lib.Math.max.name) (by decide +kernel)) (hts (.initialized "java/lang/Math") (by decide +kernel)) (hts (.code Lib.Math.max.name Lib.Math.max.code 2 (some .int)) (by decide +kernel)) (Nat.le_of_ble_eq_true rfl) (Nat.le_of_ble_eq_true rfl) (Nat.zero_le _) (Nat.zero_le _) dX0_endPlay_36 ?_
    refine va_put (D := D) (ci := 0) (v := .int (if 0 < ((S 14 0) + (nI (cN (S 8) 1 (many S)))) - (nI (cN (S 8) 2 (many S))) then ((S 14 0) + (nI (cN (S 8) 1 (many S)))) - (nI (cN (S 8) 2 (many S))) else 0)) (ty := .int) (C := RX0) (T := TX0) (N := 17) hx hb hts hin tyX0 tyX0_ok nmX0 hown hK hP hD hS 0 rfl rfl 14 (by decide) hf47 (fun _ h9 => h9) rfl (by decide +kernel) rfl rfl (Nat.le_of_ble_eq_true rfl) dX0_endPlay_39 (fun H locs hP hD hS => ?_)
    have hP : va_P D vwCl (wXr cI cZ x a (S 0) (S 1) (S 2) (S 3) (S 4) (S 5) (S 6) (S 7) (S 8) (S 9) (S 10 0) (S 11 0) (S 12) (S 13) (if 0 < ((S 14 0) + (nI (cN (S 8) 1 (many S)))) - (nI (cN (S 8) 2 (many S))) then ((S 14 0) + (nI (cN (S 8) 1 (many S)))) - (nI (cN (S 8) 2 (many S))) else 0) (S 15 0) (S 16)) H := hP
    have hD : va_D A (wXr cI cZ x a (S 0) (S 1) (S 2) (S 3) (S 4) (S 5) (S 6) (S 7) (S 8) (S 9) (S 10 0) (S 11 0) (S 12) (S 13) (if 0 < ((S 14 0) + (nI (cN (S 8) 1 (many S)))) - (nI (cN (S 8) 2 (many S))) then ((S 14 0) + (nI (cN (S 8) 1 (many S)))) - (nI (cN (S 8) 2 (many S))) else 0) (S 15 0) (S 16)) := hD
    refine lv_aload_n hx hb dX0_endPlay_42 rfl (lv_at hl 0 rfl) ?_
    refine lv_dup hx hb dX0_endPlay_43 rfl ?_
    have hf162 := hts (.fieldLink RX0 162 "Clockmask" "endedPlays" "I") (by decide +kernel)
    refine va_get (D := D) (ci := 0) (v := .int (S 15 0)) (C := RX0) (T := TX0) (N := 17) hx hb hts hin hown hK hP 0 rfl rfl 15 (by decide) hf162 (fun _ h9 => h9) rfl dX0_endPlay_44 ?_
    refine lv_iconst (v := 1) hx hb dX0_endPlay_47 (by decide) ?_
    refine lv_iadd hx hb dX0_endPlay_48 ?_
    refine va_put (D := D) (ci := 0) (v := .int ((S 15 0) + 1)) (ty := .int) (C := RX0) (T := TX0) (N := 17) hx hb hts hin tyX0 tyX0_ok nmX0 hown hK hP hD hS 0 rfl rfl 15 (by decide) hf162 (fun _ h9 => h9) rfl (by decide +kernel) rfl rfl (Nat.le_of_ble_eq_true rfl) dX0_endPlay_49 (fun H locs hP hD hS => ?_)
    have hP : va_P D vwCl (wXr cI cZ x a (S 0) (S 1) (S 2) (S 3) (S 4) (S 5) (S 6) (S 7) (S 8) (S 9) (S 10 0) (S 11 0) (S 12) (S 13) (if 0 < ((S 14 0) + (nI (cN (S 8) 1 (many S)))) - (nI (cN (S 8) 2 (many S))) then ((S 14 0) + (nI (cN (S 8) 1 (many S)))) - (nI (cN (S 8) 2 (many S))) else 0) ((S 15 0) + 1) (S 16)) H := hP
    have hD : va_D A (wXr cI cZ x a (S 0) (S 1) (S 2) (S 3) (S 4) (S 5) (S 6) (S 7) (S 8) (S 9) (S 10 0) (S 11 0) (S 12) (S 13) (if 0 < ((S 14 0) + (nI (cN (S 8) 1 (many S)))) - (nI (cN (S 8) 2 (many S))) then ((S 14 0) + (nI (cN (S 8) 1 (many S)))) - (nI (cN (S 8) 2 (many S))) else 0) ((S 15 0) + 1) (S 16)) := hD
    refine lv_aload_n hx hb dX0_endPlay_52 rfl (lv_at hl 0 rfl) ?_
    have hPs : va_P D vwCl (wX cI cZ x a (row (row S 14 (kf (if 0 < ((S 14 0) + (nI (cN (S 8) 1 (many S)))) - (nI (cN (S 8) 2 (many S))) then ((S 14 0) + (nI (cN (S 8) 1 (many S)))) - (nI (cN (S 8) 2 (many S))) else 0))) 15 (kf ((S 15 0) + 1)))) H := hP
    have hDs : va_D A (wX cI cZ x a (row (row S 14 (kf (if 0 < ((S 14 0) + (nI (cN (S 8) 1 (many S)))) - (nI (cN (S 8) 2 (many S))) then ((S 14 0) + (nI (cN (S 8) 1 (many S)))) - (nI (cN (S 8) 2 (many S))) else 0))) 15 (kf ((S 15 0) + 1)))) := hD
    have hFc := wfree hDs hS hA
    refine va_callv (va_runV (As := []) (rest := []) ⟨hx, hb, hml, hown, hts⟩ (c_X0_clearStage l D cI cZ x a (row (row S 14 (kf (if 0 < ((S 14 0) + (nI (cN (S 8) 1 (many S)))) - (nI (cN (S 8) 2 (many S))) then ((S 14 0) + (nI (cN (S 8) 1 (many S)))) - (nI (cN (S 8) 2 (many S))) else 0))) 15 (kf ((S 15 0) + 1))) H.size) (cwV 0 hts gX0_endPlay_X0_clearStage rfl rfl rfl (by decide +kernel) ⟨Nat.le_of_ble_eq_true rfl, Nat.le_of_ble_eq_true rfl⟩) (pW_V (ci := 0) hPs hK hDs rfl rfl) rfl rfl hl.1 rfl (lv_room (Nat.le_of_ble_eq_true rfl)) dX0_endPlay_53 ⟨Nat.zero_le _, Nat.zero_le _⟩) hS (fun q _ h => hFc q h) hFc (fun u_53 t9 H1 locs ht9 hvm9 h_53 hB9 hz9 hk9 hS => ?_)
    subst h_53
    have hP : va_P D vwCl (wXr cI cZ x a (S 0) (fa_fill (fun _ => -1) (S 1) 6) (fa_fill (fun _ => 0) (S 2) 6) (S 3) (S 4) (S 5) (S 6) (S 7) (S 8) (S 9) (S 10 0) (S 11 0) (S 12) (S 13) (if 0 < ((S 14 0) + (nI (cN (S 8) 1 (many S)))) - (nI (cN (S 8) 2 (many S))) then ((S 14 0) + (nI (cN (S 8) 1 (many S)))) - (nI (cN (S 8) 2 (many S))) else 0) ((S 15 0) + 1) (S 16)) H1 := atW_P hB9 ht9
    have hD : va_D A (wXr cI cZ x a (S 0) (fa_fill (fun _ => -1) (S 1) 6) (fa_fill (fun _ => 0) (S 2) 6) (S 3) (S 4) (S 5) (S 6) (S 7) (S 8) (S 9) (S 10 0) (S 11 0) (S 12) (S 13) (if 0 < ((S 14 0) + (nI (cN (S 8) 1 (many S)))) - (nI (cN (S 8) 2 (many S))) then ((S 14 0) + (nI (cN (S 8) 1 (many S)))) - (nI (cN (S 8) 2 (many S))) else 0) ((S 15 0) + 1) (S 16)) := atW_D hB9 hFc
    generalize H1 = H at hP hS ⊢
    refine lv_aload_n hx hb dX0_endPlay_56 rfl (lv_at hl 0 rfl) ?_
    have hPs : va_P D vwCl (wX cI cZ x a (row (row (row (row S 14 (kf (if 0 < ((S 14 0) + (nI (cN (S 8) 1 (many S)))) - (nI (cN (S 8) 2 (many S))) then ((S 14 0) + (nI (cN (S 8) 1 (many S)))) - (nI (cN (S 8) 2 (many S))) else 0))) 15 (kf ((S 15 0) + 1))) 1 (fa_fill (fun _ => -1) (S 1) 6)) 2 (fa_fill (fun _ => 0) (S 2) 6))) H := hP
    have hDs : va_D A (wX cI cZ x a (row (row (row (row S 14 (kf (if 0 < ((S 14 0) + (nI (cN (S 8) 1 (many S)))) - (nI (cN (S 8) 2 (many S))) then ((S 14 0) + (nI (cN (S 8) 1 (many S)))) - (nI (cN (S 8) 2 (many S))) else 0))) 15 (kf ((S 15 0) + 1))) 1 (fa_fill (fun _ => -1) (S 1) 6)) 2 (fa_fill (fun _ => 0) (S 2) 6))) := hD
    have hFc := wfree hDs hS hA
    refine va_callv (va_runV (As := []) (rest := []) ⟨hx, hb, hml, hown, hts⟩ (c_X0_clearGuesses l D cI cZ x a (row (row (row (row S 14 (kf (if 0 < ((S 14 0) + (nI (cN (S 8) 1 (many S)))) - (nI (cN (S 8) 2 (many S))) then ((S 14 0) + (nI (cN (S 8) 1 (many S)))) - (nI (cN (S 8) 2 (many S))) else 0))) 15 (kf ((S 15 0) + 1))) 1 (fa_fill (fun _ => -1) (S 1) 6)) 2 (fa_fill (fun _ => 0) (S 2) 6)) H.size) (cwV 0 hts gX0_endPlay_X0_clearGuesses rfl rfl rfl (by decide +kernel) ⟨Nat.le_of_ble_eq_true rfl, Nat.le_of_ble_eq_true rfl⟩) (pW_V (ci := 0) hPs hK hDs rfl rfl) rfl rfl hl.1 rfl (lv_room (Nat.le_of_ble_eq_true rfl)) dX0_endPlay_57 ⟨Nat.zero_le _, Nat.zero_le _⟩) hS (fun q _ h => hFc q h) hFc (fun u_57 t9 H1 locs ht9 hvm9 h_57 hB9 hz9 hk9 hS => ?_)
    subst h_57
    have hP : va_P D vwCl (wXr cI cZ x a (S 0) (fa_fill (fun _ => -1) (S 1) 6) (fa_fill (fun _ => 0) (S 2) 6) (S 3) (S 4) (S 5) (S 6) (S 7) (S 8) (S 9) (S 10 0) (S 11 0) (S 12) (fa_fill (fun _ => 0) (S 13) 18) (if 0 < ((S 14 0) + (nI (cN (S 8) 1 (many S)))) - (nI (cN (S 8) 2 (many S))) then ((S 14 0) + (nI (cN (S 8) 1 (many S)))) - (nI (cN (S 8) 2 (many S))) else 0) ((S 15 0) + 1) (S 16)) H1 := atW_P hB9 ht9
    have hD : va_D A (wXr cI cZ x a (S 0) (fa_fill (fun _ => -1) (S 1) 6) (fa_fill (fun _ => 0) (S 2) 6) (S 3) (S 4) (S 5) (S 6) (S 7) (S 8) (S 9) (S 10 0) (S 11 0) (S 12) (fa_fill (fun _ => 0) (S 13) 18) (if 0 < ((S 14 0) + (nI (cN (S 8) 1 (many S)))) - (nI (cN (S 8) 2 (many S))) then ((S 14 0) + (nI (cN (S 8) 1 (many S)))) - (nI (cN (S 8) 2 (many S))) else 0) ((S 15 0) + 1) (S 16)) := atW_D hB9 hFc
    generalize H1 = H at hP hS ⊢
    refine lv_aload_n hx hb dX0_endPlay_60 rfl (lv_at hl 0 rfl) ?_
    refine lv_iconst (v := 0) hx hb dX0_endPlay_61 (by decide) ?_
    have hf104 := hts (.fieldLink RX0 104 "Clockmask" "cueCount" "I") (by decide +kernel)
    refine va_put (D := D) (ci := 0) (v := .int 0) (ty := .int) (C := RX0) (T := TX0) (N := 17) hx hb hts hin tyX0 tyX0_ok nmX0 hown hK hP hD hS 0 rfl rfl 10 (by decide) hf104 (fun _ h9 => h9) rfl (by decide +kernel) rfl rfl (Nat.le_of_ble_eq_true rfl) dX0_endPlay_62 (fun H locs hP hD hS => ?_)
    have hP : va_P D vwCl (wXr cI cZ x a (S 0) (fa_fill (fun _ => -1) (S 1) 6) (fa_fill (fun _ => 0) (S 2) 6) (S 3) (S 4) (S 5) (S 6) (S 7) (S 8) (S 9) 0 (S 11 0) (S 12) (fa_fill (fun _ => 0) (S 13) 18) (if 0 < ((S 14 0) + (nI (cN (S 8) 1 (many S)))) - (nI (cN (S 8) 2 (many S))) then ((S 14 0) + (nI (cN (S 8) 1 (many S)))) - (nI (cN (S 8) 2 (many S))) else 0) ((S 15 0) + 1) (S 16)) H := hP
    have hD : va_D A (wXr cI cZ x a (S 0) (fa_fill (fun _ => -1) (S 1) 6) (fa_fill (fun _ => 0) (S 2) 6) (S 3) (S 4) (S 5) (S 6) (S 7) (S 8) (S 9) 0 (S 11 0) (S 12) (fa_fill (fun _ => 0) (S 13) 18) (if 0 < ((S 14 0) + (nI (cN (S 8) 1 (many S)))) - (nI (cN (S 8) 2 (many S))) then ((S 14 0) + (nI (cN (S 8) 1 (many S)))) - (nI (cN (S 8) 2 (many S))) else 0) ((S 15 0) + 1) (S 16)) := hD
    refine lv_aload_n hx hb dX0_endPlay_65 rfl (lv_at hl 0 rfl) ?_
    refine lv_iconst (v := 0) hx hb dX0_endPlay_66 (by decide) ?_
    have hf122 := hts (.fieldLink RX0 122 "Clockmask" "calledCount" "I") (by decide +kernel)
    refine va_put (D := D) (ci := 0) (v := .int 0) (ty := .int) (C := RX0) (T := TX0) (N := 17) hx hb hts hin tyX0 tyX0_ok nmX0 hown hK hP hD hS 0 rfl rfl 11 (by decide) hf122 (fun _ h9 => h9) rfl (by decide +kernel) rfl rfl (Nat.le_of_ble_eq_true rfl) dX0_endPlay_67 (fun H locs hP hD hS => ?_)
    have hP : va_P D vwCl (wXr cI cZ x a (S 0) (fa_fill (fun _ => -1) (S 1) 6) (fa_fill (fun _ => 0) (S 2) 6) (S 3) (S 4) (S 5) (S 6) (S 7) (S 8) (S 9) 0 0 (S 12) (fa_fill (fun _ => 0) (S 13) 18) (if 0 < ((S 14 0) + (nI (cN (S 8) 1 (many S)))) - (nI (cN (S 8) 2 (many S))) then ((S 14 0) + (nI (cN (S 8) 1 (many S)))) - (nI (cN (S 8) 2 (many S))) else 0) ((S 15 0) + 1) (S 16)) H := hP
    have hD : va_D A (wXr cI cZ x a (S 0) (fa_fill (fun _ => -1) (S 1) 6) (fa_fill (fun _ => 0) (S 2) 6) (S 3) (S 4) (S 5) (S 6) (S 7) (S 8) (S 9) 0 0 (S 12) (fa_fill (fun _ => 0) (S 13) 18) (if 0 < ((S 14 0) + (nI (cN (S 8) 1 (many S)))) - (nI (cN (S 8) 2 (many S))) then ((S 14 0) + (nI (cN (S 8) 1 (many S)))) - (nI (cN (S 8) 2 (many S))) else 0) ((S 15 0) + 1) (S 16)) := hD
    refine lv_aload_n hx hb dX0_endPlay_70 rfl (lv_at hl 0 rfl) ?_
    refine va_get (D := D) (ci := 0) (v := .int (if 0 < ((S 14 0) + (nI (cN (S 8) 1 (many S)))) - (nI (cN (S 8) 2 (many S))) then ((S 14 0) + (nI (cN (S 8) 1 (many S)))) - (nI (cN (S 8) 2 (many S))) else 0)) (C := RX0) (T := TX0) (N := 17) hx hb hts hin hown hK hP 0 rfl rfl 14 (by decide) hf47 (fun _ h9 => h9) rfl dX0_endPlay_71 ?_
    exact vy_ret (W.iret (v := (if 0 < ((S 14 0) + (nI (cN (S 8) 1 (many S)))) - (nI (cN (S 8) 2 (many S))) then ((S 14 0) + (nI (cN (S 8) 1 (many S)))) - (nI (cN (S 8) 2 (many S))) else 0)) hx hb hr (fun t ht hW => ⟨⟨_, row (row (row (row (row (row (row S 14 (kf (if 0 < ((S 14 0) + (nI (cN (S 8) 1 (many S)))) - (nI (cN (S 8) 2 (many S))) then ((S 14 0) + (nI (cN (S 8) 1 (many S)))) - (nI (cN (S 8) 2 (many S))) else 0))) 15 (kf ((S 15 0) + 1))) 1 (fa_fill (fun _ => -1) (S 1) 6)) 2 (fa_fill (fun _ => 0) (S 2) 6)) 13 (fa_fill (fun _ => 0) (S 13) 18)) 10 (kf 0)) 11 (kf 0), rfl, (cif_t hz).trans (by rw [purse_eq hI hB]; rfl), by rw [ht]; exact hP, hD⟩, hS.F ht⟩) hS.2.2 dX0_endPlay_74)
  · skip
    exact x_throwS (text := "some cue is waiting") hx hb hfl hown (by decide) (hts (.classLink RX0 78 xIS) (by decide +kernel)) (hts (.initialized xIS) (by decide +kernel)) (fun w h => hts w (List.mem_cons_of_mem _ (List.mem_append_right _ h))) xIS_b xIS_g hG (by decide) (hl.1.trans hml.symm) dX0_endPlay_8 dX0_endPlay_11 dX0_endPlay_12 dX0_endPlay_14 dX0_endPlay_17 hout ⟨by decide, by decide, by decide, by decide⟩ hlocks (⟨rfl, cif_f (fun h => c_5 (by rw [cN_zero h]; decide))⟩)
