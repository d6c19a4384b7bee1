set_option maxHeartbeats 4000000 in
set_option maxRecDepth 100000 in
theorem c_X0_isWithin (l : Launch) (n : Int32) (c : Int32) : Met l yX0_isWithin wsX0_isWithin rmX0_isWithin (va_Pc [.int n, .int c] (pN)) (vp_Si (fun r => r = cif (¬ n < 0 ∧ n < c) 1 0)) 0 0 (fun _ => False) := by
  refine Met.ofW (cc := cX0_isWithin) (maxL := 2) (ret := (some .boolean)) (by decide) rfl ?_
  intro pr env s mid args below meth cod s₁ Bd hml hv
  obtain ⟨rfl, -⟩ := hv
  have hx := Bd.exec
  have hb := Bd.bytes
  have hr := Bd.returns
  have hts := atoms_spec (ws := wsX0_isWithin) Bd.pre
  have hown : s.vm.findClass RX0 = some mid.cls := findClass_of_methodNamed Bd.named
  have hlocks := Bd.notSynchronized
  have hl := lv_entry ([.int n, .int c]) (n := 2) (Nat.le_of_ble_eq_true rfl)
  rw [lg_entry_eq]
  generalize (lg_sl ([.int n, .int c]) ++ List.replicate (2 - (lg_sl ([.int n, .int c])).length) Slot.unset).toArray = ls at hl ⊢
  have hl : lv_has ls 2 [(0, .int n), (1, .int c)] := hl
  refine lv_iload_n hx hb dX0_isWithin_0 rfl (lv_at hl 0 rfl) ?_
  refine lv_if_lt (tgt := 13) hx hb dX0_isWithin_1 (by decide) (fun c_1 => ?_) (fun c_1 => ?_)
  · skip
    refine lv_iconst (v := 0) hx hb dX0_isWithin_13 (by decide) ?_
    exact W.zret (v := 0) (ty := .boolean) hx hb hr rfl (fun t ht hW => ⟨_, rfl, (cif_f (fun h => h.1 c_1)).symm, ht⟩) (fun q h => by cases h) dX0_isWithin_14
  · skip
    refine lv_iload_n hx hb dX0_isWithin_4 rfl (lv_at hl 0 rfl) ?_
    refine lv_iload_n hx hb dX0_isWithin_5 rfl (lv_at hl 1 rfl) ?_
    refine lv_icmp_ge (tgt := 13) hx hb dX0_isWithin_6 (by decide) (fun c_6 => ?_) (fun c_6 => ?_)
    · skip
      refine lv_iconst (v := 0) hx hb dX0_isWithin_13 (by decide) ?_
      exact W.zret (v := 0) (ty := .boolean) hx hb hr rfl (fun t ht hW => ⟨_, rfl, (cif_f (fun h => le_nlt c_6 h.2)).symm, ht⟩) (fun q h => by cases h) dX0_isWithin_14
    · skip
      refine lv_iconst (v := 1) hx hb dX0_isWithin_9 (by decide) ?_
      refine lv_goto (tgt := 14) hx hb dX0_isWithin_10 (by decide) ?_
      exact W.zret (v := 1) (ty := .boolean) hx hb hr rfl (fun t ht hW => ⟨_, rfl, (cif_t ⟨c_1, nle_lt c_6⟩).symm, ht⟩) (fun q h => by cases h) dX0_isWithin_14
set_option maxHeartbeats 4000000 in
set_option maxRecDepth 100000 in
theorem c_X0_requirePlayer (l : Launch) (hfl : l.stackTraces = false) (p : Int32) : vy_Met l yX0_requirePlayer wsX0_requirePlayer rmX0_requirePlayer (va_Pc [.int p] (fun U => (pN) U ∧ pG U)) (va_Sv (fun _ => vp_in p 6)) (xcs (fun E => E = xIO ∧ ¬ vp_in p 6)) 1 6 (fun _ => False) := by
  refine vy_ofW (cc := cX0_requirePlayer) (maxL := 1) (ret := none) (by decide) rfl ?_
  intro pr env s mid args below meth cod s₁ Bd hml hout hv
  obtain ⟨rfl, -, hG0⟩ := hv
  have hG : xG (fun q => s.heap.size ≤ q) s s.heap := hG0
  have hx := Bd.exec
  have hb := Bd.bytes
  have hr := Bd.returns
  have hts := atoms_spec (ws := wsX0_requirePlayer) Bd.pre
  have hown : s.vm.findClass RX0 = some mid.cls := findClass_of_methodNamed Bd.named
  have hlocks := Bd.notSynchronized
  have hl := lv_entry ([.int p]) (n := 1) (Nat.le_of_ble_eq_true rfl)
  rw [lg_entry_eq]
  generalize (lg_sl ([.int p]) ++ List.replicate (1 - (lg_sl ([.int p])).length) Slot.unset).toArray = ls at hl ⊢
  have hl : lv_has ls 1 [(0, .int p)] := hl
  refine lv_iload_n hx hb dX0_requirePlayer_0 rfl (lv_at hl 0 rfl) ?_
  refine lv_bipush (v := 6) hx hb dX0_requirePlayer_1 (by decide) ?_
  refine vp_callSi (W.runS (As := [.int p, .int 6]) (rest := []) ⟨hx, hb, hml, hown, hts⟩ (c_X0_isWithin l p 6) (va_cwS 2 hts gX0_requirePlayer_X0_isWithin rfl rfl rfl (by decide +kernel) ⟨Nat.le_of_ble_eq_true rfl, Nat.le_of_ble_eq_true rfl⟩) (pN_S) rfl rfl hl.1 rfl (lv_room (Nat.le_of_ble_eq_true rfl)) dX0_requirePlayer_3 ⟨Nat.zero_le _, Nat.zero_le _⟩) (fun r_3 h_3 => ?_)
  refine lv_if_ne (tgt := 19) hx hb dX0_requirePlayer_6 (by decide) (fun c_6 => ?_) (fun c_6 => ?_)
  · skip
    have b_3 := cif_b1 h_3 c_6
    exact vy_ret (W.vret hx hb hr (fun t ht hW => ⟨rfl, (vin_iff (n := 6) rfl).mpr b_3, ht⟩) (fun q h => by cases h) dX0_requirePlayer_19)
  · skip
    have b_3 := cif_b0 h_3 c_6
    exact x_throwS (text := "no such player") hx hb hfl hown (by decide) (hts (.classLink RX0 174 xIO) (by decide +kernel)) (hts (.initialized xIO) (by decide +kernel)) (fun w h => hts w (List.mem_cons_of_mem _ (List.mem_append_right _ h))) xIO_b xIO_g hG (by decide) (hl.1.trans hml.symm) dX0_requirePlayer_9 dX0_requirePlayer_12 dX0_requirePlayer_13 dX0_requirePlayer_15 dX0_requirePlayer_18 hout ⟨by decide, by decide, by decide, by decide⟩ hlocks (⟨rfl, fun h => b_3 ((vin_iff rfl).mp h)⟩)
set_option maxHeartbeats 4000000 in
set_option maxRecDepth 100000 in
theorem c_X0_requireMask (l : Launch) (hfl : l.stackTraces = false) (m : Int32) : vy_Met l yX0_requireMask wsX0_requireMask rmX0_requireMask (va_Pc [.int m] (fun U => (pN) U ∧ pG U)) (va_Sv (fun _ => vp_in m 6)) (xcs (fun E => E = xIO ∧ ¬ vp_in m 6)) 1 6 (fun _ => False) := by
  refine vy_ofW (cc := cX0_requireMask) (maxL := 1) (ret := none) (by decide) rfl ?_
  intro pr env s mid args below meth cod s₁ Bd hml hout hv
  obtain ⟨rfl, -, hG0⟩ := hv
  have hG : xG (fun q => s.heap.size ≤ q) s s.heap := hG0
  have hx := Bd.exec
  have hb := Bd.bytes
  have hr := Bd.returns
  have hts := atoms_spec (ws := wsX0_requireMask) Bd.pre
  have hown : s.vm.findClass RX0 = some mid.cls := findClass_of_methodNamed Bd.named
  have hlocks := Bd.notSynchronized
  have hl := lv_entry ([.int m]) (n := 1) (Nat.le_of_ble_eq_true rfl)
  rw [lg_entry_eq]
  generalize (lg_sl ([.int m]) ++ List.replicate (1 - (lg_sl ([.int m])).length) Slot.unset).toArray = ls at hl ⊢
  have hl : lv_has ls 1 [(0, .int m)] := hl
  refine lv_iload_n hx hb dX0_requireMask_0 rfl (lv_at hl 0 rfl) ?_
  refine lv_bipush (v := 6) hx hb dX0_requireMask_1 (by decide) ?_
  refine vp_callSi (W.runS (As := [.int m, .int 6]) (rest := []) ⟨hx, hb, hml, hown, hts⟩ (c_X0_isWithin l m 6) (va_cwS 2 hts gX0_requireMask_X0_isWithin rfl rfl rfl (by decide +kernel) ⟨Nat.le_of_ble_eq_true rfl, Nat.le_of_ble_eq_true rfl⟩) (pN_S) rfl rfl hl.1 rfl (lv_room (Nat.le_of_ble_eq_true rfl)) dX0_requireMask_3 ⟨Nat.zero_le _, Nat.zero_le _⟩) (fun r_3 h_3 => ?_)
  refine lv_if_ne (tgt := 19) hx hb dX0_requireMask_6 (by decide) (fun c_6 => ?_) (fun c_6 => ?_)
  · skip
    have b_3 := cif_b1 h_3 c_6
    exact vy_ret (W.vret hx hb hr (fun t ht hW => ⟨rfl, (vin_iff (n := 6) rfl).mpr b_3, ht⟩) (fun q h => by cases h) dX0_requireMask_19)
  · skip
    have b_3 := cif_b0 h_3 c_6
    exact x_throwS (text := "no such mask") hx hb hfl hown (by decide) (hts (.classLink RX0 174 xIO) (by decide +kernel)) (hts (.initialized xIO) (by decide +kernel)) (fun w h => hts w (List.mem_cons_of_mem _ (List.mem_append_right _ h))) xIO_b xIO_g hG (by decide) (hl.1.trans hml.symm) dX0_requireMask_9 dX0_requireMask_12 dX0_requireMask_13 dX0_requireMask_15 dX0_requireMask_18 hout ⟨by decide, by decide, by decide, by decide⟩ hlocks (⟨rfl, fun h => b_3 ((vin_iff rfl).mp h)⟩)
set_option maxHeartbeats 4000000 in
set_option maxRecDepth 100000 in
theorem c_X0_requireCostume (l : Launch) (hfl : l.stackTraces = false) (c : Int32) : vy_Met l yX0_requireCostume wsX0_requireCostume rmX0_requireCostume (va_Pc [.int c] (fun U => (pN) U ∧ pG U)) (va_Sv (fun _ => vp_in c 8)) (xcs (fun E => E = xIO ∧ ¬ vp_in c 8)) 1 6 (fun _ => False) := by
  refine vy_ofW (cc := cX0_requireCostume) (maxL := 1) (ret := none) (by decide) rfl ?_
  intro pr env s mid args below meth cod s₁ Bd hml hout hv
  obtain ⟨rfl, -, hG0⟩ := hv
  have hG : xG (fun q => s.heap.size ≤ q) s s.heap := hG0
  have hx := Bd.exec
  have hb := Bd.bytes
  have hr := Bd.returns
  have hts := atoms_spec (ws := wsX0_requireCostume) Bd.pre
  have hown : s.vm.findClass RX0 = some mid.cls := findClass_of_methodNamed Bd.named
  have hlocks := Bd.notSynchronized
  have hl := lv_entry ([.int c]) (n := 1) (Nat.le_of_ble_eq_true rfl)
  rw [lg_entry_eq]
  generalize (lg_sl ([.int c]) ++ List.replicate (1 - (lg_sl ([.int c])).length) Slot.unset).toArray = ls at hl ⊢
  have hl : lv_has ls 1 [(0, .int c)] := hl
  refine lv_iload_n hx hb dX0_requireCostume_0 rfl (lv_at hl 0 rfl) ?_
  refine lv_bipush (v := 8) hx hb dX0_requireCostume_1 (by decide) ?_
  refine vp_callSi (W.runS (As := [.int c, .int 8]) (rest := []) ⟨hx, hb, hml, hown, hts⟩ (c_X0_isWithin l c 8) (va_cwS 2 hts gX0_requireCostume_X0_isWithin rfl rfl rfl (by decide +kernel) ⟨Nat.le_of_ble_eq_true rfl, Nat.le_of_ble_eq_true rfl⟩) (pN_S) rfl rfl hl.1 rfl (lv_room (Nat.le_of_ble_eq_true rfl)) dX0_requireCostume_3 ⟨Nat.zero_le _, Nat.zero_le _⟩) (fun r_3 h_3 => ?_)
  refine lv_if_ne (tgt := 19) hx hb dX0_requireCostume_6 (by decide) (fun c_6 => ?_) (fun c_6 => ?_)
  · skip
    have b_3 := cif_b1 h_3 c_6
    exact vy_ret (W.vret hx hb hr (fun t ht hW => ⟨rfl, (vin_iff (n := 8) rfl).mpr b_3, ht⟩) (fun q h => by cases h) dX0_requireCostume_19)
  · skip
    have b_3 := cif_b0 h_3 c_6
    exact x_throwS (text := "no such costume") hx hb hfl hown (by decide) (hts (.classLink RX0 174 xIO) (by decide +kernel)) (hts (.initialized xIO) (by decide +kernel)) (fun w h => hts w (List.mem_cons_of_mem _ (List.mem_append_right _ h))) xIO_b xIO_g hG (by decide) (hl.1.trans hml.symm) dX0_requireCostume_9 dX0_requireCostume_12 dX0_requireCostume_13 dX0_requireCostume_15 dX0_requireCostume_18 hout ⟨by decide, by decide, by decide, by decide⟩ hlocks (⟨rfl, fun h => b_3 ((vin_iff rfl).mp h)⟩)
set_option maxHeartbeats 4000000 in
set_option maxRecDepth 100000 in
theorem c_X0_requireGuesser (l : Launch) (hfl : l.stackTraces = false) (g : Int32) : vy_Met l yX0_requireGuesser wsX0_requireGuesser rmX0_requireGuesser (va_Pc [.int g] (fun U => (pN) U ∧ pG U)) (va_Sv (fun _ => vp_in g 3)) (xcs (fun E => E = xIO ∧ ¬ vp_in g 3)) 1 6 (fun _ => False) := by
  refine vy_ofW (cc := cX0_requireGuesser) (maxL := 1) (ret := none) (by decide) rfl ?_
  intro pr env s mid args below meth cod s₁ Bd hml hout hv
  obtain ⟨rfl, -, hG0⟩ := hv
  have hG : xG (fun q => s.heap.size ≤ q) s s.heap := hG0
  have hx := Bd.exec
  have hb := Bd.bytes
  have hr := Bd.returns
  have hts := atoms_spec (ws := wsX0_requireGuesser) Bd.pre
  have hown : s.vm.findClass RX0 = some mid.cls := findClass_of_methodNamed Bd.named
  have hlocks := Bd.notSynchronized
  have hl := lv_entry ([.int g]) (n := 1) (Nat.le_of_ble_eq_true rfl)
  rw [lg_entry_eq]
  generalize (lg_sl ([.int g]) ++ List.replicate (1 - (lg_sl ([.int g])).length) Slot.unset).toArray = ls at hl ⊢
  have hl : lv_has ls 1 [(0, .int g)] := hl
  refine lv_iload_n hx hb dX0_requireGuesser_0 rfl (lv_at hl 0 rfl) ?_
  refine lv_iconst (v := 3) hx hb dX0_requireGuesser_1 (by decide) ?_
  refine vp_callSi (W.runS (As := [.int g, .int 3]) (rest := []) ⟨hx, hb, hml, hown, hts⟩ (c_X0_isWithin l g 3) (va_cwS 2 hts gX0_requireGuesser_X0_isWithin rfl rfl rfl (by decide +kernel) ⟨Nat.le_of_ble_eq_true rfl, Nat.le_of_ble_eq_true rfl⟩) (pN_S) rfl rfl hl.1 rfl (lv_room (Nat.le_of_ble_eq_true rfl)) dX0_requireGuesser_2 ⟨Nat.zero_le _, Nat.zero_le _⟩) (fun r_2 h_2 => ?_)
  refine lv_if_ne (tgt := 18) hx hb dX0_requireGuesser_5 (by decide) (fun c_5 => ?_) (fun c_5 => ?_)
  · skip
    have b_2 := cif_b1 h_2 c_5
    exact vy_ret (W.vret hx hb hr (fun t ht hW => ⟨rfl, (vin_iff (n := 3) rfl).mpr b_2, ht⟩) (fun q h => by cases h) dX0_requireGuesser_18)
  · skip
    have b_2 := cif_b0 h_2 c_5
    exact x_throwS (text := "no such guesser") hx hb hfl hown (by decide) (hts (.classLink RX0 174 xIO) (by decide +kernel)) (hts (.initialized xIO) (by decide +kernel)) (fun w h => hts w (List.mem_cons_of_mem _ (List.mem_append_right _ h))) xIO_b xIO_g hG (by decide) (hl.1.trans hml.symm) dX0_requireGuesser_8 dX0_requireGuesser_11 dX0_requireGuesser_12 dX0_requireGuesser_14 dX0_requireGuesser_17 hout ⟨by decide, by decide, by decide, by decide⟩ hlocks (⟨rfl, fun h => b_2 ((vin_iff rfl).mp h)⟩)
set_option maxHeartbeats 4000000 in
set_option maxRecDepth 100000 in
theorem c_X0_requireCue (l : Launch) (hfl : l.stackTraces = false) (D : va_G) (cI cZ : ClassId) (x : Nat) (a : Nat → Nat) (S : ST) (q : Int32) : vy_Met l yX0_requireCue wsX0_requireCue rmX0_requireCue (va_Pc [.ref x, .int q] (fun U => (pR D (tyX cI cZ) (wX cI cZ x a S)) U ∧ pG U)) (va_Sv (fun _ => vp_in q (many S))) (xcs (fun E => E = xIO ∧ ¬ vp_in q (many S))) 1 6 (fun _ => False) := by
  refine vy_ofW (cc := cX0_requireCue) (maxL := 2) (ret := none) (by decide) rfl ?_
  intro pr env s mid args below meth cod s₁ Bd hml hout hv
  obtain ⟨rfl, ⟨hP, hK⟩, hG0⟩ := hv
  have hG : xG (fun q => s.heap.size ≤ q) s s.heap := hG0
  have hx := Bd.exec
  have hb := Bd.bytes
  have hr := Bd.returns
  have hts := atoms_spec (ws := wsX0_requireCue) Bd.pre
  have hown : s.vm.findClass RX0 = some mid.cls := findClass_of_methodNamed Bd.named
  have hlocks := Bd.notSynchronized
  have hin : ∀ w ∈ wsX00, w ∈ wsX0_requireCue := fun _ h => List.mem_cons_of_mem _ (List.mem_append_left _ (List.mem_append_right _ h))
  have hl := lv_entry ([.ref x, .int q]) (n := 2) (Nat.le_of_ble_eq_true rfl)
  rw [lg_entry_eq]
  generalize (lg_sl ([.ref x, .int q]) ++ List.replicate (2 - (lg_sl ([.ref x, .int q])).length) Slot.unset).toArray = ls at hl ⊢
  have hl : lv_has ls 2 [(0, .ref x), (1, .int q)] := hl
  refine lv_iload_n hx hb dX0_requireCue_0 rfl (lv_at hl 1 rfl) ?_
  refine lv_aload_n hx hb dX0_requireCue_1 rfl (lv_at hl 0 rfl) ?_
  have hf104 := hts (.fieldLink RX0 104 "Clockmask" "cueCount" "I") (by decide +kernel)
  refine va_get (D := D) (ci := 0) (v := .int (S 10 0)) (C := RX0) (T := TX0) (N := 17) hx hb hts hin hown hK hP 0 rfl rfl 10 (by decide) hf104 (fun _ h9 => h9) rfl dX0_requireCue_2 ?_
  refine vp_callSi (W.runS (As := [.int q, .int (S 10 0)]) (rest := []) ⟨hx, hb, hml, hown, hts⟩ (c_X0_isWithin l q (S 10 0)) (va_cwS 2 hts gX0_requireCue_X0_isWithin rfl rfl rfl (by decide +kernel) ⟨Nat.le_of_ble_eq_true rfl, Nat.le_of_ble_eq_true rfl⟩) (pN_S) rfl rfl hl.1 rfl (lv_room (Nat.le_of_ble_eq_true rfl)) dX0_requireCue_5 ⟨Nat.zero_le _, Nat.zero_le _⟩) (fun r_5 h_5 => ?_)
  refine lv_if_ne (tgt := 21) hx hb dX0_requireCue_8 (by decide) (fun c_8 => ?_) (fun c_8 => ?_)
  · skip
    have b_5 := cif_b1 h_5 c_8
    exact vy_ret (W.vret hx hb hr (fun t ht hW => ⟨rfl, vin_iffN.mpr b_5, ht⟩) (fun q h => by cases h) dX0_requireCue_21)
  · skip
    have b_5 := cif_b0 h_5 c_8
    exact x_throwS (text := "no such cue") hx hb hfl hown (by decide) (hts (.classLink RX0 174 xIO) (by decide +kernel)) (hts (.initialized xIO) (by decide +kernel)) (fun w h => hts w (List.mem_cons_of_mem _ (List.mem_append_right _ h))) xIO_b xIO_g hG (by decide) (hl.1.trans hml.symm) dX0_requireCue_11 dX0_requireCue_14 dX0_requireCue_15 dX0_requireCue_17 dX0_requireCue_20 hout ⟨by decide, by decide, by decide, by decide⟩ hlocks (⟨rfl, fun h => b_5 (vin_iffN.mp h)⟩)
set_option maxHeartbeats 4000000 in
set_option maxRecDepth 100000 in
theorem c_X0_requireOther (l : Launch) (hfl : l.stackTraces = false) (k : Int32) (o : Int32) : vy_Met l yX0_requireOther wsX0_requireOther rmX0_requireOther (va_Pc [.int k, .int o] (fun U => (pN) U ∧ pG U)) (va_Sv (fun _ => k = 2 ∨ k = 4 → vp_in o 6)) (xcs (fun E => E = xIO ∧ ¬ (k = 2 ∨ k = 4 → vp_in o 6))) 1 6 (fun _ => False) := by
  refine vy_ofW (cc := cX0_requireOther) (maxL := 2) (ret := none) (by decide) rfl ?_
  intro pr env s mid args below meth cod s₁ Bd hml hout hv
  obtain ⟨rfl, -, hG0⟩ := hv
  have hG : xG (fun q => s.heap.size ≤ q) s s.heap := hG0
  have hx := Bd.exec
  have hb := Bd.bytes
  have hr := Bd.returns
  have hts := atoms_spec (ws := wsX0_requireOther) Bd.pre
  have hown : s.vm.findClass RX0 = some mid.cls := findClass_of_methodNamed Bd.named
  have hlocks := Bd.notSynchronized
  have hl := lv_entry ([.int k, .int o]) (n := 2) (Nat.le_of_ble_eq_true rfl)
  rw [lg_entry_eq]
  generalize (lg_sl ([.int k, .int o]) ++ List.replicate (2 - (lg_sl ([.int k, .int o])).length) Slot.unset).toArray = ls at hl ⊢
  have hl : lv_has ls 2 [(0, .int k), (1, .int o)] := hl
  refine lv_iload_n hx hb dX0_requireOther_0 rfl (lv_at hl 0 rfl) ?_
  refine lv_iconst (v := 2) hx hb dX0_requireOther_1 (by decide) ?_
  refine lv_icmp_ne (tgt := 12) hx hb dX0_requireOther_2 (by decide) (fun c_2 => ?_) (fun c_2 => ?_)
  · skip
    refine lv_iload_n hx hb dX0_requireOther_12 rfl (lv_at hl 0 rfl) ?_
    refine lv_iconst (v := 4) hx hb dX0_requireOther_13 (by decide) ?_
    refine lv_icmp_ne (tgt := 21) hx hb dX0_requireOther_14 (by decide) (fun c_14 => ?_) (fun c_14 => ?_)
    · skip
      exact vy_ret (W.vret hx hb hr (fun t ht hW => ⟨rfl, fun h => h.elim (fun z => absurd z c_2) (fun z => absurd z c_14), ht⟩) (fun q h => by cases h) dX0_requireOther_21)
    · skip
      refine lv_iload_n hx hb dX0_requireOther_17 rfl (lv_at hl 1 rfl) ?_
      refine vy_csv (vy_runS (As := [.int o]) (rest := []) ⟨hx, hb, hml, hown, hts⟩ (c_X0_requirePlayer l hfl o) (va_cwS 1 hts gX0_requireOther_X0_requirePlayer rfl rfl rfl (by decide +kernel) ⟨Nat.le_of_ble_eq_true rfl, Nat.le_of_ble_eq_true rfl⟩) (pT_S (pN_S) hG (fun _ h => h)) rfl rfl hl.1 rfl (lv_room (Nat.le_of_ble_eq_true rfl)) dX0_requireOther_18 ⟨Nat.le_of_ble_eq_true rfl, Nat.le_of_ble_eq_true rfl⟩) (fun E ce q9 H1 hPE hz9 hk9 hc9 hv9 hcl9 => vy_out hout hlocks (⟨hPE.1, fun h => hPE.2 (h (Or.inr c_14))⟩) hz9 hk9 hc9 hv9 hcl9 (by decide) (by decide)) (fun h_18 => ?_)
      exact vy_ret (W.vret hx hb hr (fun t ht hW => ⟨rfl, fun _ => h_18, ht⟩) (fun q h => by cases h) dX0_requireOther_21)
  · skip
    refine lv_iload_n hx hb dX0_requireOther_5 rfl (lv_at hl 1 rfl) ?_
    refine vy_csv (vy_runS (As := [.int o]) (rest := []) ⟨hx, hb, hml, hown, hts⟩ (c_X0_requireMask l hfl o) (va_cwS 1 hts gX0_requireOther_X0_requireMask rfl rfl rfl (by decide +kernel) ⟨Nat.le_of_ble_eq_true rfl, Nat.le_of_ble_eq_true rfl⟩) (pT_S (pN_S) hG (fun _ h => h)) rfl rfl hl.1 rfl (lv_room (Nat.le_of_ble_eq_true rfl)) dX0_requireOther_6 ⟨Nat.le_of_ble_eq_true rfl, Nat.le_of_ble_eq_true rfl⟩) (fun E ce q9 H1 hPE hz9 hk9 hc9 hv9 hcl9 => vy_out hout hlocks (⟨hPE.1, fun h => hPE.2 (h (Or.inl c_2))⟩) hz9 hk9 hc9 hv9 hcl9 (by decide) (by decide)) (fun h_6 => ?_)
    refine lv_goto (tgt := 21) hx hb dX0_requireOther_9 (by decide) ?_
    exact vy_ret (W.vret hx hb hr (fun t ht hW => ⟨rfl, fun _ => h_6, ht⟩) (fun q h => by cases h) dX0_requireOther_21)
set_option maxHeartbeats 4000000 in
set_option maxRecDepth 100000 in
theorem c_X0_fits (l : Launch) (c : Int32) (p : Int32) (hc : vp_in c 8) (hp : vp_in p 6) : Met l yX0_fits wsX0_fits rmX0_fits (va_Pc [.int c, .int p] (pN)) (vp_Si (fun r => r = cif (-1 ≤ p - c + 1 ∧ p - c + 1 ≤ 1) 1 0)) 0 0 (fun _ => False) := by
  refine Met.ofW (cc := cX0_fits) (maxL := 3) (ret := (some .boolean)) (by decide) rfl ?_
  intro pr env s mid args below meth cod s₁ Bd hml hv
  obtain ⟨rfl, -⟩ := hv
  have hx := Bd.exec
  have hb := Bd.bytes
  have hr := Bd.returns
  have hts := atoms_spec (ws := wsX0_fits) Bd.pre
  have hown : s.vm.findClass RX0 = some mid.cls := findClass_of_methodNamed Bd.named
  have hlocks := Bd.notSynchronized
  have hl := lv_entry ([.int c, .int p]) (n := 3) (Nat.le_of_ble_eq_true rfl)
  rw [lg_entry_eq]
  generalize (lg_sl ([.int c, .int p]) ++ List.replicate (3 - (lg_sl ([.int c, .int p])).length) Slot.unset).toArray = ls at hl ⊢
  have hl : lv_has ls 3 [(0, .int c), (1, .int p)] := hl
  refine lv_iload_n hx hb dX0_fits_0 rfl (lv_at hl 0 rfl) ?_
  refine lv_iconst (v := 1) hx hb dX0_fits_1 (by decide) ?_
  refine lv_isub hx hb dX0_fits_2 ?_
  refine lv_istore_n (lv' := [(2, .int (c - 1)), (0, .int c), (1, .int p)]) hx hb dX0_fits_3 rfl hl (by decide) rfl (fun ls hl => ?_)
  refine lv_iload_n hx hb dX0_fits_4 rfl (lv_at hl 0 rfl) ?_
  refine lv_iload_n hx hb dX0_fits_5 rfl (lv_at hl 2 rfl) ?_
  refine lv_isub hx hb dX0_fits_6 ?_
  refine va_mabs (own := RX0) (index := 187) hx hb (hml.trans hl.1.symm) hown (hts (.methodLink RX0 187 Lib.Math.abs.name) (by decide +kernel)) (hts (.static Lib.Math.abs.name) (by decide +kernel)) (hts (.initialized "java/lang/Math") (by decide +kernel)) (hts (.code Lib.Math.abs.name Lib.Math.abs.code 1 (some .int)) (by decide +kernel)) (Nat.le_of_ble_eq_true rfl) (Nat.le_of_ble_eq_true rfl) (Nat.zero_le _) (Nat.zero_le _) dX0_fits_7 ?_
  refine lv_iconst (v := 1) hx hb dX0_fits_10 (by decide) ?_
  refine lv_icmp_gt (tgt := 18) hx hb dX0_fits_11 (by decide) (fun c_11 => ?_) (fun c_11 => ?_)
  · skip
    refine lv_iconst (v := 0) hx hb dX0_fits_18 (by decide) ?_
    exact W.zret (v := 0) (ty := .boolean) hx hb hr rfl (fun t ht hW => ⟨_, rfl, (cif_f (fun h => (fit_iff hp hc).mpr h c_11)).symm, ht⟩) (fun q h => by cases h) dX0_fits_19
  · skip
    refine lv_iconst (v := 1) hx hb dX0_fits_14 (by decide) ?_
    refine lv_goto (tgt := 19) hx hb dX0_fits_15 (by decide) ?_
    exact W.zret (v := 1) (ty := .boolean) hx hb hr rfl (fun t ht hW => ⟨_, rfl, (cif_t ((fit_iff hp hc).mp c_11)).symm, ht⟩) (fun q h => by cases h) dX0_fits_19
set_option maxHeartbeats 4000000 in
set_option maxRecDepth 100000 in
theorem c_X0_indexOf (l : Launch) (D : va_G) (cI : ClassId) (y : Nat) (f : Nat → Int32) (v : Int32) : Met l yX0_indexOf wsX0_indexOf rmX0_indexOf (va_Pc [.int v, .ref y] (pR D (tyM cI) ([(y, .inl (cI, 6, .inl f))]))) (vp_Si (fun r => r = fI f v)) 0 0 (fun _ => False) := by
  refine Met.ofW (cc := cX0_indexOf) (maxL := 3) (ret := (some .int)) (by decide) rfl ?_
  intro pr env s mid args below meth cod s₁ Bd hml hv
  obtain ⟨rfl, hP, hK⟩ := hv
  have hx := Bd.exec
  have hb := Bd.bytes
  have hr := Bd.returns
  have hts := atoms_spec (ws := wsX0_indexOf) Bd.pre
  have hown : s.vm.findClass RX0 = some mid.cls := findClass_of_methodNamed Bd.named
  have hlocks := Bd.notSynchronized
  have hl := lv_entry ([.int v, .ref y]) (n := 3) (Nat.le_of_ble_eq_true rfl)
  rw [lg_entry_eq]
  generalize (lg_sl ([.int v, .ref y]) ++ List.replicate (3 - (lg_sl ([.int v, .ref y])).length) Slot.unset).toArray = ls at hl ⊢
  have hl : lv_has ls 3 [(0, .int v), (1, .ref y)] := hl
  refine lv_iconst (v := 0) hx hb dX0_indexOf_0 (by decide) ?_
  refine lv_istore_n (lv' := [(2, .int 0), (0, .int v), (1, .ref y)]) hx hb dX0_indexOf_1 rfl hl (by decide) rfl (fun ls hl => ?_)
  refine W_gen (fun R Q hR hQ => ?_)
  have loop_2 : ∀ (n : Nat) (j : Nat) (i2 : Int32), (j ≤ 6) → (7 ≤ j + n) → (i2 = nI j) → (∀ k, k < j → ¬ f k = v) → ∀ ls : Array Slot, lv_has ls 3 [(2, .int i2), (0, .int v), (1, .ref y)] → W pr l env R s mid ([.int v, .ref y] : List Value).toArray below meth cod s.heap [] 0 0 Q (F0 mid 2 ls []) := by
    subst hR; subst hQ
    intro n
    induction n with
    | zero =>
      intro j i2 hj hn e2 hno ls hl
      exfalso; omega
    | succ n ih =>
      intro j i2 hj hn e2 hno ls hl
      refine lv_iload_n hx hb dX0_indexOf_2 rfl (lv_at hl 0 rfl) ?_
      refine lv_aload_n hx hb dX0_indexOf_3 rfl (lv_at hl 2 rfl) ?_
      refine va_alen (v := 6) hx hb hK hP 0 0 rfl rfl rfl dX0_indexOf_4 ?_
      refine lv_icmp_ge (tgt := 23) hx hb dX0_indexOf_5 (by decide) (fun c_5 => ?_) (fun c_5 => ?_)
      · skip
        have h6 : 6 ≤ j := ge_of (N := 6) e2 (by omega) rfl c_5
        refine lv_iconst (v := (-1)) hx hb dX0_indexOf_23 (by decide) ?_
        exact W.iret (v := (-1)) hx hb hr (fun t ht hW => ⟨_, rfl, (fI_none (fun k hk => hno k (by omega))).symm, ht⟩) (fun q h => by cases h) dX0_indexOf_24
      · skip
        have h6 : j < 6 := lt_of (N := 6) e2 (by omega) rfl c_5
        refine lv_aload_n hx hb dX0_indexOf_8 rfl (lv_at hl 2 rfl) ?_
        refine lv_iload_n hx hb dX0_indexOf_9 rfl (lv_at hl 0 rfl) ?_
        refine va_iald (f := f) (n := 6) hx hb hK hP 0 0 rfl rfl (by rw [e2]; exact vp_in_nI h6 (by decide)) dX0_indexOf_10 ?_
        refine lv_iload_n hx hb dX0_indexOf_11 rfl (lv_at hl 1 rfl) ?_
        refine lv_icmp_ne (tgt := 17) hx hb dX0_indexOf_12 (by decide) (fun c_12 => ?_) (fun c_12 => ?_)
        · skip
          have c9 : ¬ f j = v := by rwa [e2, nI_clamp (by omega)] at c_12
          refine lv_iinc (v := i2 + 1) (lv' := [(2, .int (i2 + 1)), (0, .int v), (1, .ref y)]) hx hb dX0_indexOf_17 hl (k := 0) rfl rfl (by decide) rfl (fun ls hl => ?_)
          refine lv_goto (tgt := 2) hx hb dX0_indexOf_20 (by decide) ?_
          exact ih (j + 1) (i2 + 1) (by omega) (by omega) (by rw [e2]; exact nI_1 j) (lt_s hno c9) _ (lv_sub hl [0, 1, 2] rfl)
        · skip
          have c9 : f j = v := by rwa [e2, nI_clamp (by omega)] at c_12
          refine lv_iload_n hx hb dX0_indexOf_15 rfl (lv_at hl 0 rfl) ?_
          exact W.iret (v := i2) hx hb hr (fun t ht hW => ⟨_, rfl, by rw [e2]; exact (fI_is h6 c9 hno).symm, ht⟩) (fun q h => by cases h) dX0_indexOf_16
  exact loop_2 7 0 0 (Nat.zero_le _) (by omega) nI_0.symm (fun k hk => absurd hk (Nat.not_lt_zero k)) _ (lv_sub hl [0, 1, 2] rfl)
set_option maxHeartbeats 4000000 in
set_option maxRecDepth 100000 in
theorem c_X0_playerIn (l : Launch) (D : va_G) (cI cZ : ClassId) (x : Nat) (a : Nat → Nat) (S : ST) (c : Int32) : Met l yX0_playerIn wsX0_playerIn rmX0_playerIn (va_Pc [.ref x, .int c] (pR D (tyX cI cZ) (wX cI cZ x a S))) (vp_Si (fun r => r = fI (S 0) c)) 0 0 (fun _ => False) := by
  refine Met.ofW (cc := cX0_playerIn) (maxL := 2) (ret := (some .int)) (by decide) rfl ?_
  intro pr env s mid args below meth cod s₁ Bd hml hv
  obtain ⟨rfl, hP, hK⟩ := hv
  have hx := Bd.exec
  have hb := Bd.bytes
  have hr := Bd.returns
  have hts := atoms_spec (ws := wsX0_playerIn) Bd.pre
  have hown : s.vm.findClass RX0 = some mid.cls := findClass_of_methodNamed Bd.named
  have hlocks := Bd.notSynchronized
  have hin : ∀ w ∈ wsX00, w ∈ wsX0_playerIn := fun _ h => List.mem_cons_of_mem _ (List.mem_append_right _ h)
  have hl := lv_entry ([.ref x, .int c]) (n := 2) (Nat.le_of_ble_eq_true rfl)
  rw [lg_entry_eq]
  generalize (lg_sl ([.ref x, .int c]) ++ List.replicate (2 - (lg_sl ([.ref x, .int c])).length) Slot.unset).toArray = ls at hl ⊢
  have hl : lv_has ls 2 [(0, .ref x), (1, .int c)] := hl
  refine lv_iload_n hx hb dX0_playerIn_0 rfl (lv_at hl 1 rfl) ?_
  refine lv_aload_n hx hb dX0_playerIn_1 rfl (lv_at hl 0 rfl) ?_
  have hf9 := hts (.fieldLink RX0 9 "Clockmask" "costumeOfPlayer" "[I") (by decide +kernel)
  refine va_get (D := D) (ci := 0) (v := .ref (a 0)) (C := RX0) (T := TX0) (N := 17) hx hb hts hin hown hK hP 0 rfl rfl 0 (by decide) hf9 (fun _ h9 => h9) rfl dX0_playerIn_2 ?_
  refine vp_callSi (W.runS (As := [.int c, .ref (a 0)]) (rest := []) ⟨hx, hb, hml, hown, hts⟩ (c_X0_indexOf l D cI (a 0) (S 0) c) (va_cwS 2 hts gX0_playerIn_X0_indexOf rfl rfl rfl (by decide +kernel) ⟨Nat.le_of_ble_eq_true rfl, Nat.le_of_ble_eq_true rfl⟩) (pR_S (hP.sub (ws' := [(a 0, .inl (cI, 6, .inl (S 0)))]) [1] rfl) (hK.sub (tys' := tyM cI) [0] rfl)) rfl rfl hl.1 rfl (lv_room (Nat.le_of_ble_eq_true rfl)) dX0_playerIn_5 ⟨Nat.zero_le _, Nat.zero_le _⟩) (fun r_5 h_5 => ?_)
  subst h_5
  exact W.iret (v := fI (S 0) c) hx hb hr (fun t ht hW => ⟨_, rfl, rfl, ht⟩) (fun q h => by cases h) dX0_playerIn_8
set_option maxHeartbeats 4000000 in
set_option maxRecDepth 100000 in
theorem c_X0_playerBehind (l : Launch) (D : va_G) (cI cZ : ClassId) (x : Nat) (a : Nat → Nat) (S : ST) (m : Int32) : Met l yX0_playerBehind wsX0_playerBehind rmX0_playerBehind (va_Pc [.ref x, .int m] (pR D (tyX cI cZ) (wX cI cZ x a S))) (vp_Si (fun r => r = fI (S 1) m)) 0 0 (fun _ => False) := by
  refine Met.ofW (cc := cX0_playerBehind) (maxL := 2) (ret := (some .int)) (by decide) rfl ?_
  intro pr env s mid args below meth cod s₁ Bd hml hv
  obtain ⟨rfl, hP, hK⟩ := hv
  have hx := Bd.exec
  have hb := Bd.bytes
  have hr := Bd.returns
  have hts := atoms_spec (ws := wsX0_playerBehind) Bd.pre
  have hown : s.vm.findClass RX0 = some mid.cls := findClass_of_methodNamed Bd.named
  have hlocks := Bd.notSynchronized
  have hin : ∀ w ∈ wsX00, w ∈ wsX0_playerBehind := fun _ h => List.mem_cons_of_mem _ (List.mem_append_right _ h)
  have hl := lv_entry ([.ref x, .int m]) (n := 2) (Nat.le_of_ble_eq_true rfl)
  rw [lg_entry_eq]
  generalize (lg_sl ([.ref x, .int m]) ++ List.replicate (2 - (lg_sl ([.ref x, .int m])).length) Slot.unset).toArray = ls at hl ⊢
  have hl : lv_has ls 2 [(0, .ref x), (1, .int m)] := hl
  refine lv_iload_n hx hb dX0_playerBehind_0 rfl (lv_at hl 1 rfl) ?_
  refine lv_aload_n hx hb dX0_playerBehind_1 rfl (lv_at hl 0 rfl) ?_
  have hf13 := hts (.fieldLink RX0 13 "Clockmask" "maskOfPlayer" "[I") (by decide +kernel)
  refine va_get (D := D) (ci := 0) (v := .ref (a 1)) (C := RX0) (T := TX0) (N := 17) hx hb hts hin hown hK hP 0 rfl rfl 1 (by decide) hf13 (fun _ h9 => h9) rfl dX0_playerBehind_2 ?_
  refine vp_callSi (W.runS (As := [.int m, .ref (a 1)]) (rest := []) ⟨hx, hb, hml, hown, hts⟩ (c_X0_indexOf l D cI (a 1) (S 1) m) (va_cwS 2 hts gX0_playerBehind_X0_indexOf rfl rfl rfl (by decide +kernel) ⟨Nat.le_of_ble_eq_true rfl, Nat.le_of_ble_eq_true rfl⟩) (pR_S (hP.sub (ws' := [(a 1, .inl (cI, 6, .inl (S 1)))]) [2] rfl) (hK.sub (tys' := tyM cI) [0] rfl)) rfl rfl hl.1 rfl (lv_room (Nat.le_of_ble_eq_true rfl)) dX0_playerBehind_5 ⟨Nat.zero_le _, Nat.zero_le _⟩) (fun r_5 h_5 => ?_)
  subst h_5
  exact W.iret (v := fI (S 1) m) hx hb hr (fun t ht hW => ⟨_, rfl, rfl, ht⟩) (fun q h => by cases h) dX0_playerBehind_8
set_option maxHeartbeats 4000000 in
set_option maxRecDepth 100000 in
theorem c_X0_isReleased (l : Launch) (D : va_G) (cI cZ : ClassId) (x : Nat) (a : Nat → Nat) (S : ST) (q : Int32) (hq : vp_in q 24) (hw : S 7 q.toNatClampNeg = -1 ∨ vp_in (S 7 q.toNatClampNeg) 24) : Met l yX0_isReleased wsX0_isReleased rmX0_isReleased (va_Pc [.ref x, .int q] (pR D (tyX cI cZ) (wX cI cZ x a S))) (vp_Si (fun r => r = cif (S 7 q.toNatClampNeg = -1 ∨ S 8 (S 7 q.toNatClampNeg).toNatClampNeg = 1) 1 0)) 0 0 (fun _ => False) := by
  refine Met.ofW (cc := cX0_isReleased) (maxL := 3) (ret := (some .boolean)) (by decide) rfl ?_
  intro pr env s mid args below meth cod s₁ Bd hml hv
  obtain ⟨rfl, hP, hK⟩ := hv
  have hx := Bd.exec
  have hb := Bd.bytes
  have hr := Bd.returns
  have hts := atoms_spec (ws := wsX0_isReleased) Bd.pre
  have hown : s.vm.findClass RX0 = some mid.cls := findClass_of_methodNamed Bd.named
  have hlocks := Bd.notSynchronized
  have hin : ∀ w ∈ wsX00, w ∈ wsX0_isReleased := fun _ h => List.mem_cons_of_mem _ (List.mem_append_right _ h)
  have hl := lv_entry ([.ref x, .int q]) (n := 3) (Nat.le_of_ble_eq_true rfl)
  rw [lg_entry_eq]
  generalize (lg_sl ([.ref x, .int q]) ++ List.replicate (3 - (lg_sl ([.ref x, .int q])).length) Slot.unset).toArray = ls at hl ⊢
  have hl : lv_has ls 3 [(0, .ref x), (1, .int q)] := hl
  refine lv_aload_n hx hb dX0_isReleased_0 rfl (lv_at hl 0 rfl) ?_
  have hf32 := hts (.fieldLink RX0 32 "Clockmask" "cueWaits" "[I") (by decide +kernel)
  refine va_get (D := D) (ci := 0) (v := .ref (a 7)) (C := RX0) (T := TX0) (N := 17) hx hb hts hin hown hK hP 0 rfl rfl 7 (by decide) hf32 (fun _ h9 => h9) rfl dX0_isReleased_1 ?_
  refine lv_iload_n hx hb dX0_isReleased_4 rfl (lv_at hl 1 rfl) ?_
  refine va_iald (f := S 7) (n := 24) hx hb hK hP 8 0 rfl rfl (by assumption) dX0_isReleased_5 ?_
  refine lv_istore_n (lv' := [(2, .int (S 7 q.toNatClampNeg)), (0, .ref x), (1, .int q)]) hx hb dX0_isReleased_6 rfl hl (by decide) rfl (fun ls hl => ?_)
  refine lv_iload_n hx hb dX0_isReleased_7 rfl (lv_at hl 0 rfl) ?_
  refine lv_iconst (v := (-1)) hx hb dX0_isReleased_8 (by decide) ?_
  refine lv_icmp_eq (tgt := 22) hx hb dX0_isReleased_9 (by decide) (fun c_9 => ?_) (fun c_9 => ?_)
  · skip
    refine lv_iconst (v := 1) hx hb dX0_isReleased_22 (by decide) ?_
    refine lv_goto (tgt := 27) hx hb dX0_isReleased_23 (by decide) ?_
    exact W.zret (v := 1) (ty := .boolean) hx hb hr rfl (fun t ht hW => ⟨_, rfl, (cif_t (Or.inl c_9)).symm, ht⟩) (fun q h => by cases h) dX0_isReleased_27
  · skip
    refine lv_aload_n hx hb dX0_isReleased_12 rfl (lv_at hl 1 rfl) ?_
    have hf35 := hts (.fieldLink RX0 35 "Clockmask" "cueState" "[I") (by decide +kernel)
    refine va_get (D := D) (ci := 0) (v := .ref (a 8)) (C := RX0) (T := TX0) (N := 17) hx hb hts hin hown hK hP 0 rfl rfl 8 (by decide) hf35 (fun _ h9 => h9) rfl dX0_isReleased_13 ?_
    refine lv_iload_n hx hb dX0_isReleased_16 rfl (lv_at hl 0 rfl) ?_
    refine va_iald (f := S 8) (n := 24) hx hb hK hP 9 0 rfl rfl (hw.resolve_left c_9) dX0_isReleased_17 ?_
    refine lv_iconst (v := 1) hx hb dX0_isReleased_18 (by decide) ?_
    refine lv_icmp_ne (tgt := 26) hx hb dX0_isReleased_19 (by decide) (fun c_19 => ?_) (fun c_19 => ?_)
    · skip
      refine lv_iconst (v := 0) hx hb dX0_isReleased_26 (by decide) ?_
      exact W.zret (v := 0) (ty := .boolean) hx hb hr rfl (fun t ht hW => ⟨_, rfl, (cif_f (fun h => h.elim c_9 c_19)).symm, ht⟩) (fun q h => by cases h) dX0_isReleased_27
    · skip
      refine lv_iconst (v := 1) hx hb dX0_isReleased_22 (by decide) ?_
      refine lv_goto (tgt := 27) hx hb dX0_isReleased_23 (by decide) ?_
      exact W.zret (v := 1) (ty := .boolean) hx hb hr rfl (fun t ht hW => ⟨_, rfl, (cif_t (Or.inr c_19)).symm, ht⟩) (fun q h => by cases h) dX0_isReleased_27
set_option maxHeartbeats 4000000 in
set_option maxRecDepth 100000 in
theorem c_X0_waitsForMissed (l : Launch) (D : va_G) (cI cZ : ClassId) (x : Nat) (a : Nat → Nat) (S : ST) (q : Int32) (hq : vp_in q 24) (hw : S 7 q.toNatClampNeg = -1 ∨ vp_in (S 7 q.toNatClampNeg) 24) : Met l yX0_waitsForMissed wsX0_waitsForMissed rmX0_waitsForMissed (va_Pc [.ref x, .int q] (pR D (tyX cI cZ) (wX cI cZ x a S))) (vp_Si (fun r => r = cif (S 7 q.toNatClampNeg ≠ -1 ∧ S 8 (S 7 q.toNatClampNeg).toNatClampNeg = 2) 1 0)) 0 0 (fun _ => False) := by
  refine Met.ofW (cc := cX0_waitsForMissed) (maxL := 3) (ret := (some .boolean)) (by decide) rfl ?_
  intro pr env s mid args below meth cod s₁ Bd hml hv
  obtain ⟨rfl, hP, hK⟩ := hv
  have hx := Bd.exec
  have hb := Bd.bytes
  have hr := Bd.returns
  have hts := atoms_spec (ws := wsX0_waitsForMissed) Bd.pre
  have hown : s.vm.findClass RX0 = some mid.cls := findClass_of_methodNamed Bd.named
  have hlocks := Bd.notSynchronized
  have hin : ∀ w ∈ wsX00, w ∈ wsX0_waitsForMissed := fun _ h => List.mem_cons_of_mem _ (List.mem_append_right _ h)
  have hl := lv_entry ([.ref x, .int q]) (n := 3) (Nat.le_of_ble_eq_true rfl)
  rw [lg_entry_eq]
  generalize (lg_sl ([.ref x, .int q]) ++ List.replicate (3 - (lg_sl ([.ref x, .int q])).length) Slot.unset).toArray = ls at hl ⊢
  have hl : lv_has ls 3 [(0, .ref x), (1, .int q)] := hl
  refine lv_aload_n hx hb dX0_waitsForMissed_0 rfl (lv_at hl 0 rfl) ?_
  have hf32 := hts (.fieldLink RX0 32 "Clockmask" "cueWaits" "[I") (by decide +kernel)
  refine va_get (D := D) (ci := 0) (v := .ref (a 7)) (C := RX0) (T := TX0) (N := 17) hx hb hts hin hown hK hP 0 rfl rfl 7 (by decide) hf32 (fun _ h9 => h9) rfl dX0_waitsForMissed_1 ?_
  refine lv_iload_n hx hb dX0_waitsForMissed_4 rfl (lv_at hl 1 rfl) ?_
  refine va_iald (f := S 7) (n := 24) hx hb hK hP 8 0 rfl rfl (by assumption) dX0_waitsForMissed_5 ?_
  refine lv_istore_n (lv' := [(2, .int (S 7 q.toNatClampNeg)), (0, .ref x), (1, .int q)]) hx hb dX0_waitsForMissed_6 rfl hl (by decide) rfl (fun ls hl => ?_)
  refine lv_iload_n hx hb dX0_waitsForMissed_7 rfl (lv_at hl 0 rfl) ?_
  refine lv_iconst (v := (-1)) hx hb dX0_waitsForMissed_8 (by decide) ?_
  refine lv_icmp_eq (tgt := 26) hx hb dX0_waitsForMissed_9 (by decide) (fun c_9 => ?_) (fun c_9 => ?_)
  · skip
    refine lv_iconst (v := 0) hx hb dX0_waitsForMissed_26 (by decide) ?_
    exact W.zret (v := 0) (ty := .boolean) hx hb hr rfl (fun t ht hW => ⟨_, rfl, (cif_f (fun h => h.1 c_9)).symm, ht⟩) (fun q h => by cases h) dX0_waitsForMissed_27
  · skip
    refine lv_aload_n hx hb dX0_waitsForMissed_12 rfl (lv_at hl 1 rfl) ?_
    have hf35 := hts (.fieldLink RX0 35 "Clockmask" "cueState" "[I") (by decide +kernel)
    refine va_get (D := D) (ci := 0) (v := .ref (a 8)) (C := RX0) (T := TX0) (N := 17) hx hb hts hin hown hK hP 0 rfl rfl 8 (by decide) hf35 (fun _ h9 => h9) rfl dX0_waitsForMissed_13 ?_
    refine lv_iload_n hx hb dX0_waitsForMissed_16 rfl (lv_at hl 0 rfl) ?_
    refine va_iald (f := S 8) (n := 24) hx hb hK hP 9 0 rfl rfl (hw.resolve_left c_9) dX0_waitsForMissed_17 ?_
    refine lv_iconst (v := 2) hx hb dX0_waitsForMissed_18 (by decide) ?_
    refine lv_icmp_ne (tgt := 26) hx hb dX0_waitsForMissed_19 (by decide) (fun c_19 => ?_) (fun c_19 => ?_)
    · skip
      refine lv_iconst (v := 0) hx hb dX0_waitsForMissed_26 (by decide) ?_
      exact W.zret (v := 0) (ty := .boolean) hx hb hr rfl (fun t ht hW => ⟨_, rfl, (cif_f (fun h => c_19 h.2)).symm, ht⟩) (fun q h => by cases h) dX0_waitsForMissed_27
    · skip
      refine lv_iconst (v := 1) hx hb dX0_waitsForMissed_22 (by decide) ?_
      refine lv_goto (tgt := 27) hx hb dX0_waitsForMissed_23 (by decide) ?_
      exact W.zret (v := 1) (ty := .boolean) hx hb hr rfl (fun t ht hW => ⟨_, rfl, (cif_t ⟨c_9, c_19⟩).symm, ht⟩) (fun q h => by cases h) dX0_waitsForMissed_27
set_option maxHeartbeats 4000000 in
set_option maxRecDepth 100000 in
theorem c_X0_canSwap (l : Launch) (D : va_G) (cI cZ : ClassId) (x : Nat) (a : Nat → Nat) (S : ST) (p : Int32) (o : Int32) (hp : vp_in p 6) (ho : vp_in o 6) : Met l yX0_canSwap wsX0_canSwap rmX0_canSwap (va_Pc [.ref x, .int p, .int o] (pR D (tyX cI cZ) (wX cI cZ x a S))) (vp_Si (fun r => r = cif (S 2 p.toNatClampNeg ≠ 0 ∧ S 2 o.toNatClampNeg ≠ 0 ∧ (S 1 p.toNatClampNeg ≠ -1 ∨ S 1 o.toNatClampNeg ≠ -1)) 1 0)) 0 0 (fun _ => False) := by
  refine Met.ofW (cc := cX0_canSwap) (maxL := 4) (ret := (some .boolean)) (by decide) rfl ?_
  intro pr env s mid args below meth cod s₁ Bd hml hv
  obtain ⟨rfl, hP, hK⟩ := hv
  have hx := Bd.exec
  have hb := Bd.bytes
  have hr := Bd.returns
  have hts := atoms_spec (ws := wsX0_canSwap) Bd.pre
  have hown : s.vm.findClass RX0 = some mid.cls := findClass_of_methodNamed Bd.named
  have hlocks := Bd.notSynchronized
  have hin : ∀ w ∈ wsX00, w ∈ wsX0_canSwap := fun _ h => List.mem_cons_of_mem _ (List.mem_append_right _ h)
  have hl := lv_entry ([.ref x, .int p, .int o]) (n := 4) (Nat.le_of_ble_eq_true rfl)
  rw [lg_entry_eq]
  generalize (lg_sl ([.ref x, .int p, .int o]) ++ List.replicate (4 - (lg_sl ([.ref x, .int p, .int o])).length) Slot.unset).toArray = ls at hl ⊢
  have hl : lv_has ls 4 [(0, .ref x), (1, .int p), (2, .int o)] := hl
  refine lv_aload_n hx hb dX0_canSwap_0 rfl (lv_at hl 0 rfl) ?_
  have hf16 := hts (.fieldLink RX0 16 "Clockmask" "onStage" "[Z") (by decide +kernel)
  refine va_get (D := D) (ci := 0) (v := .ref (a 2)) (C := RX0) (T := TX0) (N := 17) hx hb hts hin hown hK hP 0 rfl rfl 2 (by decide) hf16 (fun _ h9 => h9) rfl dX0_canSwap_1 ?_
  refine lv_iload_n hx hb dX0_canSwap_4 rfl (lv_at hl 1 rfl) ?_
  refine va_zald (f := S 2) (n := 6) hx hb hK hP 3 1 rfl rfl (by assumption) dX0_canSwap_5 ?_
  refine lv_if_eq (tgt := 22) hx hb dX0_canSwap_6 (by decide) (fun c_6 => ?_) (fun c_6 => ?_)
  · skip
    refine lv_iconst (v := 0) hx hb dX0_canSwap_22 (by decide) ?_
    refine lv_istore_n (lv' := [(3, .int 0), (0, .ref x), (1, .int p), (2, .int o)]) hx hb dX0_canSwap_23 rfl hl (by decide) rfl (fun ls hl => ?_)
    refine lv_iload_n hx hb dX0_canSwap_24 rfl (lv_at hl 0 rfl) ?_
    refine lv_if_eq (tgt := 52) hx hb dX0_canSwap_25 (by decide) (fun c_25 => ?_) (fun c_25 => ?_)
    · skip
      refine lv_iconst (v := 0) hx hb dX0_canSwap_52 (by decide) ?_
      exact W.zret (v := 0) (ty := .boolean) hx hb hr rfl (fun t ht hW => ⟨_, rfl, (cif_f (fun h => h.1 c_6)).symm, ht⟩) (fun q h => by cases h) dX0_canSwap_53
    · skip
      exact absurd c_25 (by decide)
  · skip
    refine lv_aload_n hx hb dX0_canSwap_9 rfl (lv_at hl 0 rfl) ?_
    refine va_get (D := D) (ci := 0) (v := .ref (a 2)) (C := RX0) (T := TX0) (N := 17) hx hb hts hin hown hK hP 0 rfl rfl 2 (by decide) hf16 (fun _ h9 => h9) rfl dX0_canSwap_10 ?_
    refine lv_iload_n hx hb dX0_canSwap_13 rfl (lv_at hl 2 rfl) ?_
    refine va_zald (f := S 2) (n := 6) hx hb hK hP 3 1 rfl rfl (by assumption) dX0_canSwap_14 ?_
    refine lv_if_eq (tgt := 22) hx hb dX0_canSwap_15 (by decide) (fun c_15 => ?_) (fun c_15 => ?_)
    · skip
      refine lv_iconst (v := 0) hx hb dX0_canSwap_22 (by decide) ?_
      refine lv_istore_n (lv' := [(3, .int 0), (0, .ref x), (1, .int p), (2, .int o)]) hx hb dX0_canSwap_23 rfl hl (by decide) rfl (fun ls hl => ?_)
      refine lv_iload_n hx hb dX0_canSwap_24 rfl (lv_at hl 0 rfl) ?_
      refine lv_if_eq (tgt := 52) hx hb dX0_canSwap_25 (by decide) (fun c_25 => ?_) (fun c_25 => ?_)
      · skip
        refine lv_iconst (v := 0) hx hb dX0_canSwap_52 (by decide) ?_
        exact W.zret (v := 0) (ty := .boolean) hx hb hr rfl (fun t ht hW => ⟨_, rfl, (cif_f (fun h => h.2.1 c_15)).symm, ht⟩) (fun q h => by cases h) dX0_canSwap_53
      · skip
        exact absurd c_25 (by decide)
    · skip
      refine lv_iconst (v := 1) hx hb dX0_canSwap_18 (by decide) ?_
      refine lv_goto (tgt := 23) hx hb dX0_canSwap_19 (by decide) ?_
      refine lv_istore_n (lv' := [(3, .int 1), (0, .ref x), (1, .int p), (2, .int o)]) hx hb dX0_canSwap_23 rfl hl (by decide) rfl (fun ls hl => ?_)
      refine lv_iload_n hx hb dX0_canSwap_24 rfl (lv_at hl 0 rfl) ?_
      refine lv_if_eq (tgt := 52) hx hb dX0_canSwap_25 (by decide) (fun c_25 => ?_) (fun c_25 => ?_)
      · skip
        exact absurd c_25 (by decide)
      · skip
        refine lv_aload_n hx hb dX0_canSwap_28 rfl (lv_at hl 1 rfl) ?_
        have hf13 := hts (.fieldLink RX0 13 "Clockmask" "maskOfPlayer" "[I") (by decide +kernel)
        refine va_get (D := D) (ci := 0) (v := .ref (a 1)) (C := RX0) (T := TX0) (N := 17) hx hb hts hin hown hK hP 0 rfl rfl 1 (by decide) hf13 (fun _ h9 => h9) rfl dX0_canSwap_29 ?_
        refine lv_iload_n hx hb dX0_canSwap_32 rfl (lv_at hl 2 rfl) ?_
        refine va_iald (f := S 1) (n := 6) hx hb hK hP 2 0 rfl rfl (by assumption) dX0_canSwap_33 ?_
        refine lv_iconst (v := (-1)) hx hb dX0_canSwap_34 (by decide) ?_
        refine lv_icmp_ne (tgt := 48) hx hb dX0_canSwap_35 (by decide) (fun c_35 => ?_) (fun c_35 => ?_)
        · skip
          refine lv_iconst (v := 1) hx hb dX0_canSwap_48 (by decide) ?_
          refine lv_goto (tgt := 53) hx hb dX0_canSwap_49 (by decide) ?_
          exact W.zret (v := 1) (ty := .boolean) hx hb hr rfl (fun t ht hW => ⟨_, rfl, (cif_t ⟨c_6, c_15, Or.inl c_35⟩).symm, ht⟩) (fun q h => by cases h) dX0_canSwap_53
        · skip
          refine lv_aload_n hx hb dX0_canSwap_38 rfl (lv_at hl 1 rfl) ?_
          refine va_get (D := D) (ci := 0) (v := .ref (a 1)) (C := RX0) (T := TX0) (N := 17) hx hb hts hin hown hK hP 0 rfl rfl 1 (by decide) hf13 (fun _ h9 => h9) rfl dX0_canSwap_39 ?_
          refine lv_iload_n hx hb dX0_canSwap_42 rfl (lv_at hl 3 rfl) ?_
          refine va_iald (f := S 1) (n := 6) hx hb hK hP 2 0 rfl rfl (by assumption) dX0_canSwap_43 ?_
          refine lv_iconst (v := (-1)) hx hb dX0_canSwap_44 (by decide) ?_
          refine lv_icmp_eq (tgt := 52) hx hb dX0_canSwap_45 (by decide) (fun c_45 => ?_) (fun c_45 => ?_)
          · skip
            refine lv_iconst (v := 0) hx hb dX0_canSwap_52 (by decide) ?_
            exact W.zret (v := 0) (ty := .boolean) hx hb hr rfl (fun t ht hW => ⟨_, rfl, (cif_f (fun h => h.2.2.elim (fun z => z c_35) (fun z => z c_45))).symm, ht⟩) (fun q h => by cases h) dX0_canSwap_53
          · skip
            refine lv_iconst (v := 1) hx hb dX0_canSwap_48 (by decide) ?_
            refine lv_goto (tgt := 53) hx hb dX0_canSwap_49 (by decide) ?_
            exact W.zret (v := 1) (ty := .boolean) hx hb hr rfl (fun t ht hW => ⟨_, rfl, (cif_t ⟨c_6, c_15, Or.inr c_45⟩).symm, ht⟩) (fun q h => by cases h) dX0_canSwap_53
set_option maxHeartbeats 4000000 in
set_option maxRecDepth 100000 in
theorem c_X0_canBeDone (l : Launch) (D : va_G) (cI cZ : ClassId) (x : Nat) (a : Nat → Nat) (S : ST) (q : Int32) (hq : vp_in q 24) (hc : cueOK S q.toNatClampNeg) : Met l yX0_canBeDone wsX0_canBeDone rmX0_canBeDone (va_Pc [.ref x, .int q] (pR D (tyX cI cZ) (wX cI cZ x a S))) (vp_Si (fun r => r = cif (done S q.toNatClampNeg) 1 0)) 0 0 (fun _ => False) := by
  refine Met.ofW (cc := cX0_canBeDone) (maxL := 4) (ret := (some .boolean)) (by decide) rfl ?_
  intro pr env s mid args below meth cod s₁ Bd hml hv
  obtain ⟨rfl, hP, hK⟩ := hv
  have hx := Bd.exec
  have hb := Bd.bytes
  have hr := Bd.returns
  have hts := atoms_spec (ws := wsX0_canBeDone) Bd.pre
  have hown : s.vm.findClass RX0 = some mid.cls := findClass_of_methodNamed Bd.named
  have hlocks := Bd.notSynchronized
  have hin : ∀ w ∈ wsX00, w ∈ wsX0_canBeDone := fun _ h => List.mem_cons_of_mem _ (List.mem_append_right _ h)
  have hl := lv_entry ([.ref x, .int q]) (n := 4) (Nat.le_of_ble_eq_true rfl)
  rw [lg_entry_eq]
  generalize (lg_sl ([.ref x, .int q]) ++ List.replicate (4 - (lg_sl ([.ref x, .int q])).length) Slot.unset).toArray = ls at hl ⊢
  have hl : lv_has ls 4 [(0, .ref x), (1, .int q)] := hl
  obtain ⟨hk, hp, ho, hw, hs⟩ := hc
  refine lv_aload_n hx hb dX0_canBeDone_0 rfl (lv_at hl 0 rfl) ?_
  have hf26 := hts (.fieldLink RX0 26 "Clockmask" "cuePlayer" "[I") (by decide +kernel)
  refine va_get (D := D) (ci := 0) (v := .ref (a 5)) (C := RX0) (T := TX0) (N := 17) hx hb hts hin hown hK hP 0 rfl rfl 5 (by decide) hf26 (fun _ h9 => h9) rfl dX0_canBeDone_1 ?_
  refine lv_iload_n hx hb dX0_canBeDone_4 rfl (lv_at hl 1 rfl) ?_
  refine va_iald (f := S 5) (n := 24) hx hb hK hP 6 0 rfl rfl (by assumption) dX0_canBeDone_5 ?_
  refine lv_istore_n (lv' := [(2, .int (S 5 q.toNatClampNeg)), (0, .ref x), (1, .int q)]) hx hb dX0_canBeDone_6 rfl hl (by decide) rfl (fun ls hl => ?_)
  refine lv_aload_n hx hb dX0_canBeDone_7 rfl (lv_at hl 1 rfl) ?_
  have hf29 := hts (.fieldLink RX0 29 "Clockmask" "cueOther" "[I") (by decide +kernel)
  refine va_get (D := D) (ci := 0) (v := .ref (a 6)) (C := RX0) (T := TX0) (N := 17) hx hb hts hin hown hK hP 0 rfl rfl 6 (by decide) hf29 (fun _ h9 => h9) rfl dX0_canBeDone_8 ?_
  refine lv_iload_n hx hb dX0_canBeDone_11 rfl (lv_at hl 2 rfl) ?_
  refine va_iald (f := S 6) (n := 24) hx hb hK hP 7 0 rfl rfl (by assumption) dX0_canBeDone_12 ?_
  refine lv_istore_n (lv' := [(3, .int (S 6 q.toNatClampNeg)), (2, .int (S 5 q.toNatClampNeg)), (0, .ref x), (1, .int q)]) hx hb dX0_canBeDone_13 rfl hl (by decide) rfl (fun ls hl => ?_)
  refine lv_aload_n hx hb dX0_canBeDone_14 rfl (lv_at hl 2 rfl) ?_
  have hf23 := hts (.fieldLink RX0 23 "Clockmask" "cueKind" "[I") (by decide +kernel)
  refine va_get (D := D) (ci := 0) (v := .ref (a 4)) (C := RX0) (T := TX0) (N := 17) hx hb hts hin hown hK hP 0 rfl rfl 4 (by decide) hf23 (fun _ h9 => h9) rfl dX0_canBeDone_15 ?_
  refine lv_iload_n hx hb dX0_canBeDone_18 rfl (lv_at hl 3 rfl) ?_
  refine va_iald (f := S 4) (n := 24) hx hb hK hP 5 0 rfl rfl (by assumption) dX0_canBeDone_19 ?_
  by_cases c_20_0 : S 4 q.toNatClampNeg = 0
  · refine lv_tableIn (tgt := 52) (off := 32) hx hb dX0_canBeDone_20 (by rw [c_20_0]; decide) (by rw [c_20_0]; decide) (by rw [c_20_0]; rfl) (by decide) ?_
    refine lv_aload_n hx hb dX0_canBeDone_52 rfl (lv_at hl 2 rfl) ?_
    have hf16 := hts (.fieldLink RX0 16 "Clockmask" "onStage" "[Z") (by decide +kernel)
    refine va_get (D := D) (ci := 0) (v := .ref (a 2)) (C := RX0) (T := TX0) (N := 17) hx hb hts hin hown hK hP 0 rfl rfl 2 (by decide) hf16 (fun _ h9 => h9) rfl dX0_canBeDone_53 ?_
    refine lv_iload_n hx hb dX0_canBeDone_56 rfl (lv_at hl 1 rfl) ?_
    refine va_zald (f := S 2) (n := 6) hx hb hK hP 3 1 rfl rfl hp dX0_canBeDone_57 ?_
    refine lv_if_ne (tgt := 75) hx hb dX0_canBeDone_58 (by decide) (fun c_58 => ?_) (fun c_58 => ?_)
    · skip
      refine lv_iconst (v := 0) hx hb dX0_canBeDone_75 (by decide) ?_
      exact W.zret (v := 0) (ty := .boolean) hx hb hr rfl (fun t ht hW => ⟨_, rfl, by rw [done0 c_20_0]; exact (cif_f (fun h => c_58 h.1)).symm, ht⟩) (fun q h => by cases h) dX0_canBeDone_76
    · skip
      refine lv_aload_n hx hb dX0_canBeDone_61 rfl (lv_at hl 2 rfl) ?_
      have hf9 := hts (.fieldLink RX0 9 "Clockmask" "costumeOfPlayer" "[I") (by decide +kernel)
      refine va_get (D := D) (ci := 0) (v := .ref (a 0)) (C := RX0) (T := TX0) (N := 17) hx hb hts hin hown hK hP 0 rfl rfl 0 (by decide) hf9 (fun _ h9 => h9) rfl dX0_canBeDone_62 ?_
      refine lv_iload_n hx hb dX0_canBeDone_65 rfl (lv_at hl 1 rfl) ?_
      refine va_iald (f := S 0) (n := 6) hx hb hK hP 1 0 rfl rfl hp dX0_canBeDone_66 ?_
      refine lv_iconst (v := (-1)) hx hb dX0_canBeDone_67 (by decide) ?_
      refine lv_icmp_eq (tgt := 75) hx hb dX0_canBeDone_68 (by decide) (fun c_68 => ?_) (fun c_68 => ?_)
      · skip
        refine lv_iconst (v := 0) hx hb dX0_canBeDone_75 (by decide) ?_
        exact W.zret (v := 0) (ty := .boolean) hx hb hr rfl (fun t ht hW => ⟨_, rfl, by rw [done0 c_20_0]; exact (cif_f (fun h => h.2 c_68)).symm, ht⟩) (fun q h => by cases h) dX0_canBeDone_76
      · skip
        refine lv_iconst (v := 1) hx hb dX0_canBeDone_71 (by decide) ?_
        refine lv_goto (tgt := 76) hx hb dX0_canBeDone_72 (by decide) ?_
        exact W.zret (v := 1) (ty := .boolean) hx hb hr rfl (fun t ht hW => ⟨_, rfl, by rw [done0 c_20_0]; exact (cif_t ⟨c_58, c_68⟩).symm, ht⟩) (fun q h => by cases h) dX0_canBeDone_76
  by_cases c_20_1 : S 4 q.toNatClampNeg = 1
  · refine lv_tableIn (tgt := 77) (off := 57) hx hb dX0_canBeDone_20 (by rw [c_20_1]; decide) (by rw [c_20_1]; decide) (by rw [c_20_1]; rfl) (by decide) ?_
    refine lv_aload_n hx hb dX0_canBeDone_77 rfl (lv_at hl 2 rfl) ?_
    have hf16 := hts (.fieldLink RX0 16 "Clockmask" "onStage" "[Z") (by decide +kernel)
    refine va_get (D := D) (ci := 0) (v := .ref (a 2)) (C := RX0) (T := TX0) (N := 17) hx hb hts hin hown hK hP 0 rfl rfl 2 (by decide) hf16 (fun _ h9 => h9) rfl dX0_canBeDone_78 ?_
    refine lv_iload_n hx hb dX0_canBeDone_81 rfl (lv_at hl 1 rfl) ?_
    refine va_zald (f := S 2) (n := 6) hx hb hK hP 3 1 rfl rfl hp dX0_canBeDone_82 ?_
    exact W.zret (v := S 2 (S 5 q.toNatClampNeg).toNatClampNeg) (ty := .boolean) hx hb hr (by rcases hs with h | h <;> rw [h] <;> rfl) (fun t ht hW => ⟨_, rfl, by rw [done1 c_20_1]; exact hs.elim (fun h => by rw [h]; exact (cif_f (fun z => z rfl)).symm) (fun h => by rw [h]; exact (cif_t (by decide)).symm), ht⟩) (fun q h => by cases h) dX0_canBeDone_83
  by_cases c_20_2 : S 4 q.toNatClampNeg = 2
  · refine lv_tableIn (tgt := 84) (off := 64) hx hb dX0_canBeDone_20 (by rw [c_20_2]; decide) (by rw [c_20_2]; decide) (by rw [c_20_2]; rfl) (by decide) ?_
    refine lv_aload_n hx hb dX0_canBeDone_84 rfl (lv_at hl 2 rfl) ?_
    have hf13 := hts (.fieldLink RX0 13 "Clockmask" "maskOfPlayer" "[I") (by decide +kernel)
    refine va_get (D := D) (ci := 0) (v := .ref (a 1)) (C := RX0) (T := TX0) (N := 17) hx hb hts hin hown hK hP 0 rfl rfl 1 (by decide) hf13 (fun _ h9 => h9) rfl dX0_canBeDone_85 ?_
    refine lv_iload_n hx hb dX0_canBeDone_88 rfl (lv_at hl 1 rfl) ?_
    refine va_iald (f := S 1) (n := 6) hx hb hK hP 2 0 rfl rfl hp dX0_canBeDone_89 ?_
    refine lv_iconst (v := (-1)) hx hb dX0_canBeDone_90 (by decide) ?_
    refine lv_icmp_ne (tgt := 107) hx hb dX0_canBeDone_91 (by decide) (fun c_91 => ?_) (fun c_91 => ?_)
    · skip
      refine lv_iconst (v := 0) hx hb dX0_canBeDone_107 (by decide) ?_
      exact W.zret (v := 0) (ty := .boolean) hx hb hr rfl (fun t ht hW => ⟨_, rfl, by rw [done2 c_20_2]; exact (cif_f (fun h => c_91 h.1)).symm, ht⟩) (fun q h => by cases h) dX0_canBeDone_108
    · skip
      refine lv_aload_n hx hb dX0_canBeDone_94 rfl (lv_at hl 2 rfl) ?_
      refine lv_iload_n hx hb dX0_canBeDone_95 rfl (lv_at hl 0 rfl) ?_
      refine vp_callSi (W.runV (As := [.int (S 6 q.toNatClampNeg)]) (rest := []) ⟨hx, hb, hml, hown, hts⟩ (c_X0_playerBehind l D cI cZ x a S (S 6 q.toNatClampNeg)) (cwV 1 hts gX0_canBeDone_X0_playerBehind rfl rfl rfl (by decide +kernel) ⟨Nat.le_of_ble_eq_true rfl, Nat.le_of_ble_eq_true rfl⟩) (pR_V (ci := 0) hP hK rfl rfl) rfl rfl hl.1 rfl (lv_room (Nat.le_of_ble_eq_true rfl)) dX0_canBeDone_96 ⟨Nat.zero_le _, Nat.zero_le _⟩) (fun r_96 h_96 => ?_)
      subst h_96
      refine lv_iconst (v := (-1)) hx hb dX0_canBeDone_99 (by decide) ?_
      refine lv_icmp_ne (tgt := 107) hx hb dX0_canBeDone_100 (by decide) (fun c_100 => ?_) (fun c_100 => ?_)
      · skip
        refine lv_iconst (v := 0) hx hb dX0_canBeDone_107 (by decide) ?_
        exact W.zret (v := 0) (ty := .boolean) hx hb hr rfl (fun t ht hW => ⟨_, rfl, by rw [done2 c_20_2]; exact (cif_f (fun h => c_100 h.2)).symm, ht⟩) (fun q h => by cases h) dX0_canBeDone_108
      · skip
        refine lv_iconst (v := 1) hx hb dX0_canBeDone_103 (by decide) ?_
        refine lv_goto (tgt := 108) hx hb dX0_canBeDone_104 (by decide) ?_
        exact W.zret (v := 1) (ty := .boolean) hx hb hr rfl (fun t ht hW => ⟨_, rfl, by rw [done2 c_20_2]; exact (cif_t ⟨c_91, c_100⟩).symm, ht⟩) (fun q h => by cases h) dX0_canBeDone_108
  by_cases c_20_3 : S 4 q.toNatClampNeg = 3
  · refine lv_tableIn (tgt := 109) (off := 89) hx hb dX0_canBeDone_20 (by rw [c_20_3]; decide) (by rw [c_20_3]; decide) (by rw [c_20_3]; rfl) (by decide) ?_
    refine lv_aload_n hx hb dX0_canBeDone_109 rfl (lv_at hl 2 rfl) ?_
    have hf13 := hts (.fieldLink RX0 13 "Clockmask" "maskOfPlayer" "[I") (by decide +kernel)
    refine va_get (D := D) (ci := 0) (v := .ref (a 1)) (C := RX0) (T := TX0) (N := 17) hx hb hts hin hown hK hP 0 rfl rfl 1 (by decide) hf13 (fun _ h9 => h9) rfl dX0_canBeDone_110 ?_
    refine lv_iload_n hx hb dX0_canBeDone_113 rfl (lv_at hl 1 rfl) ?_
    refine va_iald (f := S 1) (n := 6) hx hb hK hP 2 0 rfl rfl hp dX0_canBeDone_114 ?_
    refine lv_iconst (v := (-1)) hx hb dX0_canBeDone_115 (by decide) ?_
    refine lv_icmp_eq (tgt := 123) hx hb dX0_canBeDone_116 (by decide) (fun c_116 => ?_) (fun c_116 => ?_)
    · skip
      refine lv_iconst (v := 0) hx hb dX0_canBeDone_123 (by decide) ?_
      exact W.zret (v := 0) (ty := .boolean) hx hb hr rfl (fun t ht hW => ⟨_, rfl, by rw [done3 c_20_3]; exact (cif_f (fun h => h c_116)).symm, ht⟩) (fun q h => by cases h) dX0_canBeDone_124
    · skip
      refine lv_iconst (v := 1) hx hb dX0_canBeDone_119 (by decide) ?_
      refine lv_goto (tgt := 124) hx hb dX0_canBeDone_120 (by decide) ?_
      exact W.zret (v := 1) (ty := .boolean) hx hb hr rfl (fun t ht hW => ⟨_, rfl, by rw [done3 c_20_3]; exact (cif_t c_116).symm, ht⟩) (fun q h => by cases h) dX0_canBeDone_124
  · refine lv_tableOut (tgt := 125) hx hb dX0_canBeDone_20 (Or.inr (by rw [kind4 hk c_20_0 c_20_1 c_20_2 c_20_3]; decide)) (by decide) ?_
    refine lv_aload_n hx hb dX0_canBeDone_125 rfl (lv_at hl 2 rfl) ?_
    refine lv_iload_n hx hb dX0_canBeDone_126 rfl (lv_at hl 1 rfl) ?_
    refine lv_iload_n hx hb dX0_canBeDone_127 rfl (lv_at hl 0 rfl) ?_
    refine vp_callSi (W.runV (As := [.int (S 5 q.toNatClampNeg), .int (S 6 q.toNatClampNeg)]) (rest := []) ⟨hx, hb, hml, hown, hts⟩ (c_X0_canSwap l D cI cZ x a S (S 5 q.toNatClampNeg) (S 6 q.toNatClampNeg) hp (ho (Or.inr (kind4 hk c_20_0 c_20_1 c_20_2 c_20_3)))) (cwV 2 hts gX0_canBeDone_X0_canSwap rfl rfl rfl (by decide +kernel) ⟨Nat.le_of_ble_eq_true rfl, Nat.le_of_ble_eq_true rfl⟩) (pR_V (ci := 0) hP hK rfl rfl) rfl rfl hl.1 rfl (lv_room (Nat.le_of_ble_eq_true rfl)) dX0_canBeDone_128 ⟨Nat.zero_le _, Nat.zero_le _⟩) (fun r_128 h_128 => ?_)
    exact W.zret (v := r_128) (ty := .boolean) hx hb hr (by rw [h_128]; exact cif_nar) (fun t ht hW => ⟨_, rfl, by rw [h_128, done4 c_20_0 c_20_1 c_20_2 c_20_3], ht⟩) (fun q h => by cases h) dX0_canBeDone_131
set_option maxHeartbeats 4000000 in
set_option maxRecDepth 100000 in
theorem c_X0_isCallable (l : Launch) (D : va_G) (cI cZ : ClassId) (x : Nat) (a : Nat → Nat) (S : ST) (q : Int32) (hq : vp_in q 24) (hc : cueOK S q.toNatClampNeg) : Met l yX0_isCallable wsX0_isCallable rmX0_isCallable (va_Pc [.ref x, .int q] (pR D (tyX cI cZ) (wX cI cZ x a S))) (vp_Si (fun r => r = cif (cal S q.toNatClampNeg) 1 0)) 0 0 (fun _ => False) := by
  refine Met.ofW (cc := cX0_isCallable) (maxL := 2) (ret := (some .boolean)) (by decide) rfl ?_
  intro pr env s mid args below meth cod s₁ Bd hml hv
  obtain ⟨rfl, hP, hK⟩ := hv
  have hx := Bd.exec
  have hb := Bd.bytes
  have hr := Bd.returns
  have hts := atoms_spec (ws := wsX0_isCallable) Bd.pre
  have hown : s.vm.findClass RX0 = some mid.cls := findClass_of_methodNamed Bd.named
  have hlocks := Bd.notSynchronized
  have hin : ∀ w ∈ wsX00, w ∈ wsX0_isCallable := fun _ h => List.mem_cons_of_mem _ (List.mem_append_right _ h)
  have hl := lv_entry ([.ref x, .int q]) (n := 2) (Nat.le_of_ble_eq_true rfl)
  rw [lg_entry_eq]
  generalize (lg_sl ([.ref x, .int q]) ++ List.replicate (2 - (lg_sl ([.ref x, .int q])).length) Slot.unset).toArray = ls at hl ⊢
  have hl : lv_has ls 2 [(0, .ref x), (1, .int q)] := hl
  refine lv_aload_n hx hb dX0_isCallable_0 rfl (lv_at hl 0 rfl) ?_
  have hf35 := hts (.fieldLink RX0 35 "Clockmask" "cueState" "[I") (by decide +kernel)
  refine va_get (D := D) (ci := 0) (v := .ref (a 8)) (C := RX0) (T := TX0) (N := 17) hx hb hts hin hown hK hP 0 rfl rfl 8 (by decide) hf35 (fun _ h9 => h9) rfl dX0_isCallable_1 ?_
  refine lv_iload_n hx hb dX0_isCallable_4 rfl (lv_at hl 1 rfl) ?_
  refine va_iald (f := S 8) (n := 24) hx hb hK hP 9 0 rfl rfl (by assumption) dX0_isCallable_5 ?_
  refine lv_if_ne (tgt := 29) hx hb dX0_isCallable_6 (by decide) (fun c_6 => ?_) (fun c_6 => ?_)
  · skip
    refine lv_iconst (v := 0) hx hb dX0_isCallable_29 (by decide) ?_
    exact W.zret (v := 0) (ty := .boolean) hx hb hr rfl (fun t ht hW => ⟨_, rfl, (cif_f (fun h => c_6 h.1)).symm, ht⟩) (fun q h => by cases h) dX0_isCallable_30
  · skip
    refine lv_aload_n hx hb dX0_isCallable_9 rfl (lv_at hl 0 rfl) ?_
    refine lv_iload_n hx hb dX0_isCallable_10 rfl (lv_at hl 1 rfl) ?_
    refine vp_callSi (W.runV (As := [.int q]) (rest := []) ⟨hx, hb, hml, hown, hts⟩ (c_X0_isReleased l D cI cZ x a S q hq hc.2.2.2.1) (cwV 1 hts gX0_isCallable_X0_isReleased rfl rfl rfl (by decide +kernel) ⟨Nat.le_of_ble_eq_true rfl, Nat.le_of_ble_eq_true rfl⟩) (pR_V (ci := 0) hP hK rfl rfl) rfl rfl hl.1 rfl (lv_room (Nat.le_of_ble_eq_true rfl)) dX0_isCallable_11 ⟨Nat.zero_le _, Nat.zero_le _⟩) (fun r_11 h_11 => ?_)
    refine lv_if_eq (tgt := 29) hx hb dX0_isCallable_14 (by decide) (fun c_14 => ?_) (fun c_14 => ?_)
    · skip
      have b_11 := cif_b0 h_11 c_14
      refine lv_iconst (v := 0) hx hb dX0_isCallable_29 (by decide) ?_
      exact W.zret (v := 0) (ty := .boolean) hx hb hr rfl (fun t ht hW => ⟨_, rfl, (cif_f (fun h => b_11 h.2.1)).symm, ht⟩) (fun q h => by cases h) dX0_isCallable_30
    · skip
      have b_11 := cif_b1 h_11 c_14
      refine lv_aload_n hx hb dX0_isCallable_17 rfl (lv_at hl 0 rfl) ?_
      refine lv_iload_n hx hb dX0_isCallable_18 rfl (lv_at hl 1 rfl) ?_
      refine vp_callSi (W.runV (As := [.int q]) (rest := []) ⟨hx, hb, hml, hown, hts⟩ (c_X0_canBeDone l D cI cZ x a S q hq hc) (cwV 1 hts gX0_isCallable_X0_canBeDone rfl rfl rfl (by decide +kernel) ⟨Nat.le_of_ble_eq_true rfl, Nat.le_of_ble_eq_true rfl⟩) (pR_V (ci := 0) hP hK rfl rfl) rfl rfl hl.1 rfl (lv_room (Nat.le_of_ble_eq_true rfl)) dX0_isCallable_19 ⟨Nat.zero_le _, Nat.zero_le _⟩) (fun r_19 h_19 => ?_)
      refine lv_if_eq (tgt := 29) hx hb dX0_isCallable_22 (by decide) (fun c_22 => ?_) (fun c_22 => ?_)
      · skip
        have b_19 := cif_b0 h_19 c_22
        refine lv_iconst (v := 0) hx hb dX0_isCallable_29 (by decide) ?_
        exact W.zret (v := 0) (ty := .boolean) hx hb hr rfl (fun t ht hW => ⟨_, rfl, (cif_f (fun h => b_19 h.2.2)).symm, ht⟩) (fun q h => by cases h) dX0_isCallable_30
      · skip
        have b_19 := cif_b1 h_19 c_22
        refine lv_iconst (v := 1) hx hb dX0_isCallable_25 (by decide) ?_
        refine lv_goto (tgt := 30) hx hb dX0_isCallable_26 (by decide) ?_
        exact W.zret (v := 1) (ty := .boolean) hx hb hr rfl (fun t ht hW => ⟨_, rfl, (cif_t ⟨c_6, b_11, b_19⟩).symm, ht⟩) (fun q h => by cases h) dX0_isCallable_30
set_option maxHeartbeats 4000000 in
set_option maxRecDepth 100000 in
theorem c_X0_firstCallable (l : Launch) (D : va_G) (cI cZ : ClassId) (x : Nat) (a : Nat → Nat) (S : ST) (hm : many S ≤ 24) (he : S 10 0 = nI (many S)) (hcs : ∀ k, k < many S → cueOK S k) : Met l yX0_firstCallable wsX0_firstCallable rmX0_firstCallable (va_Pc [.ref x] (pR D (tyX cI cZ) (wX cI cZ x a S))) (vp_Si (fun r => r = cif (fstN (cal S) (many S) < many S) (nI (fstN (cal S) (many S))) (-1))) 0 0 (fun _ => False) := by
  refine Met.ofW (cc := cX0_firstCallable) (maxL := 2) (ret := (some .int)) (by decide) rfl ?_
  intro pr env s mid args below meth cod s₁ Bd hml hv
  obtain ⟨rfl, hP, hK⟩ := hv
  have hx := Bd.exec
  have hb := Bd.bytes
  have hr := Bd.returns
  have hts := atoms_spec (ws := wsX0_firstCallable) Bd.pre
  have hown : s.vm.findClass RX0 = some mid.cls := findClass_of_methodNamed Bd.named
  have hlocks := Bd.notSynchronized
  have hin : ∀ w ∈ wsX00, w ∈ wsX0_firstCallable := fun _ h => List.mem_cons_of_mem _ (List.mem_append_right _ h)
  have hl := lv_entry ([.ref x]) (n := 2) (Nat.le_of_ble_eq_true rfl)
  rw [lg_entry_eq]
  generalize (lg_sl ([.ref x]) ++ List.replicate (2 - (lg_sl ([.ref x])).length) Slot.unset).toArray = ls at hl ⊢
  have hl : lv_has ls 2 [(0, .ref x)] := hl
  refine lv_iconst (v := 0) hx hb dX0_firstCallable_0 (by decide) ?_
  refine lv_istore_n (lv' := [(1, .int 0), (0, .ref x)]) hx hb dX0_firstCallable_1 rfl hl (by decide) rfl (fun ls hl => ?_)
  refine W_gen (fun R Q hR hQ => ?_)
  have loop_2 : ∀ (n : Nat) (j : Nat) (i1 : Int32), (j ≤ many S) → (many S + 1 ≤ j + n) → (i1 = nI j) → (∀ k, k < j → ¬ cal S k) → ∀ ls : Array Slot, lv_has ls 2 [(1, .int i1), (0, .ref x)] → W pr l env R s mid ([.ref x] : List Value).toArray below meth cod s.heap [] 0 0 Q (F0 mid 2 ls []) := by
    subst hR; subst hQ
    intro n
    induction n with
    | zero =>
      intro j i1 hj hn e1 hno ls hl
      exfalso; omega
    | succ n ih =>
      intro j i1 hj hn e1 hno ls hl
      refine lv_iload_n hx hb dX0_firstCallable_2 rfl (lv_at hl 0 rfl) ?_
      refine lv_aload_n hx hb dX0_firstCallable_3 rfl (lv_at hl 1 rfl) ?_
      have hf104 := hts (.fieldLink RX0 104 "Clockmask" "cueCount" "I") (by decide +kernel)
      refine va_get (D := D) (ci := 0) (v := .int (S 10 0)) (C := RX0) (T := TX0) (N := 17) hx hb hts hin hown hK hP 0 rfl rfl 10 (by decide) hf104 (fun _ h9 => h9) rfl dX0_firstCallable_4 ?_
      refine lv_icmp_ge (tgt := 26) hx hb dX0_firstCallable_7 (by decide) (fun c_7 => ?_) (fun c_7 => ?_)
      · skip
        have h6 : many S ≤ j := by rw [e1, he] at c_7; exact (nI_leI (by omega) (by omega)).mp c_7
        refine lv_iconst (v := (-1)) hx hb dX0_firstCallable_26 (by decide) ?_
        exact W.iret (v := (-1)) hx hb hr (fun t ht hW => ⟨_, rfl, by rw [fstN_none (n := many S) (fun k hk => hno k (by omega)), cif_f (Nat.lt_irrefl _)], ht⟩) (fun q h => by cases h) dX0_firstCallable_27
      · skip
        have h6 : j < many S := by rw [e1, he] at c_7; exact Nat.lt_of_not_le (fun z => c_7 ((nI_leI (by omega) (by omega)).mpr z))
        refine lv_aload_n hx hb dX0_firstCallable_10 rfl (lv_at hl 1 rfl) ?_
        refine lv_iload_n hx hb dX0_firstCallable_11 rfl (lv_at hl 0 rfl) ?_
        refine vp_callSi (W.runV (As := [.int i1]) (rest := []) ⟨hx, hb, hml, hown, hts⟩ (c_X0_isCallable l D cI cZ x a S i1 (by rw [e1]; exact vp_in_nI (by omega) (by decide)) (by rw [e1, nI_clamp (by omega)]; exact hcs j h6)) (cwV 1 hts gX0_firstCallable_X0_isCallable rfl rfl rfl (by decide +kernel) ⟨Nat.le_of_ble_eq_true rfl, Nat.le_of_ble_eq_true rfl⟩) (pR_V (ci := 0) hP hK rfl rfl) rfl rfl hl.1 rfl (lv_room (Nat.le_of_ble_eq_true rfl)) dX0_firstCallable_12 ⟨Nat.zero_le _, Nat.zero_le _⟩) (fun r_12 h_12 => ?_)
        refine lv_if_eq (tgt := 20) hx hb dX0_firstCallable_15 (by decide) (fun c_15 => ?_) (fun c_15 => ?_)
        · skip
          have b_12 := cif_b0 h_12 c_15
          have c9 : ¬ cal S j := by rwa [e1, nI_clamp (by omega)] at b_12
          refine lv_iinc (v := i1 + 1) (lv' := [(1, .int (i1 + 1)), (0, .ref x)]) hx hb dX0_firstCallable_20 hl (k := 0) rfl rfl (by decide) rfl (fun ls hl => ?_)
          refine lv_goto (tgt := 2) hx hb dX0_firstCallable_23 (by decide) ?_
          exact ih (j + 1) (i1 + 1) (by omega) (by omega) (by rw [e1]; exact nI_1 j) (lt_s hno c9) _ (lv_sub hl [0, 1] rfl)
        · skip
          have b_12 := cif_b1 h_12 c_15
          have c9 : cal S j := by rwa [e1, nI_clamp (by omega)] at b_12
          refine lv_iload_n hx hb dX0_firstCallable_18 rfl (lv_at hl 0 rfl) ?_
          exact W.iret (v := i1) hx hb hr (fun t ht hW => ⟨_, rfl, by rw [fstN_is h6 c9 hno, cif_t h6, e1], ht⟩) (fun q h => by cases h) dX0_firstCallable_19
  exact loop_2 (many S + 1) 0 0 (Nat.zero_le _) (by omega) nI_0.symm (fun k hk => absurd hk (Nat.not_lt_zero k)) _ (lv_sub hl [0, 1] rfl)
set_option maxHeartbeats 4000000 in
set_option maxRecDepth 100000 in
theorem c_X0_countCues (l : Launch) (D : va_G) (cI cZ : ClassId) (x : Nat) (a : Nat → Nat) (S : ST) (v : Int32) (hm : many S ≤ 24) (he : S 10 0 = nI (many S)) : Met l yX0_countCues wsX0_countCues rmX0_countCues (va_Pc [.ref x, .int v] (pR D (tyX cI cZ) (wX cI cZ x a S))) (vp_Si (fun r => r = nI (cN (S 8) v (many S)))) 0 0 (fun _ => False) := by
  refine Met.ofW (cc := cX0_countCues) (maxL := 4) (ret := (some .int)) (by decide) rfl ?_
  intro pr env s mid args below meth cod s₁ Bd hml hv
  obtain ⟨rfl, hP, hK⟩ := hv
  have hx := Bd.exec
  have hb := Bd.bytes
  have hr := Bd.returns
  have hts := atoms_spec (ws := wsX0_countCues) Bd.pre
  have hown : s.vm.findClass RX0 = some mid.cls := findClass_of_methodNamed Bd.named
  have hlocks := Bd.notSynchronized
  have hin : ∀ w ∈ wsX00, w ∈ wsX0_countCues := fun _ h => List.mem_cons_of_mem _ (List.mem_append_right _ h)
  have hl := lv_entry ([.ref x, .int v]) (n := 4) (Nat.le_of_ble_eq_true rfl)
  rw [lg_entry_eq]
  generalize (lg_sl ([.ref x, .int v]) ++ List.replicate (4 - (lg_sl ([.ref x, .int v])).length) Slot.unset).toArray = ls at hl ⊢
  have hl : lv_has ls 4 [(0, .ref x), (1, .int v)] := hl
  refine lv_iconst (v := 0) hx hb dX0_countCues_0 (by decide) ?_
  refine lv_istore_n (lv' := [(2, .int 0), (0, .ref x), (1, .int v)]) hx hb dX0_countCues_1 rfl hl (by decide) rfl (fun ls hl => ?_)
  refine lv_iconst (v := 0) hx hb dX0_countCues_2 (by decide) ?_
  refine lv_istore_n (lv' := [(3, .int 0), (2, .int 0), (0, .ref x), (1, .int v)]) hx hb dX0_countCues_3 rfl hl (by decide) rfl (fun ls hl => ?_)
  refine W_gen (fun R Q hR hQ => ?_)
  have loop_4 : ∀ (n : Nat) (j : Nat) (i2 : Int32) (i3 : Int32), (j ≤ many S) → (many S + 1 ≤ j + n) → (i3 = nI j) → (i2 = nI (cN (S 8) v j)) → ∀ ls : Array Slot, lv_has ls 4 [(3, .int i3), (2, .int i2), (0, .ref x), (1, .int v)] → W pr l env R s mid ([.ref x, .int v] : List Value).toArray below meth cod s.heap [] 0 0 Q (F0 mid 4 ls []) := by
    subst hR; subst hQ
    intro n
    induction n with
    | zero =>
      intro j i2 i3 hj hn e3 e2 ls hl
      exfalso; omega
    | succ n ih =>
      intro j i2 i3 hj hn e3 e2 ls hl
      refine lv_iload_n hx hb dX0_countCues_4 rfl (lv_at hl 0 rfl) ?_
      refine lv_aload_n hx hb dX0_countCues_5 rfl (lv_at hl 2 rfl) ?_
      have hf104 := hts (.fieldLink RX0 104 "Clockmask" "cueCount" "I") (by decide +kernel)
      refine va_get (D := D) (ci := 0) (v := .int (S 10 0)) (C := RX0) (T := TX0) (N := 17) hx hb hts hin hown hK hP 0 rfl rfl 10 (by decide) hf104 (fun _ h9 => h9) rfl dX0_countCues_6 ?_
      refine lv_icmp_ge (tgt := 31) hx hb dX0_countCues_9 (by decide) (fun c_9 => ?_) (fun c_9 => ?_)
      · skip
        have h6 : many S ≤ j := by rw [e3, he] at c_9; exact (nI_leI (by omega) (by omega)).mp c_9
        refine lv_iload_n hx hb dX0_countCues_31 rfl (lv_at hl 1 rfl) ?_
        exact W.iret (v := i2) hx hb hr (fun t ht hW => ⟨_, rfl, by rw [e2, show j = many S by omega], ht⟩) (fun q h => by cases h) dX0_countCues_32
      · skip
        have h6 : j < many S := by rw [e3, he] at c_9; exact Nat.lt_of_not_le (fun z => c_9 ((nI_leI (by omega) (by omega)).mpr z))
        refine lv_aload_n hx hb dX0_countCues_12 rfl (lv_at hl 2 rfl) ?_
        have hf35 := hts (.fieldLink RX0 35 "Clockmask" "cueState" "[I") (by decide +kernel)
        refine va_get (D := D) (ci := 0) (v := .ref (a 8)) (C := RX0) (T := TX0) (N := 17) hx hb hts hin hown hK hP 0 rfl rfl 8 (by decide) hf35 (fun _ h9 => h9) rfl dX0_countCues_13 ?_
        refine lv_iload_n hx hb dX0_countCues_16 rfl (lv_at hl 0 rfl) ?_
        refine va_iald (f := S 8) (n := 24) hx hb hK hP 9 0 rfl rfl (by rw [e3]; exact vp_in_nI (by omega) (by decide)) dX0_countCues_17 ?_
        refine lv_iload_n hx hb dX0_countCues_18 rfl (lv_at hl 3 rfl) ?_
        refine lv_icmp_ne (tgt := 25) hx hb dX0_countCues_19 (by decide) (fun c_19 => ?_) (fun c_19 => ?_)
        · skip
          have c9 : ¬ S 8 j = v := by rwa [e3, nI_clamp (by omega)] at c_19
          refine lv_iinc (v := i3 + 1) (lv' := [(3, .int (i3 + 1)), (2, .int i2), (0, .ref x), (1, .int v)]) hx hb dX0_countCues_25 hl (k := 0) rfl rfl (by decide) rfl (fun ls hl => ?_)
          refine lv_goto (tgt := 4) hx hb dX0_countCues_28 (by decide) ?_
          exact ih (j + 1) i2 (i3 + 1) (by omega) (by omega) (by rw [e3]; exact nI_1 j) (by rw [e2, cN, cif_f c9]) _ (lv_sub hl [0, 1, 2, 3] rfl)
        · skip
          have c9 : S 8 j = v := by rwa [e3, nI_clamp (by omega)] at c_19
          refine lv_iinc (v := i2 + 1) (lv' := [(2, .int (i2 + 1)), (3, .int i3), (0, .ref x), (1, .int v)]) hx hb dX0_countCues_22 hl (k := 1) rfl rfl (by decide) rfl (fun ls hl => ?_)
          refine lv_iinc (v := i3 + 1) (lv' := [(3, .int (i3 + 1)), (2, .int (i2 + 1)), (0, .ref x), (1, .int v)]) hx hb dX0_countCues_25 hl (k := 1) rfl rfl (by decide) rfl (fun ls hl => ?_)
          refine lv_goto (tgt := 4) hx hb dX0_countCues_28 (by decide) ?_
          exact ih (j + 1) (i2 + 1) (i3 + 1) (by omega) (by omega) (by rw [e3]; exact nI_1 j) (by rw [e2, cN, cif_t c9]; exact nI_1 _) _ (lv_sub hl [0, 1, 2, 3] rfl)
  exact loop_4 (many S + 1) 0 0 0 (Nat.zero_le _) (by omega) nI_0.symm nI_0.symm _ (lv_sub hl [0, 1, 2, 3] rfl)
