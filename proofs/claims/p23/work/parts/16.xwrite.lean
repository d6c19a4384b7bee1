set_option maxHeartbeats 4000000 in
set_option maxRecDepth 100000 in
theorem c_J7_fill_53178 (l : Launch) (D : va_G) (cI : ClassId) (y : Nat) (f : Nat → Int32) (sz : Nat) (v : Int32) : Met l yJ7_fill_53178 wsJ7_fill_53178 rmJ7_fill_53178 (va_Pc [.ref y, .int v] (pW D (tyM cI) ([(y, .inl (cI, 6, .inl f))]) sz)) (va_Qv (fun (u : Nat → Int32) => u = fa_fill (fun _ => v) f 6) (fun (u : Nat → Int32) t => atW D [(y, .inl (cI, 6, .inl u))] (va_A ([(y, .inl (cI, 6, .inl f))]) sz) t) (va_A ([(y, .inl (cI, 6, .inl f))]) sz)) 0 0 (va_A ([(y, .inl (cI, 6, .inl f))]) sz) := by
  refine Met.ofW (cc := cJ7_fill_53178) (maxL := 4) (ret := none) (by decide) rfl ?_
  intro pr env s mid args below meth cod s₁ Bd hml hv
  obtain ⟨rfl, hsz, hP, hK, hD0⟩ := hv
  have hx := Bd.exec
  have hb := Bd.bytes
  have hr := Bd.returns
  have hts := atoms_spec (ws := wsJ7_fill_53178) Bd.pre
  have hown : s.vm.findClass RJ7 = some mid.cls := findClass_of_methodNamed Bd.named
  have hlocks := Bd.notSynchronized
  subst hsz
  have hD := hD0.self (sz := s.heap.size)
  generalize hAe : va_A ([(y, .inl (cI, 6, .inl f))]) s.heap.size = A at hD ⊢
  have hA : ∀ q : Nat, s.heap.size ≤ q → A q := fun q h => by rw [← hAe]; exact Or.inr h
  have hS : va_S A s.heap s.heap [] := va_S.rf
  have hP : va_P D vwCl ([(y, .inl (cI, 6, .inl f))]) s.heap := hP
  have hD : va_D A ([(y, .inl (cI, 6, .inl f))]) := hD
  have hl := lv_entry ([.ref y, .int v]) (n := 4) (Nat.le_of_ble_eq_true rfl)
  rw [lg_entry_eq]
  generalize (lg_sl ([.ref y, .int v]) ++ List.replicate (4 - (lg_sl ([.ref y, .int v])).length) Slot.unset).toArray = ls at hl ⊢
  have hl : lv_has ls 4 [(0, .ref y), (1, .int v)] := hl
  refine lv_iconst (v := 0) hx hb dJ7_fill_53178_0 (by decide) ?_
  refine lv_istore_n (lv' := [(2, .int 0), (0, .ref y), (1, .int v)]) hx hb dJ7_fill_53178_1 rfl hl (by decide) rfl (fun ls hl => ?_)
  refine lv_aload_n hx hb dJ7_fill_53178_2 rfl (lv_at hl 1 rfl) ?_
  refine va_alen (v := 6) hx hb hK hP 0 0 rfl rfl rfl dJ7_fill_53178_3 ?_
  refine lv_istore_n (lv' := [(3, .int 6), (2, .int 0), (0, .ref y), (1, .int v)]) hx hb dJ7_fill_53178_4 rfl hl (by decide) rfl (fun ls hl => ?_)
  refine W_gen (fun R Q hR hQ => ?_)
  have loop_5 : ∀ (n : Nat) (j : Nat) (i2 : Int32) (g : Nat → Int32), (j ≤ 6) → (7 ≤ j + n) → (i2 = nI j) → (g = fa_fill (fun _ => v) f j) → ∀ (H : Heap) (locs : List Loc), va_P D vwCl ([(y, .inl (cI, 6, .inl g))]) H → va_D A ([(y, .inl (cI, 6, .inl g))]) → va_S A s.heap H locs → ∀ ls : Array Slot, lv_has ls 4 [(3, .int 6), (2, .int i2), (0, .ref y), (1, .int v)] → W pr l env R s mid ([.ref y, .int v] : List Value).toArray below meth cod H locs 0 0 Q (F0 mid 5 ls []) := by
    subst hR; subst hQ
    intro n
    induction n with
    | zero =>
      intro j i2 g hj hn e2 eg H locs hP hD hS ls hl
      exfalso; omega
    | succ n ih =>
      intro j i2 g hj hn e2 eg H locs hP hD hS ls hl
      refine lv_iload_n hx hb dJ7_fill_53178_5 rfl (lv_at hl 1 rfl) ?_
      refine lv_iload_n hx hb dJ7_fill_53178_6 rfl (lv_at hl 0 rfl) ?_
      refine lv_icmp_ge (tgt := 20) hx hb dJ7_fill_53178_7 (by decide) (fun c_7 => ?_) (fun c_7 => ?_)
      · skip
        have h6 : 6 ≤ j := ge_of (N := 6) e2 (by omega) rfl c_7
        exact W.vret hx hb hr (fun t ht hW => ⟨⟨g, rfl, by rw [eg, show j = 6 by omega], by rw [ht]; exact hP, hD⟩, hS.F ht⟩) hS.2.2 dJ7_fill_53178_20
      · skip
        have h6 : j < 6 := lt_of (N := 6) e2 (by omega) rfl c_7
        refine lv_aload_n hx hb dJ7_fill_53178_10 rfl (lv_at hl 2 rfl) ?_
        refine lv_iload_n hx hb dJ7_fill_53178_11 rfl (lv_at hl 1 rfl) ?_
        refine lv_iload_n hx hb dJ7_fill_53178_12 rfl (lv_at hl 3 rfl) ?_
        refine va_iast (f := g) (n := 6) hx hb hK hP hD hS 0 0 rfl rfl (by rw [e2]; exact vp_in_nI h6 (by decide)) dJ7_fill_53178_13 (fun H locs hP hD hS => ?_)
        have hP : va_P D vwCl ([(y, .inl (cI, 6, .inl (upd g i2.toNatClampNeg v)))]) H := hP
        have hD : va_D A ([(y, .inl (cI, 6, .inl (upd g i2.toNatClampNeg v)))]) := hD
        refine lv_iinc (v := i2 + 1) (lv' := [(2, .int (i2 + 1)), (3, .int 6), (0, .ref y), (1, .int v)]) hx hb dJ7_fill_53178_14 hl (k := 1) rfl rfl (by decide) rfl (fun ls hl => ?_)
        refine lv_goto (tgt := 5) hx hb dJ7_fill_53178_17 (by decide) ?_
        exact ih (j + 1) (i2 + 1) (upd g i2.toNatClampNeg v) (by omega) (by omega) (by rw [e2]; exact nI_1 j) (by rw [eg, e2, nI_clamp (by omega)]; exact fa_fill_succ (fun _ => v) f j) _ _ hP hD hS _ (lv_sub hl [1, 0, 2, 3] rfl)
  exact loop_5 7 0 0 f (Nat.zero_le _) (by omega) nI_0.symm ((fa_fill_0 _ _).symm) _ _ hP hD hS _ (lv_sub hl [0, 1, 2, 3] rfl)
set_option maxHeartbeats 4000000 in
set_option maxRecDepth 100000 in
theorem c_X0_noteCalled (l : Launch) (D : va_G) (cI cZ : ClassId) (x : Nat) (a : Nat → Nat) (S : ST) (sz : Nat) (q : Int32) (hc : vp_in (S 11 0) 24) : Met l yX0_noteCalled wsX0_noteCalled rmX0_noteCalled (va_Pc [.ref x, .int q] (pW D (tyX cI cZ) (wX cI cZ x a S) sz)) (va_Qv (fun (u : ST) => u = row (row S 9 (upd (S 9) (S 11 0).toNatClampNeg q)) 11 (kf ((S 11 0) + 1))) (fun (u : ST) t => atW D (wX cI cZ x a u) (va_A (wX cI cZ x a S) sz) t) (va_A (wX cI cZ x a S) sz)) 0 0 (va_A (wX cI cZ x a S) sz) := by
  refine Met.ofW (cc := cX0_noteCalled) (maxL := 2) (ret := none) (by decide) rfl ?_
  intro pr env s mid args below meth cod s₁ Bd hml hv
  obtain ⟨rfl, hsz, hP, hK, hD0⟩ := hv
  have hx := Bd.exec
  have hb := Bd.bytes
  have hr := Bd.returns
  have hts := atoms_spec (ws := wsX0_noteCalled) Bd.pre
  have hown : s.vm.findClass RX0 = some mid.cls := findClass_of_methodNamed Bd.named
  have hlocks := Bd.notSynchronized
  have hin : ∀ w ∈ wsX00, w ∈ wsX0_noteCalled := fun _ h => List.mem_cons_of_mem _ (List.mem_append_right _ h)
  subst hsz
  have hD := hD0.self (sz := s.heap.size)
  generalize hAe : va_A (wX cI cZ x a S) s.heap.size = A at hD ⊢
  have hA : ∀ q : Nat, s.heap.size ≤ q → A q := fun q h => by rw [← hAe]; exact Or.inr h
  have hS : va_S A s.heap s.heap [] := va_S.rf
  have hP : va_P D vwCl (wX cI cZ x a S) s.heap := hP
  have hD : va_D A (wX cI cZ x a S) := hD
  have hl := lv_entry ([.ref x, .int q]) (n := 2) (Nat.le_of_ble_eq_true rfl)
  rw [lg_entry_eq]
  generalize (lg_sl ([.ref x, .int q]) ++ List.replicate (2 - (lg_sl ([.ref x, .int q])).length) Slot.unset).toArray = ls at hl ⊢
  have hl : lv_has ls 2 [(0, .ref x), (1, .int q)] := hl
  refine lv_aload_n hx hb dX0_noteCalled_0 rfl (lv_at hl 0 rfl) ?_
  have hf122 := hts (.fieldLink RX0 122 "Clockmask" "calledCount" "I") (by decide +kernel)
  refine va_get (D := D) (ci := 0) (v := .int (S 11 0)) (C := RX0) (T := TX0) (N := 17) hx hb hts hin hown hK hP 0 rfl rfl 11 (by decide) hf122 (fun _ h9 => h9) rfl dX0_noteCalled_1 ?_
  refine lv_aload_n hx hb dX0_noteCalled_4 rfl (lv_at hl 0 rfl) ?_
  have hf38 := hts (.fieldLink RX0 38 "Clockmask" "calledCues" "[I") (by decide +kernel)
  refine va_get (D := D) (ci := 0) (v := .ref (a 9)) (C := RX0) (T := TX0) (N := 17) hx hb hts hin hown hK hP 0 rfl rfl 9 (by decide) hf38 (fun _ h9 => h9) rfl dX0_noteCalled_5 ?_
  refine va_alen (v := 24) hx hb hK hP 10 0 rfl rfl rfl dX0_noteCalled_8 ?_
  refine lv_icmp_ge (tgt := 32) hx hb dX0_noteCalled_9 (by decide) (fun c_9 => ?_) (fun c_9 => ?_)
  · skip
    exact absurd c_9 (vin_nge hc rfl)
  · skip
    refine lv_aload_n hx hb dX0_noteCalled_12 rfl (lv_at hl 0 rfl) ?_
    refine va_get (D := D) (ci := 0) (v := .ref (a 9)) (C := RX0) (T := TX0) (N := 17) hx hb hts hin hown hK hP 0 rfl rfl 9 (by decide) hf38 (fun _ h9 => h9) rfl dX0_noteCalled_13 ?_
    refine lv_aload_n hx hb dX0_noteCalled_16 rfl (lv_at hl 0 rfl) ?_
    refine va_get (D := D) (ci := 0) (v := .int (S 11 0)) (C := RX0) (T := TX0) (N := 17) hx hb hts hin hown hK hP 0 rfl rfl 11 (by decide) hf122 (fun _ h9 => h9) rfl dX0_noteCalled_17 ?_
    refine lv_iload_n hx hb dX0_noteCalled_20 rfl (lv_at hl 1 rfl) ?_
    refine va_iast (f := S 9) (n := 24) hx hb hK hP hD hS 10 0 rfl rfl hc dX0_noteCalled_21 (fun H locs hP hD hS => ?_)
    have hP : va_P D vwCl (wXr cI cZ x a (S 0) (S 1) (S 2) (S 3) (S 4) (S 5) (S 6) (S 7) (S 8) (upd (S 9) (S 11 0).toNatClampNeg q) (S 10 0) (S 11 0) (S 12) (S 13) (S 14 0) (S 15 0) (S 16)) H := hP
    have hD : va_D A (wXr cI cZ x a (S 0) (S 1) (S 2) (S 3) (S 4) (S 5) (S 6) (S 7) (S 8) (upd (S 9) (S 11 0).toNatClampNeg q) (S 10 0) (S 11 0) (S 12) (S 13) (S 14 0) (S 15 0) (S 16)) := hD
    refine lv_aload_n hx hb dX0_noteCalled_22 rfl (lv_at hl 0 rfl) ?_
    refine lv_dup hx hb dX0_noteCalled_23 rfl ?_
    refine va_get (D := D) (ci := 0) (v := .int (S 11 0)) (C := RX0) (T := TX0) (N := 17) hx hb hts hin hown hK hP 0 rfl rfl 11 (by decide) hf122 (fun _ h9 => h9) rfl dX0_noteCalled_24 ?_
    refine lv_iconst (v := 1) hx hb dX0_noteCalled_27 (by decide) ?_
    refine lv_iadd hx hb dX0_noteCalled_28 ?_
    refine va_put (D := D) (ci := 0) (v := .int ((S 11 0) + 1)) (ty := .int) (C := RX0) (T := TX0) (N := 17) hx hb hts hin tyX0 tyX0_ok nmX0 hown hK hP hD hS 0 rfl rfl 11 (by decide) hf122 (fun _ h9 => h9) rfl (by decide +kernel) rfl rfl (Nat.le_of_ble_eq_true rfl) dX0_noteCalled_29 (fun H locs hP hD hS => ?_)
    have hP : va_P D vwCl (wXr cI cZ x a (S 0) (S 1) (S 2) (S 3) (S 4) (S 5) (S 6) (S 7) (S 8) (upd (S 9) (S 11 0).toNatClampNeg q) (S 10 0) ((S 11 0) + 1) (S 12) (S 13) (S 14 0) (S 15 0) (S 16)) H := hP
    have hD : va_D A (wXr cI cZ x a (S 0) (S 1) (S 2) (S 3) (S 4) (S 5) (S 6) (S 7) (S 8) (upd (S 9) (S 11 0).toNatClampNeg q) (S 10 0) ((S 11 0) + 1) (S 12) (S 13) (S 14 0) (S 15 0) (S 16)) := hD
    exact W.vret hx hb hr (fun t ht hW => ⟨⟨row (row S 9 (upd (S 9) (S 11 0).toNatClampNeg q)) 11 (kf ((S 11 0) + 1)), rfl, rfl, by rw [ht]; exact hP, hD⟩, hS.F ht⟩) hS.2.2 dX0_noteCalled_32
set_option maxHeartbeats 4000000 in
set_option maxRecDepth 100000 in
theorem c_X0_leaveStage (l : Launch) (D : va_G) (cI cZ : ClassId) (x : Nat) (a : Nat → Nat) (S : ST) (sz : Nat) (p : Int32) (hp : vp_in p 6) (hd : S 0 p.toNatClampNeg ≠ -1) (hc : vp_in (S 0 p.toNatClampNeg) 8) : Met l yX0_leaveStage wsX0_leaveStage rmX0_leaveStage (va_Pc [.ref x, .int p] (pW D (tyX cI cZ) (wX cI cZ x a S) sz)) (va_Qv (fun (u : ST) => u = leave S p.toNatClampNeg) (fun (u : ST) t => atW D (wX cI cZ x a u) (va_A (wX cI cZ x a S) sz) t) (va_A (wX cI cZ x a S) sz)) 0 0 (va_A (wX cI cZ x a S) sz) := by
  refine Met.ofW (cc := cX0_leaveStage) (maxL := 3) (ret := none) (by decide) rfl ?_
  intro pr env s mid args below meth cod s₁ Bd hml hv
  obtain ⟨rfl, hsz, hP, hK, hD0⟩ := hv
  have hx := Bd.exec
  have hb := Bd.bytes
  have hr := Bd.returns
  have hts := atoms_spec (ws := wsX0_leaveStage) Bd.pre
  have hown : s.vm.findClass RX0 = some mid.cls := findClass_of_methodNamed Bd.named
  have hlocks := Bd.notSynchronized
  have hin : ∀ w ∈ wsX00, w ∈ wsX0_leaveStage := fun _ h => List.mem_cons_of_mem _ (List.mem_append_right _ h)
  subst hsz
  have hD := hD0.self (sz := s.heap.size)
  generalize hAe : va_A (wX cI cZ x a S) s.heap.size = A at hD ⊢
  have hA : ∀ q : Nat, s.heap.size ≤ q → A q := fun q h => by rw [← hAe]; exact Or.inr h
  have hS : va_S A s.heap s.heap [] := va_S.rf
  have hP : va_P D vwCl (wX cI cZ x a S) s.heap := hP
  have hD : va_D A (wX cI cZ x a S) := hD
  have hl := lv_entry ([.ref x, .int p]) (n := 3) (Nat.le_of_ble_eq_true rfl)
  rw [lg_entry_eq]
  generalize (lg_sl ([.ref x, .int p]) ++ List.replicate (3 - (lg_sl ([.ref x, .int p])).length) Slot.unset).toArray = ls at hl ⊢
  have hl : lv_has ls 3 [(0, .ref x), (1, .int p)] := hl
  refine lv_aload_n hx hb dX0_leaveStage_0 rfl (lv_at hl 0 rfl) ?_
  have hf16 := hts (.fieldLink RX0 16 "Clockmask" "onStage" "[Z") (by decide +kernel)
  refine va_get (D := D) (ci := 0) (v := .ref (a 2)) (C := RX0) (T := TX0) (N := 17) hx hb hts hin hown hK hP 0 rfl rfl 2 (by decide) hf16 (fun _ h9 => h9) rfl dX0_leaveStage_1 ?_
  refine lv_iload_n hx hb dX0_leaveStage_4 rfl (lv_at hl 1 rfl) ?_
  refine lv_iconst (v := 0) hx hb dX0_leaveStage_5 (by decide) ?_
  refine va_zast (f := S 2) (n := 6) hx hb hK hP hD hS 3 1 rfl rfl (by assumption) dX0_leaveStage_6 (fun H locs hP hD hS => ?_)
  have hP : va_P D vwCl (wXr cI cZ x a (S 0) (S 1) (upd (S 2) p.toNatClampNeg 0) (S 3) (S 4) (S 5) (S 6) (S 7) (S 8) (S 9) (S 10 0) (S 11 0) (S 12) (S 13) (S 14 0) (S 15 0) (S 16)) H := hP
  have hD : va_D A (wXr cI cZ x a (S 0) (S 1) (upd (S 2) p.toNatClampNeg 0) (S 3) (S 4) (S 5) (S 6) (S 7) (S 8) (S 9) (S 10 0) (S 11 0) (S 12) (S 13) (S 14 0) (S 15 0) (S 16)) := hD
  refine lv_aload_n hx hb dX0_leaveStage_7 rfl (lv_at hl 0 rfl) ?_
  have hf9 := hts (.fieldLink RX0 9 "Clockmask" "costumeOfPlayer" "[I") (by decide +kernel)
  refine va_get (D := D) (ci := 0) (v := .ref (a 0)) (C := RX0) (T := TX0) (N := 17) hx hb hts hin hown hK hP 0 rfl rfl 0 (by decide) hf9 (fun _ h9 => h9) rfl dX0_leaveStage_8 ?_
  refine lv_iload_n hx hb dX0_leaveStage_11 rfl (lv_at hl 1 rfl) ?_
  refine va_iald (f := S 0) (n := 6) hx hb hK hP 1 0 rfl rfl (by assumption) dX0_leaveStage_12 ?_
  refine lv_istore_n (lv' := [(2, .int (S 0 p.toNatClampNeg)), (0, .ref x), (1, .int p)]) hx hb dX0_leaveStage_13 rfl hl (by decide) rfl (fun ls hl => ?_)
  refine lv_iload_n hx hb dX0_leaveStage_14 rfl (lv_at hl 0 rfl) ?_
  refine lv_iconst (v := (-1)) hx hb dX0_leaveStage_15 (by decide) ?_
  refine lv_icmp_ne (tgt := 20) hx hb dX0_leaveStage_16 (by decide) (fun c_16 => ?_) (fun c_16 => ?_)
  · skip
    refine lv_aload_n hx hb dX0_leaveStage_20 rfl (lv_at hl 1 rfl) ?_
    have hf20 := hts (.fieldLink RX0 20 "Clockmask" "wearOfCostume" "[I") (by decide +kernel)
    refine va_get (D := D) (ci := 0) (v := .ref (a 3)) (C := RX0) (T := TX0) (N := 17) hx hb hts hin hown hK hP 0 rfl rfl 3 (by decide) hf20 (fun _ h9 => h9) rfl dX0_leaveStage_21 ?_
    refine lv_iload_n hx hb dX0_leaveStage_24 rfl (lv_at hl 0 rfl) ?_
    refine lv_dup2_11 hx hb dX0_leaveStage_25 rfl rfl ?_
    refine va_iald (f := S 3) (n := 8) hx hb hK hP 4 0 rfl rfl (by assumption) dX0_leaveStage_26 ?_
    refine lv_iconst (v := 1) hx hb dX0_leaveStage_27 (by decide) ?_
    refine lv_iadd hx hb dX0_leaveStage_28 ?_
    refine va_iast (f := S 3) (n := 8) hx hb hK hP hD hS 4 0 rfl rfl (by assumption) dX0_leaveStage_29 (fun H locs hP hD hS => ?_)
    have hP : va_P D vwCl (wXr cI cZ x a (S 0) (S 1) (upd (S 2) p.toNatClampNeg 0) (upd (S 3) (S 0 p.toNatClampNeg).toNatClampNeg ((S 3 (S 0 p.toNatClampNeg).toNatClampNeg) + 1)) (S 4) (S 5) (S 6) (S 7) (S 8) (S 9) (S 10 0) (S 11 0) (S 12) (S 13) (S 14 0) (S 15 0) (S 16)) H := hP
    have hD : va_D A (wXr cI cZ x a (S 0) (S 1) (upd (S 2) p.toNatClampNeg 0) (upd (S 3) (S 0 p.toNatClampNeg).toNatClampNeg ((S 3 (S 0 p.toNatClampNeg).toNatClampNeg) + 1)) (S 4) (S 5) (S 6) (S 7) (S 8) (S 9) (S 10 0) (S 11 0) (S 12) (S 13) (S 14 0) (S 15 0) (S 16)) := hD
    refine lv_aload_n hx hb dX0_leaveStage_30 rfl (lv_at hl 1 rfl) ?_
    refine va_get (D := D) (ci := 0) (v := .ref (a 3)) (C := RX0) (T := TX0) (N := 17) hx hb hts hin hown hK hP 0 rfl rfl 3 (by decide) hf20 (fun _ h9 => h9) rfl dX0_leaveStage_31 ?_
    refine lv_iload_n hx hb dX0_leaveStage_34 rfl (lv_at hl 0 rfl) ?_
    refine va_iald (f := upd (S 3) (S 0 p.toNatClampNeg).toNatClampNeg ((S 3 (S 0 p.toNatClampNeg).toNatClampNeg) + 1)) (n := 8) hx hb hK hP 4 0 rfl rfl (by assumption) dX0_leaveStage_35 ?_
    refine lv_iconst (v := 3) hx hb dX0_leaveStage_36 (by decide) ?_
    rw [pk_us]
    refine lv_icmp_lt (tgt := 47) hx hb dX0_leaveStage_37 (by decide) (fun c_37 => ?_) (fun c_37 => ?_)
    · skip
      exact W.vret hx hb hr (fun t ht hW => ⟨⟨row (row S 2 (upd (S 2) p.toNatClampNeg 0)) 3 (upd (S 3) (S 0 p.toNatClampNeg).toNatClampNeg ((S 3 (S 0 p.toNatClampNeg).toNatClampNeg) + 1)), rfl, (leave_f (fun h => le_nlt h c_37)).symm, by rw [ht]; exact hP, hD⟩, hS.F ht⟩) hS.2.2 dX0_leaveStage_47
    · skip
      refine lv_aload_n hx hb dX0_leaveStage_40 rfl (lv_at hl 1 rfl) ?_
      refine va_get (D := D) (ci := 0) (v := .ref (a 0)) (C := RX0) (T := TX0) (N := 17) hx hb hts hin hown hK hP 0 rfl rfl 0 (by decide) hf9 (fun _ h9 => h9) rfl dX0_leaveStage_41 ?_
      refine lv_iload_n hx hb dX0_leaveStage_44 rfl (lv_at hl 2 rfl) ?_
      refine lv_iconst (v := (-1)) hx hb dX0_leaveStage_45 (by decide) ?_
      refine va_iast (f := S 0) (n := 6) hx hb hK hP hD hS 1 0 rfl rfl (by assumption) dX0_leaveStage_46 (fun H locs hP hD hS => ?_)
      have hP : va_P D vwCl (wXr cI cZ x a (upd (S 0) p.toNatClampNeg (-1)) (S 1) (upd (S 2) p.toNatClampNeg 0) (upd (S 3) (S 0 p.toNatClampNeg).toNatClampNeg ((S 3 (S 0 p.toNatClampNeg).toNatClampNeg) + 1)) (S 4) (S 5) (S 6) (S 7) (S 8) (S 9) (S 10 0) (S 11 0) (S 12) (S 13) (S 14 0) (S 15 0) (S 16)) H := hP
      have hD : va_D A (wXr cI cZ x a (upd (S 0) p.toNatClampNeg (-1)) (S 1) (upd (S 2) p.toNatClampNeg 0) (upd (S 3) (S 0 p.toNatClampNeg).toNatClampNeg ((S 3 (S 0 p.toNatClampNeg).toNatClampNeg) + 1)) (S 4) (S 5) (S 6) (S 7) (S 8) (S 9) (S 10 0) (S 11 0) (S 12) (S 13) (S 14 0) (S 15 0) (S 16)) := hD
      exact W.vret hx hb hr (fun t ht hW => ⟨⟨row (row (row S 2 (upd (S 2) p.toNatClampNeg 0)) 3 (upd (S 3) (S 0 p.toNatClampNeg).toNatClampNeg ((S 3 (S 0 p.toNatClampNeg).toNatClampNeg) + 1))) 0 (upd (S 0) p.toNatClampNeg (-1)), rfl, (leave_t (Int32.not_lt.mp c_37)).symm, by rw [ht]; exact hP, hD⟩, hS.F ht⟩) hS.2.2 dX0_leaveStage_47
  · skip
    exact absurd c_16 hd
set_option maxHeartbeats 4000000 in
set_option maxRecDepth 100000 in
theorem c_X0_moveMasks_1 (l : Launch) (D : va_G) (cI cZ : ClassId) (x : Nat) (a : Nat → Nat) (S : ST) (sz : Nat) (q : Int32) (hq : vp_in q 24) (hp : vp_in (S 5 q.toNatClampNeg) 6) (ho : S 4 q.toNatClampNeg = 2 ∨ S 4 q.toNatClampNeg = 4 → vp_in (S 6 q.toNatClampNeg) 6) : Met l yX0_moveMasks wsX0_moveMasks rmX0_moveMasks (va_Pc [.ref x, .int q, .ref (a 1)] (pW D (tyX cI cZ) (wX cI cZ x a S) sz)) (va_Qv (fun (u : ST) => u = row S 1 (mv S q.toNatClampNeg (S 1))) (fun (u : ST) t => atW D (wX cI cZ x a u) (va_A (wX cI cZ x a S) sz) t) (va_A (wX cI cZ x a S) sz)) 0 0 (va_A (wX cI cZ x a S) sz) := by
  refine Met.ofW (cc := cX0_moveMasks) (maxL := 6) (ret := none) (by decide) rfl ?_
  intro pr env s mid args below meth cod s₁ Bd hml hv
  obtain ⟨rfl, hsz, hP, hK, hD0⟩ := hv
  have hx := Bd.exec
  have hb := Bd.bytes
  have hr := Bd.returns
  have hts := atoms_spec (ws := wsX0_moveMasks) Bd.pre
  have hown : s.vm.findClass RX0 = some mid.cls := findClass_of_methodNamed Bd.named
  have hlocks := Bd.notSynchronized
  have hin : ∀ w ∈ wsX00, w ∈ wsX0_moveMasks := fun _ h => List.mem_cons_of_mem _ (List.mem_append_right _ h)
  subst hsz
  have hD := hD0.self (sz := s.heap.size)
  generalize hAe : va_A (wX cI cZ x a S) s.heap.size = A at hD ⊢
  have hA : ∀ q : Nat, s.heap.size ≤ q → A q := fun q h => by rw [← hAe]; exact Or.inr h
  have hS : va_S A s.heap s.heap [] := va_S.rf
  have hP : va_P D vwCl (wX cI cZ x a S) s.heap := hP
  have hD : va_D A (wX cI cZ x a S) := hD
  have hl := lv_entry ([.ref x, .int q, .ref (a 1)]) (n := 6) (Nat.le_of_ble_eq_true rfl)
  rw [lg_entry_eq]
  generalize (lg_sl ([.ref x, .int q, .ref (a 1)]) ++ List.replicate (6 - (lg_sl ([.ref x, .int q, .ref (a 1)])).length) Slot.unset).toArray = ls at hl ⊢
  have hl : lv_has ls 6 [(0, .ref x), (1, .int q), (2, .ref (a 1))] := hl
  refine lv_aload_n hx hb dX0_moveMasks_0 rfl (lv_at hl 0 rfl) ?_
  have hf26 := hts (.fieldLink RX0 26 "Clockmask" "cuePlayer" "[I") (by decide +kernel)
  refine va_get (D := D) (ci := 0) (v := .ref (a 5)) (C := RX0) (T := TX0) (N := 17) hx hb hts hin hown hK hP 0 rfl rfl 5 (by decide) hf26 (fun _ h9 => h9) rfl dX0_moveMasks_1 ?_
  refine lv_iload_n hx hb dX0_moveMasks_4 rfl (lv_at hl 1 rfl) ?_
  refine va_iald (f := S 5) (n := 24) hx hb hK hP 6 0 rfl rfl (by assumption) dX0_moveMasks_5 ?_
  refine lv_istore_n (lv' := [(3, .int (S 5 q.toNatClampNeg)), (0, .ref x), (1, .int q), (2, .ref (a 1))]) hx hb dX0_moveMasks_6 rfl hl (by decide) rfl (fun ls hl => ?_)
  refine lv_aload_n hx hb dX0_moveMasks_7 rfl (lv_at hl 1 rfl) ?_
  have hf29 := hts (.fieldLink RX0 29 "Clockmask" "cueOther" "[I") (by decide +kernel)
  refine va_get (D := D) (ci := 0) (v := .ref (a 6)) (C := RX0) (T := TX0) (N := 17) hx hb hts hin hown hK hP 0 rfl rfl 6 (by decide) hf29 (fun _ h9 => h9) rfl dX0_moveMasks_8 ?_
  refine lv_iload_n hx hb dX0_moveMasks_11 rfl (lv_at hl 2 rfl) ?_
  refine va_iald (f := S 6) (n := 24) hx hb hK hP 7 0 rfl rfl (by assumption) dX0_moveMasks_12 ?_
  refine lv_istore (lv' := [(4, .int (S 6 q.toNatClampNeg)), (3, .int (S 5 q.toNatClampNeg)), (0, .ref x), (1, .int q), (2, .ref (a 1))]) hx hb dX0_moveMasks_13 hl (by decide) rfl (fun ls hl => ?_)
  refine lv_aload_n hx hb dX0_moveMasks_15 rfl (lv_at hl 2 rfl) ?_
  have hf23 := hts (.fieldLink RX0 23 "Clockmask" "cueKind" "[I") (by decide +kernel)
  refine va_get (D := D) (ci := 0) (v := .ref (a 4)) (C := RX0) (T := TX0) (N := 17) hx hb hts hin hown hK hP 0 rfl rfl 4 (by decide) hf23 (fun _ h9 => h9) rfl dX0_moveMasks_16 ?_
  refine lv_iload_n hx hb dX0_moveMasks_19 rfl (lv_at hl 3 rfl) ?_
  refine va_iald (f := S 4) (n := 24) hx hb hK hP 5 0 rfl rfl (by assumption) dX0_moveMasks_20 ?_
  refine lv_iconst (v := 2) hx hb dX0_moveMasks_21 (by decide) ?_
  refine lv_icmp_ne (tgt := 33) hx hb dX0_moveMasks_22 (by decide) (fun c_22 => ?_) (fun c_22 => ?_)
  · skip
    refine lv_aload_n hx hb dX0_moveMasks_33 rfl (lv_at hl 2 rfl) ?_
    refine va_get (D := D) (ci := 0) (v := .ref (a 4)) (C := RX0) (T := TX0) (N := 17) hx hb hts hin hown hK hP 0 rfl rfl 4 (by decide) hf23 (fun _ h9 => h9) rfl dX0_moveMasks_34 ?_
    refine lv_iload_n hx hb dX0_moveMasks_37 rfl (lv_at hl 3 rfl) ?_
    refine va_iald (f := S 4) (n := 24) hx hb hK hP 5 0 rfl rfl (by assumption) dX0_moveMasks_38 ?_
    refine lv_iconst (v := 3) hx hb dX0_moveMasks_39 (by decide) ?_
    refine lv_icmp_ne (tgt := 50) hx hb dX0_moveMasks_40 (by decide) (fun c_40 => ?_) (fun c_40 => ?_)
    · skip
      refine lv_aload_n hx hb dX0_moveMasks_50 rfl (lv_at hl 2 rfl) ?_
      refine va_get (D := D) (ci := 0) (v := .ref (a 4)) (C := RX0) (T := TX0) (N := 17) hx hb hts hin hown hK hP 0 rfl rfl 4 (by decide) hf23 (fun _ h9 => h9) rfl dX0_moveMasks_51 ?_
      refine lv_iload_n hx hb dX0_moveMasks_54 rfl (lv_at hl 3 rfl) ?_
      refine va_iald (f := S 4) (n := 24) hx hb hK hP 5 0 rfl rfl (by assumption) dX0_moveMasks_55 ?_
      refine lv_iconst (v := 4) hx hb dX0_moveMasks_56 (by decide) ?_
      refine lv_icmp_ne (tgt := 78) hx hb dX0_moveMasks_57 (by decide) (fun c_57 => ?_) (fun c_57 => ?_)
      · skip
        exact W.vret hx hb hr (fun t ht hW => ⟨⟨S, rfl, (row_self' (mvn c_22 c_40 c_57)).symm, by rw [ht]; exact hP, hD⟩, hS.F ht⟩) hS.2.2 dX0_moveMasks_78
      · skip
        refine lv_aload_n hx hb dX0_moveMasks_60 rfl (lv_at hl 4 rfl) ?_
        refine lv_iload_n hx hb dX0_moveMasks_61 rfl (lv_at hl 1 rfl) ?_
        refine va_iald (f := S 1) (n := 6) hx hb hK hP 2 0 rfl rfl hp dX0_moveMasks_62 ?_
        refine lv_istore (lv' := [(5, .int (S 1 (S 5 q.toNatClampNeg).toNatClampNeg)), (4, .int (S 6 q.toNatClampNeg)), (3, .int (S 5 q.toNatClampNeg)), (0, .ref x), (1, .int q), (2, .ref (a 1))]) hx hb dX0_moveMasks_63 hl (by decide) rfl (fun ls hl => ?_)
        refine lv_aload_n hx hb dX0_moveMasks_65 rfl (lv_at hl 5 rfl) ?_
        refine lv_iload_n hx hb dX0_moveMasks_66 rfl (lv_at hl 2 rfl) ?_
        refine lv_aload_n hx hb dX0_moveMasks_67 rfl (lv_at hl 5 rfl) ?_
        refine lv_iload hx hb dX0_moveMasks_68 (lv_at hl 1 rfl) ?_
        refine va_iald (f := S 1) (n := 6) hx hb hK hP 2 0 rfl rfl (ho (Or.inr c_57)) dX0_moveMasks_70 ?_
        refine va_iast (f := S 1) (n := 6) hx hb hK hP hD hS 2 0 rfl rfl hp dX0_moveMasks_71 (fun H locs hP hD hS => ?_)
        have hP : va_P D vwCl (wXr cI cZ x a (S 0) (upd (S 1) (S 5 q.toNatClampNeg).toNatClampNeg (S 1 (S 6 q.toNatClampNeg).toNatClampNeg)) (S 2) (S 3) (S 4) (S 5) (S 6) (S 7) (S 8) (S 9) (S 10 0) (S 11 0) (S 12) (S 13) (S 14 0) (S 15 0) (S 16)) H := hP
        have hD : va_D A (wXr cI cZ x a (S 0) (upd (S 1) (S 5 q.toNatClampNeg).toNatClampNeg (S 1 (S 6 q.toNatClampNeg).toNatClampNeg)) (S 2) (S 3) (S 4) (S 5) (S 6) (S 7) (S 8) (S 9) (S 10 0) (S 11 0) (S 12) (S 13) (S 14 0) (S 15 0) (S 16)) := hD
        refine lv_aload_n hx hb dX0_moveMasks_72 rfl (lv_at hl 5 rfl) ?_
        refine lv_iload hx hb dX0_moveMasks_73 (lv_at hl 1 rfl) ?_
        refine lv_iload hx hb dX0_moveMasks_75 (lv_at hl 0 rfl) ?_
        refine va_iast (f := upd (S 1) (S 5 q.toNatClampNeg).toNatClampNeg (S 1 (S 6 q.toNatClampNeg).toNatClampNeg)) (n := 6) hx hb hK hP hD hS 2 0 rfl rfl (ho (Or.inr c_57)) dX0_moveMasks_77 (fun H locs hP hD hS => ?_)
        have hP : va_P D vwCl (wXr cI cZ x a (S 0) (upd (upd (S 1) (S 5 q.toNatClampNeg).toNatClampNeg (S 1 (S 6 q.toNatClampNeg).toNatClampNeg)) (S 6 q.toNatClampNeg).toNatClampNeg (S 1 (S 5 q.toNatClampNeg).toNatClampNeg)) (S 2) (S 3) (S 4) (S 5) (S 6) (S 7) (S 8) (S 9) (S 10 0) (S 11 0) (S 12) (S 13) (S 14 0) (S 15 0) (S 16)) H := hP
        have hD : va_D A (wXr cI cZ x a (S 0) (upd (upd (S 1) (S 5 q.toNatClampNeg).toNatClampNeg (S 1 (S 6 q.toNatClampNeg).toNatClampNeg)) (S 6 q.toNatClampNeg).toNatClampNeg (S 1 (S 5 q.toNatClampNeg).toNatClampNeg)) (S 2) (S 3) (S 4) (S 5) (S 6) (S 7) (S 8) (S 9) (S 10 0) (S 11 0) (S 12) (S 13) (S 14 0) (S 15 0) (S 16)) := hD
        exact W.vret hx hb hr (fun t ht hW => ⟨⟨row S 1 (upd (upd (S 1) (S 5 q.toNatClampNeg).toNatClampNeg (S 1 (S 6 q.toNatClampNeg).toNatClampNeg)) (S 6 q.toNatClampNeg).toNatClampNeg (S 1 (S 5 q.toNatClampNeg).toNatClampNeg)), rfl, by rw [mv4 c_57], by rw [ht]; exact hP, hD⟩, hS.F ht⟩) hS.2.2 dX0_moveMasks_78
    · skip
      refine lv_aload_n hx hb dX0_moveMasks_43 rfl (lv_at hl 4 rfl) ?_
      refine lv_iload_n hx hb dX0_moveMasks_44 rfl (lv_at hl 1 rfl) ?_
      refine lv_iconst (v := (-1)) hx hb dX0_moveMasks_45 (by decide) ?_
      refine va_iast (f := S 1) (n := 6) hx hb hK hP hD hS 2 0 rfl rfl hp dX0_moveMasks_46 (fun H locs hP hD hS => ?_)
      have hP : va_P D vwCl (wXr cI cZ x a (S 0) (upd (S 1) (S 5 q.toNatClampNeg).toNatClampNeg (-1)) (S 2) (S 3) (S 4) (S 5) (S 6) (S 7) (S 8) (S 9) (S 10 0) (S 11 0) (S 12) (S 13) (S 14 0) (S 15 0) (S 16)) H := hP
      have hD : va_D A (wXr cI cZ x a (S 0) (upd (S 1) (S 5 q.toNatClampNeg).toNatClampNeg (-1)) (S 2) (S 3) (S 4) (S 5) (S 6) (S 7) (S 8) (S 9) (S 10 0) (S 11 0) (S 12) (S 13) (S 14 0) (S 15 0) (S 16)) := hD
      refine lv_goto (tgt := 78) hx hb dX0_moveMasks_47 (by decide) ?_
      exact W.vret hx hb hr (fun t ht hW => ⟨⟨row S 1 (upd (S 1) (S 5 q.toNatClampNeg).toNatClampNeg (-1)), rfl, by rw [mv3 c_40], by rw [ht]; exact hP, hD⟩, hS.F ht⟩) hS.2.2 dX0_moveMasks_78
  · skip
    refine lv_aload_n hx hb dX0_moveMasks_25 rfl (lv_at hl 4 rfl) ?_
    refine lv_iload_n hx hb dX0_moveMasks_26 rfl (lv_at hl 1 rfl) ?_
    refine lv_iload hx hb dX0_moveMasks_27 (lv_at hl 0 rfl) ?_
    refine va_iast (f := S 1) (n := 6) hx hb hK hP hD hS 2 0 rfl rfl hp dX0_moveMasks_29 (fun H locs hP hD hS => ?_)
    have hP : va_P D vwCl (wXr cI cZ x a (S 0) (upd (S 1) (S 5 q.toNatClampNeg).toNatClampNeg (S 6 q.toNatClampNeg)) (S 2) (S 3) (S 4) (S 5) (S 6) (S 7) (S 8) (S 9) (S 10 0) (S 11 0) (S 12) (S 13) (S 14 0) (S 15 0) (S 16)) H := hP
    have hD : va_D A (wXr cI cZ x a (S 0) (upd (S 1) (S 5 q.toNatClampNeg).toNatClampNeg (S 6 q.toNatClampNeg)) (S 2) (S 3) (S 4) (S 5) (S 6) (S 7) (S 8) (S 9) (S 10 0) (S 11 0) (S 12) (S 13) (S 14 0) (S 15 0) (S 16)) := hD
    refine lv_goto (tgt := 78) hx hb dX0_moveMasks_30 (by decide) ?_
    exact W.vret hx hb hr (fun t ht hW => ⟨⟨row S 1 (upd (S 1) (S 5 q.toNatClampNeg).toNatClampNeg (S 6 q.toNatClampNeg)), rfl, by rw [mv2 c_22], by rw [ht]; exact hP, hD⟩, hS.F ht⟩) hS.2.2 dX0_moveMasks_78
set_option maxHeartbeats 4000000 in
set_option maxRecDepth 100000 in
theorem c_X0_moveMasks_16 (l : Launch) (D : va_G) (cI cZ : ClassId) (x : Nat) (a : Nat → Nat) (S : ST) (sz : Nat) (q : Int32) (hq : vp_in q 24) (hp : vp_in (S 5 q.toNatClampNeg) 6) (ho : S 4 q.toNatClampNeg = 2 ∨ S 4 q.toNatClampNeg = 4 → vp_in (S 6 q.toNatClampNeg) 6) : Met l yX0_moveMasks wsX0_moveMasks rmX0_moveMasks (va_Pc [.ref x, .int q, .ref (a 16)] (pW D (tyX cI cZ) (wX cI cZ x a S) sz)) (va_Qv (fun (u : ST) => u = row S 16 (mv S q.toNatClampNeg (S 16))) (fun (u : ST) t => atW D (wX cI cZ x a u) (va_A (wX cI cZ x a S) sz) t) (va_A (wX cI cZ x a S) sz)) 0 0 (va_A (wX cI cZ x a S) sz) := by
  refine Met.ofW (cc := cX0_moveMasks) (maxL := 6) (ret := none) (by decide) rfl ?_
  intro pr env s mid args below meth cod s₁ Bd hml hv
  obtain ⟨rfl, hsz, hP, hK, hD0⟩ := hv
  have hx := Bd.exec
  have hb := Bd.bytes
  have hr := Bd.returns
  have hts := atoms_spec (ws := wsX0_moveMasks) Bd.pre
  have hown : s.vm.findClass RX0 = some mid.cls := findClass_of_methodNamed Bd.named
  have hlocks := Bd.notSynchronized
  have hin : ∀ w ∈ wsX00, w ∈ wsX0_moveMasks := fun _ h => List.mem_cons_of_mem _ (List.mem_append_right _ h)
  subst hsz
  have hD := hD0.self (sz := s.heap.size)
  generalize hAe : va_A (wX cI cZ x a S) s.heap.size = A at hD ⊢
  have hA : ∀ q : Nat, s.heap.size ≤ q → A q := fun q h => by rw [← hAe]; exact Or.inr h
  have hS : va_S A s.heap s.heap [] := va_S.rf
  have hP : va_P D vwCl (wX cI cZ x a S) s.heap := hP
  have hD : va_D A (wX cI cZ x a S) := hD
  have hl := lv_entry ([.ref x, .int q, .ref (a 16)]) (n := 6) (Nat.le_of_ble_eq_true rfl)
  rw [lg_entry_eq]
  generalize (lg_sl ([.ref x, .int q, .ref (a 16)]) ++ List.replicate (6 - (lg_sl ([.ref x, .int q, .ref (a 16)])).length) Slot.unset).toArray = ls at hl ⊢
  have hl : lv_has ls 6 [(0, .ref x), (1, .int q), (2, .ref (a 16))] := hl
  refine lv_aload_n hx hb dX0_moveMasks_0 rfl (lv_at hl 0 rfl) ?_
  have hf26 := hts (.fieldLink RX0 26 "Clockmask" "cuePlayer" "[I") (by decide +kernel)
  refine va_get (D := D) (ci := 0) (v := .ref (a 5)) (C := RX0) (T := TX0) (N := 17) hx hb hts hin hown hK hP 0 rfl rfl 5 (by decide) hf26 (fun _ h9 => h9) rfl dX0_moveMasks_1 ?_
  refine lv_iload_n hx hb dX0_moveMasks_4 rfl (lv_at hl 1 rfl) ?_
  refine va_iald (f := S 5) (n := 24) hx hb hK hP 6 0 rfl rfl (by assumption) dX0_moveMasks_5 ?_
  refine lv_istore_n (lv' := [(3, .int (S 5 q.toNatClampNeg)), (0, .ref x), (1, .int q), (2, .ref (a 16))]) hx hb dX0_moveMasks_6 rfl hl (by decide) rfl (fun ls hl => ?_)
  refine lv_aload_n hx hb dX0_moveMasks_7 rfl (lv_at hl 1 rfl) ?_
  have hf29 := hts (.fieldLink RX0 29 "Clockmask" "cueOther" "[I") (by decide +kernel)
  refine va_get (D := D) (ci := 0) (v := .ref (a 6)) (C := RX0) (T := TX0) (N := 17) hx hb hts hin hown hK hP 0 rfl rfl 6 (by decide) hf29 (fun _ h9 => h9) rfl dX0_moveMasks_8 ?_
  refine lv_iload_n hx hb dX0_moveMasks_11 rfl (lv_at hl 2 rfl) ?_
  refine va_iald (f := S 6) (n := 24) hx hb hK hP 7 0 rfl rfl (by assumption) dX0_moveMasks_12 ?_
  refine lv_istore (lv' := [(4, .int (S 6 q.toNatClampNeg)), (3, .int (S 5 q.toNatClampNeg)), (0, .ref x), (1, .int q), (2, .ref (a 16))]) hx hb dX0_moveMasks_13 hl (by decide) rfl (fun ls hl => ?_)
  refine lv_aload_n hx hb dX0_moveMasks_15 rfl (lv_at hl 2 rfl) ?_
  have hf23 := hts (.fieldLink RX0 23 "Clockmask" "cueKind" "[I") (by decide +kernel)
  refine va_get (D := D) (ci := 0) (v := .ref (a 4)) (C := RX0) (T := TX0) (N := 17) hx hb hts hin hown hK hP 0 rfl rfl 4 (by decide) hf23 (fun _ h9 => h9) rfl dX0_moveMasks_16 ?_
  refine lv_iload_n hx hb dX0_moveMasks_19 rfl (lv_at hl 3 rfl) ?_
  refine va_iald (f := S 4) (n := 24) hx hb hK hP 5 0 rfl rfl (by assumption) dX0_moveMasks_20 ?_
  refine lv_iconst (v := 2) hx hb dX0_moveMasks_21 (by decide) ?_
  refine lv_icmp_ne (tgt := 33) hx hb dX0_moveMasks_22 (by decide) (fun c_22 => ?_) (fun c_22 => ?_)
  · skip
    refine lv_aload_n hx hb dX0_moveMasks_33 rfl (lv_at hl 2 rfl) ?_
    refine va_get (D := D) (ci := 0) (v := .ref (a 4)) (C := RX0) (T := TX0) (N := 17) hx hb hts hin hown hK hP 0 rfl rfl 4 (by decide) hf23 (fun _ h9 => h9) rfl dX0_moveMasks_34 ?_
    refine lv_iload_n hx hb dX0_moveMasks_37 rfl (lv_at hl 3 rfl) ?_
    refine va_iald (f := S 4) (n := 24) hx hb hK hP 5 0 rfl rfl (by assumption) dX0_moveMasks_38 ?_
    refine lv_iconst (v := 3) hx hb dX0_moveMasks_39 (by decide) ?_
    refine lv_icmp_ne (tgt := 50) hx hb dX0_moveMasks_40 (by decide) (fun c_40 => ?_) (fun c_40 => ?_)
    · skip
      refine lv_aload_n hx hb dX0_moveMasks_50 rfl (lv_at hl 2 rfl) ?_
      refine va_get (D := D) (ci := 0) (v := .ref (a 4)) (C := RX0) (T := TX0) (N := 17) hx hb hts hin hown hK hP 0 rfl rfl 4 (by decide) hf23 (fun _ h9 => h9) rfl dX0_moveMasks_51 ?_
      refine lv_iload_n hx hb dX0_moveMasks_54 rfl (lv_at hl 3 rfl) ?_
      refine va_iald (f := S 4) (n := 24) hx hb hK hP 5 0 rfl rfl (by assumption) dX0_moveMasks_55 ?_
      refine lv_iconst (v := 4) hx hb dX0_moveMasks_56 (by decide) ?_
      refine lv_icmp_ne (tgt := 78) hx hb dX0_moveMasks_57 (by decide) (fun c_57 => ?_) (fun c_57 => ?_)
      · skip
        exact W.vret hx hb hr (fun t ht hW => ⟨⟨S, rfl, (row_self' (mvn c_22 c_40 c_57)).symm, by rw [ht]; exact hP, hD⟩, hS.F ht⟩) hS.2.2 dX0_moveMasks_78
      · skip
        refine lv_aload_n hx hb dX0_moveMasks_60 rfl (lv_at hl 4 rfl) ?_
        refine lv_iload_n hx hb dX0_moveMasks_61 rfl (lv_at hl 1 rfl) ?_
        refine va_iald (f := S 16) (n := 6) hx hb hK hP 13 0 rfl rfl hp dX0_moveMasks_62 ?_
        refine lv_istore (lv' := [(5, .int (S 16 (S 5 q.toNatClampNeg).toNatClampNeg)), (4, .int (S 6 q.toNatClampNeg)), (3, .int (S 5 q.toNatClampNeg)), (0, .ref x), (1, .int q), (2, .ref (a 16))]) hx hb dX0_moveMasks_63 hl (by decide) rfl (fun ls hl => ?_)
        refine lv_aload_n hx hb dX0_moveMasks_65 rfl (lv_at hl 5 rfl) ?_
        refine lv_iload_n hx hb dX0_moveMasks_66 rfl (lv_at hl 2 rfl) ?_
        refine lv_aload_n hx hb dX0_moveMasks_67 rfl (lv_at hl 5 rfl) ?_
        refine lv_iload hx hb dX0_moveMasks_68 (lv_at hl 1 rfl) ?_
        refine va_iald (f := S 16) (n := 6) hx hb hK hP 13 0 rfl rfl (ho (Or.inr c_57)) dX0_moveMasks_70 ?_
        refine va_iast (f := S 16) (n := 6) hx hb hK hP hD hS 13 0 rfl rfl hp dX0_moveMasks_71 (fun H locs hP hD hS => ?_)
        have hP : va_P D vwCl (wXr cI cZ x a (S 0) (S 1) (S 2) (S 3) (S 4) (S 5) (S 6) (S 7) (S 8) (S 9) (S 10 0) (S 11 0) (S 12) (S 13) (S 14 0) (S 15 0) (upd (S 16) (S 5 q.toNatClampNeg).toNatClampNeg (S 16 (S 6 q.toNatClampNeg).toNatClampNeg))) H := hP
        have hD : va_D A (wXr cI cZ x a (S 0) (S 1) (S 2) (S 3) (S 4) (S 5) (S 6) (S 7) (S 8) (S 9) (S 10 0) (S 11 0) (S 12) (S 13) (S 14 0) (S 15 0) (upd (S 16) (S 5 q.toNatClampNeg).toNatClampNeg (S 16 (S 6 q.toNatClampNeg).toNatClampNeg))) := hD
        refine lv_aload_n hx hb dX0_moveMasks_72 rfl (lv_at hl 5 rfl) ?_
        refine lv_iload hx hb dX0_moveMasks_73 (lv_at hl 1 rfl) ?_
        refine lv_iload hx hb dX0_moveMasks_75 (lv_at hl 0 rfl) ?_
        refine va_iast (f := upd (S 16) (S 5 q.toNatClampNeg).toNatClampNeg (S 16 (S 6 q.toNatClampNeg).toNatClampNeg)) (n := 6) hx hb hK hP hD hS 13 0 rfl rfl (ho (Or.inr c_57)) dX0_moveMasks_77 (fun H locs hP hD hS => ?_)
        have hP : va_P D vwCl (wXr cI cZ x a (S 0) (S 1) (S 2) (S 3) (S 4) (S 5) (S 6) (S 7) (S 8) (S 9) (S 10 0) (S 11 0) (S 12) (S 13) (S 14 0) (S 15 0) (upd (upd (S 16) (S 5 q.toNatClampNeg).toNatClampNeg (S 16 (S 6 q.toNatClampNeg).toNatClampNeg)) (S 6 q.toNatClampNeg).toNatClampNeg (S 16 (S 5 q.toNatClampNeg).toNatClampNeg))) H := hP
        have hD : va_D A (wXr cI cZ x a (S 0) (S 1) (S 2) (S 3) (S 4) (S 5) (S 6) (S 7) (S 8) (S 9) (S 10 0) (S 11 0) (S 12) (S 13) (S 14 0) (S 15 0) (upd (upd (S 16) (S 5 q.toNatClampNeg).toNatClampNeg (S 16 (S 6 q.toNatClampNeg).toNatClampNeg)) (S 6 q.toNatClampNeg).toNatClampNeg (S 16 (S 5 q.toNatClampNeg).toNatClampNeg))) := hD
        exact W.vret hx hb hr (fun t ht hW => ⟨⟨row S 16 (upd (upd (S 16) (S 5 q.toNatClampNeg).toNatClampNeg (S 16 (S 6 q.toNatClampNeg).toNatClampNeg)) (S 6 q.toNatClampNeg).toNatClampNeg (S 16 (S 5 q.toNatClampNeg).toNatClampNeg)), rfl, by rw [mv4 c_57], by rw [ht]; exact hP, hD⟩, hS.F ht⟩) hS.2.2 dX0_moveMasks_78
    · skip
      refine lv_aload_n hx hb dX0_moveMasks_43 rfl (lv_at hl 4 rfl) ?_
      refine lv_iload_n hx hb dX0_moveMasks_44 rfl (lv_at hl 1 rfl) ?_
      refine lv_iconst (v := (-1)) hx hb dX0_moveMasks_45 (by decide) ?_
      refine va_iast (f := S 16) (n := 6) hx hb hK hP hD hS 13 0 rfl rfl hp dX0_moveMasks_46 (fun H locs hP hD hS => ?_)
      have hP : va_P D vwCl (wXr cI cZ x a (S 0) (S 1) (S 2) (S 3) (S 4) (S 5) (S 6) (S 7) (S 8) (S 9) (S 10 0) (S 11 0) (S 12) (S 13) (S 14 0) (S 15 0) (upd (S 16) (S 5 q.toNatClampNeg).toNatClampNeg (-1))) H := hP
      have hD : va_D A (wXr cI cZ x a (S 0) (S 1) (S 2) (S 3) (S 4) (S 5) (S 6) (S 7) (S 8) (S 9) (S 10 0) (S 11 0) (S 12) (S 13) (S 14 0) (S 15 0) (upd (S 16) (S 5 q.toNatClampNeg).toNatClampNeg (-1))) := hD
      refine lv_goto (tgt := 78) hx hb dX0_moveMasks_47 (by decide) ?_
      exact W.vret hx hb hr (fun t ht hW => ⟨⟨row S 16 (upd (S 16) (S 5 q.toNatClampNeg).toNatClampNeg (-1)), rfl, by rw [mv3 c_40], by rw [ht]; exact hP, hD⟩, hS.F ht⟩) hS.2.2 dX0_moveMasks_78
  · skip
    refine lv_aload_n hx hb dX0_moveMasks_25 rfl (lv_at hl 4 rfl) ?_
    refine lv_iload_n hx hb dX0_moveMasks_26 rfl (lv_at hl 1 rfl) ?_
    refine lv_iload hx hb dX0_moveMasks_27 (lv_at hl 0 rfl) ?_
    refine va_iast (f := S 16) (n := 6) hx hb hK hP hD hS 13 0 rfl rfl hp dX0_moveMasks_29 (fun H locs hP hD hS => ?_)
    have hP : va_P D vwCl (wXr cI cZ x a (S 0) (S 1) (S 2) (S 3) (S 4) (S 5) (S 6) (S 7) (S 8) (S 9) (S 10 0) (S 11 0) (S 12) (S 13) (S 14 0) (S 15 0) (upd (S 16) (S 5 q.toNatClampNeg).toNatClampNeg (S 6 q.toNatClampNeg))) H := hP
    have hD : va_D A (wXr cI cZ x a (S 0) (S 1) (S 2) (S 3) (S 4) (S 5) (S 6) (S 7) (S 8) (S 9) (S 10 0) (S 11 0) (S 12) (S 13) (S 14 0) (S 15 0) (upd (S 16) (S 5 q.toNatClampNeg).toNatClampNeg (S 6 q.toNatClampNeg))) := hD
    refine lv_goto (tgt := 78) hx hb dX0_moveMasks_30 (by decide) ?_
    exact W.vret hx hb hr (fun t ht hW => ⟨⟨row S 16 (upd (S 16) (S 5 q.toNatClampNeg).toNatClampNeg (S 6 q.toNatClampNeg)), rfl, by rw [mv2 c_22], by rw [ht]; exact hP, hD⟩, hS.F ht⟩) hS.2.2 dX0_moveMasks_78
set_option maxHeartbeats 4000000 in
set_option maxRecDepth 100000 in
theorem c_X0_carryOut (l : Launch) (D : va_G) (cI cZ : ClassId) (x : Nat) (a : Nat → Nat) (S : ST) (sz : Nat) (q : Int32) (hq : vp_in q 24) (hc : cueOK S q.toNatClampNeg) (hcl : vp_in (S 11 0) 24) (hex : S 4 q.toNatClampNeg = 1 → S 0 (S 5 q.toNatClampNeg).toNatClampNeg ≠ -1 ∧ vp_in (S 0 (S 5 q.toNatClampNeg).toNatClampNeg) 8) : Met l yX0_carryOut wsX0_carryOut rmX0_carryOut (va_Pc [.ref x, .int q] (pW D (tyX cI cZ) (wX cI cZ x a S) sz)) (va_Qv (fun (u : ST) => u = callQ S q) (fun (u : ST) t => atW D (wX cI cZ x a u) (va_A (wX cI cZ x a S) sz) t) (va_A (wX cI cZ x a S) sz)) 0 0 (va_A (wX cI cZ x a S) sz) := by
  refine Met.ofW (cc := cX0_carryOut) (maxL := 3) (ret := none) (by decide) rfl ?_
  intro pr env s mid args below meth cod s₁ Bd hml hv
  obtain ⟨rfl, hsz, hP, hK, hD0⟩ := hv
  have hx := Bd.exec
  have hb := Bd.bytes
  have hr := Bd.returns
  have hts := atoms_spec (ws := wsX0_carryOut) Bd.pre
  have hown : s.vm.findClass RX0 = some mid.cls := findClass_of_methodNamed Bd.named
  have hlocks := Bd.notSynchronized
  have hin : ∀ w ∈ wsX00, w ∈ wsX0_carryOut := fun _ h => List.mem_cons_of_mem _ (List.mem_append_right _ h)
  subst hsz
  have hD := hD0.self (sz := s.heap.size)
  generalize hAe : va_A (wX cI cZ x a S) s.heap.size = A at hD ⊢
  have hA : ∀ q : Nat, s.heap.size ≤ q → A q := fun q h => by rw [← hAe]; exact Or.inr h
  have hS : va_S A s.heap s.heap [] := va_S.rf
  have hP : va_P D vwCl (wX cI cZ x a S) s.heap := hP
  have hD : va_D A (wX cI cZ x a S) := hD
  have hl := lv_entry ([.ref x, .int q]) (n := 3) (Nat.le_of_ble_eq_true rfl)
  rw [lg_entry_eq]
  generalize (lg_sl ([.ref x, .int q]) ++ List.replicate (3 - (lg_sl ([.ref x, .int q])).length) Slot.unset).toArray = ls at hl ⊢
  have hl : lv_has ls 3 [(0, .ref x), (1, .int q)] := hl
  refine lv_aload_n hx hb dX0_carryOut_0 rfl (lv_at hl 0 rfl) ?_
  have hf26 := hts (.fieldLink RX0 26 "Clockmask" "cuePlayer" "[I") (by decide +kernel)
  refine va_get (D := D) (ci := 0) (v := .ref (a 5)) (C := RX0) (T := TX0) (N := 17) hx hb hts hin hown hK hP 0 rfl rfl 5 (by decide) hf26 (fun _ h9 => h9) rfl dX0_carryOut_1 ?_
  refine lv_iload_n hx hb dX0_carryOut_4 rfl (lv_at hl 1 rfl) ?_
  refine va_iald (f := S 5) (n := 24) hx hb hK hP 6 0 rfl rfl (by assumption) dX0_carryOut_5 ?_
  refine lv_istore_n (lv' := [(2, .int (S 5 q.toNatClampNeg)), (0, .ref x), (1, .int q)]) hx hb dX0_carryOut_6 rfl hl (by decide) rfl (fun ls hl => ?_)
  refine lv_aload_n hx hb dX0_carryOut_7 rfl (lv_at hl 1 rfl) ?_
  have hf23 := hts (.fieldLink RX0 23 "Clockmask" "cueKind" "[I") (by decide +kernel)
  refine va_get (D := D) (ci := 0) (v := .ref (a 4)) (C := RX0) (T := TX0) (N := 17) hx hb hts hin hown hK hP 0 rfl rfl 4 (by decide) hf23 (fun _ h9 => h9) rfl dX0_carryOut_8 ?_
  refine lv_iload_n hx hb dX0_carryOut_11 rfl (lv_at hl 2 rfl) ?_
  refine va_iald (f := S 4) (n := 24) hx hb hK hP 5 0 rfl rfl (by assumption) dX0_carryOut_12 ?_
  refine lv_if_ne (tgt := 26) hx hb dX0_carryOut_13 (by decide) (fun c_13 => ?_) (fun c_13 => ?_)
  · skip
    refine lv_aload_n hx hb dX0_carryOut_26 rfl (lv_at hl 1 rfl) ?_
    refine va_get (D := D) (ci := 0) (v := .ref (a 4)) (C := RX0) (T := TX0) (N := 17) hx hb hts hin hown hK hP 0 rfl rfl 4 (by decide) hf23 (fun _ h9 => h9) rfl dX0_carryOut_27 ?_
    refine lv_iload_n hx hb dX0_carryOut_30 rfl (lv_at hl 2 rfl) ?_
    refine va_iald (f := S 4) (n := 24) hx hb hK hP 5 0 rfl rfl (by assumption) dX0_carryOut_31 ?_
    refine lv_iconst (v := 1) hx hb dX0_carryOut_32 (by decide) ?_
    refine lv_icmp_ne (tgt := 44) hx hb dX0_carryOut_33 (by decide) (fun c_33 => ?_) (fun c_33 => ?_)
    · skip
      refine lv_aload_n hx hb dX0_carryOut_44 rfl (lv_at hl 1 rfl) ?_
      refine lv_iload_n hx hb dX0_carryOut_45 rfl (lv_at hl 2 rfl) ?_
      refine lv_aload_n hx hb dX0_carryOut_46 rfl (lv_at hl 1 rfl) ?_
      have hf13 := hts (.fieldLink RX0 13 "Clockmask" "maskOfPlayer" "[I") (by decide +kernel)
      refine va_get (D := D) (ci := 0) (v := .ref (a 1)) (C := RX0) (T := TX0) (N := 17) hx hb hts hin hown hK hP 0 rfl rfl 1 (by decide) hf13 (fun _ h9 => h9) rfl dX0_carryOut_47 ?_
      have hFc := wfree hD hS hA
      refine va_callv (va_runV (As := [.int q, .ref (a 1)]) (rest := []) ⟨hx, hb, hml, hown, hts⟩ (c_X0_moveMasks_1 l D cI cZ x a S s.heap.size q hq hc.2.1 hc.2.2.1) (cwV 2 hts gX0_carryOut_X0_moveMasks rfl rfl rfl (by decide +kernel) ⟨Nat.le_of_ble_eq_true rfl, Nat.le_of_ble_eq_true rfl⟩) (pW_V (ci := 0) hP hK hD rfl rfl) rfl rfl hl.1 rfl (lv_room (Nat.le_of_ble_eq_true rfl)) dX0_carryOut_50 ⟨Nat.zero_le _, Nat.zero_le _⟩) hS (fun q _ h => hFc q h) hFc (fun u_50 t9 H1 locs ht9 hvm9 h_50 hB9 hz9 hk9 hS => ?_)
      subst h_50
      have hP : va_P D vwCl (wXr cI cZ x a (S 0) (mv S q.toNatClampNeg (S 1)) (S 2) (S 3) (S 4) (S 5) (S 6) (S 7) (S 8) (S 9) (S 10 0) (S 11 0) (S 12) (S 13) (S 14 0) (S 15 0) (S 16)) H1 := atW_P hB9 ht9
      have hD : va_D A (wXr cI cZ x a (S 0) (mv S q.toNatClampNeg (S 1)) (S 2) (S 3) (S 4) (S 5) (S 6) (S 7) (S 8) (S 9) (S 10 0) (S 11 0) (S 12) (S 13) (S 14 0) (S 15 0) (S 16)) := atW_D hB9 hFc
      generalize H1 = H at hP hS ⊢
      refine lv_aload_n hx hb dX0_carryOut_53 rfl (lv_at hl 1 rfl) ?_
      have hf35 := hts (.fieldLink RX0 35 "Clockmask" "cueState" "[I") (by decide +kernel)
      refine va_get (D := D) (ci := 0) (v := .ref (a 8)) (C := RX0) (T := TX0) (N := 17) hx hb hts hin hown hK hP 0 rfl rfl 8 (by decide) hf35 (fun _ h9 => h9) rfl dX0_carryOut_54 ?_
      refine lv_iload_n hx hb dX0_carryOut_57 rfl (lv_at hl 2 rfl) ?_
      refine lv_iconst (v := 1) hx hb dX0_carryOut_58 (by decide) ?_
      refine va_iast (f := S 8) (n := 24) hx hb hK hP hD hS 9 0 rfl rfl (by assumption) dX0_carryOut_59 (fun H locs hP hD hS => ?_)
      have hP : va_P D vwCl (wXr cI cZ x a (S 0) (mv S q.toNatClampNeg (S 1)) (S 2) (S 3) (S 4) (S 5) (S 6) (S 7) (upd (S 8) q.toNatClampNeg 1) (S 9) (S 10 0) (S 11 0) (S 12) (S 13) (S 14 0) (S 15 0) (S 16)) H := hP
      have hD : va_D A (wXr cI cZ x a (S 0) (mv S q.toNatClampNeg (S 1)) (S 2) (S 3) (S 4) (S 5) (S 6) (S 7) (upd (S 8) q.toNatClampNeg 1) (S 9) (S 10 0) (S 11 0) (S 12) (S 13) (S 14 0) (S 15 0) (S 16)) := hD
      refine lv_aload_n hx hb dX0_carryOut_60 rfl (lv_at hl 1 rfl) ?_
      refine lv_iload_n hx hb dX0_carryOut_61 rfl (lv_at hl 2 rfl) ?_
      have hPs : va_P D vwCl (wX cI cZ x a (row (row S 1 (mv S q.toNatClampNeg (S 1))) 8 (upd (S 8) q.toNatClampNeg 1))) H := hP
      have hDs : va_D A (wX cI cZ x a (row (row S 1 (mv S q.toNatClampNeg (S 1))) 8 (upd (S 8) q.toNatClampNeg 1))) := hD
      have hFc := wfree hDs hS hA
      refine va_callv (va_runV (As := [.int q]) (rest := []) ⟨hx, hb, hml, hown, hts⟩ (c_X0_noteCalled l D cI cZ x a (row (row S 1 (mv S q.toNatClampNeg (S 1))) 8 (upd (S 8) q.toNatClampNeg 1)) H.size q hcl) (cwV 1 hts gX0_carryOut_X0_noteCalled rfl rfl rfl (by decide +kernel) ⟨Nat.le_of_ble_eq_true rfl, Nat.le_of_ble_eq_true rfl⟩) (pW_V (ci := 0) hPs hK hDs rfl rfl) rfl rfl hl.1 rfl (lv_room (Nat.le_of_ble_eq_true rfl)) dX0_carryOut_62 ⟨Nat.zero_le _, Nat.zero_le _⟩) hS (fun q _ h => hFc q h) hFc (fun u_62 t9 H1 locs ht9 hvm9 h_62 hB9 hz9 hk9 hS => ?_)
      subst h_62
      have hP : va_P D vwCl (wXr cI cZ x a (S 0) (mv S q.toNatClampNeg (S 1)) (S 2) (S 3) (S 4) (S 5) (S 6) (S 7) (upd (S 8) q.toNatClampNeg 1) (upd (S 9) (S 11 0).toNatClampNeg q) (S 10 0) ((S 11 0) + 1) (S 12) (S 13) (S 14 0) (S 15 0) (S 16)) H1 := atW_P hB9 ht9
      have hD : va_D A (wXr cI cZ x a (S 0) (mv S q.toNatClampNeg (S 1)) (S 2) (S 3) (S 4) (S 5) (S 6) (S 7) (upd (S 8) q.toNatClampNeg 1) (upd (S 9) (S 11 0).toNatClampNeg q) (S 10 0) ((S 11 0) + 1) (S 12) (S 13) (S 14 0) (S 15 0) (S 16)) := atW_D hB9 hFc
      generalize H1 = H at hP hS ⊢
      exact W.vret hx hb hr (fun t ht hW => ⟨⟨row (row (row (row S 1 (mv S q.toNatClampNeg (S 1))) 8 (upd (S 8) q.toNatClampNeg 1)) 9 (upd (S 9) (S 11 0).toNatClampNeg q)) 11 (kf ((S 11 0) + 1)), rfl, (callQ_m c_13 c_33).symm, by rw [ht]; exact hP, hD⟩, hS.F ht⟩) hS.2.2 dX0_carryOut_65
    · skip
      refine lv_aload_n hx hb dX0_carryOut_36 rfl (lv_at hl 1 rfl) ?_
      refine lv_iload_n hx hb dX0_carryOut_37 rfl (lv_at hl 0 rfl) ?_
      have hFc := wfree hD hS hA
      refine va_callv (va_runV (As := [.int (S 5 q.toNatClampNeg)]) (rest := []) ⟨hx, hb, hml, hown, hts⟩ (c_X0_leaveStage l D cI cZ x a S s.heap.size (S 5 q.toNatClampNeg) hc.2.1 (hex c_33).1 (hex c_33).2) (cwV 1 hts gX0_carryOut_X0_leaveStage rfl rfl rfl (by decide +kernel) ⟨Nat.le_of_ble_eq_true rfl, Nat.le_of_ble_eq_true rfl⟩) (pW_V (ci := 0) hP hK hD rfl rfl) rfl rfl hl.1 rfl (lv_room (Nat.le_of_ble_eq_true rfl)) dX0_carryOut_38 ⟨Nat.zero_le _, Nat.zero_le _⟩) hS (fun q _ h => hFc q h) hFc (fun u_38 t9 H1 locs ht9 hvm9 h_38 hB9 hz9 hk9 hS => ?_)
      have hP : va_P D vwCl (wX cI cZ x a u_38) H1 := atW_P hB9 ht9
      have hD : va_D A (wX cI cZ x a u_38) := atW_D hB9 hFc
      generalize H1 = H at hP hS ⊢
      refine lv_goto (tgt := 53) hx hb dX0_carryOut_41 (by decide) ?_
      refine lv_aload_n hx hb dX0_carryOut_53 rfl (lv_at hl 1 rfl) ?_
      have hf35 := hts (.fieldLink RX0 35 "Clockmask" "cueState" "[I") (by decide +kernel)
      refine va_get (D := D) (ci := 0) (v := .ref (a 8)) (C := RX0) (T := TX0) (N := 17) hx hb hts hin hown hK hP 0 rfl rfl 8 (by decide) hf35 (fun _ h9 => h9) rfl dX0_carryOut_54 ?_
      refine lv_iload_n hx hb dX0_carryOut_57 rfl (lv_at hl 2 rfl) ?_
      refine lv_iconst (v := 1) hx hb dX0_carryOut_58 (by decide) ?_
      refine va_iast (f := u_38 8) (n := 24) hx hb hK hP hD hS 9 0 rfl rfl (by assumption) dX0_carryOut_59 (fun H locs hP hD hS => ?_)
      have hP : va_P D vwCl (wXr cI cZ x a (u_38 0) (u_38 1) (u_38 2) (u_38 3) (u_38 4) (u_38 5) (u_38 6) (u_38 7) (upd (u_38 8) q.toNatClampNeg 1) (u_38 9) (u_38 10 0) (u_38 11 0) (u_38 12) (u_38 13) (u_38 14 0) (u_38 15 0) (u_38 16)) H := hP
      have hD : va_D A (wXr cI cZ x a (u_38 0) (u_38 1) (u_38 2) (u_38 3) (u_38 4) (u_38 5) (u_38 6) (u_38 7) (upd (u_38 8) q.toNatClampNeg 1) (u_38 9) (u_38 10 0) (u_38 11 0) (u_38 12) (u_38 13) (u_38 14 0) (u_38 15 0) (u_38 16)) := hD
      refine lv_aload_n hx hb dX0_carryOut_60 rfl (lv_at hl 1 rfl) ?_
      refine lv_iload_n hx hb dX0_carryOut_61 rfl (lv_at hl 2 rfl) ?_
      have hPs : va_P D vwCl (wX cI cZ x a (row u_38 8 (upd (u_38 8) q.toNatClampNeg 1))) H := hP
      have hDs : va_D A (wX cI cZ x a (row u_38 8 (upd (u_38 8) q.toNatClampNeg 1))) := hD
      have hFc := wfree hDs hS hA
      refine va_callv (va_runV (As := [.int q]) (rest := []) ⟨hx, hb, hml, hown, hts⟩ (c_X0_noteCalled l D cI cZ x a (row u_38 8 (upd (u_38 8) q.toNatClampNeg 1)) H.size q (show vp_in (u_38 11 0) 24 by rw [h_38, leave_other (by decide) (by decide) (by decide)]; exact hcl)) (cwV 1 hts gX0_carryOut_X0_noteCalled rfl rfl rfl (by decide +kernel) ⟨Nat.le_of_ble_eq_true rfl, Nat.le_of_ble_eq_true rfl⟩) (pW_V (ci := 0) hPs hK hDs rfl rfl) rfl rfl hl.1 rfl (lv_room (Nat.le_of_ble_eq_true rfl)) dX0_carryOut_62 ⟨Nat.zero_le _, Nat.zero_le _⟩) hS (fun q _ h => hFc q h) hFc (fun u_62 t9 H1 locs ht9 hvm9 h_62 hB9 hz9 hk9 hS => ?_)
      subst h_62
      have hP : va_P D vwCl (wXr cI cZ x a (u_38 0) (u_38 1) (u_38 2) (u_38 3) (u_38 4) (u_38 5) (u_38 6) (u_38 7) (upd (u_38 8) q.toNatClampNeg 1) (upd (u_38 9) (u_38 11 0).toNatClampNeg q) (u_38 10 0) ((u_38 11 0) + 1) (u_38 12) (u_38 13) (u_38 14 0) (u_38 15 0) (u_38 16)) H1 := atW_P hB9 ht9
      have hD : va_D A (wXr cI cZ x a (u_38 0) (u_38 1) (u_38 2) (u_38 3) (u_38 4) (u_38 5) (u_38 6) (u_38 7) (upd (u_38 8) q.toNatClampNeg 1) (upd (u_38 9) (u_38 11 0).toNatClampNeg q) (u_38 10 0) ((u_38 11 0) + 1) (u_38 12) (u_38 13) (u_38 14 0) (u_38 15 0) (u_38 16)) := atW_D hB9 hFc
      generalize H1 = H at hP hS ⊢
      exact W.vret hx hb hr (fun t ht hW => ⟨⟨row (row (row u_38 8 (upd (u_38 8) q.toNatClampNeg 1)) 9 (upd (u_38 9) (u_38 11 0).toNatClampNeg q)) 11 (kf ((u_38 11 0) + 1)), rfl, by rw [h_38]; exact (callQ_l c_33).symm, by rw [ht]; exact hP, hD⟩, hS.F ht⟩) hS.2.2 dX0_carryOut_65
  · skip
    refine lv_aload_n hx hb dX0_carryOut_16 rfl (lv_at hl 1 rfl) ?_
    have hf16 := hts (.fieldLink RX0 16 "Clockmask" "onStage" "[Z") (by decide +kernel)
    refine va_get (D := D) (ci := 0) (v := .ref (a 2)) (C := RX0) (T := TX0) (N := 17) hx hb hts hin hown hK hP 0 rfl rfl 2 (by decide) hf16 (fun _ h9 => h9) rfl dX0_carryOut_17 ?_
    refine lv_iload_n hx hb dX0_carryOut_20 rfl (lv_at hl 0 rfl) ?_
    refine lv_iconst (v := 1) hx hb dX0_carryOut_21 (by decide) ?_
    refine va_zast (f := S 2) (n := 6) hx hb hK hP hD hS 3 1 rfl rfl hc.2.1 dX0_carryOut_22 (fun H locs hP hD hS => ?_)
    have hP : va_P D vwCl (wXr cI cZ x a (S 0) (S 1) (upd (S 2) (S 5 q.toNatClampNeg).toNatClampNeg 1) (S 3) (S 4) (S 5) (S 6) (S 7) (S 8) (S 9) (S 10 0) (S 11 0) (S 12) (S 13) (S 14 0) (S 15 0) (S 16)) H := hP
    have hD : va_D A (wXr cI cZ x a (S 0) (S 1) (upd (S 2) (S 5 q.toNatClampNeg).toNatClampNeg 1) (S 3) (S 4) (S 5) (S 6) (S 7) (S 8) (S 9) (S 10 0) (S 11 0) (S 12) (S 13) (S 14 0) (S 15 0) (S 16)) := hD
    refine lv_goto (tgt := 53) hx hb dX0_carryOut_23 (by decide) ?_
    refine lv_aload_n hx hb dX0_carryOut_53 rfl (lv_at hl 1 rfl) ?_
    have hf35 := hts (.fieldLink RX0 35 "Clockmask" "cueState" "[I") (by decide +kernel)
    refine va_get (D := D) (ci := 0) (v := .ref (a 8)) (C := RX0) (T := TX0) (N := 17) hx hb hts hin hown hK hP 0 rfl rfl 8 (by decide) hf35 (fun _ h9 => h9) rfl dX0_carryOut_54 ?_
    refine lv_iload_n hx hb dX0_carryOut_57 rfl (lv_at hl 2 rfl) ?_
    refine lv_iconst (v := 1) hx hb dX0_carryOut_58 (by decide) ?_
    refine va_iast (f := S 8) (n := 24) hx hb hK hP hD hS 9 0 rfl rfl (by assumption) dX0_carryOut_59 (fun H locs hP hD hS => ?_)
    have hP : va_P D vwCl (wXr cI cZ x a (S 0) (S 1) (upd (S 2) (S 5 q.toNatClampNeg).toNatClampNeg 1) (S 3) (S 4) (S 5) (S 6) (S 7) (upd (S 8) q.toNatClampNeg 1) (S 9) (S 10 0) (S 11 0) (S 12) (S 13) (S 14 0) (S 15 0) (S 16)) H := hP
    have hD : va_D A (wXr cI cZ x a (S 0) (S 1) (upd (S 2) (S 5 q.toNatClampNeg).toNatClampNeg 1) (S 3) (S 4) (S 5) (S 6) (S 7) (upd (S 8) q.toNatClampNeg 1) (S 9) (S 10 0) (S 11 0) (S 12) (S 13) (S 14 0) (S 15 0) (S 16)) := hD
    refine lv_aload_n hx hb dX0_carryOut_60 rfl (lv_at hl 1 rfl) ?_
    refine lv_iload_n hx hb dX0_carryOut_61 rfl (lv_at hl 2 rfl) ?_
    have hPs : va_P D vwCl (wX cI cZ x a (row (row S 2 (upd (S 2) (S 5 q.toNatClampNeg).toNatClampNeg 1)) 8 (upd (S 8) q.toNatClampNeg 1))) H := hP
    have hDs : va_D A (wX cI cZ x a (row (row S 2 (upd (S 2) (S 5 q.toNatClampNeg).toNatClampNeg 1)) 8 (upd (S 8) q.toNatClampNeg 1))) := hD
    have hFc := wfree hDs hS hA
    refine va_callv (va_runV (As := [.int q]) (rest := []) ⟨hx, hb, hml, hown, hts⟩ (c_X0_noteCalled l D cI cZ x a (row (row S 2 (upd (S 2) (S 5 q.toNatClampNeg).toNatClampNeg 1)) 8 (upd (S 8) q.toNatClampNeg 1)) H.size q hcl) (cwV 1 hts gX0_carryOut_X0_noteCalled rfl rfl rfl (by decide +kernel) ⟨Nat.le_of_ble_eq_true rfl, Nat.le_of_ble_eq_true rfl⟩) (pW_V (ci := 0) hPs hK hDs rfl rfl) rfl rfl hl.1 rfl (lv_room (Nat.le_of_ble_eq_true rfl)) dX0_carryOut_62 ⟨Nat.zero_le _, Nat.zero_le _⟩) hS (fun q _ h => hFc q h) hFc (fun u_62 t9 H1 locs ht9 hvm9 h_62 hB9 hz9 hk9 hS => ?_)
    subst h_62
    have hP : va_P D vwCl (wXr cI cZ x a (S 0) (S 1) (upd (S 2) (S 5 q.toNatClampNeg).toNatClampNeg 1) (S 3) (S 4) (S 5) (S 6) (S 7) (upd (S 8) q.toNatClampNeg 1) (upd (S 9) (S 11 0).toNatClampNeg q) (S 10 0) ((S 11 0) + 1) (S 12) (S 13) (S 14 0) (S 15 0) (S 16)) H1 := atW_P hB9 ht9
    have hD : va_D A (wXr cI cZ x a (S 0) (S 1) (upd (S 2) (S 5 q.toNatClampNeg).toNatClampNeg 1) (S 3) (S 4) (S 5) (S 6) (S 7) (upd (S 8) q.toNatClampNeg 1) (upd (S 9) (S 11 0).toNatClampNeg q) (S 10 0) ((S 11 0) + 1) (S 12) (S 13) (S 14 0) (S 15 0) (S 16)) := atW_D hB9 hFc
    generalize H1 = H at hP hS ⊢
    exact W.vret hx hb hr (fun t ht hW => ⟨⟨row (row (row (row S 2 (upd (S 2) (S 5 q.toNatClampNeg).toNatClampNeg 1)) 8 (upd (S 8) q.toNatClampNeg 1)) 9 (upd (S 9) (S 11 0).toNatClampNeg q)) 11 (kf ((S 11 0) + 1)), rfl, (callQ_0 c_13).symm, by rw [ht]; exact hP, hD⟩, hS.F ht⟩) hS.2.2 dX0_carryOut_65
set_option maxHeartbeats 4000000 in
set_option maxRecDepth 100000 in
theorem c_X0_clearStage (l : Launch) (D : va_G) (cI cZ : ClassId) (x : Nat) (a : Nat → Nat) (S : ST) (sz : Nat) : Met l yX0_clearStage wsX0_clearStage rmX0_clearStage (va_Pc [.ref x] (pW D (tyX cI cZ) (wX cI cZ x a S) sz)) (va_Qv (fun (u : ST) => u = row (row S 1 (fa_fill (fun _ => -1) (S 1) 6)) 2 (fa_fill (fun _ => 0) (S 2) 6)) (fun (u : ST) t => atW D (wX cI cZ x a u) (va_A (wX cI cZ x a S) sz) t) (va_A (wX cI cZ x a S) sz)) 0 0 (va_A (wX cI cZ x a S) sz) := by
  refine Met.ofW (cc := cX0_clearStage) (maxL := 2) (ret := none) (by decide) rfl ?_
  intro pr env s mid args below meth cod s₁ Bd hml hv
  obtain ⟨rfl, hsz, hP, hK, hD0⟩ := hv
  have hx := Bd.exec
  have hb := Bd.bytes
  have hr := Bd.returns
  have hts := atoms_spec (ws := wsX0_clearStage) Bd.pre
  have hown : s.vm.findClass RX0 = some mid.cls := findClass_of_methodNamed Bd.named
  have hlocks := Bd.notSynchronized
  have hin : ∀ w ∈ wsX00, w ∈ wsX0_clearStage := fun _ h => List.mem_cons_of_mem _ (List.mem_append_right _ h)
  subst hsz
  have hD := hD0.self (sz := s.heap.size)
  generalize hAe : va_A (wX cI cZ x a S) s.heap.size = A at hD ⊢
  have hA : ∀ q : Nat, s.heap.size ≤ q → A q := fun q h => by rw [← hAe]; exact Or.inr h
  have hS : va_S A s.heap s.heap [] := va_S.rf
  have hP : va_P D vwCl (wX cI cZ x a S) s.heap := hP
  have hD : va_D A (wX cI cZ x a S) := hD
  have hl := lv_entry ([.ref x]) (n := 2) (Nat.le_of_ble_eq_true rfl)
  rw [lg_entry_eq]
  generalize (lg_sl ([.ref x]) ++ List.replicate (2 - (lg_sl ([.ref x])).length) Slot.unset).toArray = ls at hl ⊢
  have hl : lv_has ls 2 [(0, .ref x)] := hl
  refine lv_iconst (v := 0) hx hb dX0_clearStage_0 (by decide) ?_
  refine lv_istore_n (lv' := [(1, .int 0), (0, .ref x)]) hx hb dX0_clearStage_1 rfl hl (by decide) rfl (fun ls hl => ?_)
  refine W_gen (fun R Q hR hQ => ?_)
  have loop_2 : ∀ (n : Nat) (j : Nat) (i1 : Int32) (S1 : ST), (j ≤ 6) → (7 ≤ j + n) → (i1 = nI j) → (S1 = row (row S 1 (fa_fill (fun _ => -1) (S 1) j)) 2 (fa_fill (fun _ => 0) (S 2) j)) → ∀ (H : Heap) (locs : List Loc), va_P D vwCl (wX cI cZ x a S1) H → va_D A (wX cI cZ x a S1) → va_S A s.heap H locs → ∀ ls : Array Slot, lv_has ls 2 [(1, .int i1), (0, .ref x)] → W pr l env R s mid ([.ref x] : List Value).toArray below meth cod H locs 0 0 Q (F0 mid 2 ls []) := by
    subst hR; subst hQ
    intro n
    induction n with
    | zero =>
      intro j i1 S1 hj hn e1 eS H locs hP hD hS ls hl
      exfalso; omega
    | succ n ih =>
      intro j i1 S1 hj hn e1 eS H locs hP hD hS ls hl
      refine lv_iload_n hx hb dX0_clearStage_2 rfl (lv_at hl 0 rfl) ?_
      refine lv_bipush (v := 6) hx hb dX0_clearStage_3 (by decide) ?_
      refine lv_icmp_ge (tgt := 28) hx hb dX0_clearStage_5 (by decide) (fun c_5 => ?_) (fun c_5 => ?_)
      · skip
        have h6 : 6 ≤ j := ge_of (N := 6) e1 (by omega) rfl c_5
        exact W.vret hx hb hr (fun t ht hW => ⟨⟨S1, rfl, by rw [eS, show j = 6 by omega], by rw [ht]; exact hP, hD⟩, hS.F ht⟩) hS.2.2 dX0_clearStage_28
      · skip
        have h6 : j < 6 := lt_of (N := 6) e1 (by omega) rfl c_5
        refine lv_aload_n hx hb dX0_clearStage_8 rfl (lv_at hl 1 rfl) ?_
        have hf13 := hts (.fieldLink RX0 13 "Clockmask" "maskOfPlayer" "[I") (by decide +kernel)
        refine va_get (D := D) (ci := 0) (v := .ref (a 1)) (C := RX0) (T := TX0) (N := 17) hx hb hts hin hown hK hP 0 rfl rfl 1 (by decide) hf13 (fun _ h9 => h9) rfl dX0_clearStage_9 ?_
        refine lv_iload_n hx hb dX0_clearStage_12 rfl (lv_at hl 0 rfl) ?_
        refine lv_iconst (v := (-1)) hx hb dX0_clearStage_13 (by decide) ?_
        refine va_iast (f := S1 1) (n := 6) hx hb hK hP hD hS 2 0 rfl rfl (by rw [e1]; exact vp_in_nI h6 (by decide)) dX0_clearStage_14 (fun H locs hP hD hS => ?_)
        have hP : va_P D vwCl (wXr cI cZ x a (S1 0) (upd (S1 1) i1.toNatClampNeg (-1)) (S1 2) (S1 3) (S1 4) (S1 5) (S1 6) (S1 7) (S1 8) (S1 9) (S1 10 0) (S1 11 0) (S1 12) (S1 13) (S1 14 0) (S1 15 0) (S1 16)) H := hP
        have hD : va_D A (wXr cI cZ x a (S1 0) (upd (S1 1) i1.toNatClampNeg (-1)) (S1 2) (S1 3) (S1 4) (S1 5) (S1 6) (S1 7) (S1 8) (S1 9) (S1 10 0) (S1 11 0) (S1 12) (S1 13) (S1 14 0) (S1 15 0) (S1 16)) := hD
        refine lv_aload_n hx hb dX0_clearStage_15 rfl (lv_at hl 1 rfl) ?_
        have hf16 := hts (.fieldLink RX0 16 "Clockmask" "onStage" "[Z") (by decide +kernel)
        refine va_get (D := D) (ci := 0) (v := .ref (a 2)) (C := RX0) (T := TX0) (N := 17) hx hb hts hin hown hK hP 0 rfl rfl 2 (by decide) hf16 (fun _ h9 => h9) rfl dX0_clearStage_16 ?_
        refine lv_iload_n hx hb dX0_clearStage_19 rfl (lv_at hl 0 rfl) ?_
        refine lv_iconst (v := 0) hx hb dX0_clearStage_20 (by decide) ?_
        refine va_zast (f := S1 2) (n := 6) hx hb hK hP hD hS 3 1 rfl rfl (by rw [e1]; exact vp_in_nI h6 (by decide)) dX0_clearStage_21 (fun H locs hP hD hS => ?_)
        have hP : va_P D vwCl (wXr cI cZ x a (S1 0) (upd (S1 1) i1.toNatClampNeg (-1)) (upd (S1 2) i1.toNatClampNeg 0) (S1 3) (S1 4) (S1 5) (S1 6) (S1 7) (S1 8) (S1 9) (S1 10 0) (S1 11 0) (S1 12) (S1 13) (S1 14 0) (S1 15 0) (S1 16)) H := hP
        have hD : va_D A (wXr cI cZ x a (S1 0) (upd (S1 1) i1.toNatClampNeg (-1)) (upd (S1 2) i1.toNatClampNeg 0) (S1 3) (S1 4) (S1 5) (S1 6) (S1 7) (S1 8) (S1 9) (S1 10 0) (S1 11 0) (S1 12) (S1 13) (S1 14 0) (S1 15 0) (S1 16)) := hD
        refine lv_iinc (v := i1 + 1) (lv' := [(1, .int (i1 + 1)), (0, .ref x)]) hx hb dX0_clearStage_22 hl (k := 0) rfl rfl (by decide) rfl (fun ls hl => ?_)
        refine lv_goto (tgt := 2) hx hb dX0_clearStage_25 (by decide) ?_
        exact ih (j + 1) (i1 + 1) (row (row S1 1 (upd (S1 1) i1.toNatClampNeg (-1))) 2 (upd (S1 2) i1.toNatClampNeg 0)) (by omega) (by omega) (by rw [e1]; exact nI_1 j) (by subst eS; rw [e1, nI_clamp (by omega), ← fa_fill_succ (fun _ => -1), ← fa_fill_succ (fun _ => 0)]; exact fills_eq S _ _ _ _) _ _ hP hD hS _ (lv_sub hl [0, 1] rfl)
  exact loop_2 7 0 0 S (Nat.zero_le _) (by omega) nI_0.symm (by rw [fa_fill_0, fa_fill_0, row_self, row_self]) _ _ hP hD hS _ (lv_sub hl [0, 1] rfl)
set_option maxHeartbeats 4000000 in
set_option maxRecDepth 100000 in
theorem c_X0_clearGuesses (l : Launch) (D : va_G) (cI cZ : ClassId) (x : Nat) (a : Nat → Nat) (S : ST) (sz : Nat) : Met l yX0_clearGuesses wsX0_clearGuesses rmX0_clearGuesses (va_Pc [.ref x] (pW D (tyX cI cZ) (wX cI cZ x a S) sz)) (va_Qv (fun (u : ST) => u = row S 13 (fa_fill (fun _ => 0) (S 13) 18)) (fun (u : ST) t => atW D (wX cI cZ x a u) (va_A (wX cI cZ x a S) sz) t) (va_A (wX cI cZ x a S) sz)) 0 0 (va_A (wX cI cZ x a S) sz) := by
  refine Met.ofW (cc := cX0_clearGuesses) (maxL := 2) (ret := none) (by decide) rfl ?_
  intro pr env s mid args below meth cod s₁ Bd hml hv
  obtain ⟨rfl, hsz, hP, hK, hD0⟩ := hv
  have hx := Bd.exec
  have hb := Bd.bytes
  have hr := Bd.returns
  have hts := atoms_spec (ws := wsX0_clearGuesses) Bd.pre
  have hown : s.vm.findClass RX0 = some mid.cls := findClass_of_methodNamed Bd.named
  have hlocks := Bd.notSynchronized
  have hin : ∀ w ∈ wsX00, w ∈ wsX0_clearGuesses := fun _ h => List.mem_cons_of_mem _ (List.mem_append_right _ h)
  subst hsz
  have hD := hD0.self (sz := s.heap.size)
  generalize hAe : va_A (wX cI cZ x a S) s.heap.size = A at hD ⊢
  have hA : ∀ q : Nat, s.heap.size ≤ q → A q := fun q h => by rw [← hAe]; exact Or.inr h
  have hS : va_S A s.heap s.heap [] := va_S.rf
  have hP : va_P D vwCl (wX cI cZ x a S) s.heap := hP
  have hD : va_D A (wX cI cZ x a S) := hD
  have hl := lv_entry ([.ref x]) (n := 2) (Nat.le_of_ble_eq_true rfl)
  rw [lg_entry_eq]
  generalize (lg_sl ([.ref x]) ++ List.replicate (2 - (lg_sl ([.ref x])).length) Slot.unset).toArray = ls at hl ⊢
  have hl : lv_has ls 2 [(0, .ref x)] := hl
  refine lv_iconst (v := 0) hx hb dX0_clearGuesses_0 (by decide) ?_
  refine lv_istore_n (lv' := [(1, .int 0), (0, .ref x)]) hx hb dX0_clearGuesses_1 rfl hl (by decide) rfl (fun ls hl => ?_)
  refine W_gen (fun R Q hR hQ => ?_)
  have loop_2 : ∀ (n : Nat) (j : Nat) (i1 : Int32) (S1 : ST), (j ≤ 18) → (19 ≤ j + n) → (i1 = nI j) → (S1 = row S 13 (fa_fill (fun _ => 0) (S 13) j)) → ∀ (H : Heap) (locs : List Loc), va_P D vwCl (wX cI cZ x a S1) H → va_D A (wX cI cZ x a S1) → va_S A s.heap H locs → ∀ ls : Array Slot, lv_has ls 2 [(1, .int i1), (0, .ref x)] → W pr l env R s mid ([.ref x] : List Value).toArray below meth cod H locs 0 0 Q (F0 mid 2 ls []) := by
    subst hR; subst hQ
    intro n
    induction n with
    | zero =>
      intro j i1 S1 hj hn e1 eS H locs hP hD hS ls hl
      exfalso; omega
    | succ n ih =>
      intro j i1 S1 hj hn e1 eS H locs hP hD hS ls hl
      refine lv_iload_n hx hb dX0_clearGuesses_2 rfl (lv_at hl 0 rfl) ?_
      refine lv_aload_n hx hb dX0_clearGuesses_3 rfl (lv_at hl 1 rfl) ?_
      have hf44 := hts (.fieldLink RX0 44 "Clockmask" "guessed" "[Z") (by decide +kernel)
      refine va_get (D := D) (ci := 0) (v := .ref (a 13)) (C := RX0) (T := TX0) (N := 17) hx hb hts hin hown hK hP 0 rfl rfl 13 (by decide) hf44 (fun _ h9 => h9) rfl dX0_clearGuesses_4 ?_
      refine va_alen (v := 18) hx hb hK hP 12 1 rfl rfl rfl dX0_clearGuesses_7 ?_
      refine lv_icmp_ge (tgt := 24) hx hb dX0_clearGuesses_8 (by decide) (fun c_8 => ?_) (fun c_8 => ?_)
      · skip
        have h6 : 18 ≤ j := ge_of (N := 18) e1 (by omega) rfl c_8
        exact W.vret hx hb hr (fun t ht hW => ⟨⟨S1, rfl, by rw [eS, show j = 18 by omega], by rw [ht]; exact hP, hD⟩, hS.F ht⟩) hS.2.2 dX0_clearGuesses_24
      · skip
        have h6 : j < 18 := lt_of (N := 18) e1 (by omega) rfl c_8
        refine lv_aload_n hx hb dX0_clearGuesses_11 rfl (lv_at hl 1 rfl) ?_
        refine va_get (D := D) (ci := 0) (v := .ref (a 13)) (C := RX0) (T := TX0) (N := 17) hx hb hts hin hown hK hP 0 rfl rfl 13 (by decide) hf44 (fun _ h9 => h9) rfl dX0_clearGuesses_12 ?_
        refine lv_iload_n hx hb dX0_clearGuesses_15 rfl (lv_at hl 0 rfl) ?_
        refine lv_iconst (v := 0) hx hb dX0_clearGuesses_16 (by decide) ?_
        refine va_zast (f := S1 13) (n := 18) hx hb hK hP hD hS 12 1 rfl rfl (by rw [e1]; exact vp_in_nI h6 (by decide)) dX0_clearGuesses_17 (fun H locs hP hD hS => ?_)
        have hP : va_P D vwCl (wXr cI cZ x a (S1 0) (S1 1) (S1 2) (S1 3) (S1 4) (S1 5) (S1 6) (S1 7) (S1 8) (S1 9) (S1 10 0) (S1 11 0) (S1 12) (upd (S1 13) i1.toNatClampNeg 0) (S1 14 0) (S1 15 0) (S1 16)) H := hP
        have hD : va_D A (wXr cI cZ x a (S1 0) (S1 1) (S1 2) (S1 3) (S1 4) (S1 5) (S1 6) (S1 7) (S1 8) (S1 9) (S1 10 0) (S1 11 0) (S1 12) (upd (S1 13) i1.toNatClampNeg 0) (S1 14 0) (S1 15 0) (S1 16)) := hD
        refine lv_iinc (v := i1 + 1) (lv' := [(1, .int (i1 + 1)), (0, .ref x)]) hx hb dX0_clearGuesses_18 hl (k := 0) rfl rfl (by decide) rfl (fun ls hl => ?_)
        refine lv_goto (tgt := 2) hx hb dX0_clearGuesses_21 (by decide) ?_
        exact ih (j + 1) (i1 + 1) (row S1 13 (upd (S1 13) i1.toNatClampNeg 0)) (by omega) (by omega) (by rw [e1]; exact nI_1 j) (by subst eS; rw [e1, nI_clamp (by omega), ← fa_fill_succ (fun _ => 0), row_same, row_twice]) _ _ hP hD hS _ (lv_sub hl [0, 1] rfl)
  exact loop_2 19 0 0 S (Nat.zero_le _) (by omega) nI_0.symm (by rw [fa_fill_0, row_self]) _ _ hP hD hS _ (lv_sub hl [0, 1] rfl)
