abbrev Z0 : ST := fun _ _ => 0
theorem va_sameI {D : va_G} {cl : List vw_C} {tys : List (ClassId × FieldType)} {s_ : State} (hK_ : va_K D cl tys s_) (i j_ : Nat) {c1 c2 : ClassId} (hi_ : tys[i]? = some (c1, .int)) (hj : tys[j_]? = some (c2, .int)) : c1 = c2 := Option.some.inj ((hK_.2 i _ hi_).2.symm.trans (hK_.2 j_ _ hj).2)
theorem va_sameZ {D : va_G} {cl : List vw_C} {tys : List (ClassId × FieldType)} {s_ : State} (hK_ : va_K D cl tys s_) (i j_ : Nat) {c1 c2 : ClassId} (hi_ : tys[i]? = some (c1, .boolean)) (hj : tys[j_]? = some (c2, .boolean)) : c1 = c2 := Option.some.inj ((hK_.2 i _ hi_).2.symm.trans (hK_.2 j_ _ hj).2)
abbrev rmX0_init : Room := ({ frames := 1, cells := 13, slots := 197, locals := 60 } : Room)
set_option maxHeartbeats 4000000 in
set_option maxRecDepth 100000 in
theorem c_X0_init (l : Launch) (D : va_G) (x_ sz : Nat) : Met l yX0_init wsX0_init rmX0_init (va_Pc [.ref x_] (pW D [] [(x_, .inr (0, [.null, .null, .null, .null, .null, .null, .null, .null, .null, .null, .int 0, .int 0, .null, .null, .int 0, .int 0, .null]))] sz)) (va_Qv (fun (_ : Unit) => True) (fun _ t_ => ∃ (cI cZ : ClassId) (a_ : Nat → Nat), (va_P D vwCl (wX cI cZ x_ a_ S00) t_.heap ∧ va_K D vwCl (tyX cI cZ) t_) ∧ va_D (va_A [(x_, .inr (0, [.null, .null, .null, .null, .null, .null, .null, .null, .null, .null, .int 0, .int 0, .null, .null, .int 0, .int 0, .null]))] sz) (wX cI cZ x_ a_ S00)) (va_A [(x_, .inr (0, [.null, .null, .null, .null, .null, .null, .null, .null, .null, .null, .int 0, .int 0, .null, .null, .int 0, .int 0, .null]))] sz)) 13 197 (va_A [(x_, .inr (0, [.null, .null, .null, .null, .null, .null, .null, .null, .null, .null, .int 0, .int 0, .null, .null, .int 0, .int 0, .null]))] sz) := by
  refine Met.ofW (cc := cX0_init) (maxL := 1) (ret := none) (by decide) rfl ?_
  intro pr env s_ mid args below meth cod s₁ Bd hml hv
  obtain ⟨rfl, hsz, hP, hK_, hD0⟩ := hv
  have hx := Bd.exec
  have hb_ := Bd.bytes
  have hr := Bd.returns
  have hts := atoms_spec (ws := wsX0_init) Bd.pre
  have hown : s_.vm.findClass RX0 = some mid.cls := findClass_of_methodNamed Bd.named
  have hlocks := Bd.notSynchronized
  have hinit : meth.name = "<init>" := (name_of_methodNamed Bd.named Bd.method).1
  have hin : ∀ w_ ∈ wsX00, w_ ∈ wsX0_init := fun _ h_ => List.mem_cons_of_mem _ (List.mem_append_right _ h_)
  subst hsz
  have hD := hD0.self (sz := s_.heap.size)
  generalize hAe : va_A [(x_, .inr (0, [.null, .null, .null, .null, .null, .null, .null, .null, .null, .null, .int 0, .int 0, .null, .null, .int 0, .int 0, .null]))] s_.heap.size = A at hD ⊢
  have hA : ∀ q_ : Nat, s_.heap.size ≤ q_ → A q_ := fun q_ h_ => by rw [← hAe]; exact Or.inr h_
  have hS_ : va_S A s_.heap s_.heap [] := va_S.rf
  have hP : va_P D vwCl [(x_, .inr (0, [.null, .null, .null, .null, .null, .null, .null, .null, .null, .null, .int 0, .int 0, .null, .null, .int 0, .int 0, .null]))] s_.heap := hP
  have hl := lv_entry ([.ref x_]) (n := 1) (Nat.le_of_ble_eq_true rfl)
  rw [lg_entry_eq]
  generalize (lg_sl ([.ref x_]) ++ List.replicate (1 - (lg_sl ([.ref x_])).length) Slot.unset).toArray = ls at hl ⊢
  have hl : lv_has ls 1 [(0, .ref x_)] := hl
  refine lv_aload_n hx hb_ dX0_init_0 rfl (lv_at hl 0 rfl) ?_
  refine W.objInit hx hb_ hown (hts (.methodLink RX0 1 objectInit) (by decide +kernel)) (hts (.instanceMethod objectInit) (by decide +kernel)) (hts (.code objectInit ⟨#[0xb1]⟩ 1 none) (by decide +kernel)) rfl (by rw [hml]; exact hl.1) rfl dX0_init_1 (Nat.le_of_ble_eq_true rfl) (Nat.le_of_ble_eq_true rfl) ?_
  refine W.eq (g2 := F0 mid 4 ls []) rfl ?_
  refine lv_aload_n hx hb_ dX0_init_4 rfl (lv_at hl 0 rfl) ?_
  refine lv_bipush (v := 6) hx hb_ dX0_init_5 (by decide) ?_
  refine va_newa (atype := .int) (ty := .int) (N' := 6) (a0 := (6, .inl (fun _ => 0))) hx hb_ (hts (.arrayClass .int) (by decide +kernel)) rfl hK_ hP hD hS_ hA (fun _ => rfl) (by decide) (by decide) (Nat.le_of_ble_eq_true rfl) (Nat.le_of_ble_eq_true rfl) (Nat.le_of_ble_eq_true rfl) dX0_init_7 (fun q_7 cI H hK_ hP hD hS_ => ?_)
  have hK_ : va_K D vwCl [(cI, .int)] s_ := hK_.sub [0] rfl
  refine W.widen (k := 1) (n := 6) (Nat.le_refl _) (Nat.le_refl _) ?_
  have hP : va_P D vwCl [(x_, .inr (0, [.null, .null, .null, .null, .null, .null, .null, .null, .null, .null, .int 0, .int 0, .null, .null, .int 0, .int 0, .null])), (q_7, .inl (cI, 6, .inl (fun _ => 0)))] H := hP
  have hD : va_D A [(x_, .inr (0, [.null, .null, .null, .null, .null, .null, .null, .null, .null, .null, .int 0, .int 0, .null, .null, .int 0, .int 0, .null])), (q_7, .inl (cI, 6, .inl (fun _ => 0)))] := hD
  have hf9 := hts (.fieldLink RX0 9 "Clockmask" "costumeOfPlayer" "[I") (by decide +kernel)
  refine va_putF (D := D) (ci := 0) (v := .ref q_7) (ty := .array .int) (C := RX0) (T := TX0) (N := 17) hx hb_ hts hin tyX0 tyX0_ok nmX0 hown hK_ hP hD hS_ 0 rfl rfl 0 (by decide) hf9 (fun _ h9 => h9) rfl hinit rfl (by decide +kernel) rfl rfl (Nat.le_of_ble_eq_true rfl) dX0_init_9 (fun H locs hP hD hS_ => ?_)
  have hP : va_P D vwCl [(x_, .inr (0, [.ref q_7, .null, .null, .null, .null, .null, .null, .null, .null, .null, .int 0, .int 0, .null, .null, .int 0, .int 0, .null])), (q_7, .inl (cI, 6, .inl (fun _ => 0)))] H := hP
  have hD : va_D A [(x_, .inr (0, [.ref q_7, .null, .null, .null, .null, .null, .null, .null, .null, .null, .int 0, .int 0, .null, .null, .int 0, .int 0, .null])), (q_7, .inl (cI, 6, .inl (fun _ => 0)))] := hD
  refine lv_aload_n hx hb_ dX0_init_12 rfl (lv_at hl 0 rfl) ?_
  refine lv_bipush (v := 6) hx hb_ dX0_init_13 (by decide) ?_
  refine va_newa (atype := .int) (ty := .int) (N' := 6) (a0 := (6, .inl (fun _ => 0))) hx hb_ (hts (.arrayClass .int) (by decide +kernel)) rfl hK_ hP hD hS_ hA (fun _ => rfl) (by decide) (by decide) (Nat.le_of_ble_eq_true rfl) (Nat.le_of_ble_eq_true rfl) (Nat.le_of_ble_eq_true rfl) dX0_init_15 (fun q_15 cA_15 H hK_ hP hD hS_ => ?_)
  have e_15 : cI = cA_15 := va_sameI hK_ 0 1 rfl rfl
  subst e_15
  have hK_ : va_K D vwCl [(cI, .int)] s_ := hK_.sub [0] rfl
  refine W.widen (k := 2) (n := 12) (Nat.le_refl _) (Nat.le_refl _) ?_
  have hP : va_P D vwCl [(x_, .inr (0, [.ref q_7, .null, .null, .null, .null, .null, .null, .null, .null, .null, .int 0, .int 0, .null, .null, .int 0, .int 0, .null])), (q_7, .inl (cI, 6, .inl (fun _ => 0))), (q_15, .inl (cI, 6, .inl (fun _ => 0)))] H := hP
  have hD : va_D A [(x_, .inr (0, [.ref q_7, .null, .null, .null, .null, .null, .null, .null, .null, .null, .int 0, .int 0, .null, .null, .int 0, .int 0, .null])), (q_7, .inl (cI, 6, .inl (fun _ => 0))), (q_15, .inl (cI, 6, .inl (fun _ => 0)))] := hD
  have hf13 := hts (.fieldLink RX0 13 "Clockmask" "maskOfPlayer" "[I") (by decide +kernel)
  refine va_putF (D := D) (ci := 0) (v := .ref q_15) (ty := .array .int) (C := RX0) (T := TX0) (N := 17) hx hb_ hts hin tyX0 tyX0_ok nmX0 hown hK_ hP hD hS_ 0 rfl rfl 1 (by decide) hf13 (fun _ h9 => h9) rfl hinit rfl (by decide +kernel) rfl rfl (Nat.le_of_ble_eq_true rfl) dX0_init_17 (fun H locs hP hD hS_ => ?_)
  have hP : va_P D vwCl [(x_, .inr (0, [.ref q_7, .ref q_15, .null, .null, .null, .null, .null, .null, .null, .null, .int 0, .int 0, .null, .null, .int 0, .int 0, .null])), (q_7, .inl (cI, 6, .inl (fun _ => 0))), (q_15, .inl (cI, 6, .inl (fun _ => 0)))] H := hP
  have hD : va_D A [(x_, .inr (0, [.ref q_7, .ref q_15, .null, .null, .null, .null, .null, .null, .null, .null, .int 0, .int 0, .null, .null, .int 0, .int 0, .null])), (q_7, .inl (cI, 6, .inl (fun _ => 0))), (q_15, .inl (cI, 6, .inl (fun _ => 0)))] := hD
  refine lv_aload_n hx hb_ dX0_init_20 rfl (lv_at hl 0 rfl) ?_
  refine lv_bipush (v := 6) hx hb_ dX0_init_21 (by decide) ?_
  refine va_newa (atype := .boolean) (ty := .boolean) (N' := 6) (a0 := (6, .inl (fun _ => 0))) hx hb_ (hts (.arrayClass .boolean) (by decide +kernel)) rfl hK_ hP hD hS_ hA (fun _ => rfl) (by decide) (by decide) (Nat.le_of_ble_eq_true rfl) (Nat.le_of_ble_eq_true rfl) (Nat.le_of_ble_eq_true rfl) dX0_init_23 (fun q_23 cZ H hK_ hP hD hS_ => ?_)
  have hK_ : va_K D vwCl [(cI, .int), (cZ, .boolean)] s_ := hK_.sub [0, 1] rfl
  refine W.widen (k := 3) (n := 18) (Nat.le_refl _) (Nat.le_refl _) ?_
  have hP : va_P D vwCl [(x_, .inr (0, [.ref q_7, .ref q_15, .null, .null, .null, .null, .null, .null, .null, .null, .int 0, .int 0, .null, .null, .int 0, .int 0, .null])), (q_7, .inl (cI, 6, .inl (fun _ => 0))), (q_15, .inl (cI, 6, .inl (fun _ => 0))), (q_23, .inl (cZ, 6, .inl (fun _ => 0)))] H := hP
  have hD : va_D A [(x_, .inr (0, [.ref q_7, .ref q_15, .null, .null, .null, .null, .null, .null, .null, .null, .int 0, .int 0, .null, .null, .int 0, .int 0, .null])), (q_7, .inl (cI, 6, .inl (fun _ => 0))), (q_15, .inl (cI, 6, .inl (fun _ => 0))), (q_23, .inl (cZ, 6, .inl (fun _ => 0)))] := hD
  have hf16 := hts (.fieldLink RX0 16 "Clockmask" "onStage" "[Z") (by decide +kernel)
  refine va_putF (D := D) (ci := 0) (v := .ref q_23) (ty := .array .boolean) (C := RX0) (T := TX0) (N := 17) hx hb_ hts hin tyX0 tyX0_ok nmX0 hown hK_ hP hD hS_ 0 rfl rfl 2 (by decide) hf16 (fun _ h9 => h9) rfl hinit rfl (by decide +kernel) rfl rfl (Nat.le_of_ble_eq_true rfl) dX0_init_25 (fun H locs hP hD hS_ => ?_)
  have hP : va_P D vwCl [(x_, .inr (0, [.ref q_7, .ref q_15, .ref q_23, .null, .null, .null, .null, .null, .null, .null, .int 0, .int 0, .null, .null, .int 0, .int 0, .null])), (q_7, .inl (cI, 6, .inl (fun _ => 0))), (q_15, .inl (cI, 6, .inl (fun _ => 0))), (q_23, .inl (cZ, 6, .inl (fun _ => 0)))] H := hP
  have hD : va_D A [(x_, .inr (0, [.ref q_7, .ref q_15, .ref q_23, .null, .null, .null, .null, .null, .null, .null, .int 0, .int 0, .null, .null, .int 0, .int 0, .null])), (q_7, .inl (cI, 6, .inl (fun _ => 0))), (q_15, .inl (cI, 6, .inl (fun _ => 0))), (q_23, .inl (cZ, 6, .inl (fun _ => 0)))] := hD
  refine lv_aload_n hx hb_ dX0_init_28 rfl (lv_at hl 0 rfl) ?_
  refine lv_bipush (v := 8) hx hb_ dX0_init_29 (by decide) ?_
  refine va_newa (atype := .int) (ty := .int) (N' := 8) (a0 := (8, .inl (fun _ => 0))) hx hb_ (hts (.arrayClass .int) (by decide +kernel)) rfl hK_ hP hD hS_ hA (fun _ => rfl) (by decide) (by decide) (Nat.le_of_ble_eq_true rfl) (Nat.le_of_ble_eq_true rfl) (Nat.le_of_ble_eq_true rfl) dX0_init_31 (fun q_31 cA_31 H hK_ hP hD hS_ => ?_)
  have e_31 : cI = cA_31 := va_sameI hK_ 0 2 rfl rfl
  subst e_31
  have hK_ : va_K D vwCl [(cI, .int), (cZ, .boolean)] s_ := hK_.sub [0, 1] rfl
  refine W.widen (k := 4) (n := 26) (Nat.le_refl _) (Nat.le_refl _) ?_
  have hP : va_P D vwCl [(x_, .inr (0, [.ref q_7, .ref q_15, .ref q_23, .null, .null, .null, .null, .null, .null, .null, .int 0, .int 0, .null, .null, .int 0, .int 0, .null])), (q_7, .inl (cI, 6, .inl (fun _ => 0))), (q_15, .inl (cI, 6, .inl (fun _ => 0))), (q_23, .inl (cZ, 6, .inl (fun _ => 0))), (q_31, .inl (cI, 8, .inl (fun _ => 0)))] H := hP
  have hD : va_D A [(x_, .inr (0, [.ref q_7, .ref q_15, .ref q_23, .null, .null, .null, .null, .null, .null, .null, .int 0, .int 0, .null, .null, .int 0, .int 0, .null])), (q_7, .inl (cI, 6, .inl (fun _ => 0))), (q_15, .inl (cI, 6, .inl (fun _ => 0))), (q_23, .inl (cZ, 6, .inl (fun _ => 0))), (q_31, .inl (cI, 8, .inl (fun _ => 0)))] := hD
  have hf20 := hts (.fieldLink RX0 20 "Clockmask" "wearOfCostume" "[I") (by decide +kernel)
  refine va_putF (D := D) (ci := 0) (v := .ref q_31) (ty := .array .int) (C := RX0) (T := TX0) (N := 17) hx hb_ hts hin tyX0 tyX0_ok nmX0 hown hK_ hP hD hS_ 0 rfl rfl 3 (by decide) hf20 (fun _ h9 => h9) rfl hinit rfl (by decide +kernel) rfl rfl (Nat.le_of_ble_eq_true rfl) dX0_init_33 (fun H locs hP hD hS_ => ?_)
  have hP : va_P D vwCl [(x_, .inr (0, [.ref q_7, .ref q_15, .ref q_23, .ref q_31, .null, .null, .null, .null, .null, .null, .int 0, .int 0, .null, .null, .int 0, .int 0, .null])), (q_7, .inl (cI, 6, .inl (fun _ => 0))), (q_15, .inl (cI, 6, .inl (fun _ => 0))), (q_23, .inl (cZ, 6, .inl (fun _ => 0))), (q_31, .inl (cI, 8, .inl (fun _ => 0)))] H := hP
  have hD : va_D A [(x_, .inr (0, [.ref q_7, .ref q_15, .ref q_23, .ref q_31, .null, .null, .null, .null, .null, .null, .int 0, .int 0, .null, .null, .int 0, .int 0, .null])), (q_7, .inl (cI, 6, .inl (fun _ => 0))), (q_15, .inl (cI, 6, .inl (fun _ => 0))), (q_23, .inl (cZ, 6, .inl (fun _ => 0))), (q_31, .inl (cI, 8, .inl (fun _ => 0)))] := hD
  refine lv_aload_n hx hb_ dX0_init_36 rfl (lv_at hl 0 rfl) ?_
  refine lv_bipush (v := 24) hx hb_ dX0_init_37 (by decide) ?_
  refine va_newa (atype := .int) (ty := .int) (N' := 24) (a0 := (24, .inl (fun _ => 0))) hx hb_ (hts (.arrayClass .int) (by decide +kernel)) rfl hK_ hP hD hS_ hA (fun _ => rfl) (by decide) (by decide) (Nat.le_of_ble_eq_true rfl) (Nat.le_of_ble_eq_true rfl) (Nat.le_of_ble_eq_true rfl) dX0_init_39 (fun q_39 cA_39 H hK_ hP hD hS_ => ?_)
  have e_39 : cI = cA_39 := va_sameI hK_ 0 2 rfl rfl
  subst e_39
  have hK_ : va_K D vwCl [(cI, .int), (cZ, .boolean)] s_ := hK_.sub [0, 1] rfl
  refine W.widen (k := 5) (n := 50) (Nat.le_refl _) (Nat.le_refl _) ?_
  have hP : va_P D vwCl [(x_, .inr (0, [.ref q_7, .ref q_15, .ref q_23, .ref q_31, .null, .null, .null, .null, .null, .null, .int 0, .int 0, .null, .null, .int 0, .int 0, .null])), (q_7, .inl (cI, 6, .inl (fun _ => 0))), (q_15, .inl (cI, 6, .inl (fun _ => 0))), (q_23, .inl (cZ, 6, .inl (fun _ => 0))), (q_31, .inl (cI, 8, .inl (fun _ => 0))), (q_39, .inl (cI, 24, .inl (fun _ => 0)))] H := hP
  have hD : va_D A [(x_, .inr (0, [.ref q_7, .ref q_15, .ref q_23, .ref q_31, .null, .null, .null, .null, .null, .null, .int 0, .int 0, .null, .null, .int 0, .int 0, .null])), (q_7, .inl (cI, 6, .inl (fun _ => 0))), (q_15, .inl (cI, 6, .inl (fun _ => 0))), (q_23, .inl (cZ, 6, .inl (fun _ => 0))), (q_31, .inl (cI, 8, .inl (fun _ => 0))), (q_39, .inl (cI, 24, .inl (fun _ => 0)))] := hD
  have hf23 := hts (.fieldLink RX0 23 "Clockmask" "cueKind" "[I") (by decide +kernel)
  refine va_putF (D := D) (ci := 0) (v := .ref q_39) (ty := .array .int) (C := RX0) (T := TX0) (N := 17) hx hb_ hts hin tyX0 tyX0_ok nmX0 hown hK_ hP hD hS_ 0 rfl rfl 4 (by decide) hf23 (fun _ h9 => h9) rfl hinit rfl (by decide +kernel) rfl rfl (Nat.le_of_ble_eq_true rfl) dX0_init_41 (fun H locs hP hD hS_ => ?_)
  have hP : va_P D vwCl [(x_, .inr (0, [.ref q_7, .ref q_15, .ref q_23, .ref q_31, .ref q_39, .null, .null, .null, .null, .null, .int 0, .int 0, .null, .null, .int 0, .int 0, .null])), (q_7, .inl (cI, 6, .inl (fun _ => 0))), (q_15, .inl (cI, 6, .inl (fun _ => 0))), (q_23, .inl (cZ, 6, .inl (fun _ => 0))), (q_31, .inl (cI, 8, .inl (fun _ => 0))), (q_39, .inl (cI, 24, .inl (fun _ => 0)))] H := hP
  have hD : va_D A [(x_, .inr (0, [.ref q_7, .ref q_15, .ref q_23, .ref q_31, .ref q_39, .null, .null, .null, .null, .null, .int 0, .int 0, .null, .null, .int 0, .int 0, .null])), (q_7, .inl (cI, 6, .inl (fun _ => 0))), (q_15, .inl (cI, 6, .inl (fun _ => 0))), (q_23, .inl (cZ, 6, .inl (fun _ => 0))), (q_31, .inl (cI, 8, .inl (fun _ => 0))), (q_39, .inl (cI, 24, .inl (fun _ => 0)))] := hD
  refine lv_aload_n hx hb_ dX0_init_44 rfl (lv_at hl 0 rfl) ?_
  refine lv_bipush (v := 24) hx hb_ dX0_init_45 (by decide) ?_
  refine va_newa (atype := .int) (ty := .int) (N' := 24) (a0 := (24, .inl (fun _ => 0))) hx hb_ (hts (.arrayClass .int) (by decide +kernel)) rfl hK_ hP hD hS_ hA (fun _ => rfl) (by decide) (by decide) (Nat.le_of_ble_eq_true rfl) (Nat.le_of_ble_eq_true rfl) (Nat.le_of_ble_eq_true rfl) dX0_init_47 (fun q_47 cA_47 H hK_ hP hD hS_ => ?_)
  have e_47 : cI = cA_47 := va_sameI hK_ 0 2 rfl rfl
  subst e_47
  have hK_ : va_K D vwCl [(cI, .int), (cZ, .boolean)] s_ := hK_.sub [0, 1] rfl
  refine W.widen (k := 6) (n := 74) (Nat.le_refl _) (Nat.le_refl _) ?_
  have hP : va_P D vwCl [(x_, .inr (0, [.ref q_7, .ref q_15, .ref q_23, .ref q_31, .ref q_39, .null, .null, .null, .null, .null, .int 0, .int 0, .null, .null, .int 0, .int 0, .null])), (q_7, .inl (cI, 6, .inl (fun _ => 0))), (q_15, .inl (cI, 6, .inl (fun _ => 0))), (q_23, .inl (cZ, 6, .inl (fun _ => 0))), (q_31, .inl (cI, 8, .inl (fun _ => 0))), (q_39, .inl (cI, 24, .inl (fun _ => 0))), (q_47, .inl (cI, 24, .inl (fun _ => 0)))] H := hP
  have hD : va_D A [(x_, .inr (0, [.ref q_7, .ref q_15, .ref q_23, .ref q_31, .ref q_39, .null, .null, .null, .null, .null, .int 0, .int 0, .null, .null, .int 0, .int 0, .null])), (q_7, .inl (cI, 6, .inl (fun _ => 0))), (q_15, .inl (cI, 6, .inl (fun _ => 0))), (q_23, .inl (cZ, 6, .inl (fun _ => 0))), (q_31, .inl (cI, 8, .inl (fun _ => 0))), (q_39, .inl (cI, 24, .inl (fun _ => 0))), (q_47, .inl (cI, 24, .inl (fun _ => 0)))] := hD
  have hf26 := hts (.fieldLink RX0 26 "Clockmask" "cuePlayer" "[I") (by decide +kernel)
  refine va_putF (D := D) (ci := 0) (v := .ref q_47) (ty := .array .int) (C := RX0) (T := TX0) (N := 17) hx hb_ hts hin tyX0 tyX0_ok nmX0 hown hK_ hP hD hS_ 0 rfl rfl 5 (by decide) hf26 (fun _ h9 => h9) rfl hinit rfl (by decide +kernel) rfl rfl (Nat.le_of_ble_eq_true rfl) dX0_init_49 (fun H locs hP hD hS_ => ?_)
  have hP : va_P D vwCl [(x_, .inr (0, [.ref q_7, .ref q_15, .ref q_23, .ref q_31, .ref q_39, .ref q_47, .null, .null, .null, .null, .int 0, .int 0, .null, .null, .int 0, .int 0, .null])), (q_7, .inl (cI, 6, .inl (fun _ => 0))), (q_15, .inl (cI, 6, .inl (fun _ => 0))), (q_23, .inl (cZ, 6, .inl (fun _ => 0))), (q_31, .inl (cI, 8, .inl (fun _ => 0))), (q_39, .inl (cI, 24, .inl (fun _ => 0))), (q_47, .inl (cI, 24, .inl (fun _ => 0)))] H := hP
  have hD : va_D A [(x_, .inr (0, [.ref q_7, .ref q_15, .ref q_23, .ref q_31, .ref q_39, .ref q_47, .null, .null, .null, .null, .int 0, .int 0, .null, .null, .int 0, .int 0, .null])), (q_7, .inl (cI, 6, .inl (fun _ => 0))), (q_15, .inl (cI, 6, .inl (fun _ => 0))), (q_23, .inl (cZ, 6, .inl (fun _ => 0))), (q_31, .inl (cI, 8, .inl (fun _ => 0))), (q_39, .inl (cI, 24, .inl (fun _ => 0))), (q_47, .inl (cI, 24, .inl (fun _ => 0)))] := hD
  refine lv_aload_n hx hb_ dX0_init_52 rfl (lv_at hl 0 rfl) ?_
  refine lv_bipush (v := 24) hx hb_ dX0_init_53 (by decide) ?_
  refine va_newa (atype := .int) (ty := .int) (N' := 24) (a0 := (24, .inl (fun _ => 0))) hx hb_ (hts (.arrayClass .int) (by decide +kernel)) rfl hK_ hP hD hS_ hA (fun _ => rfl) (by decide) (by decide) (Nat.le_of_ble_eq_true rfl) (Nat.le_of_ble_eq_true rfl) (Nat.le_of_ble_eq_true rfl) dX0_init_55 (fun q_55 cA_55 H hK_ hP hD hS_ => ?_)
  have e_55 : cI = cA_55 := va_sameI hK_ 0 2 rfl rfl
  subst e_55
  have hK_ : va_K D vwCl [(cI, .int), (cZ, .boolean)] s_ := hK_.sub [0, 1] rfl
  refine W.widen (k := 7) (n := 98) (Nat.le_refl _) (Nat.le_refl _) ?_
  have hP : va_P D vwCl [(x_, .inr (0, [.ref q_7, .ref q_15, .ref q_23, .ref q_31, .ref q_39, .ref q_47, .null, .null, .null, .null, .int 0, .int 0, .null, .null, .int 0, .int 0, .null])), (q_7, .inl (cI, 6, .inl (fun _ => 0))), (q_15, .inl (cI, 6, .inl (fun _ => 0))), (q_23, .inl (cZ, 6, .inl (fun _ => 0))), (q_31, .inl (cI, 8, .inl (fun _ => 0))), (q_39, .inl (cI, 24, .inl (fun _ => 0))), (q_47, .inl (cI, 24, .inl (fun _ => 0))), (q_55, .inl (cI, 24, .inl (fun _ => 0)))] H := hP
  have hD : va_D A [(x_, .inr (0, [.ref q_7, .ref q_15, .ref q_23, .ref q_31, .ref q_39, .ref q_47, .null, .null, .null, .null, .int 0, .int 0, .null, .null, .int 0, .int 0, .null])), (q_7, .inl (cI, 6, .inl (fun _ => 0))), (q_15, .inl (cI, 6, .inl (fun _ => 0))), (q_23, .inl (cZ, 6, .inl (fun _ => 0))), (q_31, .inl (cI, 8, .inl (fun _ => 0))), (q_39, .inl (cI, 24, .inl (fun _ => 0))), (q_47, .inl (cI, 24, .inl (fun _ => 0))), (q_55, .inl (cI, 24, .inl (fun _ => 0)))] := hD
  have hf29 := hts (.fieldLink RX0 29 "Clockmask" "cueOther" "[I") (by decide +kernel)
  refine va_putF (D := D) (ci := 0) (v := .ref q_55) (ty := .array .int) (C := RX0) (T := TX0) (N := 17) hx hb_ hts hin tyX0 tyX0_ok nmX0 hown hK_ hP hD hS_ 0 rfl rfl 6 (by decide) hf29 (fun _ h9 => h9) rfl hinit rfl (by decide +kernel) rfl rfl (Nat.le_of_ble_eq_true rfl) dX0_init_57 (fun H locs hP hD hS_ => ?_)
  have hP : va_P D vwCl [(x_, .inr (0, [.ref q_7, .ref q_15, .ref q_23, .ref q_31, .ref q_39, .ref q_47, .ref q_55, .null, .null, .null, .int 0, .int 0, .null, .null, .int 0, .int 0, .null])), (q_7, .inl (cI, 6, .inl (fun _ => 0))), (q_15, .inl (cI, 6, .inl (fun _ => 0))), (q_23, .inl (cZ, 6, .inl (fun _ => 0))), (q_31, .inl (cI, 8, .inl (fun _ => 0))), (q_39, .inl (cI, 24, .inl (fun _ => 0))), (q_47, .inl (cI, 24, .inl (fun _ => 0))), (q_55, .inl (cI, 24, .inl (fun _ => 0)))] H := hP
  have hD : va_D A [(x_, .inr (0, [.ref q_7, .ref q_15, .ref q_23, .ref q_31, .ref q_39, .ref q_47, .ref q_55, .null, .null, .null, .int 0, .int 0, .null, .null, .int 0, .int 0, .null])), (q_7, .inl (cI, 6, .inl (fun _ => 0))), (q_15, .inl (cI, 6, .inl (fun _ => 0))), (q_23, .inl (cZ, 6, .inl (fun _ => 0))), (q_31, .inl (cI, 8, .inl (fun _ => 0))), (q_39, .inl (cI, 24, .inl (fun _ => 0))), (q_47, .inl (cI, 24, .inl (fun _ => 0))), (q_55, .inl (cI, 24, .inl (fun _ => 0)))] := hD
  refine lv_aload_n hx hb_ dX0_init_60 rfl (lv_at hl 0 rfl) ?_
  refine lv_bipush (v := 24) hx hb_ dX0_init_61 (by decide) ?_
  refine va_newa (atype := .int) (ty := .int) (N' := 24) (a0 := (24, .inl (fun _ => 0))) hx hb_ (hts (.arrayClass .int) (by decide +kernel)) rfl hK_ hP hD hS_ hA (fun _ => rfl) (by decide) (by decide) (Nat.le_of_ble_eq_true rfl) (Nat.le_of_ble_eq_true rfl) (Nat.le_of_ble_eq_true rfl) dX0_init_63 (fun q_63 cA_63 H hK_ hP hD hS_ => ?_)
  have e_63 : cI = cA_63 := va_sameI hK_ 0 2 rfl rfl
  subst e_63
  have hK_ : va_K D vwCl [(cI, .int), (cZ, .boolean)] s_ := hK_.sub [0, 1] rfl
  refine W.widen (k := 8) (n := 122) (Nat.le_refl _) (Nat.le_refl _) ?_
  have hP : va_P D vwCl [(x_, .inr (0, [.ref q_7, .ref q_15, .ref q_23, .ref q_31, .ref q_39, .ref q_47, .ref q_55, .null, .null, .null, .int 0, .int 0, .null, .null, .int 0, .int 0, .null])), (q_7, .inl (cI, 6, .inl (fun _ => 0))), (q_15, .inl (cI, 6, .inl (fun _ => 0))), (q_23, .inl (cZ, 6, .inl (fun _ => 0))), (q_31, .inl (cI, 8, .inl (fun _ => 0))), (q_39, .inl (cI, 24, .inl (fun _ => 0))), (q_47, .inl (cI, 24, .inl (fun _ => 0))), (q_55, .inl (cI, 24, .inl (fun _ => 0))), (q_63, .inl (cI, 24, .inl (fun _ => 0)))] H := hP
  have hD : va_D A [(x_, .inr (0, [.ref q_7, .ref q_15, .ref q_23, .ref q_31, .ref q_39, .ref q_47, .ref q_55, .null, .null, .null, .int 0, .int 0, .null, .null, .int 0, .int 0, .null])), (q_7, .inl (cI, 6, .inl (fun _ => 0))), (q_15, .inl (cI, 6, .inl (fun _ => 0))), (q_23, .inl (cZ, 6, .inl (fun _ => 0))), (q_31, .inl (cI, 8, .inl (fun _ => 0))), (q_39, .inl (cI, 24, .inl (fun _ => 0))), (q_47, .inl (cI, 24, .inl (fun _ => 0))), (q_55, .inl (cI, 24, .inl (fun _ => 0))), (q_63, .inl (cI, 24, .inl (fun _ => 0)))] := hD
  have hf32 := hts (.fieldLink RX0 32 "Clockmask" "cueWaits" "[I") (by decide +kernel)
  refine va_putF (D := D) (ci := 0) (v := .ref q_63) (ty := .array .int) (C := RX0) (T := TX0) (N := 17) hx hb_ hts hin tyX0 tyX0_ok nmX0 hown hK_ hP hD hS_ 0 rfl rfl 7 (by decide) hf32 (fun _ h9 => h9) rfl hinit rfl (by decide +kernel) rfl rfl (Nat.le_of_ble_eq_true rfl) dX0_init_65 (fun H locs hP hD hS_ => ?_)
  have hP : va_P D vwCl [(x_, .inr (0, [.ref q_7, .ref q_15, .ref q_23, .ref q_31, .ref q_39, .ref q_47, .ref q_55, .ref q_63, .null, .null, .int 0, .int 0, .null, .null, .int 0, .int 0, .null])), (q_7, .inl (cI, 6, .inl (fun _ => 0))), (q_15, .inl (cI, 6, .inl (fun _ => 0))), (q_23, .inl (cZ, 6, .inl (fun _ => 0))), (q_31, .inl (cI, 8, .inl (fun _ => 0))), (q_39, .inl (cI, 24, .inl (fun _ => 0))), (q_47, .inl (cI, 24, .inl (fun _ => 0))), (q_55, .inl (cI, 24, .inl (fun _ => 0))), (q_63, .inl (cI, 24, .inl (fun _ => 0)))] H := hP
  have hD : va_D A [(x_, .inr (0, [.ref q_7, .ref q_15, .ref q_23, .ref q_31, .ref q_39, .ref q_47, .ref q_55, .ref q_63, .null, .null, .int 0, .int 0, .null, .null, .int 0, .int 0, .null])), (q_7, .inl (cI, 6, .inl (fun _ => 0))), (q_15, .inl (cI, 6, .inl (fun _ => 0))), (q_23, .inl (cZ, 6, .inl (fun _ => 0))), (q_31, .inl (cI, 8, .inl (fun _ => 0))), (q_39, .inl (cI, 24, .inl (fun _ => 0))), (q_47, .inl (cI, 24, .inl (fun _ => 0))), (q_55, .inl (cI, 24, .inl (fun _ => 0))), (q_63, .inl (cI, 24, .inl (fun _ => 0)))] := hD
  refine lv_aload_n hx hb_ dX0_init_68 rfl (lv_at hl 0 rfl) ?_
  refine lv_bipush (v := 24) hx hb_ dX0_init_69 (by decide) ?_
  refine va_newa (atype := .int) (ty := .int) (N' := 24) (a0 := (24, .inl (fun _ => 0))) hx hb_ (hts (.arrayClass .int) (by decide +kernel)) rfl hK_ hP hD hS_ hA (fun _ => rfl) (by decide) (by decide) (Nat.le_of_ble_eq_true rfl) (Nat.le_of_ble_eq_true rfl) (Nat.le_of_ble_eq_true rfl) dX0_init_71 (fun q_71 cA_71 H hK_ hP hD hS_ => ?_)
  have e_71 : cI = cA_71 := va_sameI hK_ 0 2 rfl rfl
  subst e_71
  have hK_ : va_K D vwCl [(cI, .int), (cZ, .boolean)] s_ := hK_.sub [0, 1] rfl
  refine W.widen (k := 9) (n := 146) (Nat.le_refl _) (Nat.le_refl _) ?_
  have hP : va_P D vwCl [(x_, .inr (0, [.ref q_7, .ref q_15, .ref q_23, .ref q_31, .ref q_39, .ref q_47, .ref q_55, .ref q_63, .null, .null, .int 0, .int 0, .null, .null, .int 0, .int 0, .null])), (q_7, .inl (cI, 6, .inl (fun _ => 0))), (q_15, .inl (cI, 6, .inl (fun _ => 0))), (q_23, .inl (cZ, 6, .inl (fun _ => 0))), (q_31, .inl (cI, 8, .inl (fun _ => 0))), (q_39, .inl (cI, 24, .inl (fun _ => 0))), (q_47, .inl (cI, 24, .inl (fun _ => 0))), (q_55, .inl (cI, 24, .inl (fun _ => 0))), (q_63, .inl (cI, 24, .inl (fun _ => 0))), (q_71, .inl (cI, 24, .inl (fun _ => 0)))] H := hP
  have hD : va_D A [(x_, .inr (0, [.ref q_7, .ref q_15, .ref q_23, .ref q_31, .ref q_39, .ref q_47, .ref q_55, .ref q_63, .null, .null, .int 0, .int 0, .null, .null, .int 0, .int 0, .null])), (q_7, .inl (cI, 6, .inl (fun _ => 0))), (q_15, .inl (cI, 6, .inl (fun _ => 0))), (q_23, .inl (cZ, 6, .inl (fun _ => 0))), (q_31, .inl (cI, 8, .inl (fun _ => 0))), (q_39, .inl (cI, 24, .inl (fun _ => 0))), (q_47, .inl (cI, 24, .inl (fun _ => 0))), (q_55, .inl (cI, 24, .inl (fun _ => 0))), (q_63, .inl (cI, 24, .inl (fun _ => 0))), (q_71, .inl (cI, 24, .inl (fun _ => 0)))] := hD
  have hf35 := hts (.fieldLink RX0 35 "Clockmask" "cueState" "[I") (by decide +kernel)
  refine va_putF (D := D) (ci := 0) (v := .ref q_71) (ty := .array .int) (C := RX0) (T := TX0) (N := 17) hx hb_ hts hin tyX0 tyX0_ok nmX0 hown hK_ hP hD hS_ 0 rfl rfl 8 (by decide) hf35 (fun _ h9 => h9) rfl hinit rfl (by decide +kernel) rfl rfl (Nat.le_of_ble_eq_true rfl) dX0_init_73 (fun H locs hP hD hS_ => ?_)
  have hP : va_P D vwCl [(x_, .inr (0, [.ref q_7, .ref q_15, .ref q_23, .ref q_31, .ref q_39, .ref q_47, .ref q_55, .ref q_63, .ref q_71, .null, .int 0, .int 0, .null, .null, .int 0, .int 0, .null])), (q_7, .inl (cI, 6, .inl (fun _ => 0))), (q_15, .inl (cI, 6, .inl (fun _ => 0))), (q_23, .inl (cZ, 6, .inl (fun _ => 0))), (q_31, .inl (cI, 8, .inl (fun _ => 0))), (q_39, .inl (cI, 24, .inl (fun _ => 0))), (q_47, .inl (cI, 24, .inl (fun _ => 0))), (q_55, .inl (cI, 24, .inl (fun _ => 0))), (q_63, .inl (cI, 24, .inl (fun _ => 0))), (q_71, .inl (cI, 24, .inl (fun _ => 0)))] H := hP
  have hD : va_D A [(x_, .inr (0, [.ref q_7, .ref q_15, .ref q_23, .ref q_31, .ref q_39, .ref q_47, .ref q_55, .ref q_63, .ref q_71, .null, .int 0, .int 0, .null, .null, .int 0, .int 0, .null])), (q_7, .inl (cI, 6, .inl (fun _ => 0))), (q_15, .inl (cI, 6, .inl (fun _ => 0))), (q_23, .inl (cZ, 6, .inl (fun _ => 0))), (q_31, .inl (cI, 8, .inl (fun _ => 0))), (q_39, .inl (cI, 24, .inl (fun _ => 0))), (q_47, .inl (cI, 24, .inl (fun _ => 0))), (q_55, .inl (cI, 24, .inl (fun _ => 0))), (q_63, .inl (cI, 24, .inl (fun _ => 0))), (q_71, .inl (cI, 24, .inl (fun _ => 0)))] := hD
  refine lv_aload_n hx hb_ dX0_init_76 rfl (lv_at hl 0 rfl) ?_
  refine lv_bipush (v := 24) hx hb_ dX0_init_77 (by decide) ?_
  refine va_newa (atype := .int) (ty := .int) (N' := 24) (a0 := (24, .inl (fun _ => 0))) hx hb_ (hts (.arrayClass .int) (by decide +kernel)) rfl hK_ hP hD hS_ hA (fun _ => rfl) (by decide) (by decide) (Nat.le_of_ble_eq_true rfl) (Nat.le_of_ble_eq_true rfl) (Nat.le_of_ble_eq_true rfl) dX0_init_79 (fun q_79 cA_79 H hK_ hP hD hS_ => ?_)
  have e_79 : cI = cA_79 := va_sameI hK_ 0 2 rfl rfl
  subst e_79
  have hK_ : va_K D vwCl [(cI, .int), (cZ, .boolean)] s_ := hK_.sub [0, 1] rfl
  refine W.widen (k := 10) (n := 170) (Nat.le_refl _) (Nat.le_refl _) ?_
  have hP : va_P D vwCl [(x_, .inr (0, [.ref q_7, .ref q_15, .ref q_23, .ref q_31, .ref q_39, .ref q_47, .ref q_55, .ref q_63, .ref q_71, .null, .int 0, .int 0, .null, .null, .int 0, .int 0, .null])), (q_7, .inl (cI, 6, .inl (fun _ => 0))), (q_15, .inl (cI, 6, .inl (fun _ => 0))), (q_23, .inl (cZ, 6, .inl (fun _ => 0))), (q_31, .inl (cI, 8, .inl (fun _ => 0))), (q_39, .inl (cI, 24, .inl (fun _ => 0))), (q_47, .inl (cI, 24, .inl (fun _ => 0))), (q_55, .inl (cI, 24, .inl (fun _ => 0))), (q_63, .inl (cI, 24, .inl (fun _ => 0))), (q_71, .inl (cI, 24, .inl (fun _ => 0))), (q_79, .inl (cI, 24, .inl (fun _ => 0)))] H := hP
  have hD : va_D A [(x_, .inr (0, [.ref q_7, .ref q_15, .ref q_23, .ref q_31, .ref q_39, .ref q_47, .ref q_55, .ref q_63, .ref q_71, .null, .int 0, .int 0, .null, .null, .int 0, .int 0, .null])), (q_7, .inl (cI, 6, .inl (fun _ => 0))), (q_15, .inl (cI, 6, .inl (fun _ => 0))), (q_23, .inl (cZ, 6, .inl (fun _ => 0))), (q_31, .inl (cI, 8, .inl (fun _ => 0))), (q_39, .inl (cI, 24, .inl (fun _ => 0))), (q_47, .inl (cI, 24, .inl (fun _ => 0))), (q_55, .inl (cI, 24, .inl (fun _ => 0))), (q_63, .inl (cI, 24, .inl (fun _ => 0))), (q_71, .inl (cI, 24, .inl (fun _ => 0))), (q_79, .inl (cI, 24, .inl (fun _ => 0)))] := hD
  have hf38 := hts (.fieldLink RX0 38 "Clockmask" "calledCues" "[I") (by decide +kernel)
  refine va_putF (D := D) (ci := 0) (v := .ref q_79) (ty := .array .int) (C := RX0) (T := TX0) (N := 17) hx hb_ hts hin tyX0 tyX0_ok nmX0 hown hK_ hP hD hS_ 0 rfl rfl 9 (by decide) hf38 (fun _ h9 => h9) rfl hinit rfl (by decide +kernel) rfl rfl (Nat.le_of_ble_eq_true rfl) dX0_init_81 (fun H locs hP hD hS_ => ?_)
  have hP : va_P D vwCl [(x_, .inr (0, [.ref q_7, .ref q_15, .ref q_23, .ref q_31, .ref q_39, .ref q_47, .ref q_55, .ref q_63, .ref q_71, .ref q_79, .int 0, .int 0, .null, .null, .int 0, .int 0, .null])), (q_7, .inl (cI, 6, .inl (fun _ => 0))), (q_15, .inl (cI, 6, .inl (fun _ => 0))), (q_23, .inl (cZ, 6, .inl (fun _ => 0))), (q_31, .inl (cI, 8, .inl (fun _ => 0))), (q_39, .inl (cI, 24, .inl (fun _ => 0))), (q_47, .inl (cI, 24, .inl (fun _ => 0))), (q_55, .inl (cI, 24, .inl (fun _ => 0))), (q_63, .inl (cI, 24, .inl (fun _ => 0))), (q_71, .inl (cI, 24, .inl (fun _ => 0))), (q_79, .inl (cI, 24, .inl (fun _ => 0)))] H := hP
  have hD : va_D A [(x_, .inr (0, [.ref q_7, .ref q_15, .ref q_23, .ref q_31, .ref q_39, .ref q_47, .ref q_55, .ref q_63, .ref q_71, .ref q_79, .int 0, .int 0, .null, .null, .int 0, .int 0, .null])), (q_7, .inl (cI, 6, .inl (fun _ => 0))), (q_15, .inl (cI, 6, .inl (fun _ => 0))), (q_23, .inl (cZ, 6, .inl (fun _ => 0))), (q_31, .inl (cI, 8, .inl (fun _ => 0))), (q_39, .inl (cI, 24, .inl (fun _ => 0))), (q_47, .inl (cI, 24, .inl (fun _ => 0))), (q_55, .inl (cI, 24, .inl (fun _ => 0))), (q_63, .inl (cI, 24, .inl (fun _ => 0))), (q_71, .inl (cI, 24, .inl (fun _ => 0))), (q_79, .inl (cI, 24, .inl (fun _ => 0)))] := hD
  refine lv_aload_n hx hb_ dX0_init_84 rfl (lv_at hl 0 rfl) ?_
  refine lv_iconst (v := 3) hx hb_ dX0_init_85 (by decide) ?_
  refine va_newa (atype := .int) (ty := .int) (N' := 3) (a0 := (3, .inl (fun _ => 0))) hx hb_ (hts (.arrayClass .int) (by decide +kernel)) rfl hK_ hP hD hS_ hA (fun _ => rfl) (by decide) (by decide) (Nat.le_of_ble_eq_true rfl) (Nat.le_of_ble_eq_true rfl) (Nat.le_of_ble_eq_true rfl) dX0_init_86 (fun q_86 cA_86 H hK_ hP hD hS_ => ?_)
  have e_86 : cI = cA_86 := va_sameI hK_ 0 2 rfl rfl
  subst e_86
  have hK_ : va_K D vwCl [(cI, .int), (cZ, .boolean)] s_ := hK_.sub [0, 1] rfl
  refine W.widen (k := 11) (n := 173) (Nat.le_refl _) (Nat.le_refl _) ?_
  have hP : va_P D vwCl [(x_, .inr (0, [.ref q_7, .ref q_15, .ref q_23, .ref q_31, .ref q_39, .ref q_47, .ref q_55, .ref q_63, .ref q_71, .ref q_79, .int 0, .int 0, .null, .null, .int 0, .int 0, .null])), (q_7, .inl (cI, 6, .inl (fun _ => 0))), (q_15, .inl (cI, 6, .inl (fun _ => 0))), (q_23, .inl (cZ, 6, .inl (fun _ => 0))), (q_31, .inl (cI, 8, .inl (fun _ => 0))), (q_39, .inl (cI, 24, .inl (fun _ => 0))), (q_47, .inl (cI, 24, .inl (fun _ => 0))), (q_55, .inl (cI, 24, .inl (fun _ => 0))), (q_63, .inl (cI, 24, .inl (fun _ => 0))), (q_71, .inl (cI, 24, .inl (fun _ => 0))), (q_79, .inl (cI, 24, .inl (fun _ => 0))), (q_86, .inl (cI, 3, .inl (fun _ => 0)))] H := hP
  have hD : va_D A [(x_, .inr (0, [.ref q_7, .ref q_15, .ref q_23, .ref q_31, .ref q_39, .ref q_47, .ref q_55, .ref q_63, .ref q_71, .ref q_79, .int 0, .int 0, .null, .null, .int 0, .int 0, .null])), (q_7, .inl (cI, 6, .inl (fun _ => 0))), (q_15, .inl (cI, 6, .inl (fun _ => 0))), (q_23, .inl (cZ, 6, .inl (fun _ => 0))), (q_31, .inl (cI, 8, .inl (fun _ => 0))), (q_39, .inl (cI, 24, .inl (fun _ => 0))), (q_47, .inl (cI, 24, .inl (fun _ => 0))), (q_55, .inl (cI, 24, .inl (fun _ => 0))), (q_63, .inl (cI, 24, .inl (fun _ => 0))), (q_71, .inl (cI, 24, .inl (fun _ => 0))), (q_79, .inl (cI, 24, .inl (fun _ => 0))), (q_86, .inl (cI, 3, .inl (fun _ => 0)))] := hD
  have hf41 := hts (.fieldLink RX0 41 "Clockmask" "pointsOfGuesser" "[I") (by decide +kernel)
  refine va_putF (D := D) (ci := 0) (v := .ref q_86) (ty := .array .int) (C := RX0) (T := TX0) (N := 17) hx hb_ hts hin tyX0 tyX0_ok nmX0 hown hK_ hP hD hS_ 0 rfl rfl 12 (by decide) hf41 (fun _ h9 => h9) rfl hinit rfl (by decide +kernel) rfl rfl (Nat.le_of_ble_eq_true rfl) dX0_init_88 (fun H locs hP hD hS_ => ?_)
  have hP : va_P D vwCl [(x_, .inr (0, [.ref q_7, .ref q_15, .ref q_23, .ref q_31, .ref q_39, .ref q_47, .ref q_55, .ref q_63, .ref q_71, .ref q_79, .int 0, .int 0, .ref q_86, .null, .int 0, .int 0, .null])), (q_7, .inl (cI, 6, .inl (fun _ => 0))), (q_15, .inl (cI, 6, .inl (fun _ => 0))), (q_23, .inl (cZ, 6, .inl (fun _ => 0))), (q_31, .inl (cI, 8, .inl (fun _ => 0))), (q_39, .inl (cI, 24, .inl (fun _ => 0))), (q_47, .inl (cI, 24, .inl (fun _ => 0))), (q_55, .inl (cI, 24, .inl (fun _ => 0))), (q_63, .inl (cI, 24, .inl (fun _ => 0))), (q_71, .inl (cI, 24, .inl (fun _ => 0))), (q_79, .inl (cI, 24, .inl (fun _ => 0))), (q_86, .inl (cI, 3, .inl (fun _ => 0)))] H := hP
  have hD : va_D A [(x_, .inr (0, [.ref q_7, .ref q_15, .ref q_23, .ref q_31, .ref q_39, .ref q_47, .ref q_55, .ref q_63, .ref q_71, .ref q_79, .int 0, .int 0, .ref q_86, .null, .int 0, .int 0, .null])), (q_7, .inl (cI, 6, .inl (fun _ => 0))), (q_15, .inl (cI, 6, .inl (fun _ => 0))), (q_23, .inl (cZ, 6, .inl (fun _ => 0))), (q_31, .inl (cI, 8, .inl (fun _ => 0))), (q_39, .inl (cI, 24, .inl (fun _ => 0))), (q_47, .inl (cI, 24, .inl (fun _ => 0))), (q_55, .inl (cI, 24, .inl (fun _ => 0))), (q_63, .inl (cI, 24, .inl (fun _ => 0))), (q_71, .inl (cI, 24, .inl (fun _ => 0))), (q_79, .inl (cI, 24, .inl (fun _ => 0))), (q_86, .inl (cI, 3, .inl (fun _ => 0)))] := hD
  refine lv_aload_n hx hb_ dX0_init_91 rfl (lv_at hl 0 rfl) ?_
  refine lv_bipush (v := 18) hx hb_ dX0_init_92 (by decide) ?_
  refine va_newa (atype := .boolean) (ty := .boolean) (N' := 18) (a0 := (18, .inl (fun _ => 0))) hx hb_ (hts (.arrayClass .boolean) (by decide +kernel)) rfl hK_ hP hD hS_ hA (fun _ => rfl) (by decide) (by decide) (Nat.le_of_ble_eq_true rfl) (Nat.le_of_ble_eq_true rfl) (Nat.le_of_ble_eq_true rfl) dX0_init_94 (fun q_94 cA_94 H hK_ hP hD hS_ => ?_)
  have e_94 : cZ = cA_94 := va_sameZ hK_ 1 2 rfl rfl
  subst e_94
  have hK_ : va_K D vwCl [(cI, .int), (cZ, .boolean)] s_ := hK_.sub [0, 1] rfl
  refine W.widen (k := 12) (n := 191) (Nat.le_refl _) (Nat.le_refl _) ?_
  have hP : va_P D vwCl [(x_, .inr (0, [.ref q_7, .ref q_15, .ref q_23, .ref q_31, .ref q_39, .ref q_47, .ref q_55, .ref q_63, .ref q_71, .ref q_79, .int 0, .int 0, .ref q_86, .null, .int 0, .int 0, .null])), (q_7, .inl (cI, 6, .inl (fun _ => 0))), (q_15, .inl (cI, 6, .inl (fun _ => 0))), (q_23, .inl (cZ, 6, .inl (fun _ => 0))), (q_31, .inl (cI, 8, .inl (fun _ => 0))), (q_39, .inl (cI, 24, .inl (fun _ => 0))), (q_47, .inl (cI, 24, .inl (fun _ => 0))), (q_55, .inl (cI, 24, .inl (fun _ => 0))), (q_63, .inl (cI, 24, .inl (fun _ => 0))), (q_71, .inl (cI, 24, .inl (fun _ => 0))), (q_79, .inl (cI, 24, .inl (fun _ => 0))), (q_86, .inl (cI, 3, .inl (fun _ => 0))), (q_94, .inl (cZ, 18, .inl (fun _ => 0)))] H := hP
  have hD : va_D A [(x_, .inr (0, [.ref q_7, .ref q_15, .ref q_23, .ref q_31, .ref q_39, .ref q_47, .ref q_55, .ref q_63, .ref q_71, .ref q_79, .int 0, .int 0, .ref q_86, .null, .int 0, .int 0, .null])), (q_7, .inl (cI, 6, .inl (fun _ => 0))), (q_15, .inl (cI, 6, .inl (fun _ => 0))), (q_23, .inl (cZ, 6, .inl (fun _ => 0))), (q_31, .inl (cI, 8, .inl (fun _ => 0))), (q_39, .inl (cI, 24, .inl (fun _ => 0))), (q_47, .inl (cI, 24, .inl (fun _ => 0))), (q_55, .inl (cI, 24, .inl (fun _ => 0))), (q_63, .inl (cI, 24, .inl (fun _ => 0))), (q_71, .inl (cI, 24, .inl (fun _ => 0))), (q_79, .inl (cI, 24, .inl (fun _ => 0))), (q_86, .inl (cI, 3, .inl (fun _ => 0))), (q_94, .inl (cZ, 18, .inl (fun _ => 0)))] := hD
  have hf44 := hts (.fieldLink RX0 44 "Clockmask" "guessed" "[Z") (by decide +kernel)
  refine va_putF (D := D) (ci := 0) (v := .ref q_94) (ty := .array .boolean) (C := RX0) (T := TX0) (N := 17) hx hb_ hts hin tyX0 tyX0_ok nmX0 hown hK_ hP hD hS_ 0 rfl rfl 13 (by decide) hf44 (fun _ h9 => h9) rfl hinit rfl (by decide +kernel) rfl rfl (Nat.le_of_ble_eq_true rfl) dX0_init_96 (fun H locs hP hD hS_ => ?_)
  have hP : va_P D vwCl [(x_, .inr (0, [.ref q_7, .ref q_15, .ref q_23, .ref q_31, .ref q_39, .ref q_47, .ref q_55, .ref q_63, .ref q_71, .ref q_79, .int 0, .int 0, .ref q_86, .ref q_94, .int 0, .int 0, .null])), (q_7, .inl (cI, 6, .inl (fun _ => 0))), (q_15, .inl (cI, 6, .inl (fun _ => 0))), (q_23, .inl (cZ, 6, .inl (fun _ => 0))), (q_31, .inl (cI, 8, .inl (fun _ => 0))), (q_39, .inl (cI, 24, .inl (fun _ => 0))), (q_47, .inl (cI, 24, .inl (fun _ => 0))), (q_55, .inl (cI, 24, .inl (fun _ => 0))), (q_63, .inl (cI, 24, .inl (fun _ => 0))), (q_71, .inl (cI, 24, .inl (fun _ => 0))), (q_79, .inl (cI, 24, .inl (fun _ => 0))), (q_86, .inl (cI, 3, .inl (fun _ => 0))), (q_94, .inl (cZ, 18, .inl (fun _ => 0)))] H := hP
  have hD : va_D A [(x_, .inr (0, [.ref q_7, .ref q_15, .ref q_23, .ref q_31, .ref q_39, .ref q_47, .ref q_55, .ref q_63, .ref q_71, .ref q_79, .int 0, .int 0, .ref q_86, .ref q_94, .int 0, .int 0, .null])), (q_7, .inl (cI, 6, .inl (fun _ => 0))), (q_15, .inl (cI, 6, .inl (fun _ => 0))), (q_23, .inl (cZ, 6, .inl (fun _ => 0))), (q_31, .inl (cI, 8, .inl (fun _ => 0))), (q_39, .inl (cI, 24, .inl (fun _ => 0))), (q_47, .inl (cI, 24, .inl (fun _ => 0))), (q_55, .inl (cI, 24, .inl (fun _ => 0))), (q_63, .inl (cI, 24, .inl (fun _ => 0))), (q_71, .inl (cI, 24, .inl (fun _ => 0))), (q_79, .inl (cI, 24, .inl (fun _ => 0))), (q_86, .inl (cI, 3, .inl (fun _ => 0))), (q_94, .inl (cZ, 18, .inl (fun _ => 0)))] := hD
  refine lv_aload_n hx hb_ dX0_init_99 rfl (lv_at hl 0 rfl) ?_
  refine lv_bipush (v := 10) hx hb_ dX0_init_100 (by decide) ?_
  have hf47 := hts (.fieldLink RX0 47 "Clockmask" "purse" "I") (by decide +kernel)
  refine va_put (D := D) (ci := 0) (v := .int 10) (ty := .int) (C := RX0) (T := TX0) (N := 17) hx hb_ hts hin tyX0 tyX0_ok nmX0 hown hK_ hP hD hS_ 0 rfl rfl 14 (by decide) hf47 (fun _ h9 => h9) rfl (by decide +kernel) rfl rfl (Nat.le_of_ble_eq_true rfl) dX0_init_102 (fun H locs hP hD hS_ => ?_)
  have hP : va_P D vwCl [(x_, .inr (0, [.ref q_7, .ref q_15, .ref q_23, .ref q_31, .ref q_39, .ref q_47, .ref q_55, .ref q_63, .ref q_71, .ref q_79, .int 0, .int 0, .ref q_86, .ref q_94, .int 10, .int 0, .null])), (q_7, .inl (cI, 6, .inl (fun _ => 0))), (q_15, .inl (cI, 6, .inl (fun _ => 0))), (q_23, .inl (cZ, 6, .inl (fun _ => 0))), (q_31, .inl (cI, 8, .inl (fun _ => 0))), (q_39, .inl (cI, 24, .inl (fun _ => 0))), (q_47, .inl (cI, 24, .inl (fun _ => 0))), (q_55, .inl (cI, 24, .inl (fun _ => 0))), (q_63, .inl (cI, 24, .inl (fun _ => 0))), (q_71, .inl (cI, 24, .inl (fun _ => 0))), (q_79, .inl (cI, 24, .inl (fun _ => 0))), (q_86, .inl (cI, 3, .inl (fun _ => 0))), (q_94, .inl (cZ, 18, .inl (fun _ => 0)))] H := hP
  have hD : va_D A [(x_, .inr (0, [.ref q_7, .ref q_15, .ref q_23, .ref q_31, .ref q_39, .ref q_47, .ref q_55, .ref q_63, .ref q_71, .ref q_79, .int 0, .int 0, .ref q_86, .ref q_94, .int 10, .int 0, .null])), (q_7, .inl (cI, 6, .inl (fun _ => 0))), (q_15, .inl (cI, 6, .inl (fun _ => 0))), (q_23, .inl (cZ, 6, .inl (fun _ => 0))), (q_31, .inl (cI, 8, .inl (fun _ => 0))), (q_39, .inl (cI, 24, .inl (fun _ => 0))), (q_47, .inl (cI, 24, .inl (fun _ => 0))), (q_55, .inl (cI, 24, .inl (fun _ => 0))), (q_63, .inl (cI, 24, .inl (fun _ => 0))), (q_71, .inl (cI, 24, .inl (fun _ => 0))), (q_79, .inl (cI, 24, .inl (fun _ => 0))), (q_86, .inl (cI, 3, .inl (fun _ => 0))), (q_94, .inl (cZ, 18, .inl (fun _ => 0)))] := hD
  refine lv_aload_n hx hb_ dX0_init_105 rfl (lv_at hl 0 rfl) ?_
  refine lv_bipush (v := 6) hx hb_ dX0_init_106 (by decide) ?_
  refine va_newa (atype := .int) (ty := .int) (N' := 6) (a0 := (6, .inl (fun _ => 0))) hx hb_ (hts (.arrayClass .int) (by decide +kernel)) rfl hK_ hP hD hS_ hA (fun _ => rfl) (by decide) (by decide) (Nat.le_of_ble_eq_true rfl) (Nat.le_of_ble_eq_true rfl) (Nat.le_of_ble_eq_true rfl) dX0_init_108 (fun q_108 cA_108 H hK_ hP hD hS_ => ?_)
  have e_108 : cI = cA_108 := va_sameI hK_ 0 2 rfl rfl
  subst e_108
  have hK_ : va_K D vwCl [(cI, .int), (cZ, .boolean)] s_ := hK_.sub [0, 1] rfl
  refine W.widen (k := 13) (n := 197) (Nat.le_refl _) (Nat.le_refl _) ?_
  have hP : va_P D vwCl [(x_, .inr (0, [.ref q_7, .ref q_15, .ref q_23, .ref q_31, .ref q_39, .ref q_47, .ref q_55, .ref q_63, .ref q_71, .ref q_79, .int 0, .int 0, .ref q_86, .ref q_94, .int 10, .int 0, .null])), (q_7, .inl (cI, 6, .inl (fun _ => 0))), (q_15, .inl (cI, 6, .inl (fun _ => 0))), (q_23, .inl (cZ, 6, .inl (fun _ => 0))), (q_31, .inl (cI, 8, .inl (fun _ => 0))), (q_39, .inl (cI, 24, .inl (fun _ => 0))), (q_47, .inl (cI, 24, .inl (fun _ => 0))), (q_55, .inl (cI, 24, .inl (fun _ => 0))), (q_63, .inl (cI, 24, .inl (fun _ => 0))), (q_71, .inl (cI, 24, .inl (fun _ => 0))), (q_79, .inl (cI, 24, .inl (fun _ => 0))), (q_86, .inl (cI, 3, .inl (fun _ => 0))), (q_94, .inl (cZ, 18, .inl (fun _ => 0))), (q_108, .inl (cI, 6, .inl (fun _ => 0)))] H := hP
  have hD : va_D A [(x_, .inr (0, [.ref q_7, .ref q_15, .ref q_23, .ref q_31, .ref q_39, .ref q_47, .ref q_55, .ref q_63, .ref q_71, .ref q_79, .int 0, .int 0, .ref q_86, .ref q_94, .int 10, .int 0, .null])), (q_7, .inl (cI, 6, .inl (fun _ => 0))), (q_15, .inl (cI, 6, .inl (fun _ => 0))), (q_23, .inl (cZ, 6, .inl (fun _ => 0))), (q_31, .inl (cI, 8, .inl (fun _ => 0))), (q_39, .inl (cI, 24, .inl (fun _ => 0))), (q_47, .inl (cI, 24, .inl (fun _ => 0))), (q_55, .inl (cI, 24, .inl (fun _ => 0))), (q_63, .inl (cI, 24, .inl (fun _ => 0))), (q_71, .inl (cI, 24, .inl (fun _ => 0))), (q_79, .inl (cI, 24, .inl (fun _ => 0))), (q_86, .inl (cI, 3, .inl (fun _ => 0))), (q_94, .inl (cZ, 18, .inl (fun _ => 0))), (q_108, .inl (cI, 6, .inl (fun _ => 0)))] := hD
  have hf51 := hts (.fieldLink RX0 51 "Clockmask" "replayedMasks" "[I") (by decide +kernel)
  refine va_putF (D := D) (ci := 0) (v := .ref q_108) (ty := .array .int) (C := RX0) (T := TX0) (N := 17) hx hb_ hts hin tyX0 tyX0_ok nmX0 hown hK_ hP hD hS_ 0 rfl rfl 16 (by decide) hf51 (fun _ h9 => h9) rfl hinit rfl (by decide +kernel) rfl rfl (Nat.le_of_ble_eq_true rfl) dX0_init_110 (fun H locs hP hD hS_ => ?_)
  have hP : va_P D vwCl [(x_, .inr (0, [.ref q_7, .ref q_15, .ref q_23, .ref q_31, .ref q_39, .ref q_47, .ref q_55, .ref q_63, .ref q_71, .ref q_79, .int 0, .int 0, .ref q_86, .ref q_94, .int 10, .int 0, .ref q_108])), (q_7, .inl (cI, 6, .inl (fun _ => 0))), (q_15, .inl (cI, 6, .inl (fun _ => 0))), (q_23, .inl (cZ, 6, .inl (fun _ => 0))), (q_31, .inl (cI, 8, .inl (fun _ => 0))), (q_39, .inl (cI, 24, .inl (fun _ => 0))), (q_47, .inl (cI, 24, .inl (fun _ => 0))), (q_55, .inl (cI, 24, .inl (fun _ => 0))), (q_63, .inl (cI, 24, .inl (fun _ => 0))), (q_71, .inl (cI, 24, .inl (fun _ => 0))), (q_79, .inl (cI, 24, .inl (fun _ => 0))), (q_86, .inl (cI, 3, .inl (fun _ => 0))), (q_94, .inl (cZ, 18, .inl (fun _ => 0))), (q_108, .inl (cI, 6, .inl (fun _ => 0)))] H := hP
  have hD : va_D A [(x_, .inr (0, [.ref q_7, .ref q_15, .ref q_23, .ref q_31, .ref q_39, .ref q_47, .ref q_55, .ref q_63, .ref q_71, .ref q_79, .int 0, .int 0, .ref q_86, .ref q_94, .int 10, .int 0, .ref q_108])), (q_7, .inl (cI, 6, .inl (fun _ => 0))), (q_15, .inl (cI, 6, .inl (fun _ => 0))), (q_23, .inl (cZ, 6, .inl (fun _ => 0))), (q_31, .inl (cI, 8, .inl (fun _ => 0))), (q_39, .inl (cI, 24, .inl (fun _ => 0))), (q_47, .inl (cI, 24, .inl (fun _ => 0))), (q_55, .inl (cI, 24, .inl (fun _ => 0))), (q_63, .inl (cI, 24, .inl (fun _ => 0))), (q_71, .inl (cI, 24, .inl (fun _ => 0))), (q_79, .inl (cI, 24, .inl (fun _ => 0))), (q_86, .inl (cI, 3, .inl (fun _ => 0))), (q_94, .inl (cZ, 18, .inl (fun _ => 0))), (q_108, .inl (cI, 6, .inl (fun _ => 0)))] := hD
  obtain ⟨a_, e_a0, e_a1, e_a2, e_a3, e_a4, e_a5, e_a6, e_a7, e_a8, e_a9, e_a12, e_a13, e_a16⟩ : ∃ a_ : Nat → Nat, a_ 0 = q_7 ∧ a_ 1 = q_15 ∧ a_ 2 = q_23 ∧ a_ 3 = q_31 ∧ a_ 4 = q_39 ∧ a_ 5 = q_47 ∧ a_ 6 = q_55 ∧ a_ 7 = q_63 ∧ a_ 8 = q_71 ∧ a_ 9 = q_79 ∧ a_ 12 = q_86 ∧ a_ 13 = q_94 ∧ a_ 16 = q_108 := ⟨fun r_ => ([q_7, q_15, q_23, q_31, q_39, q_47, q_55, q_63, q_71, q_79, 0, 0, q_86, q_94, 0, 0, q_108] : List Nat).getD r_ 0, rfl, rfl, rfl, rfl, rfl, rfl, rfl, rfl, rfl, rfl, rfl, rfl, rfl⟩
  subst e_a0
  subst e_a1
  subst e_a2
  subst e_a3
  subst e_a4
  subst e_a5
  subst e_a6
  subst e_a7
  subst e_a8
  subst e_a9
  subst e_a12
  subst e_a13
  subst e_a16
  have hP : va_P D vwCl (wXr cI cZ x_ a_ (Z0 0) (Z0 1) (Z0 2) (Z0 3) (Z0 4) (Z0 5) (Z0 6) (Z0 7) (Z0 8) (Z0 9) (Z0 10 0) (Z0 11 0) (Z0 12) (Z0 13) 10 (Z0 15 0) (Z0 16)) H := hP
  have hD : va_D A (wXr cI cZ x_ a_ (Z0 0) (Z0 1) (Z0 2) (Z0 3) (Z0 4) (Z0 5) (Z0 6) (Z0 7) (Z0 8) (Z0 9) (Z0 10 0) (Z0 11 0) (Z0 12) (Z0 13) 10 (Z0 15 0) (Z0 16)) := hD
  refine lv_aload_n hx hb_ dX0_init_113 rfl (lv_at hl 0 rfl) ?_
  refine va_get (D := D) (ci := 0) (v := .ref (a_ 0)) (C := RX0) (T := TX0) (N := 17) hx hb_ hts hin hown hK_ hP 0 rfl rfl 0 (by decide) hf9 (fun _ h9 => h9) rfl dX0_init_114 ?_
  refine lv_iconst (v := (-1)) hx hb_ dX0_init_117 (by decide) ?_
  have hFc := va_free (wc := [(a_ 0, .inl (cI, 6, .inl (Z0 0)))]) hD hS_ hA [1] rfl
  refine va_callv (va_runS (As := [.ref (a_ 0), .int (-1)]) (rest := []) ⟨hx, hb_, hml, hown, hts⟩ (c_J7_fill_53178 l D cI (a_ 0) (Z0 0) H.size (-1)) (va_cwS 2 hts gX0_init_J7_fill_53178 rfl rfl rfl (by decide +kernel) ⟨Nat.le_of_ble_eq_true rfl, Nat.le_of_ble_eq_true rfl⟩) (pW_S (hP.sub (ws' := [(a_ 0, .inl (cI, 6, .inl (Z0 0)))]) [1] rfl) (hK_.sub (tys' := tyM cI) [0] rfl) (hD.sub [1] (by decide) rfl)) rfl rfl hl.1 rfl (lv_room (Nat.le_of_ble_eq_true rfl)) dX0_init_118 ⟨Nat.le_of_ble_eq_true rfl, Nat.le_of_ble_eq_true rfl⟩) hS_ (fun q_ _ h_ => hFc q_ h_) hFc (fun u_118 t9 H1 locs ht9 hvm9 h_118 hB9 hz9 hk9 hS_ => ?_)
  have hP1 := atW_P hB9 ht9
  have hD1 := hB9.2
  have hJ9 := va_join (wr := (wXr cI cZ x_ a_ (Z0 0) (Z0 1) (Z0 2) (Z0 3) (Z0 4) (Z0 5) (Z0 6) (Z0 7) (Z0 8) (Z0 9) (Z0 10 0) (Z0 11 0) (Z0 12) (Z0 13) 10 (Z0 15 0) (Z0 16)).eraseIdx 1) hP hD [1] [0, 2, 3, 4, 5, 6, 7, 8, 9, 10, 11, 12, 13] rfl rfl (by decide) (by decide) hk9 hFc hP1 hD1
  subst h_118
  have hP : va_P D vwCl (wXr cI cZ x_ a_ (fa_fill (fun _ => (-1)) (Z0 0) 6) (Z0 1) (Z0 2) (Z0 3) (Z0 4) (Z0 5) (Z0 6) (Z0 7) (Z0 8) (Z0 9) (Z0 10 0) (Z0 11 0) (Z0 12) (Z0 13) 10 (Z0 15 0) (Z0 16)) H1 := hJ9.1.sub [0, 13, 1, 2, 3, 4, 5, 6, 7, 8, 9, 10, 11, 12] rfl
  have hD : va_D A (wXr cI cZ x_ a_ (fa_fill (fun _ => (-1)) (Z0 0) 6) (Z0 1) (Z0 2) (Z0 3) (Z0 4) (Z0 5) (Z0 6) (Z0 7) (Z0 8) (Z0 9) (Z0 10 0) (Z0 11 0) (Z0 12) (Z0 13) 10 (Z0 15 0) (Z0 16)) := hJ9.2.sub [0, 13, 1, 2, 3, 4, 5, 6, 7, 8, 9, 10, 11, 12] (by decide) rfl
  generalize H1 = H at hP hS_ ⊢
  refine lv_aload_n hx hb_ dX0_init_121 rfl (lv_at hl 0 rfl) ?_
  refine va_get (D := D) (ci := 0) (v := .ref (a_ 1)) (C := RX0) (T := TX0) (N := 17) hx hb_ hts hin hown hK_ hP 0 rfl rfl 1 (by decide) hf13 (fun _ h9 => h9) rfl dX0_init_122 ?_
  refine lv_iconst (v := (-1)) hx hb_ dX0_init_125 (by decide) ?_
  have hFc := va_free (wc := [(a_ 1, .inl (cI, 6, .inl (Z0 1)))]) hD hS_ hA [2] rfl
  refine va_callv (va_runS (As := [.ref (a_ 1), .int (-1)]) (rest := []) ⟨hx, hb_, hml, hown, hts⟩ (c_J7_fill_53178 l D cI (a_ 1) (Z0 1) H.size (-1)) (va_cwS 2 hts gX0_init_J7_fill_53178 rfl rfl rfl (by decide +kernel) ⟨Nat.le_of_ble_eq_true rfl, Nat.le_of_ble_eq_true rfl⟩) (pW_S (hP.sub (ws' := [(a_ 1, .inl (cI, 6, .inl (Z0 1)))]) [2] rfl) (hK_.sub (tys' := tyM cI) [0] rfl) (hD.sub [2] (by decide) rfl)) rfl rfl hl.1 rfl (lv_room (Nat.le_of_ble_eq_true rfl)) dX0_init_126 ⟨Nat.le_of_ble_eq_true rfl, Nat.le_of_ble_eq_true rfl⟩) hS_ (fun q_ _ h_ => hFc q_ h_) hFc (fun u_126 t9 H1 locs ht9 hvm9 h_126 hB9 hz9 hk9 hS_ => ?_)
  have hP1 := atW_P hB9 ht9
  have hD1 := hB9.2
  have hJ9 := va_join (wr := (wXr cI cZ x_ a_ (fa_fill (fun _ => (-1)) (Z0 0) 6) (Z0 1) (Z0 2) (Z0 3) (Z0 4) (Z0 5) (Z0 6) (Z0 7) (Z0 8) (Z0 9) (Z0 10 0) (Z0 11 0) (Z0 12) (Z0 13) 10 (Z0 15 0) (Z0 16)).eraseIdx 2) hP hD [2] [0, 1, 3, 4, 5, 6, 7, 8, 9, 10, 11, 12, 13] rfl rfl (by decide) (by decide) hk9 hFc hP1 hD1
  subst h_126
  have hP : va_P D vwCl (wXr cI cZ x_ a_ (fa_fill (fun _ => (-1)) (Z0 0) 6) (fa_fill (fun _ => (-1)) (Z0 1) 6) (Z0 2) (Z0 3) (Z0 4) (Z0 5) (Z0 6) (Z0 7) (Z0 8) (Z0 9) (Z0 10 0) (Z0 11 0) (Z0 12) (Z0 13) 10 (Z0 15 0) (Z0 16)) H1 := hJ9.1.sub [0, 1, 13, 2, 3, 4, 5, 6, 7, 8, 9, 10, 11, 12] rfl
  have hD : va_D A (wXr cI cZ x_ a_ (fa_fill (fun _ => (-1)) (Z0 0) 6) (fa_fill (fun _ => (-1)) (Z0 1) 6) (Z0 2) (Z0 3) (Z0 4) (Z0 5) (Z0 6) (Z0 7) (Z0 8) (Z0 9) (Z0 10 0) (Z0 11 0) (Z0 12) (Z0 13) 10 (Z0 15 0) (Z0 16)) := hJ9.2.sub [0, 1, 13, 2, 3, 4, 5, 6, 7, 8, 9, 10, 11, 12] (by decide) rfl
  generalize H1 = H at hP hS_ ⊢
  refine W.widen (k := 13) (n := 197) (by omega) (by omega) ?_
  exact W.vret hx hb_ hr (fun t_ ht hW => ⟨⟨(), rfl, trivial, cI, cZ, a_, ⟨by rw [ht]; exact (show va_P D vwCl (wX cI cZ x_ a_ S00) _ from hP), va_K.moved hW.alike hK_⟩, (show va_D A (wX cI cZ x_ a_ S00) from hD)⟩, hS_.F ht⟩) hS_.2.2 dX0_init_129
abbrev rmX1_init : Room := ({ frames := 1, cells := 13, slots := 197, locals := 60 } : Room)
set_option maxHeartbeats 4000000 in
set_option maxRecDepth 100000 in
theorem c_X1_init (l : Launch) (D : va_G) (y_ sz : Nat) : Met l yX1_init wsX1_init rmX1_init (va_Pc [.ref y_] (pW D [] [(y_, .inr (1, [.null, .null, .null, .null, .null, .null, .null, .null, .null, .null, .int 0, .int 0, .null, .null, .null, .int 0, .int 0, .int 0]))] sz)) (va_Qv (fun (_ : Unit) => True) (fun _ t_ => ∃ (cI : ClassId) (b_ : Nat → Nat), (va_P D vwCl (wM cI y_ b_ S00 0) t_.heap ∧ va_K D vwCl (tyM cI) t_) ∧ va_D (va_A [(y_, .inr (1, [.null, .null, .null, .null, .null, .null, .null, .null, .null, .null, .int 0, .int 0, .null, .null, .null, .int 0, .int 0, .int 0]))] sz) (wM cI y_ b_ S00 0)) (va_A [(y_, .inr (1, [.null, .null, .null, .null, .null, .null, .null, .null, .null, .null, .int 0, .int 0, .null, .null, .null, .int 0, .int 0, .int 0]))] sz)) 13 197 (va_A [(y_, .inr (1, [.null, .null, .null, .null, .null, .null, .null, .null, .null, .null, .int 0, .int 0, .null, .null, .null, .int 0, .int 0, .int 0]))] sz) := by
  refine Met.ofW (cc := cX1_init) (maxL := 2) (ret := none) (by decide) rfl ?_
  intro pr env s_ mid args below meth cod s₁ Bd hml hv
  obtain ⟨rfl, hsz, hP, hK_, hD0⟩ := hv
  have hx := Bd.exec
  have hb_ := Bd.bytes
  have hr := Bd.returns
  have hts := atoms_spec (ws := wsX1_init) Bd.pre
  have hown : s_.vm.findClass RX1 = some mid.cls := findClass_of_methodNamed Bd.named
  have hlocks := Bd.notSynchronized
  have hinit : meth.name = "<init>" := (name_of_methodNamed Bd.named Bd.method).1
  have hin : ∀ w_ ∈ wsX10, w_ ∈ wsX1_init := fun _ h_ => List.mem_cons_of_mem _ (List.mem_append_right _ h_)
  subst hsz
  have hD := hD0.self (sz := s_.heap.size)
  generalize hAe : va_A [(y_, .inr (1, [.null, .null, .null, .null, .null, .null, .null, .null, .null, .null, .int 0, .int 0, .null, .null, .null, .int 0, .int 0, .int 0]))] s_.heap.size = A at hD ⊢
  have hA : ∀ q_ : Nat, s_.heap.size ≤ q_ → A q_ := fun q_ h_ => by rw [← hAe]; exact Or.inr h_
  have hS_ : va_S A s_.heap s_.heap [] := va_S.rf
  have hP : va_P D vwCl [(y_, .inr (1, [.null, .null, .null, .null, .null, .null, .null, .null, .null, .null, .int 0, .int 0, .null, .null, .null, .int 0, .int 0, .int 0]))] s_.heap := hP
  have hl := lv_entry ([.ref y_]) (n := 2) (Nat.le_of_ble_eq_true rfl)
  rw [lg_entry_eq]
  generalize (lg_sl ([.ref y_]) ++ List.replicate (2 - (lg_sl ([.ref y_])).length) Slot.unset).toArray = ls at hl ⊢
  have hl : lv_has ls 2 [(0, .ref y_)] := hl
  refine lv_aload_n hx hb_ dX1_init_0 rfl (lv_at hl 0 rfl) ?_
  refine W.objInit hx hb_ hown (hts (.methodLink RX1 1 objectInit) (by decide +kernel)) (hts (.instanceMethod objectInit) (by decide +kernel)) (hts (.code objectInit ⟨#[0xb1]⟩ 1 none) (by decide +kernel)) rfl (by rw [hml]; exact hl.1) rfl dX1_init_1 (Nat.le_of_ble_eq_true rfl) (Nat.le_of_ble_eq_true rfl) ?_
  refine W.eq (g2 := F0 mid 4 ls []) rfl ?_
  refine lv_aload_n hx hb_ dX1_init_4 rfl (lv_at hl 0 rfl) ?_
  refine lv_bipush (v := 6) hx hb_ dX1_init_5 (by decide) ?_
  refine va_newa (atype := .int) (ty := .int) (N' := 6) (a0 := (6, .inl (fun _ => 0))) hx hb_ (hts (.arrayClass .int) (by decide +kernel)) rfl hK_ hP hD hS_ hA (fun _ => rfl) (by decide) (by decide) (Nat.le_of_ble_eq_true rfl) (Nat.le_of_ble_eq_true rfl) (Nat.le_of_ble_eq_true rfl) dX1_init_7 (fun q_7 cI H hK_ hP hD hS_ => ?_)
  have hK_ : va_K D vwCl [(cI, .int)] s_ := hK_.sub [0] rfl
  refine W.widen (k := 1) (n := 6) (Nat.le_refl _) (Nat.le_refl _) ?_
  have hP : va_P D vwCl [(y_, .inr (1, [.null, .null, .null, .null, .null, .null, .null, .null, .null, .null, .int 0, .int 0, .null, .null, .null, .int 0, .int 0, .int 0])), (q_7, .inl (cI, 6, .inl (fun _ => 0)))] H := hP
  have hD : va_D A [(y_, .inr (1, [.null, .null, .null, .null, .null, .null, .null, .null, .null, .null, .int 0, .int 0, .null, .null, .null, .int 0, .int 0, .int 0])), (q_7, .inl (cI, 6, .inl (fun _ => 0)))] := hD
  have hf7 := hts (.fieldLink RX1 7 "ClockmaskModel" "masks" "[I") (by decide +kernel)
  refine va_putF (D := D) (ci := 1) (v := .ref q_7) (ty := .array .int) (C := RX1) (T := TX1) (N := 18) hx hb_ hts hin tyX1 tyX1_ok nmX1 hown hK_ hP hD hS_ 0 rfl rfl 0 (by decide) hf7 (fun _ h9 => h9) rfl hinit rfl (by decide +kernel) rfl rfl (Nat.le_of_ble_eq_true rfl) dX1_init_9 (fun H locs hP hD hS_ => ?_)
  have hP : va_P D vwCl [(y_, .inr (1, [.ref q_7, .null, .null, .null, .null, .null, .null, .null, .null, .null, .int 0, .int 0, .null, .null, .null, .int 0, .int 0, .int 0])), (q_7, .inl (cI, 6, .inl (fun _ => 0)))] H := hP
  have hD : va_D A [(y_, .inr (1, [.ref q_7, .null, .null, .null, .null, .null, .null, .null, .null, .null, .int 0, .int 0, .null, .null, .null, .int 0, .int 0, .int 0])), (q_7, .inl (cI, 6, .inl (fun _ => 0)))] := hD
  refine lv_aload_n hx hb_ dX1_init_12 rfl (lv_at hl 0 rfl) ?_
  refine lv_bipush (v := 6) hx hb_ dX1_init_13 (by decide) ?_
  refine va_newa (atype := .int) (ty := .int) (N' := 6) (a0 := (6, .inl (fun _ => 0))) hx hb_ (hts (.arrayClass .int) (by decide +kernel)) rfl hK_ hP hD hS_ hA (fun _ => rfl) (by decide) (by decide) (Nat.le_of_ble_eq_true rfl) (Nat.le_of_ble_eq_true rfl) (Nat.le_of_ble_eq_true rfl) dX1_init_15 (fun q_15 cA_15 H hK_ hP hD hS_ => ?_)
  have e_15 : cI = cA_15 := va_sameI hK_ 0 1 rfl rfl
  subst e_15
  have hK_ : va_K D vwCl [(cI, .int)] s_ := hK_.sub [0] rfl
  refine W.widen (k := 2) (n := 12) (Nat.le_refl _) (Nat.le_refl _) ?_
  have hP : va_P D vwCl [(y_, .inr (1, [.ref q_7, .null, .null, .null, .null, .null, .null, .null, .null, .null, .int 0, .int 0, .null, .null, .null, .int 0, .int 0, .int 0])), (q_7, .inl (cI, 6, .inl (fun _ => 0))), (q_15, .inl (cI, 6, .inl (fun _ => 0)))] H := hP
  have hD : va_D A [(y_, .inr (1, [.ref q_7, .null, .null, .null, .null, .null, .null, .null, .null, .null, .int 0, .int 0, .null, .null, .null, .int 0, .int 0, .int 0])), (q_7, .inl (cI, 6, .inl (fun _ => 0))), (q_15, .inl (cI, 6, .inl (fun _ => 0)))] := hD
  have hf13 := hts (.fieldLink RX1 13 "ClockmaskModel" "stage" "[I") (by decide +kernel)
  refine va_putF (D := D) (ci := 1) (v := .ref q_15) (ty := .array .int) (C := RX1) (T := TX1) (N := 18) hx hb_ hts hin tyX1 tyX1_ok nmX1 hown hK_ hP hD hS_ 0 rfl rfl 1 (by decide) hf13 (fun _ h9 => h9) rfl hinit rfl (by decide +kernel) rfl rfl (Nat.le_of_ble_eq_true rfl) dX1_init_17 (fun H locs hP hD hS_ => ?_)
  have hP : va_P D vwCl [(y_, .inr (1, [.ref q_7, .ref q_15, .null, .null, .null, .null, .null, .null, .null, .null, .int 0, .int 0, .null, .null, .null, .int 0, .int 0, .int 0])), (q_7, .inl (cI, 6, .inl (fun _ => 0))), (q_15, .inl (cI, 6, .inl (fun _ => 0)))] H := hP
  have hD : va_D A [(y_, .inr (1, [.ref q_7, .ref q_15, .null, .null, .null, .null, .null, .null, .null, .null, .int 0, .int 0, .null, .null, .null, .int 0, .int 0, .int 0])), (q_7, .inl (cI, 6, .inl (fun _ => 0))), (q_15, .inl (cI, 6, .inl (fun _ => 0)))] := hD
  refine lv_aload_n hx hb_ dX1_init_20 rfl (lv_at hl 0 rfl) ?_
  refine lv_bipush (v := 6) hx hb_ dX1_init_21 (by decide) ?_
  refine va_newa (atype := .int) (ty := .int) (N' := 6) (a0 := (6, .inl (fun _ => 0))) hx hb_ (hts (.arrayClass .int) (by decide +kernel)) rfl hK_ hP hD hS_ hA (fun _ => rfl) (by decide) (by decide) (Nat.le_of_ble_eq_true rfl) (Nat.le_of_ble_eq_true rfl) (Nat.le_of_ble_eq_true rfl) dX1_init_23 (fun q_23 cA_23 H hK_ hP hD hS_ => ?_)
  have e_23 : cI = cA_23 := va_sameI hK_ 0 1 rfl rfl
  subst e_23
  have hK_ : va_K D vwCl [(cI, .int)] s_ := hK_.sub [0] rfl
  refine W.widen (k := 3) (n := 18) (Nat.le_refl _) (Nat.le_refl _) ?_
  have hP : va_P D vwCl [(y_, .inr (1, [.ref q_7, .ref q_15, .null, .null, .null, .null, .null, .null, .null, .null, .int 0, .int 0, .null, .null, .null, .int 0, .int 0, .int 0])), (q_7, .inl (cI, 6, .inl (fun _ => 0))), (q_15, .inl (cI, 6, .inl (fun _ => 0))), (q_23, .inl (cI, 6, .inl (fun _ => 0)))] H := hP
  have hD : va_D A [(y_, .inr (1, [.ref q_7, .ref q_15, .null, .null, .null, .null, .null, .null, .null, .null, .int 0, .int 0, .null, .null, .null, .int 0, .int 0, .int 0])), (q_7, .inl (cI, 6, .inl (fun _ => 0))), (q_15, .inl (cI, 6, .inl (fun _ => 0))), (q_23, .inl (cI, 6, .inl (fun _ => 0)))] := hD
  have hf16 := hts (.fieldLink RX1 16 "ClockmaskModel" "costumes" "[I") (by decide +kernel)
  refine va_putF (D := D) (ci := 1) (v := .ref q_23) (ty := .array .int) (C := RX1) (T := TX1) (N := 18) hx hb_ hts hin tyX1 tyX1_ok nmX1 hown hK_ hP hD hS_ 0 rfl rfl 2 (by decide) hf16 (fun _ h9 => h9) rfl hinit rfl (by decide +kernel) rfl rfl (Nat.le_of_ble_eq_true rfl) dX1_init_25 (fun H locs hP hD hS_ => ?_)
  have hP : va_P D vwCl [(y_, .inr (1, [.ref q_7, .ref q_15, .ref q_23, .null, .null, .null, .null, .null, .null, .null, .int 0, .int 0, .null, .null, .null, .int 0, .int 0, .int 0])), (q_7, .inl (cI, 6, .inl (fun _ => 0))), (q_15, .inl (cI, 6, .inl (fun _ => 0))), (q_23, .inl (cI, 6, .inl (fun _ => 0)))] H := hP
  have hD : va_D A [(y_, .inr (1, [.ref q_7, .ref q_15, .ref q_23, .null, .null, .null, .null, .null, .null, .null, .int 0, .int 0, .null, .null, .null, .int 0, .int 0, .int 0])), (q_7, .inl (cI, 6, .inl (fun _ => 0))), (q_15, .inl (cI, 6, .inl (fun _ => 0))), (q_23, .inl (cI, 6, .inl (fun _ => 0)))] := hD
  refine lv_aload_n hx hb_ dX1_init_28 rfl (lv_at hl 0 rfl) ?_
  refine lv_bipush (v := 8) hx hb_ dX1_init_29 (by decide) ?_
  refine va_newa (atype := .int) (ty := .int) (N' := 8) (a0 := (8, .inl (fun _ => 0))) hx hb_ (hts (.arrayClass .int) (by decide +kernel)) rfl hK_ hP hD hS_ hA (fun _ => rfl) (by decide) (by decide) (Nat.le_of_ble_eq_true rfl) (Nat.le_of_ble_eq_true rfl) (Nat.le_of_ble_eq_true rfl) dX1_init_31 (fun q_31 cA_31 H hK_ hP hD hS_ => ?_)
  have e_31 : cI = cA_31 := va_sameI hK_ 0 1 rfl rfl
  subst e_31
  have hK_ : va_K D vwCl [(cI, .int)] s_ := hK_.sub [0] rfl
  refine W.widen (k := 4) (n := 26) (Nat.le_refl _) (Nat.le_refl _) ?_
  have hP : va_P D vwCl [(y_, .inr (1, [.ref q_7, .ref q_15, .ref q_23, .null, .null, .null, .null, .null, .null, .null, .int 0, .int 0, .null, .null, .null, .int 0, .int 0, .int 0])), (q_7, .inl (cI, 6, .inl (fun _ => 0))), (q_15, .inl (cI, 6, .inl (fun _ => 0))), (q_23, .inl (cI, 6, .inl (fun _ => 0))), (q_31, .inl (cI, 8, .inl (fun _ => 0)))] H := hP
  have hD : va_D A [(y_, .inr (1, [.ref q_7, .ref q_15, .ref q_23, .null, .null, .null, .null, .null, .null, .null, .int 0, .int 0, .null, .null, .null, .int 0, .int 0, .int 0])), (q_7, .inl (cI, 6, .inl (fun _ => 0))), (q_15, .inl (cI, 6, .inl (fun _ => 0))), (q_23, .inl (cI, 6, .inl (fun _ => 0))), (q_31, .inl (cI, 8, .inl (fun _ => 0)))] := hD
  have hf19 := hts (.fieldLink RX1 19 "ClockmaskModel" "wears" "[I") (by decide +kernel)
  refine va_putF (D := D) (ci := 1) (v := .ref q_31) (ty := .array .int) (C := RX1) (T := TX1) (N := 18) hx hb_ hts hin tyX1 tyX1_ok nmX1 hown hK_ hP hD hS_ 0 rfl rfl 3 (by decide) hf19 (fun _ h9 => h9) rfl hinit rfl (by decide +kernel) rfl rfl (Nat.le_of_ble_eq_true rfl) dX1_init_33 (fun H locs hP hD hS_ => ?_)
  have hP : va_P D vwCl [(y_, .inr (1, [.ref q_7, .ref q_15, .ref q_23, .ref q_31, .null, .null, .null, .null, .null, .null, .int 0, .int 0, .null, .null, .null, .int 0, .int 0, .int 0])), (q_7, .inl (cI, 6, .inl (fun _ => 0))), (q_15, .inl (cI, 6, .inl (fun _ => 0))), (q_23, .inl (cI, 6, .inl (fun _ => 0))), (q_31, .inl (cI, 8, .inl (fun _ => 0)))] H := hP
  have hD : va_D A [(y_, .inr (1, [.ref q_7, .ref q_15, .ref q_23, .ref q_31, .null, .null, .null, .null, .null, .null, .int 0, .int 0, .null, .null, .null, .int 0, .int 0, .int 0])), (q_7, .inl (cI, 6, .inl (fun _ => 0))), (q_15, .inl (cI, 6, .inl (fun _ => 0))), (q_23, .inl (cI, 6, .inl (fun _ => 0))), (q_31, .inl (cI, 8, .inl (fun _ => 0)))] := hD
  refine lv_aload_n hx hb_ dX1_init_36 rfl (lv_at hl 0 rfl) ?_
  refine lv_bipush (v := 24) hx hb_ dX1_init_37 (by decide) ?_
  refine va_newa (atype := .int) (ty := .int) (N' := 24) (a0 := (24, .inl (fun _ => 0))) hx hb_ (hts (.arrayClass .int) (by decide +kernel)) rfl hK_ hP hD hS_ hA (fun _ => rfl) (by decide) (by decide) (Nat.le_of_ble_eq_true rfl) (Nat.le_of_ble_eq_true rfl) (Nat.le_of_ble_eq_true rfl) dX1_init_39 (fun q_39 cA_39 H hK_ hP hD hS_ => ?_)
  have e_39 : cI = cA_39 := va_sameI hK_ 0 1 rfl rfl
  subst e_39
  have hK_ : va_K D vwCl [(cI, .int)] s_ := hK_.sub [0] rfl
  refine W.widen (k := 5) (n := 50) (Nat.le_refl _) (Nat.le_refl _) ?_
  have hP : va_P D vwCl [(y_, .inr (1, [.ref q_7, .ref q_15, .ref q_23, .ref q_31, .null, .null, .null, .null, .null, .null, .int 0, .int 0, .null, .null, .null, .int 0, .int 0, .int 0])), (q_7, .inl (cI, 6, .inl (fun _ => 0))), (q_15, .inl (cI, 6, .inl (fun _ => 0))), (q_23, .inl (cI, 6, .inl (fun _ => 0))), (q_31, .inl (cI, 8, .inl (fun _ => 0))), (q_39, .inl (cI, 24, .inl (fun _ => 0)))] H := hP
  have hD : va_D A [(y_, .inr (1, [.ref q_7, .ref q_15, .ref q_23, .ref q_31, .null, .null, .null, .null, .null, .null, .int 0, .int 0, .null, .null, .null, .int 0, .int 0, .int 0])), (q_7, .inl (cI, 6, .inl (fun _ => 0))), (q_15, .inl (cI, 6, .inl (fun _ => 0))), (q_23, .inl (cI, 6, .inl (fun _ => 0))), (q_31, .inl (cI, 8, .inl (fun _ => 0))), (q_39, .inl (cI, 24, .inl (fun _ => 0)))] := hD
  have hf22 := hts (.fieldLink RX1 22 "ClockmaskModel" "kinds" "[I") (by decide +kernel)
  refine va_putF (D := D) (ci := 1) (v := .ref q_39) (ty := .array .int) (C := RX1) (T := TX1) (N := 18) hx hb_ hts hin tyX1 tyX1_ok nmX1 hown hK_ hP hD hS_ 0 rfl rfl 4 (by decide) hf22 (fun _ h9 => h9) rfl hinit rfl (by decide +kernel) rfl rfl (Nat.le_of_ble_eq_true rfl) dX1_init_41 (fun H locs hP hD hS_ => ?_)
  have hP : va_P D vwCl [(y_, .inr (1, [.ref q_7, .ref q_15, .ref q_23, .ref q_31, .ref q_39, .null, .null, .null, .null, .null, .int 0, .int 0, .null, .null, .null, .int 0, .int 0, .int 0])), (q_7, .inl (cI, 6, .inl (fun _ => 0))), (q_15, .inl (cI, 6, .inl (fun _ => 0))), (q_23, .inl (cI, 6, .inl (fun _ => 0))), (q_31, .inl (cI, 8, .inl (fun _ => 0))), (q_39, .inl (cI, 24, .inl (fun _ => 0)))] H := hP
  have hD : va_D A [(y_, .inr (1, [.ref q_7, .ref q_15, .ref q_23, .ref q_31, .ref q_39, .null, .null, .null, .null, .null, .int 0, .int 0, .null, .null, .null, .int 0, .int 0, .int 0])), (q_7, .inl (cI, 6, .inl (fun _ => 0))), (q_15, .inl (cI, 6, .inl (fun _ => 0))), (q_23, .inl (cI, 6, .inl (fun _ => 0))), (q_31, .inl (cI, 8, .inl (fun _ => 0))), (q_39, .inl (cI, 24, .inl (fun _ => 0)))] := hD
  refine lv_aload_n hx hb_ dX1_init_44 rfl (lv_at hl 0 rfl) ?_
  refine lv_bipush (v := 24) hx hb_ dX1_init_45 (by decide) ?_
  refine va_newa (atype := .int) (ty := .int) (N' := 24) (a0 := (24, .inl (fun _ => 0))) hx hb_ (hts (.arrayClass .int) (by decide +kernel)) rfl hK_ hP hD hS_ hA (fun _ => rfl) (by decide) (by decide) (Nat.le_of_ble_eq_true rfl) (Nat.le_of_ble_eq_true rfl) (Nat.le_of_ble_eq_true rfl) dX1_init_47 (fun q_47 cA_47 H hK_ hP hD hS_ => ?_)
  have e_47 : cI = cA_47 := va_sameI hK_ 0 1 rfl rfl
  subst e_47
  have hK_ : va_K D vwCl [(cI, .int)] s_ := hK_.sub [0] rfl
  refine W.widen (k := 6) (n := 74) (Nat.le_refl _) (Nat.le_refl _) ?_
  have hP : va_P D vwCl [(y_, .inr (1, [.ref q_7, .ref q_15, .ref q_23, .ref q_31, .ref q_39, .null, .null, .null, .null, .null, .int 0, .int 0, .null, .null, .null, .int 0, .int 0, .int 0])), (q_7, .inl (cI, 6, .inl (fun _ => 0))), (q_15, .inl (cI, 6, .inl (fun _ => 0))), (q_23, .inl (cI, 6, .inl (fun _ => 0))), (q_31, .inl (cI, 8, .inl (fun _ => 0))), (q_39, .inl (cI, 24, .inl (fun _ => 0))), (q_47, .inl (cI, 24, .inl (fun _ => 0)))] H := hP
  have hD : va_D A [(y_, .inr (1, [.ref q_7, .ref q_15, .ref q_23, .ref q_31, .ref q_39, .null, .null, .null, .null, .null, .int 0, .int 0, .null, .null, .null, .int 0, .int 0, .int 0])), (q_7, .inl (cI, 6, .inl (fun _ => 0))), (q_15, .inl (cI, 6, .inl (fun _ => 0))), (q_23, .inl (cI, 6, .inl (fun _ => 0))), (q_31, .inl (cI, 8, .inl (fun _ => 0))), (q_39, .inl (cI, 24, .inl (fun _ => 0))), (q_47, .inl (cI, 24, .inl (fun _ => 0)))] := hD
  have hf25 := hts (.fieldLink RX1 25 "ClockmaskModel" "players" "[I") (by decide +kernel)
  refine va_putF (D := D) (ci := 1) (v := .ref q_47) (ty := .array .int) (C := RX1) (T := TX1) (N := 18) hx hb_ hts hin tyX1 tyX1_ok nmX1 hown hK_ hP hD hS_ 0 rfl rfl 5 (by decide) hf25 (fun _ h9 => h9) rfl hinit rfl (by decide +kernel) rfl rfl (Nat.le_of_ble_eq_true rfl) dX1_init_49 (fun H locs hP hD hS_ => ?_)
  have hP : va_P D vwCl [(y_, .inr (1, [.ref q_7, .ref q_15, .ref q_23, .ref q_31, .ref q_39, .ref q_47, .null, .null, .null, .null, .int 0, .int 0, .null, .null, .null, .int 0, .int 0, .int 0])), (q_7, .inl (cI, 6, .inl (fun _ => 0))), (q_15, .inl (cI, 6, .inl (fun _ => 0))), (q_23, .inl (cI, 6, .inl (fun _ => 0))), (q_31, .inl (cI, 8, .inl (fun _ => 0))), (q_39, .inl (cI, 24, .inl (fun _ => 0))), (q_47, .inl (cI, 24, .inl (fun _ => 0)))] H := hP
  have hD : va_D A [(y_, .inr (1, [.ref q_7, .ref q_15, .ref q_23, .ref q_31, .ref q_39, .ref q_47, .null, .null, .null, .null, .int 0, .int 0, .null, .null, .null, .int 0, .int 0, .int 0])), (q_7, .inl (cI, 6, .inl (fun _ => 0))), (q_15, .inl (cI, 6, .inl (fun _ => 0))), (q_23, .inl (cI, 6, .inl (fun _ => 0))), (q_31, .inl (cI, 8, .inl (fun _ => 0))), (q_39, .inl (cI, 24, .inl (fun _ => 0))), (q_47, .inl (cI, 24, .inl (fun _ => 0)))] := hD
  refine lv_aload_n hx hb_ dX1_init_52 rfl (lv_at hl 0 rfl) ?_
  refine lv_bipush (v := 24) hx hb_ dX1_init_53 (by decide) ?_
  refine va_newa (atype := .int) (ty := .int) (N' := 24) (a0 := (24, .inl (fun _ => 0))) hx hb_ (hts (.arrayClass .int) (by decide +kernel)) rfl hK_ hP hD hS_ hA (fun _ => rfl) (by decide) (by decide) (Nat.le_of_ble_eq_true rfl) (Nat.le_of_ble_eq_true rfl) (Nat.le_of_ble_eq_true rfl) dX1_init_55 (fun q_55 cA_55 H hK_ hP hD hS_ => ?_)
  have e_55 : cI = cA_55 := va_sameI hK_ 0 1 rfl rfl
  subst e_55
  have hK_ : va_K D vwCl [(cI, .int)] s_ := hK_.sub [0] rfl
  refine W.widen (k := 7) (n := 98) (Nat.le_refl _) (Nat.le_refl _) ?_
  have hP : va_P D vwCl [(y_, .inr (1, [.ref q_7, .ref q_15, .ref q_23, .ref q_31, .ref q_39, .ref q_47, .null, .null, .null, .null, .int 0, .int 0, .null, .null, .null, .int 0, .int 0, .int 0])), (q_7, .inl (cI, 6, .inl (fun _ => 0))), (q_15, .inl (cI, 6, .inl (fun _ => 0))), (q_23, .inl (cI, 6, .inl (fun _ => 0))), (q_31, .inl (cI, 8, .inl (fun _ => 0))), (q_39, .inl (cI, 24, .inl (fun _ => 0))), (q_47, .inl (cI, 24, .inl (fun _ => 0))), (q_55, .inl (cI, 24, .inl (fun _ => 0)))] H := hP
  have hD : va_D A [(y_, .inr (1, [.ref q_7, .ref q_15, .ref q_23, .ref q_31, .ref q_39, .ref q_47, .null, .null, .null, .null, .int 0, .int 0, .null, .null, .null, .int 0, .int 0, .int 0])), (q_7, .inl (cI, 6, .inl (fun _ => 0))), (q_15, .inl (cI, 6, .inl (fun _ => 0))), (q_23, .inl (cI, 6, .inl (fun _ => 0))), (q_31, .inl (cI, 8, .inl (fun _ => 0))), (q_39, .inl (cI, 24, .inl (fun _ => 0))), (q_47, .inl (cI, 24, .inl (fun _ => 0))), (q_55, .inl (cI, 24, .inl (fun _ => 0)))] := hD
  have hf28 := hts (.fieldLink RX1 28 "ClockmaskModel" "others" "[I") (by decide +kernel)
  refine va_putF (D := D) (ci := 1) (v := .ref q_55) (ty := .array .int) (C := RX1) (T := TX1) (N := 18) hx hb_ hts hin tyX1 tyX1_ok nmX1 hown hK_ hP hD hS_ 0 rfl rfl 6 (by decide) hf28 (fun _ h9 => h9) rfl hinit rfl (by decide +kernel) rfl rfl (Nat.le_of_ble_eq_true rfl) dX1_init_57 (fun H locs hP hD hS_ => ?_)
  have hP : va_P D vwCl [(y_, .inr (1, [.ref q_7, .ref q_15, .ref q_23, .ref q_31, .ref q_39, .ref q_47, .ref q_55, .null, .null, .null, .int 0, .int 0, .null, .null, .null, .int 0, .int 0, .int 0])), (q_7, .inl (cI, 6, .inl (fun _ => 0))), (q_15, .inl (cI, 6, .inl (fun _ => 0))), (q_23, .inl (cI, 6, .inl (fun _ => 0))), (q_31, .inl (cI, 8, .inl (fun _ => 0))), (q_39, .inl (cI, 24, .inl (fun _ => 0))), (q_47, .inl (cI, 24, .inl (fun _ => 0))), (q_55, .inl (cI, 24, .inl (fun _ => 0)))] H := hP
  have hD : va_D A [(y_, .inr (1, [.ref q_7, .ref q_15, .ref q_23, .ref q_31, .ref q_39, .ref q_47, .ref q_55, .null, .null, .null, .int 0, .int 0, .null, .null, .null, .int 0, .int 0, .int 0])), (q_7, .inl (cI, 6, .inl (fun _ => 0))), (q_15, .inl (cI, 6, .inl (fun _ => 0))), (q_23, .inl (cI, 6, .inl (fun _ => 0))), (q_31, .inl (cI, 8, .inl (fun _ => 0))), (q_39, .inl (cI, 24, .inl (fun _ => 0))), (q_47, .inl (cI, 24, .inl (fun _ => 0))), (q_55, .inl (cI, 24, .inl (fun _ => 0)))] := hD
  refine lv_aload_n hx hb_ dX1_init_60 rfl (lv_at hl 0 rfl) ?_
  refine lv_bipush (v := 24) hx hb_ dX1_init_61 (by decide) ?_
  refine va_newa (atype := .int) (ty := .int) (N' := 24) (a0 := (24, .inl (fun _ => 0))) hx hb_ (hts (.arrayClass .int) (by decide +kernel)) rfl hK_ hP hD hS_ hA (fun _ => rfl) (by decide) (by decide) (Nat.le_of_ble_eq_true rfl) (Nat.le_of_ble_eq_true rfl) (Nat.le_of_ble_eq_true rfl) dX1_init_63 (fun q_63 cA_63 H hK_ hP hD hS_ => ?_)
  have e_63 : cI = cA_63 := va_sameI hK_ 0 1 rfl rfl
  subst e_63
  have hK_ : va_K D vwCl [(cI, .int)] s_ := hK_.sub [0] rfl
  refine W.widen (k := 8) (n := 122) (Nat.le_refl _) (Nat.le_refl _) ?_
  have hP : va_P D vwCl [(y_, .inr (1, [.ref q_7, .ref q_15, .ref q_23, .ref q_31, .ref q_39, .ref q_47, .ref q_55, .null, .null, .null, .int 0, .int 0, .null, .null, .null, .int 0, .int 0, .int 0])), (q_7, .inl (cI, 6, .inl (fun _ => 0))), (q_15, .inl (cI, 6, .inl (fun _ => 0))), (q_23, .inl (cI, 6, .inl (fun _ => 0))), (q_31, .inl (cI, 8, .inl (fun _ => 0))), (q_39, .inl (cI, 24, .inl (fun _ => 0))), (q_47, .inl (cI, 24, .inl (fun _ => 0))), (q_55, .inl (cI, 24, .inl (fun _ => 0))), (q_63, .inl (cI, 24, .inl (fun _ => 0)))] H := hP
  have hD : va_D A [(y_, .inr (1, [.ref q_7, .ref q_15, .ref q_23, .ref q_31, .ref q_39, .ref q_47, .ref q_55, .null, .null, .null, .int 0, .int 0, .null, .null, .null, .int 0, .int 0, .int 0])), (q_7, .inl (cI, 6, .inl (fun _ => 0))), (q_15, .inl (cI, 6, .inl (fun _ => 0))), (q_23, .inl (cI, 6, .inl (fun _ => 0))), (q_31, .inl (cI, 8, .inl (fun _ => 0))), (q_39, .inl (cI, 24, .inl (fun _ => 0))), (q_47, .inl (cI, 24, .inl (fun _ => 0))), (q_55, .inl (cI, 24, .inl (fun _ => 0))), (q_63, .inl (cI, 24, .inl (fun _ => 0)))] := hD
  have hf31 := hts (.fieldLink RX1 31 "ClockmaskModel" "waitsFor" "[I") (by decide +kernel)
  refine va_putF (D := D) (ci := 1) (v := .ref q_63) (ty := .array .int) (C := RX1) (T := TX1) (N := 18) hx hb_ hts hin tyX1 tyX1_ok nmX1 hown hK_ hP hD hS_ 0 rfl rfl 7 (by decide) hf31 (fun _ h9 => h9) rfl hinit rfl (by decide +kernel) rfl rfl (Nat.le_of_ble_eq_true rfl) dX1_init_65 (fun H locs hP hD hS_ => ?_)
  have hP : va_P D vwCl [(y_, .inr (1, [.ref q_7, .ref q_15, .ref q_23, .ref q_31, .ref q_39, .ref q_47, .ref q_55, .ref q_63, .null, .null, .int 0, .int 0, .null, .null, .null, .int 0, .int 0, .int 0])), (q_7, .inl (cI, 6, .inl (fun _ => 0))), (q_15, .inl (cI, 6, .inl (fun _ => 0))), (q_23, .inl (cI, 6, .inl (fun _ => 0))), (q_31, .inl (cI, 8, .inl (fun _ => 0))), (q_39, .inl (cI, 24, .inl (fun _ => 0))), (q_47, .inl (cI, 24, .inl (fun _ => 0))), (q_55, .inl (cI, 24, .inl (fun _ => 0))), (q_63, .inl (cI, 24, .inl (fun _ => 0)))] H := hP
  have hD : va_D A [(y_, .inr (1, [.ref q_7, .ref q_15, .ref q_23, .ref q_31, .ref q_39, .ref q_47, .ref q_55, .ref q_63, .null, .null, .int 0, .int 0, .null, .null, .null, .int 0, .int 0, .int 0])), (q_7, .inl (cI, 6, .inl (fun _ => 0))), (q_15, .inl (cI, 6, .inl (fun _ => 0))), (q_23, .inl (cI, 6, .inl (fun _ => 0))), (q_31, .inl (cI, 8, .inl (fun _ => 0))), (q_39, .inl (cI, 24, .inl (fun _ => 0))), (q_47, .inl (cI, 24, .inl (fun _ => 0))), (q_55, .inl (cI, 24, .inl (fun _ => 0))), (q_63, .inl (cI, 24, .inl (fun _ => 0)))] := hD
  refine lv_aload_n hx hb_ dX1_init_68 rfl (lv_at hl 0 rfl) ?_
  refine lv_bipush (v := 24) hx hb_ dX1_init_69 (by decide) ?_
  refine va_newa (atype := .int) (ty := .int) (N' := 24) (a0 := (24, .inl (fun _ => 0))) hx hb_ (hts (.arrayClass .int) (by decide +kernel)) rfl hK_ hP hD hS_ hA (fun _ => rfl) (by decide) (by decide) (Nat.le_of_ble_eq_true rfl) (Nat.le_of_ble_eq_true rfl) (Nat.le_of_ble_eq_true rfl) dX1_init_71 (fun q_71 cA_71 H hK_ hP hD hS_ => ?_)
  have e_71 : cI = cA_71 := va_sameI hK_ 0 1 rfl rfl
  subst e_71
  have hK_ : va_K D vwCl [(cI, .int)] s_ := hK_.sub [0] rfl
  refine W.widen (k := 9) (n := 146) (Nat.le_refl _) (Nat.le_refl _) ?_
  have hP : va_P D vwCl [(y_, .inr (1, [.ref q_7, .ref q_15, .ref q_23, .ref q_31, .ref q_39, .ref q_47, .ref q_55, .ref q_63, .null, .null, .int 0, .int 0, .null, .null, .null, .int 0, .int 0, .int 0])), (q_7, .inl (cI, 6, .inl (fun _ => 0))), (q_15, .inl (cI, 6, .inl (fun _ => 0))), (q_23, .inl (cI, 6, .inl (fun _ => 0))), (q_31, .inl (cI, 8, .inl (fun _ => 0))), (q_39, .inl (cI, 24, .inl (fun _ => 0))), (q_47, .inl (cI, 24, .inl (fun _ => 0))), (q_55, .inl (cI, 24, .inl (fun _ => 0))), (q_63, .inl (cI, 24, .inl (fun _ => 0))), (q_71, .inl (cI, 24, .inl (fun _ => 0)))] H := hP
  have hD : va_D A [(y_, .inr (1, [.ref q_7, .ref q_15, .ref q_23, .ref q_31, .ref q_39, .ref q_47, .ref q_55, .ref q_63, .null, .null, .int 0, .int 0, .null, .null, .null, .int 0, .int 0, .int 0])), (q_7, .inl (cI, 6, .inl (fun _ => 0))), (q_15, .inl (cI, 6, .inl (fun _ => 0))), (q_23, .inl (cI, 6, .inl (fun _ => 0))), (q_31, .inl (cI, 8, .inl (fun _ => 0))), (q_39, .inl (cI, 24, .inl (fun _ => 0))), (q_47, .inl (cI, 24, .inl (fun _ => 0))), (q_55, .inl (cI, 24, .inl (fun _ => 0))), (q_63, .inl (cI, 24, .inl (fun _ => 0))), (q_71, .inl (cI, 24, .inl (fun _ => 0)))] := hD
  have hf34 := hts (.fieldLink RX1 34 "ClockmaskModel" "states" "[I") (by decide +kernel)
  refine va_putF (D := D) (ci := 1) (v := .ref q_71) (ty := .array .int) (C := RX1) (T := TX1) (N := 18) hx hb_ hts hin tyX1 tyX1_ok nmX1 hown hK_ hP hD hS_ 0 rfl rfl 8 (by decide) hf34 (fun _ h9 => h9) rfl hinit rfl (by decide +kernel) rfl rfl (Nat.le_of_ble_eq_true rfl) dX1_init_73 (fun H locs hP hD hS_ => ?_)
  have hP : va_P D vwCl [(y_, .inr (1, [.ref q_7, .ref q_15, .ref q_23, .ref q_31, .ref q_39, .ref q_47, .ref q_55, .ref q_63, .ref q_71, .null, .int 0, .int 0, .null, .null, .null, .int 0, .int 0, .int 0])), (q_7, .inl (cI, 6, .inl (fun _ => 0))), (q_15, .inl (cI, 6, .inl (fun _ => 0))), (q_23, .inl (cI, 6, .inl (fun _ => 0))), (q_31, .inl (cI, 8, .inl (fun _ => 0))), (q_39, .inl (cI, 24, .inl (fun _ => 0))), (q_47, .inl (cI, 24, .inl (fun _ => 0))), (q_55, .inl (cI, 24, .inl (fun _ => 0))), (q_63, .inl (cI, 24, .inl (fun _ => 0))), (q_71, .inl (cI, 24, .inl (fun _ => 0)))] H := hP
  have hD : va_D A [(y_, .inr (1, [.ref q_7, .ref q_15, .ref q_23, .ref q_31, .ref q_39, .ref q_47, .ref q_55, .ref q_63, .ref q_71, .null, .int 0, .int 0, .null, .null, .null, .int 0, .int 0, .int 0])), (q_7, .inl (cI, 6, .inl (fun _ => 0))), (q_15, .inl (cI, 6, .inl (fun _ => 0))), (q_23, .inl (cI, 6, .inl (fun _ => 0))), (q_31, .inl (cI, 8, .inl (fun _ => 0))), (q_39, .inl (cI, 24, .inl (fun _ => 0))), (q_47, .inl (cI, 24, .inl (fun _ => 0))), (q_55, .inl (cI, 24, .inl (fun _ => 0))), (q_63, .inl (cI, 24, .inl (fun _ => 0))), (q_71, .inl (cI, 24, .inl (fun _ => 0)))] := hD
  refine lv_aload_n hx hb_ dX1_init_76 rfl (lv_at hl 0 rfl) ?_
  refine lv_bipush (v := 24) hx hb_ dX1_init_77 (by decide) ?_
  refine va_newa (atype := .int) (ty := .int) (N' := 24) (a0 := (24, .inl (fun _ => 0))) hx hb_ (hts (.arrayClass .int) (by decide +kernel)) rfl hK_ hP hD hS_ hA (fun _ => rfl) (by decide) (by decide) (Nat.le_of_ble_eq_true rfl) (Nat.le_of_ble_eq_true rfl) (Nat.le_of_ble_eq_true rfl) dX1_init_79 (fun q_79 cA_79 H hK_ hP hD hS_ => ?_)
  have e_79 : cI = cA_79 := va_sameI hK_ 0 1 rfl rfl
  subst e_79
  have hK_ : va_K D vwCl [(cI, .int)] s_ := hK_.sub [0] rfl
  refine W.widen (k := 10) (n := 170) (Nat.le_refl _) (Nat.le_refl _) ?_
  have hP : va_P D vwCl [(y_, .inr (1, [.ref q_7, .ref q_15, .ref q_23, .ref q_31, .ref q_39, .ref q_47, .ref q_55, .ref q_63, .ref q_71, .null, .int 0, .int 0, .null, .null, .null, .int 0, .int 0, .int 0])), (q_7, .inl (cI, 6, .inl (fun _ => 0))), (q_15, .inl (cI, 6, .inl (fun _ => 0))), (q_23, .inl (cI, 6, .inl (fun _ => 0))), (q_31, .inl (cI, 8, .inl (fun _ => 0))), (q_39, .inl (cI, 24, .inl (fun _ => 0))), (q_47, .inl (cI, 24, .inl (fun _ => 0))), (q_55, .inl (cI, 24, .inl (fun _ => 0))), (q_63, .inl (cI, 24, .inl (fun _ => 0))), (q_71, .inl (cI, 24, .inl (fun _ => 0))), (q_79, .inl (cI, 24, .inl (fun _ => 0)))] H := hP
  have hD : va_D A [(y_, .inr (1, [.ref q_7, .ref q_15, .ref q_23, .ref q_31, .ref q_39, .ref q_47, .ref q_55, .ref q_63, .ref q_71, .null, .int 0, .int 0, .null, .null, .null, .int 0, .int 0, .int 0])), (q_7, .inl (cI, 6, .inl (fun _ => 0))), (q_15, .inl (cI, 6, .inl (fun _ => 0))), (q_23, .inl (cI, 6, .inl (fun _ => 0))), (q_31, .inl (cI, 8, .inl (fun _ => 0))), (q_39, .inl (cI, 24, .inl (fun _ => 0))), (q_47, .inl (cI, 24, .inl (fun _ => 0))), (q_55, .inl (cI, 24, .inl (fun _ => 0))), (q_63, .inl (cI, 24, .inl (fun _ => 0))), (q_71, .inl (cI, 24, .inl (fun _ => 0))), (q_79, .inl (cI, 24, .inl (fun _ => 0)))] := hD
  have hf37 := hts (.fieldLink RX1 37 "ClockmaskModel" "order" "[I") (by decide +kernel)
  refine va_putF (D := D) (ci := 1) (v := .ref q_79) (ty := .array .int) (C := RX1) (T := TX1) (N := 18) hx hb_ hts hin tyX1 tyX1_ok nmX1 hown hK_ hP hD hS_ 0 rfl rfl 9 (by decide) hf37 (fun _ h9 => h9) rfl hinit rfl (by decide +kernel) rfl rfl (Nat.le_of_ble_eq_true rfl) dX1_init_81 (fun H locs hP hD hS_ => ?_)
  have hP : va_P D vwCl [(y_, .inr (1, [.ref q_7, .ref q_15, .ref q_23, .ref q_31, .ref q_39, .ref q_47, .ref q_55, .ref q_63, .ref q_71, .ref q_79, .int 0, .int 0, .null, .null, .null, .int 0, .int 0, .int 0])), (q_7, .inl (cI, 6, .inl (fun _ => 0))), (q_15, .inl (cI, 6, .inl (fun _ => 0))), (q_23, .inl (cI, 6, .inl (fun _ => 0))), (q_31, .inl (cI, 8, .inl (fun _ => 0))), (q_39, .inl (cI, 24, .inl (fun _ => 0))), (q_47, .inl (cI, 24, .inl (fun _ => 0))), (q_55, .inl (cI, 24, .inl (fun _ => 0))), (q_63, .inl (cI, 24, .inl (fun _ => 0))), (q_71, .inl (cI, 24, .inl (fun _ => 0))), (q_79, .inl (cI, 24, .inl (fun _ => 0)))] H := hP
  have hD : va_D A [(y_, .inr (1, [.ref q_7, .ref q_15, .ref q_23, .ref q_31, .ref q_39, .ref q_47, .ref q_55, .ref q_63, .ref q_71, .ref q_79, .int 0, .int 0, .null, .null, .null, .int 0, .int 0, .int 0])), (q_7, .inl (cI, 6, .inl (fun _ => 0))), (q_15, .inl (cI, 6, .inl (fun _ => 0))), (q_23, .inl (cI, 6, .inl (fun _ => 0))), (q_31, .inl (cI, 8, .inl (fun _ => 0))), (q_39, .inl (cI, 24, .inl (fun _ => 0))), (q_47, .inl (cI, 24, .inl (fun _ => 0))), (q_55, .inl (cI, 24, .inl (fun _ => 0))), (q_63, .inl (cI, 24, .inl (fun _ => 0))), (q_71, .inl (cI, 24, .inl (fun _ => 0))), (q_79, .inl (cI, 24, .inl (fun _ => 0)))] := hD
  refine lv_aload_n hx hb_ dX1_init_84 rfl (lv_at hl 0 rfl) ?_
  refine lv_bipush (v := 18) hx hb_ dX1_init_85 (by decide) ?_
  refine va_newa (atype := .int) (ty := .int) (N' := 18) (a0 := (18, .inl (fun _ => 0))) hx hb_ (hts (.arrayClass .int) (by decide +kernel)) rfl hK_ hP hD hS_ hA (fun _ => rfl) (by decide) (by decide) (Nat.le_of_ble_eq_true rfl) (Nat.le_of_ble_eq_true rfl) (Nat.le_of_ble_eq_true rfl) dX1_init_87 (fun q_87 cA_87 H hK_ hP hD hS_ => ?_)
  have e_87 : cI = cA_87 := va_sameI hK_ 0 1 rfl rfl
  subst e_87
  have hK_ : va_K D vwCl [(cI, .int)] s_ := hK_.sub [0] rfl
  refine W.widen (k := 11) (n := 188) (Nat.le_refl _) (Nat.le_refl _) ?_
  have hP : va_P D vwCl [(y_, .inr (1, [.ref q_7, .ref q_15, .ref q_23, .ref q_31, .ref q_39, .ref q_47, .ref q_55, .ref q_63, .ref q_71, .ref q_79, .int 0, .int 0, .null, .null, .null, .int 0, .int 0, .int 0])), (q_7, .inl (cI, 6, .inl (fun _ => 0))), (q_15, .inl (cI, 6, .inl (fun _ => 0))), (q_23, .inl (cI, 6, .inl (fun _ => 0))), (q_31, .inl (cI, 8, .inl (fun _ => 0))), (q_39, .inl (cI, 24, .inl (fun _ => 0))), (q_47, .inl (cI, 24, .inl (fun _ => 0))), (q_55, .inl (cI, 24, .inl (fun _ => 0))), (q_63, .inl (cI, 24, .inl (fun _ => 0))), (q_71, .inl (cI, 24, .inl (fun _ => 0))), (q_79, .inl (cI, 24, .inl (fun _ => 0))), (q_87, .inl (cI, 18, .inl (fun _ => 0)))] H := hP
  have hD : va_D A [(y_, .inr (1, [.ref q_7, .ref q_15, .ref q_23, .ref q_31, .ref q_39, .ref q_47, .ref q_55, .ref q_63, .ref q_71, .ref q_79, .int 0, .int 0, .null, .null, .null, .int 0, .int 0, .int 0])), (q_7, .inl (cI, 6, .inl (fun _ => 0))), (q_15, .inl (cI, 6, .inl (fun _ => 0))), (q_23, .inl (cI, 6, .inl (fun _ => 0))), (q_31, .inl (cI, 8, .inl (fun _ => 0))), (q_39, .inl (cI, 24, .inl (fun _ => 0))), (q_47, .inl (cI, 24, .inl (fun _ => 0))), (q_55, .inl (cI, 24, .inl (fun _ => 0))), (q_63, .inl (cI, 24, .inl (fun _ => 0))), (q_71, .inl (cI, 24, .inl (fun _ => 0))), (q_79, .inl (cI, 24, .inl (fun _ => 0))), (q_87, .inl (cI, 18, .inl (fun _ => 0)))] := hD
  have hf40 := hts (.fieldLink RX1 40 "ClockmaskModel" "guessed" "[I") (by decide +kernel)
  refine va_putF (D := D) (ci := 1) (v := .ref q_87) (ty := .array .int) (C := RX1) (T := TX1) (N := 18) hx hb_ hts hin tyX1 tyX1_ok nmX1 hown hK_ hP hD hS_ 0 rfl rfl 12 (by decide) hf40 (fun _ h9 => h9) rfl hinit rfl (by decide +kernel) rfl rfl (Nat.le_of_ble_eq_true rfl) dX1_init_89 (fun H locs hP hD hS_ => ?_)
  have hP : va_P D vwCl [(y_, .inr (1, [.ref q_7, .ref q_15, .ref q_23, .ref q_31, .ref q_39, .ref q_47, .ref q_55, .ref q_63, .ref q_71, .ref q_79, .int 0, .int 0, .ref q_87, .null, .null, .int 0, .int 0, .int 0])), (q_7, .inl (cI, 6, .inl (fun _ => 0))), (q_15, .inl (cI, 6, .inl (fun _ => 0))), (q_23, .inl (cI, 6, .inl (fun _ => 0))), (q_31, .inl (cI, 8, .inl (fun _ => 0))), (q_39, .inl (cI, 24, .inl (fun _ => 0))), (q_47, .inl (cI, 24, .inl (fun _ => 0))), (q_55, .inl (cI, 24, .inl (fun _ => 0))), (q_63, .inl (cI, 24, .inl (fun _ => 0))), (q_71, .inl (cI, 24, .inl (fun _ => 0))), (q_79, .inl (cI, 24, .inl (fun _ => 0))), (q_87, .inl (cI, 18, .inl (fun _ => 0)))] H := hP
  have hD : va_D A [(y_, .inr (1, [.ref q_7, .ref q_15, .ref q_23, .ref q_31, .ref q_39, .ref q_47, .ref q_55, .ref q_63, .ref q_71, .ref q_79, .int 0, .int 0, .ref q_87, .null, .null, .int 0, .int 0, .int 0])), (q_7, .inl (cI, 6, .inl (fun _ => 0))), (q_15, .inl (cI, 6, .inl (fun _ => 0))), (q_23, .inl (cI, 6, .inl (fun _ => 0))), (q_31, .inl (cI, 8, .inl (fun _ => 0))), (q_39, .inl (cI, 24, .inl (fun _ => 0))), (q_47, .inl (cI, 24, .inl (fun _ => 0))), (q_55, .inl (cI, 24, .inl (fun _ => 0))), (q_63, .inl (cI, 24, .inl (fun _ => 0))), (q_71, .inl (cI, 24, .inl (fun _ => 0))), (q_79, .inl (cI, 24, .inl (fun _ => 0))), (q_87, .inl (cI, 18, .inl (fun _ => 0)))] := hD
  refine lv_aload_n hx hb_ dX1_init_92 rfl (lv_at hl 0 rfl) ?_
  refine lv_iconst (v := 3) hx hb_ dX1_init_93 (by decide) ?_
  refine va_newa (atype := .int) (ty := .int) (N' := 3) (a0 := (3, .inl (fun _ => 0))) hx hb_ (hts (.arrayClass .int) (by decide +kernel)) rfl hK_ hP hD hS_ hA (fun _ => rfl) (by decide) (by decide) (Nat.le_of_ble_eq_true rfl) (Nat.le_of_ble_eq_true rfl) (Nat.le_of_ble_eq_true rfl) dX1_init_94 (fun q_94 cA_94 H hK_ hP hD hS_ => ?_)
  have e_94 : cI = cA_94 := va_sameI hK_ 0 1 rfl rfl
  subst e_94
  have hK_ : va_K D vwCl [(cI, .int)] s_ := hK_.sub [0] rfl
  refine W.widen (k := 12) (n := 191) (Nat.le_refl _) (Nat.le_refl _) ?_
  have hP : va_P D vwCl [(y_, .inr (1, [.ref q_7, .ref q_15, .ref q_23, .ref q_31, .ref q_39, .ref q_47, .ref q_55, .ref q_63, .ref q_71, .ref q_79, .int 0, .int 0, .ref q_87, .null, .null, .int 0, .int 0, .int 0])), (q_7, .inl (cI, 6, .inl (fun _ => 0))), (q_15, .inl (cI, 6, .inl (fun _ => 0))), (q_23, .inl (cI, 6, .inl (fun _ => 0))), (q_31, .inl (cI, 8, .inl (fun _ => 0))), (q_39, .inl (cI, 24, .inl (fun _ => 0))), (q_47, .inl (cI, 24, .inl (fun _ => 0))), (q_55, .inl (cI, 24, .inl (fun _ => 0))), (q_63, .inl (cI, 24, .inl (fun _ => 0))), (q_71, .inl (cI, 24, .inl (fun _ => 0))), (q_79, .inl (cI, 24, .inl (fun _ => 0))), (q_87, .inl (cI, 18, .inl (fun _ => 0))), (q_94, .inl (cI, 3, .inl (fun _ => 0)))] H := hP
  have hD : va_D A [(y_, .inr (1, [.ref q_7, .ref q_15, .ref q_23, .ref q_31, .ref q_39, .ref q_47, .ref q_55, .ref q_63, .ref q_71, .ref q_79, .int 0, .int 0, .ref q_87, .null, .null, .int 0, .int 0, .int 0])), (q_7, .inl (cI, 6, .inl (fun _ => 0))), (q_15, .inl (cI, 6, .inl (fun _ => 0))), (q_23, .inl (cI, 6, .inl (fun _ => 0))), (q_31, .inl (cI, 8, .inl (fun _ => 0))), (q_39, .inl (cI, 24, .inl (fun _ => 0))), (q_47, .inl (cI, 24, .inl (fun _ => 0))), (q_55, .inl (cI, 24, .inl (fun _ => 0))), (q_63, .inl (cI, 24, .inl (fun _ => 0))), (q_71, .inl (cI, 24, .inl (fun _ => 0))), (q_79, .inl (cI, 24, .inl (fun _ => 0))), (q_87, .inl (cI, 18, .inl (fun _ => 0))), (q_94, .inl (cI, 3, .inl (fun _ => 0)))] := hD
  have hf43 := hts (.fieldLink RX1 43 "ClockmaskModel" "pointsOf" "[I") (by decide +kernel)
  refine va_putF (D := D) (ci := 1) (v := .ref q_94) (ty := .array .int) (C := RX1) (T := TX1) (N := 18) hx hb_ hts hin tyX1 tyX1_ok nmX1 hown hK_ hP hD hS_ 0 rfl rfl 13 (by decide) hf43 (fun _ h9 => h9) rfl hinit rfl (by decide +kernel) rfl rfl (Nat.le_of_ble_eq_true rfl) dX1_init_96 (fun H locs hP hD hS_ => ?_)
  have hP : va_P D vwCl [(y_, .inr (1, [.ref q_7, .ref q_15, .ref q_23, .ref q_31, .ref q_39, .ref q_47, .ref q_55, .ref q_63, .ref q_71, .ref q_79, .int 0, .int 0, .ref q_87, .ref q_94, .null, .int 0, .int 0, .int 0])), (q_7, .inl (cI, 6, .inl (fun _ => 0))), (q_15, .inl (cI, 6, .inl (fun _ => 0))), (q_23, .inl (cI, 6, .inl (fun _ => 0))), (q_31, .inl (cI, 8, .inl (fun _ => 0))), (q_39, .inl (cI, 24, .inl (fun _ => 0))), (q_47, .inl (cI, 24, .inl (fun _ => 0))), (q_55, .inl (cI, 24, .inl (fun _ => 0))), (q_63, .inl (cI, 24, .inl (fun _ => 0))), (q_71, .inl (cI, 24, .inl (fun _ => 0))), (q_79, .inl (cI, 24, .inl (fun _ => 0))), (q_87, .inl (cI, 18, .inl (fun _ => 0))), (q_94, .inl (cI, 3, .inl (fun _ => 0)))] H := hP
  have hD : va_D A [(y_, .inr (1, [.ref q_7, .ref q_15, .ref q_23, .ref q_31, .ref q_39, .ref q_47, .ref q_55, .ref q_63, .ref q_71, .ref q_79, .int 0, .int 0, .ref q_87, .ref q_94, .null, .int 0, .int 0, .int 0])), (q_7, .inl (cI, 6, .inl (fun _ => 0))), (q_15, .inl (cI, 6, .inl (fun _ => 0))), (q_23, .inl (cI, 6, .inl (fun _ => 0))), (q_31, .inl (cI, 8, .inl (fun _ => 0))), (q_39, .inl (cI, 24, .inl (fun _ => 0))), (q_47, .inl (cI, 24, .inl (fun _ => 0))), (q_55, .inl (cI, 24, .inl (fun _ => 0))), (q_63, .inl (cI, 24, .inl (fun _ => 0))), (q_71, .inl (cI, 24, .inl (fun _ => 0))), (q_79, .inl (cI, 24, .inl (fun _ => 0))), (q_87, .inl (cI, 18, .inl (fun _ => 0))), (q_94, .inl (cI, 3, .inl (fun _ => 0)))] := hD
  refine lv_aload_n hx hb_ dX1_init_99 rfl (lv_at hl 0 rfl) ?_
  refine lv_bipush (v := 6) hx hb_ dX1_init_100 (by decide) ?_
  refine va_newa (atype := .int) (ty := .int) (N' := 6) (a0 := (6, .inl (fun _ => 0))) hx hb_ (hts (.arrayClass .int) (by decide +kernel)) rfl hK_ hP hD hS_ hA (fun _ => rfl) (by decide) (by decide) (Nat.le_of_ble_eq_true rfl) (Nat.le_of_ble_eq_true rfl) (Nat.le_of_ble_eq_true rfl) dX1_init_102 (fun q_102 cA_102 H hK_ hP hD hS_ => ?_)
  have e_102 : cI = cA_102 := va_sameI hK_ 0 1 rfl rfl
  subst e_102
  have hK_ : va_K D vwCl [(cI, .int)] s_ := hK_.sub [0] rfl
  refine W.widen (k := 13) (n := 197) (Nat.le_refl _) (Nat.le_refl _) ?_
  have hP : va_P D vwCl [(y_, .inr (1, [.ref q_7, .ref q_15, .ref q_23, .ref q_31, .ref q_39, .ref q_47, .ref q_55, .ref q_63, .ref q_71, .ref q_79, .int 0, .int 0, .ref q_87, .ref q_94, .null, .int 0, .int 0, .int 0])), (q_7, .inl (cI, 6, .inl (fun _ => 0))), (q_15, .inl (cI, 6, .inl (fun _ => 0))), (q_23, .inl (cI, 6, .inl (fun _ => 0))), (q_31, .inl (cI, 8, .inl (fun _ => 0))), (q_39, .inl (cI, 24, .inl (fun _ => 0))), (q_47, .inl (cI, 24, .inl (fun _ => 0))), (q_55, .inl (cI, 24, .inl (fun _ => 0))), (q_63, .inl (cI, 24, .inl (fun _ => 0))), (q_71, .inl (cI, 24, .inl (fun _ => 0))), (q_79, .inl (cI, 24, .inl (fun _ => 0))), (q_87, .inl (cI, 18, .inl (fun _ => 0))), (q_94, .inl (cI, 3, .inl (fun _ => 0))), (q_102, .inl (cI, 6, .inl (fun _ => 0)))] H := hP
  have hD : va_D A [(y_, .inr (1, [.ref q_7, .ref q_15, .ref q_23, .ref q_31, .ref q_39, .ref q_47, .ref q_55, .ref q_63, .ref q_71, .ref q_79, .int 0, .int 0, .ref q_87, .ref q_94, .null, .int 0, .int 0, .int 0])), (q_7, .inl (cI, 6, .inl (fun _ => 0))), (q_15, .inl (cI, 6, .inl (fun _ => 0))), (q_23, .inl (cI, 6, .inl (fun _ => 0))), (q_31, .inl (cI, 8, .inl (fun _ => 0))), (q_39, .inl (cI, 24, .inl (fun _ => 0))), (q_47, .inl (cI, 24, .inl (fun _ => 0))), (q_55, .inl (cI, 24, .inl (fun _ => 0))), (q_63, .inl (cI, 24, .inl (fun _ => 0))), (q_71, .inl (cI, 24, .inl (fun _ => 0))), (q_79, .inl (cI, 24, .inl (fun _ => 0))), (q_87, .inl (cI, 18, .inl (fun _ => 0))), (q_94, .inl (cI, 3, .inl (fun _ => 0))), (q_102, .inl (cI, 6, .inl (fun _ => 0)))] := hD
  have hf46 := hts (.fieldLink RX1 46 "ClockmaskModel" "replayed" "[I") (by decide +kernel)
  refine va_putF (D := D) (ci := 1) (v := .ref q_102) (ty := .array .int) (C := RX1) (T := TX1) (N := 18) hx hb_ hts hin tyX1 tyX1_ok nmX1 hown hK_ hP hD hS_ 0 rfl rfl 14 (by decide) hf46 (fun _ h9 => h9) rfl hinit rfl (by decide +kernel) rfl rfl (Nat.le_of_ble_eq_true rfl) dX1_init_104 (fun H locs hP hD hS_ => ?_)
  have hP : va_P D vwCl [(y_, .inr (1, [.ref q_7, .ref q_15, .ref q_23, .ref q_31, .ref q_39, .ref q_47, .ref q_55, .ref q_63, .ref q_71, .ref q_79, .int 0, .int 0, .ref q_87, .ref q_94, .ref q_102, .int 0, .int 0, .int 0])), (q_7, .inl (cI, 6, .inl (fun _ => 0))), (q_15, .inl (cI, 6, .inl (fun _ => 0))), (q_23, .inl (cI, 6, .inl (fun _ => 0))), (q_31, .inl (cI, 8, .inl (fun _ => 0))), (q_39, .inl (cI, 24, .inl (fun _ => 0))), (q_47, .inl (cI, 24, .inl (fun _ => 0))), (q_55, .inl (cI, 24, .inl (fun _ => 0))), (q_63, .inl (cI, 24, .inl (fun _ => 0))), (q_71, .inl (cI, 24, .inl (fun _ => 0))), (q_79, .inl (cI, 24, .inl (fun _ => 0))), (q_87, .inl (cI, 18, .inl (fun _ => 0))), (q_94, .inl (cI, 3, .inl (fun _ => 0))), (q_102, .inl (cI, 6, .inl (fun _ => 0)))] H := hP
  have hD : va_D A [(y_, .inr (1, [.ref q_7, .ref q_15, .ref q_23, .ref q_31, .ref q_39, .ref q_47, .ref q_55, .ref q_63, .ref q_71, .ref q_79, .int 0, .int 0, .ref q_87, .ref q_94, .ref q_102, .int 0, .int 0, .int 0])), (q_7, .inl (cI, 6, .inl (fun _ => 0))), (q_15, .inl (cI, 6, .inl (fun _ => 0))), (q_23, .inl (cI, 6, .inl (fun _ => 0))), (q_31, .inl (cI, 8, .inl (fun _ => 0))), (q_39, .inl (cI, 24, .inl (fun _ => 0))), (q_47, .inl (cI, 24, .inl (fun _ => 0))), (q_55, .inl (cI, 24, .inl (fun _ => 0))), (q_63, .inl (cI, 24, .inl (fun _ => 0))), (q_71, .inl (cI, 24, .inl (fun _ => 0))), (q_79, .inl (cI, 24, .inl (fun _ => 0))), (q_87, .inl (cI, 18, .inl (fun _ => 0))), (q_94, .inl (cI, 3, .inl (fun _ => 0))), (q_102, .inl (cI, 6, .inl (fun _ => 0)))] := hD
  refine lv_aload_n hx hb_ dX1_init_107 rfl (lv_at hl 0 rfl) ?_
  refine lv_bipush (v := 10) hx hb_ dX1_init_108 (by decide) ?_
  have hf49 := hts (.fieldLink RX1 49 "ClockmaskModel" "purseNow" "I") (by decide +kernel)
  refine va_put (D := D) (ci := 1) (v := .int 10) (ty := .int) (C := RX1) (T := TX1) (N := 18) hx hb_ hts hin tyX1 tyX1_ok nmX1 hown hK_ hP hD hS_ 0 rfl rfl 15 (by decide) hf49 (fun _ h9 => h9) rfl (by decide +kernel) rfl rfl (Nat.le_of_ble_eq_true rfl) dX1_init_110 (fun H locs hP hD hS_ => ?_)
  have hP : va_P D vwCl [(y_, .inr (1, [.ref q_7, .ref q_15, .ref q_23, .ref q_31, .ref q_39, .ref q_47, .ref q_55, .ref q_63, .ref q_71, .ref q_79, .int 0, .int 0, .ref q_87, .ref q_94, .ref q_102, .int 10, .int 0, .int 0])), (q_7, .inl (cI, 6, .inl (fun _ => 0))), (q_15, .inl (cI, 6, .inl (fun _ => 0))), (q_23, .inl (cI, 6, .inl (fun _ => 0))), (q_31, .inl (cI, 8, .inl (fun _ => 0))), (q_39, .inl (cI, 24, .inl (fun _ => 0))), (q_47, .inl (cI, 24, .inl (fun _ => 0))), (q_55, .inl (cI, 24, .inl (fun _ => 0))), (q_63, .inl (cI, 24, .inl (fun _ => 0))), (q_71, .inl (cI, 24, .inl (fun _ => 0))), (q_79, .inl (cI, 24, .inl (fun _ => 0))), (q_87, .inl (cI, 18, .inl (fun _ => 0))), (q_94, .inl (cI, 3, .inl (fun _ => 0))), (q_102, .inl (cI, 6, .inl (fun _ => 0)))] H := hP
  have hD : va_D A [(y_, .inr (1, [.ref q_7, .ref q_15, .ref q_23, .ref q_31, .ref q_39, .ref q_47, .ref q_55, .ref q_63, .ref q_71, .ref q_79, .int 0, .int 0, .ref q_87, .ref q_94, .ref q_102, .int 10, .int 0, .int 0])), (q_7, .inl (cI, 6, .inl (fun _ => 0))), (q_15, .inl (cI, 6, .inl (fun _ => 0))), (q_23, .inl (cI, 6, .inl (fun _ => 0))), (q_31, .inl (cI, 8, .inl (fun _ => 0))), (q_39, .inl (cI, 24, .inl (fun _ => 0))), (q_47, .inl (cI, 24, .inl (fun _ => 0))), (q_55, .inl (cI, 24, .inl (fun _ => 0))), (q_63, .inl (cI, 24, .inl (fun _ => 0))), (q_71, .inl (cI, 24, .inl (fun _ => 0))), (q_79, .inl (cI, 24, .inl (fun _ => 0))), (q_87, .inl (cI, 18, .inl (fun _ => 0))), (q_94, .inl (cI, 3, .inl (fun _ => 0))), (q_102, .inl (cI, 6, .inl (fun _ => 0)))] := hD
  obtain ⟨b_, e_a0, e_a1, e_a2, e_a3, e_a4, e_a5, e_a6, e_a7, e_a8, e_a9, e_a12, e_a13, e_a16⟩ : ∃ b_ : Nat → Nat, b_ 0 = q_23 ∧ b_ 1 = q_7 ∧ b_ 2 = q_15 ∧ b_ 3 = q_31 ∧ b_ 4 = q_39 ∧ b_ 5 = q_47 ∧ b_ 6 = q_55 ∧ b_ 7 = q_63 ∧ b_ 8 = q_71 ∧ b_ 9 = q_79 ∧ b_ 12 = q_94 ∧ b_ 13 = q_87 ∧ b_ 16 = q_102 := ⟨fun r_ => ([q_23, q_7, q_15, q_31, q_39, q_47, q_55, q_63, q_71, q_79, 0, 0, q_94, q_87, 0, 0, q_102] : List Nat).getD r_ 0, rfl, rfl, rfl, rfl, rfl, rfl, rfl, rfl, rfl, rfl, rfl, rfl, rfl⟩
  subst e_a0
  subst e_a1
  subst e_a2
  subst e_a3
  subst e_a4
  subst e_a5
  subst e_a6
  subst e_a7
  subst e_a8
  subst e_a9
  subst e_a12
  subst e_a13
  subst e_a16
  have hP : va_P D vwCl (wMr cI y_ b_ (Z0 0) (Z0 1) (Z0 2) (Z0 3) (Z0 4) (Z0 5) (Z0 6) (Z0 7) (Z0 8) (Z0 9) (Z0 10 0) (Z0 11 0) (Z0 12) (Z0 13) 10 (Z0 15 0) (Z0 16) 0) H := hP
  have hD : va_D A (wMr cI y_ b_ (Z0 0) (Z0 1) (Z0 2) (Z0 3) (Z0 4) (Z0 5) (Z0 6) (Z0 7) (Z0 8) (Z0 9) (Z0 10 0) (Z0 11 0) (Z0 12) (Z0 13) 10 (Z0 15 0) (Z0 16) 0) := hD
  refine lv_iconst (v := 0) hx hb_ dX1_init_113 (by decide) ?_
  refine lv_istore_n (lv' := [(1, .int 0), (0, .ref y_)]) hx hb_ dX1_init_114 rfl hl (by decide) rfl (fun ls hl => ?_)
  refine W_gen (fun R Q hR hQ => ?_)
  have loop_115 : ∀ (n_ : Nat) (j_ : Nat) (i1_ : Int32) (g1 : Nat → Int32) (g0 : Nat → Int32), (j_ ≤ 6) → (7 ≤ j_ + n_) → (i1_ = nI j_) → (g1 = fa_fill (fun _ => -1) (fun _ => 0) j_) → (g0 = fa_fill (fun _ => -1) (fun _ => 0) j_) → ∀ (H : Heap) (locs : List Loc), va_P D vwCl (wMr cI y_ b_ g0 g1 (Z0 2) (Z0 3) (Z0 4) (Z0 5) (Z0 6) (Z0 7) (Z0 8) (Z0 9) (Z0 10 0) (Z0 11 0) (Z0 12) (Z0 13) 10 (Z0 15 0) (Z0 16) 0) H → va_D A (wMr cI y_ b_ g0 g1 (Z0 2) (Z0 3) (Z0 4) (Z0 5) (Z0 6) (Z0 7) (Z0 8) (Z0 9) (Z0 10 0) (Z0 11 0) (Z0 12) (Z0 13) 10 (Z0 15 0) (Z0 16) 0) → va_S A s_.heap H locs → ∀ ls : Array Slot, lv_has ls 2 [(1, .int i1_), (0, .ref y_)] → W pr l env R s_ mid ([.ref y_] : List Value).toArray below meth cod H locs 13 197 Q (F0 mid 115 ls []) := by
    subst hR; subst hQ
    intro n_
    induction n_ with
    | zero =>
      intro j_ i1_ g1 g0 hj hn e1_ eg1 eg0 H locs hP hD hS_ ls hl
      exfalso; omega
    | succ n_ ih_ =>
      intro j_ i1_ g1 g0 hj hn e1_ eg1 eg0 H locs hP hD hS_ ls hl
      refine lv_iload_n hx hb_ dX1_init_115 rfl (lv_at hl 0 rfl) ?_
      refine lv_bipush (v := 6) hx hb_ dX1_init_116 (by decide) ?_
      refine lv_icmp_ge (tgt := 141) hx hb_ dX1_init_118 (by decide) (fun c_118 => ?_) (fun c_118 => ?_)
      · skip
        have h6 : 6 ≤ j_ := ge_of (N := 6) e1_ (by omega) rfl c_118
        have ej : j_ = 6 := by omega
        subst ej
        subst eg1
        subst eg0
        refine W.widen (k := 13) (n := 197) (by omega) (by omega) ?_
        exact W.vret hx hb_ hr (fun t_ ht hW => ⟨⟨(), rfl, trivial, cI, b_, ⟨by rw [ht]; exact (show va_P D vwCl (wM cI y_ b_ S00 0) _ from hP), va_K.moved hW.alike hK_⟩, (show va_D A (wM cI y_ b_ S00 0) from hD)⟩, hS_.F ht⟩) hS_.2.2 dX1_init_141
      · skip
        have h6 : j_ < 6 := lt_of (N := 6) e1_ (by omega) rfl c_118
        refine lv_aload_n hx hb_ dX1_init_121 rfl (lv_at hl 1 rfl) ?_
        refine va_get (D := D) (ci := 1) (v := .ref (b_ 1)) (C := RX1) (T := TX1) (N := 18) hx hb_ hts hin hown hK_ hP 0 rfl rfl 0 (by decide) hf7 (fun _ h9 => h9) rfl dX1_init_122 ?_
        refine lv_iload_n hx hb_ dX1_init_125 rfl (lv_at hl 0 rfl) ?_
        refine lv_iconst (v := (-1)) hx hb_ dX1_init_126 (by decide) ?_
        refine va_iast (f := g1) (n := 6) hx hb_ hK_ hP hD hS_ 1 0 rfl rfl (by rw [e1_]; exact vp_in_nI h6 (by decide)) dX1_init_127 (fun H locs hP hD hS_ => ?_)
        have hP : va_P D vwCl (wMr cI y_ b_ g0 (upd g1 i1_.toNatClampNeg (-1)) (Z0 2) (Z0 3) (Z0 4) (Z0 5) (Z0 6) (Z0 7) (Z0 8) (Z0 9) (Z0 10 0) (Z0 11 0) (Z0 12) (Z0 13) 10 (Z0 15 0) (Z0 16) 0) H := hP
        have hD : va_D A (wMr cI y_ b_ g0 (upd g1 i1_.toNatClampNeg (-1)) (Z0 2) (Z0 3) (Z0 4) (Z0 5) (Z0 6) (Z0 7) (Z0 8) (Z0 9) (Z0 10 0) (Z0 11 0) (Z0 12) (Z0 13) 10 (Z0 15 0) (Z0 16) 0) := hD
        refine lv_aload_n hx hb_ dX1_init_128 rfl (lv_at hl 1 rfl) ?_
        refine va_get (D := D) (ci := 1) (v := .ref (b_ 0)) (C := RX1) (T := TX1) (N := 18) hx hb_ hts hin hown hK_ hP 0 rfl rfl 2 (by decide) hf16 (fun _ h9 => h9) rfl dX1_init_129 ?_
        refine lv_iload_n hx hb_ dX1_init_132 rfl (lv_at hl 0 rfl) ?_
        refine lv_iconst (v := (-1)) hx hb_ dX1_init_133 (by decide) ?_
        refine va_iast (f := g0) (n := 6) hx hb_ hK_ hP hD hS_ 3 0 rfl rfl (by rw [e1_]; exact vp_in_nI h6 (by decide)) dX1_init_134 (fun H locs hP hD hS_ => ?_)
        have hP : va_P D vwCl (wMr cI y_ b_ (upd g0 i1_.toNatClampNeg (-1)) (upd g1 i1_.toNatClampNeg (-1)) (Z0 2) (Z0 3) (Z0 4) (Z0 5) (Z0 6) (Z0 7) (Z0 8) (Z0 9) (Z0 10 0) (Z0 11 0) (Z0 12) (Z0 13) 10 (Z0 15 0) (Z0 16) 0) H := hP
        have hD : va_D A (wMr cI y_ b_ (upd g0 i1_.toNatClampNeg (-1)) (upd g1 i1_.toNatClampNeg (-1)) (Z0 2) (Z0 3) (Z0 4) (Z0 5) (Z0 6) (Z0 7) (Z0 8) (Z0 9) (Z0 10 0) (Z0 11 0) (Z0 12) (Z0 13) 10 (Z0 15 0) (Z0 16) 0) := hD
        refine lv_iinc (v := i1_ + 1) (lv' := [(1, .int (i1_ + 1)), (0, .ref y_)]) hx hb_ dX1_init_135 hl (k := 0) rfl rfl (by decide) rfl (fun ls hl => ?_)
        refine lv_goto (tgt := 115) hx hb_ dX1_init_138 (by decide) ?_
        exact ih_ (j_ + 1) (i1_ + 1) (upd g1 i1_.toNatClampNeg (-1)) (upd g0 i1_.toNatClampNeg (-1)) (by omega) (by omega) (by rw [e1_]; exact nI_1 j_) (by rw [eg1, e1_, nI_clamp (by omega)]; exact fa_fill_succ (fun _ => -1) _ j_) (by rw [eg0, e1_, nI_clamp (by omega)]; exact fa_fill_succ (fun _ => -1) _ j_) _ _ hP hD hS_ _ (lv_sub hl [0, 1] rfl)
  exact loop_115 7 0 0 (Z0 1) (Z0 0) (Nat.zero_le _) (by omega) nI_0.symm ((fa_fill_0 _ _).symm) ((fa_fill_0 _ _).symm) _ _ hP hD hS_ _ (lv_sub hl [0, 1] rfl)
