abbrev rmL_dress : Room := ({ frames := 8, cells := 1, slots := 6, locals := 134 } : Room)
set_option maxHeartbeats 4000000 in
set_option maxRecDepth 100000 in
theorem c_L_dress (l : Launch) (hfl : l.stackTraces = false) (D : va_G) (cI cZ cJ : ClassId) (x_ ou : Nat) (a_ : Nat → Nat) (S : ST) (fo : Nat → Int64) (sz : Nat) (p_ : Int32) (c_ : Int32) : Met l yL_dress wsL_dress rmL_dress (va_Pc [.ref x_, .int p_, .int c_, .ref ou] (fun U => (pW D (tyL cI cZ cJ) (wX cI cZ x_ a_ S ++ [wO cJ ou fo]) sz) U ∧ pL U)) (va_Qi (fun (r_ : Int32) (u_ : ST × (Nat → Int64)) => ∃ v_ : Int32, k_dress S p_ c_ = (r_, v_, u_.1) ∧ (r_ = 0 → u_.2 0 = v_.toInt64)) (fun u_ t_ => atW D (wX cI cZ x_ a_ u_.1 ++ [wO cJ ou u_.2]) (va_A (wX cI cZ x_ a_ S ++ [wO cJ ou fo]) sz) t_) (va_A (wX cI cZ x_ a_ S ++ [wO cJ ou fo]) sz)) 1 6 (va_A (wX cI cZ x_ a_ S ++ [wO cJ ou fo]) sz) := by
  refine va_ofWH (cc := cL_dress) (maxL := 5) (ret := (some .int)) (hh := [(0, 10, 13, 13), (0, 10, 17, 15), (0, 10, 21, 17)]) (by decide) rfl ?_
  intro pr env s_ mid args below meth cod s₁ Bd hml hv
  obtain ⟨rfl, ⟨hsz, hP, hK_, hD0⟩, hG0, hN_⟩ := hv
  have hG : xG (fun q_ => s_.heap.size ≤ q_) s_ s_.heap := hG0
  have hx := Bd.exec
  have hb_ := Bd.bytes
  have hr := Bd.returns
  have hts := atoms_spec (ws := wsL_dress) Bd.pre
  have hown : s_.vm.findClass RL = some mid.cls := findClass_of_methodNamed Bd.named
  have hlocks := Bd.notSynchronized
  have htab : cod.exceptionTable.toList = tableOf [(0, 10, 13, 13), (0, 10, 17, 15), (0, 10, 21, 17)] := vx_table (x := objectInit) Bd (hts _ List.mem_cons_self)
  subst hsz
  have hD := hD0.self (sz := s_.heap.size)
  generalize hAe : va_A (wX cI cZ x_ a_ S ++ [wO cJ ou fo]) s_.heap.size = A at hD ⊢
  have hA : ∀ q_ : Nat, s_.heap.size ≤ q_ → A q_ := fun q_ h_ => by rw [← hAe]; exact Or.inr h_
  have hS_ : va_S A s_.heap s_.heap [] := va_S.rf
  have hP : va_P D vwCl (wX cI cZ x_ a_ S ++ [wO cJ ou fo]) s_.heap := hP
  have hl := lv_entry ([.ref x_, .int p_, .int c_, .ref ou]) (n := 5) (Nat.le_of_ble_eq_true rfl)
  rw [lg_entry_eq]
  generalize (lg_sl ([.ref x_, .int p_, .int c_, .ref ou]) ++ List.replicate (5 - (lg_sl ([.ref x_, .int p_, .int c_, .ref ou])).length) Slot.unset).toArray = ls at hl ⊢
  have hl : lv_has ls 5 [(0, .ref x_), (1, .int p_), (2, .int c_), (3, .ref ou)] := hl
  refine lv_aload_n hx hb_ dL_dress_0 rfl (lv_at hl 3 rfl) ?_
  refine lv_iconst (v := 0) hx hb_ dL_dress_1 (by decide) ?_
  refine lv_aload_n hx hb_ dL_dress_2 rfl (lv_at hl 0 rfl) ?_
  refine lv_iload_n hx hb_ dL_dress_3 rfl (lv_at hl 1 rfl) ?_
  refine lv_iload_n hx hb_ dL_dress_4 rfl (lv_at hl 2 rfl) ?_
  have hPc := hP.sub (ws' := wX cI cZ x_ a_ S) [0, 1, 2, 3, 4, 5, 6, 7, 8, 9, 10, 11, 12, 13] rfl
  have hKc := hK_.sub (tys' := tyX cI cZ) [0, 1] rfl
  have hDc := hD.sub (ws' := wX cI cZ x_ a_ S) [0, 1, 2, 3, 4, 5, 6, 7, 8, 9, 10, 11, 12, 13] (by decide) rfl
  have hFc := va_free (wc := wX cI cZ x_ a_ S) hD hS_ hA [0, 1, 2, 3, 4, 5, 6, 7, 8, 9, 10, 11, 12, 13] rfl
  refine vy_calli (vy_runV (As := [.int p_, .int c_]) (rest := [.int 0, .ref ou]) ⟨hx, hb_, hml, hown, hts⟩ (c_X0_dress l hfl D cI cZ x_ a_ S s_.heap.size p_ c_ ) (cwV 2 hts gL_dress_X0_dress rfl rfl rfl (by decide +kernel) ⟨Nat.le_of_ble_eq_true rfl, Nat.le_of_ble_eq_true rfl⟩) (pT_V (pW_V (ci := 0) hPc hKc hDc rfl rfl) hG (fun _ h_ => h_)) rfl rfl hl.1 rfl (lv_room (Nat.le_of_ble_eq_true rfl)) dL_dress_5 ⟨Nat.le_of_ble_eq_true rfl, Nat.le_of_ble_eq_true rfl⟩) hS_ (fun q_ _ h_ => hFc q_ h_) hFc (fun E ce q9_ H1 locs hPE_ hz9 hk9 hS_ hc9 hv9 hcl9 => ?_) (fun r_ u_ t9 H1 locs ht9 hvm9 hw hB9 hz9 hk9 hS_ => ?_)
  · have hP1 : va_P D vwCl (wX cI cZ x_ a_ S ++ [wO cJ ou fo]) H1 := hP.grown hk9
    rcases hPE_ with ⟨rfl, hk⟩ | ⟨rfl, hk⟩ | ⟨rfl, hk⟩
    · skip
      refine vx_catch hown [] ⟨0, 10, 13, 13⟩ [⟨0, 10, 17, 15⟩, ⟨0, 10, 21, 17⟩] (by rw [htab]; rfl) (fun z_ hz => absurd hz List.not_mem_nil) rfl (by decide) (hts (.classLink RL 13 xIO) (by decide +kernel)) (va_Nw.use rfl (hG.2.2.1 _ (List.mem_of_getElem? (i := 3) rfl))) hc9 hv9 hcl9 ?_
      refine lv_astore (lv' := [(4, .ref q9_), (0, .ref x_), (1, .int p_), (2, .int c_), (3, .ref ou)]) hx hb_ dL_dress_13 hl (by decide) rfl (fun ls hl => ?_)
      refine lv_iconst (v := 1) hx hb_ dL_dress_15 (by decide) ?_
      refine W.widen (k := 1) (n := 6) (by omega) (by omega) ?_
      exact W.iret (v := 1) hx hb_ hr (fun t_ ht hW => ⟨⟨_, (S, fo), rfl, ⟨0, hk, fun h_ => absurd h_ (by decide)⟩, by rw [ht]; exact hP1, hD⟩, hS_.F ht⟩) hS_.2.2 dL_dress_16
    · skip
      refine vx_catch hown [⟨0, 10, 13, 13⟩] ⟨0, 10, 17, 15⟩ [⟨0, 10, 21, 17⟩] (by rw [htab]; rfl) (fun z_ hz => by rw [List.mem_singleton.mp hz]; exact Or.inr ⟨by decide, xIO, hts (.classLink RL 13 xIO) (by decide +kernel), hN_.1⟩) rfl (by decide) (hts (.classLink RL 15 xIA) (by decide +kernel)) (va_Nw.use rfl (hG.2.2.1 _ (List.mem_of_getElem? (i := 4) rfl))) hc9 hv9 hcl9 ?_
      refine lv_astore (lv' := [(4, .ref q9_), (0, .ref x_), (1, .int p_), (2, .int c_), (3, .ref ou)]) hx hb_ dL_dress_17 hl (by decide) rfl (fun ls hl => ?_)
      refine lv_iconst (v := 2) hx hb_ dL_dress_19 (by decide) ?_
      refine W.widen (k := 1) (n := 6) (by omega) (by omega) ?_
      exact W.iret (v := 2) hx hb_ hr (fun t_ ht hW => ⟨⟨_, (S, fo), rfl, ⟨0, hk, fun h_ => absurd h_ (by decide)⟩, by rw [ht]; exact hP1, hD⟩, hS_.F ht⟩) hS_.2.2 dL_dress_20
    · skip
      refine vx_catch hown [⟨0, 10, 13, 13⟩, ⟨0, 10, 17, 15⟩] ⟨0, 10, 21, 17⟩ [] (by rw [htab]; rfl) (fun z_ hz => by rcases List.mem_cons.mp hz with rfl | hz; exact Or.inr ⟨by decide, xIO, hts (.classLink RL 13 xIO) (by decide +kernel), hN_.2.1⟩; rw [List.mem_singleton.mp hz]; exact Or.inr ⟨by decide, xIA, hts (.classLink RL 15 xIA) (by decide +kernel), hN_.2.2.1⟩) rfl (by decide) (hts (.classLink RL 17 xIS) (by decide +kernel)) (va_Nw.use rfl (hG.2.2.1 _ (List.mem_of_getElem? (i := 5) rfl))) hc9 hv9 hcl9 ?_
      refine lv_astore (lv' := [(4, .ref q9_), (0, .ref x_), (1, .int p_), (2, .int c_), (3, .ref ou)]) hx hb_ dL_dress_21 hl (by decide) rfl (fun ls hl => ?_)
      refine lv_iconst (v := 3) hx hb_ dL_dress_23 (by decide) ?_
      refine W.widen (k := 1) (n := 6) (by omega) (by omega) ?_
      exact W.iret (v := 3) hx hb_ hr (fun t_ ht hW => ⟨⟨_, (S, fo), rfl, ⟨0, hk, fun h_ => absurd h_ (by decide)⟩, by rw [ht]; exact hP1, hD⟩, hS_.F ht⟩) hS_.2.2 dL_dress_24
  · have hJ9 := va_join (wr := [wO cJ ou fo]) hP hD [0, 1, 2, 3, 4, 5, 6, 7, 8, 9, 10, 11, 12, 13] [14] rfl rfl (by decide) (by decide) hk9 hFc (atW_P hB9 ht9) hB9.2
    have hP : va_P D vwCl (wX cI cZ x_ a_ u_ ++ [wO cJ ou fo]) H1 := hJ9.1.sub [1, 2, 3, 4, 5, 6, 7, 8, 9, 10, 11, 12, 13, 14, 0] rfl
    have hD : va_D A (wX cI cZ x_ a_ u_ ++ [wO cJ ou fo]) := hJ9.2.sub [1, 2, 3, 4, 5, 6, 7, 8, 9, 10, 11, 12, 13, 14, 0] (by decide) rfl
    refine lv_i2l (v := r_.toInt64) hx hb_ dL_dress_8 rfl ?_
    refine va_last (f := fo) (n := 1) hx hb_ hK_ hP hD hS_ 14 2 rfl rfl vin01 dL_dress_9 (fun H locs hP hD hS_ => ?_)
    have hP : va_P D vwCl (wX cI cZ x_ a_ u_ ++ [wO cJ ou (vp_updL fo (0 : Int32).toNatClampNeg r_.toInt64)]) H := hP
    have hD : va_D A (wX cI cZ x_ a_ u_ ++ [wO cJ ou (vp_updL fo (0 : Int32).toNatClampNeg r_.toInt64)]) := hD
    refine lv_goto (tgt := 25) hx hb_ dL_dress_10 (by decide) ?_
    refine lv_iconst (v := 0) hx hb_ dL_dress_25 (by decide) ?_
    refine W.widen (k := 1) (n := 6) (by omega) (by omega) ?_
    exact W.iret (v := 0) hx hb_ hr (fun t_ ht hW => ⟨⟨_, (u_, vp_updL fo (0 : Int32).toNatClampNeg r_.toInt64), rfl, ⟨r_, hw, fun _ => u0L fo _⟩, by rw [ht]; exact hP, hD⟩, hS_.F ht⟩) hS_.2.2 dL_dress_26
abbrev rmL_repair : Room := ({ frames := 8, cells := 1, slots := 6, locals := 131 } : Room)
set_option maxHeartbeats 4000000 in
set_option maxRecDepth 100000 in
theorem c_L_repair (l : Launch) (hfl : l.stackTraces = false) (D : va_G) (cI cZ cJ : ClassId) (x_ ou : Nat) (a_ : Nat → Nat) (S : ST) (fo : Nat → Int64) (sz : Nat) (c_ : Int32) : Met l yL_repair wsL_repair rmL_repair (va_Pc [.ref x_, .int c_, .ref ou] (fun U => (pW D (tyL cI cZ cJ) (wX cI cZ x_ a_ S ++ [wO cJ ou fo]) sz) U ∧ pL U)) (va_Qi (fun (r_ : Int32) (u_ : ST × (Nat → Int64)) => ∃ v_ : Int32, k_repair S c_ = (r_, v_, u_.1) ∧ (r_ = 0 → u_.2 0 = v_.toInt64)) (fun u_ t_ => atW D (wX cI cZ x_ a_ u_.1 ++ [wO cJ ou u_.2]) (va_A (wX cI cZ x_ a_ S ++ [wO cJ ou fo]) sz) t_) (va_A (wX cI cZ x_ a_ S ++ [wO cJ ou fo]) sz)) 1 6 (va_A (wX cI cZ x_ a_ S ++ [wO cJ ou fo]) sz) := by
  refine va_ofWH (cc := cL_repair) (maxL := 4) (ret := (some .int)) (hh := [(0, 9, 12, 13), (0, 9, 15, 17)]) (by decide) rfl ?_
  intro pr env s_ mid args below meth cod s₁ Bd hml hv
  obtain ⟨rfl, ⟨hsz, hP, hK_, hD0⟩, hG0, hN_⟩ := hv
  have hG : xG (fun q_ => s_.heap.size ≤ q_) s_ s_.heap := hG0
  have hx := Bd.exec
  have hb_ := Bd.bytes
  have hr := Bd.returns
  have hts := atoms_spec (ws := wsL_repair) Bd.pre
  have hown : s_.vm.findClass RL = some mid.cls := findClass_of_methodNamed Bd.named
  have hlocks := Bd.notSynchronized
  have htab : cod.exceptionTable.toList = tableOf [(0, 9, 12, 13), (0, 9, 15, 17)] := vx_table (x := objectInit) Bd (hts _ List.mem_cons_self)
  subst hsz
  have hD := hD0.self (sz := s_.heap.size)
  generalize hAe : va_A (wX cI cZ x_ a_ S ++ [wO cJ ou fo]) s_.heap.size = A at hD ⊢
  have hA : ∀ q_ : Nat, s_.heap.size ≤ q_ → A q_ := fun q_ h_ => by rw [← hAe]; exact Or.inr h_
  have hS_ : va_S A s_.heap s_.heap [] := va_S.rf
  have hP : va_P D vwCl (wX cI cZ x_ a_ S ++ [wO cJ ou fo]) s_.heap := hP
  have hl := lv_entry ([.ref x_, .int c_, .ref ou]) (n := 4) (Nat.le_of_ble_eq_true rfl)
  rw [lg_entry_eq]
  generalize (lg_sl ([.ref x_, .int c_, .ref ou]) ++ List.replicate (4 - (lg_sl ([.ref x_, .int c_, .ref ou])).length) Slot.unset).toArray = ls at hl ⊢
  have hl : lv_has ls 4 [(0, .ref x_), (1, .int c_), (2, .ref ou)] := hl
  refine lv_aload_n hx hb_ dL_repair_0 rfl (lv_at hl 2 rfl) ?_
  refine lv_iconst (v := 0) hx hb_ dL_repair_1 (by decide) ?_
  refine lv_aload_n hx hb_ dL_repair_2 rfl (lv_at hl 0 rfl) ?_
  refine lv_iload_n hx hb_ dL_repair_3 rfl (lv_at hl 1 rfl) ?_
  have hPc := hP.sub (ws' := wX cI cZ x_ a_ S) [0, 1, 2, 3, 4, 5, 6, 7, 8, 9, 10, 11, 12, 13] rfl
  have hKc := hK_.sub (tys' := tyX cI cZ) [0, 1] rfl
  have hDc := hD.sub (ws' := wX cI cZ x_ a_ S) [0, 1, 2, 3, 4, 5, 6, 7, 8, 9, 10, 11, 12, 13] (by decide) rfl
  have hFc := va_free (wc := wX cI cZ x_ a_ S) hD hS_ hA [0, 1, 2, 3, 4, 5, 6, 7, 8, 9, 10, 11, 12, 13] rfl
  refine vy_calli (vy_runV (As := [.int c_]) (rest := [.int 0, .ref ou]) ⟨hx, hb_, hml, hown, hts⟩ (c_X0_repair l hfl D cI cZ x_ a_ S s_.heap.size c_ ) (cwV 1 hts gL_repair_X0_repair rfl rfl rfl (by decide +kernel) ⟨Nat.le_of_ble_eq_true rfl, Nat.le_of_ble_eq_true rfl⟩) (pT_V (pW_V (ci := 0) hPc hKc hDc rfl rfl) hG (fun _ h_ => h_)) rfl rfl hl.1 rfl (lv_room (Nat.le_of_ble_eq_true rfl)) dL_repair_4 ⟨Nat.le_of_ble_eq_true rfl, Nat.le_of_ble_eq_true rfl⟩) hS_ (fun q_ _ h_ => hFc q_ h_) hFc (fun E ce q9_ H1 locs hPE_ hz9 hk9 hS_ hc9 hv9 hcl9 => ?_) (fun r_ u_ t9 H1 locs ht9 hvm9 hw hB9 hz9 hk9 hS_ => ?_)
  · have hP1 : va_P D vwCl (wX cI cZ x_ a_ S ++ [wO cJ ou fo]) H1 := hP.grown hk9
    rcases hPE_ with ⟨rfl, hk⟩ | ⟨rfl, hk⟩
    · skip
      refine vx_catch hown [] ⟨0, 9, 12, 13⟩ [⟨0, 9, 15, 17⟩] (by rw [htab]; rfl) (fun z_ hz => absurd hz List.not_mem_nil) rfl (by decide) (hts (.classLink RL 13 xIO) (by decide +kernel)) (va_Nw.use rfl (hG.2.2.1 _ (List.mem_of_getElem? (i := 3) rfl))) hc9 hv9 hcl9 ?_
      refine lv_astore_n (lv' := [(3, .ref q9_), (0, .ref x_), (1, .int c_), (2, .ref ou)]) hx hb_ dL_repair_12 rfl hl (by decide) rfl (fun ls hl => ?_)
      refine lv_iconst (v := 1) hx hb_ dL_repair_13 (by decide) ?_
      refine W.widen (k := 1) (n := 6) (by omega) (by omega) ?_
      exact W.iret (v := 1) hx hb_ hr (fun t_ ht hW => ⟨⟨_, (S, fo), rfl, ⟨0, hk, fun h_ => absurd h_ (by decide)⟩, by rw [ht]; exact hP1, hD⟩, hS_.F ht⟩) hS_.2.2 dL_repair_14
    · skip
      refine vx_catch hown [⟨0, 9, 12, 13⟩] ⟨0, 9, 15, 17⟩ [] (by rw [htab]; rfl) (fun z_ hz => by rw [List.mem_singleton.mp hz]; exact Or.inr ⟨by decide, xIO, hts (.classLink RL 13 xIO) (by decide +kernel), hN_.2.1⟩) rfl (by decide) (hts (.classLink RL 17 xIS) (by decide +kernel)) (va_Nw.use rfl (hG.2.2.1 _ (List.mem_of_getElem? (i := 5) rfl))) hc9 hv9 hcl9 ?_
      refine lv_astore_n (lv' := [(3, .ref q9_), (0, .ref x_), (1, .int c_), (2, .ref ou)]) hx hb_ dL_repair_15 rfl hl (by decide) rfl (fun ls hl => ?_)
      refine lv_iconst (v := 2) hx hb_ dL_repair_16 (by decide) ?_
      refine W.widen (k := 1) (n := 6) (by omega) (by omega) ?_
      exact W.iret (v := 2) hx hb_ hr (fun t_ ht hW => ⟨⟨_, (S, fo), rfl, ⟨0, hk, fun h_ => absurd h_ (by decide)⟩, by rw [ht]; exact hP1, hD⟩, hS_.F ht⟩) hS_.2.2 dL_repair_17
  · have hJ9 := va_join (wr := [wO cJ ou fo]) hP hD [0, 1, 2, 3, 4, 5, 6, 7, 8, 9, 10, 11, 12, 13] [14] rfl rfl (by decide) (by decide) hk9 hFc (atW_P hB9 ht9) hB9.2
    have hP : va_P D vwCl (wX cI cZ x_ a_ u_ ++ [wO cJ ou fo]) H1 := hJ9.1.sub [1, 2, 3, 4, 5, 6, 7, 8, 9, 10, 11, 12, 13, 14, 0] rfl
    have hD : va_D A (wX cI cZ x_ a_ u_ ++ [wO cJ ou fo]) := hJ9.2.sub [1, 2, 3, 4, 5, 6, 7, 8, 9, 10, 11, 12, 13, 14, 0] (by decide) rfl
    refine lv_i2l (v := r_.toInt64) hx hb_ dL_repair_7 rfl ?_
    refine va_last (f := fo) (n := 1) hx hb_ hK_ hP hD hS_ 14 2 rfl rfl vin01 dL_repair_8 (fun H locs hP hD hS_ => ?_)
    have hP : va_P D vwCl (wX cI cZ x_ a_ u_ ++ [wO cJ ou (vp_updL fo (0 : Int32).toNatClampNeg r_.toInt64)]) H := hP
    have hD : va_D A (wX cI cZ x_ a_ u_ ++ [wO cJ ou (vp_updL fo (0 : Int32).toNatClampNeg r_.toInt64)]) := hD
    refine lv_goto (tgt := 18) hx hb_ dL_repair_9 (by decide) ?_
    refine lv_iconst (v := 0) hx hb_ dL_repair_18 (by decide) ?_
    refine W.widen (k := 1) (n := 6) (by omega) (by omega) ?_
    exact W.iret (v := 0) hx hb_ hr (fun t_ ht hW => ⟨⟨_, (u_, vp_updL fo (0 : Int32).toNatClampNeg r_.toInt64), rfl, ⟨r_, hw, fun _ => u0L fo _⟩, by rw [ht]; exact hP, hD⟩, hS_.F ht⟩) hS_.2.2 dL_repair_19
abbrev rmL_costumeOf : Room := ({ frames := 8, cells := 1, slots := 6, locals := 131 } : Room)
set_option maxHeartbeats 4000000 in
set_option maxRecDepth 100000 in
theorem c_L_costumeOf (l : Launch) (hfl : l.stackTraces = false) (D : va_G) (cI cZ cJ : ClassId) (x_ ou : Nat) (a_ : Nat → Nat) (S : ST) (fo : Nat → Int64) (sz : Nat) (p_ : Int32) : Met l yL_costumeOf wsL_costumeOf rmL_costumeOf (va_Pc [.ref x_, .int p_, .ref ou] (fun U => (pW D (tyL cI cZ cJ) (wX cI cZ x_ a_ S ++ [wO cJ ou fo]) sz) U ∧ pL U)) (va_Qi (fun (r_ : Int32) (u_ : ST × (Nat → Int64)) => ∃ v_ : Int32, k_costumeOf S p_ = (r_, v_, u_.1) ∧ (r_ = 0 → u_.2 0 = v_.toInt64)) (fun u_ t_ => atW D (wX cI cZ x_ a_ u_.1 ++ [wO cJ ou u_.2]) (va_A (wX cI cZ x_ a_ S ++ [wO cJ ou fo]) sz) t_) (va_A (wX cI cZ x_ a_ S ++ [wO cJ ou fo]) sz)) 1 6 (va_A (wX cI cZ x_ a_ S ++ [wO cJ ou fo]) sz) := by
  refine va_ofWH (cc := cL_costumeOf) (maxL := 4) (ret := (some .int)) (hh := [(0, 9, 12, 13)]) (by decide) rfl ?_
  intro pr env s_ mid args below meth cod s₁ Bd hml hv
  obtain ⟨rfl, ⟨hsz, hP, hK_, hD0⟩, hG0, hN_⟩ := hv
  have hG : xG (fun q_ => s_.heap.size ≤ q_) s_ s_.heap := hG0
  have hx := Bd.exec
  have hb_ := Bd.bytes
  have hr := Bd.returns
  have hts := atoms_spec (ws := wsL_costumeOf) Bd.pre
  have hown : s_.vm.findClass RL = some mid.cls := findClass_of_methodNamed Bd.named
  have hlocks := Bd.notSynchronized
  have htab : cod.exceptionTable.toList = tableOf [(0, 9, 12, 13)] := vx_table (x := objectInit) Bd (hts _ List.mem_cons_self)
  subst hsz
  have hD := hD0.self (sz := s_.heap.size)
  generalize hAe : va_A (wX cI cZ x_ a_ S ++ [wO cJ ou fo]) s_.heap.size = A at hD ⊢
  have hA : ∀ q_ : Nat, s_.heap.size ≤ q_ → A q_ := fun q_ h_ => by rw [← hAe]; exact Or.inr h_
  have hS_ : va_S A s_.heap s_.heap [] := va_S.rf
  have hP : va_P D vwCl (wX cI cZ x_ a_ S ++ [wO cJ ou fo]) s_.heap := hP
  have hl := lv_entry ([.ref x_, .int p_, .ref ou]) (n := 4) (Nat.le_of_ble_eq_true rfl)
  rw [lg_entry_eq]
  generalize (lg_sl ([.ref x_, .int p_, .ref ou]) ++ List.replicate (4 - (lg_sl ([.ref x_, .int p_, .ref ou])).length) Slot.unset).toArray = ls at hl ⊢
  have hl : lv_has ls 4 [(0, .ref x_), (1, .int p_), (2, .ref ou)] := hl
  refine lv_aload_n hx hb_ dL_costumeOf_0 rfl (lv_at hl 2 rfl) ?_
  refine lv_iconst (v := 0) hx hb_ dL_costumeOf_1 (by decide) ?_
  refine lv_aload_n hx hb_ dL_costumeOf_2 rfl (lv_at hl 0 rfl) ?_
  refine lv_iload_n hx hb_ dL_costumeOf_3 rfl (lv_at hl 1 rfl) ?_
  have hPc := hP.sub (ws' := wX cI cZ x_ a_ S) [0, 1, 2, 3, 4, 5, 6, 7, 8, 9, 10, 11, 12, 13] rfl
  have hKc := hK_.sub (tys' := tyX cI cZ) [0, 1] rfl
  refine vy_csi (vy_runV (As := [.int p_]) (rest := [.int 0, .ref ou]) ⟨hx, hb_, hml, hown, hts⟩ (c_X0_costumeOf l hfl D cI cZ x_ a_ S p_ ) (cwV 1 hts gL_costumeOf_X0_costumeOf rfl rfl rfl (by decide +kernel) ⟨Nat.le_of_ble_eq_true rfl, Nat.le_of_ble_eq_true rfl⟩) (pT_V (pR_V (ci := 0) hPc hKc rfl rfl) hG (fun _ h_ => h_)) rfl rfl hl.1 rfl (lv_room (Nat.le_of_ble_eq_true rfl)) dL_costumeOf_4 ⟨Nat.le_of_ble_eq_true rfl, Nat.le_of_ble_eq_true rfl⟩) (fun E ce q9_ H1 hPE_ hz9 hk9 hc9 hv9 hcl9 => ?_) (fun r_ hw => ?_)
  · have hP1 : va_P D vwCl (wX cI cZ x_ a_ S ++ [wO cJ ou fo]) H1 := hP.grown hk9
    have hS_ : va_S A s_.heap H1 [] := ⟨hz9, fun q_ h_ _ => hk9 q_ h_, fun q_ h_ => by cases h_⟩
    obtain ⟨rfl, hk⟩ := hPE_
    refine vx_catch hown [] ⟨0, 9, 12, 13⟩ [] (by rw [htab]; rfl) (fun z_ hz => absurd hz List.not_mem_nil) rfl (by decide) (hts (.classLink RL 13 xIO) (by decide +kernel)) (va_Nw.use rfl (hG.2.2.1 _ (List.mem_of_getElem? (i := 3) rfl))) hc9 hv9 hcl9 ?_
    refine lv_astore_n (lv' := [(3, .ref q9_), (0, .ref x_), (1, .int p_), (2, .ref ou)]) hx hb_ dL_costumeOf_12 rfl hl (by decide) rfl (fun ls hl => ?_)
    refine lv_iconst (v := 1) hx hb_ dL_costumeOf_13 (by decide) ?_
    refine W.widen (k := 1) (n := 6) (by omega) (by omega) ?_
    exact W.iret (v := 1) hx hb_ hr (fun t_ ht hW => ⟨⟨_, (S, fo), rfl, ⟨0, hk, fun h_ => absurd h_ (by decide)⟩, by rw [ht]; exact hP1, hD⟩, hS_.F ht⟩) hS_.2.2 dL_costumeOf_14
  · skip
    refine lv_i2l (v := r_.toInt64) hx hb_ dL_costumeOf_7 rfl ?_
    refine va_last (f := fo) (n := 1) hx hb_ hK_ hP hD hS_ 14 2 rfl rfl vin01 dL_costumeOf_8 (fun H locs hP hD hS_ => ?_)
    have hP : va_P D vwCl (wX cI cZ x_ a_ S ++ [wO cJ ou (vp_updL fo (0 : Int32).toNatClampNeg r_.toInt64)]) H := hP
    have hD : va_D A (wX cI cZ x_ a_ S ++ [wO cJ ou (vp_updL fo (0 : Int32).toNatClampNeg r_.toInt64)]) := hD
    refine lv_goto (tgt := 15) hx hb_ dL_costumeOf_9 (by decide) ?_
    refine lv_iconst (v := 0) hx hb_ dL_costumeOf_15 (by decide) ?_
    refine W.widen (k := 1) (n := 6) (by omega) (by omega) ?_
    exact W.iret (v := 0) hx hb_ hr (fun t_ ht hW => ⟨⟨_, (S, vp_updL fo (0 : Int32).toNatClampNeg r_.toInt64), rfl, ⟨r_, hw, fun _ => u0L fo _⟩, by rw [ht]; exact hP, hD⟩, hS_.F ht⟩) hS_.2.2 dL_costumeOf_16
abbrev rmL_wear : Room := ({ frames := 8, cells := 1, slots := 6, locals := 131 } : Room)
set_option maxHeartbeats 4000000 in
set_option maxRecDepth 100000 in
theorem c_L_wear (l : Launch) (hfl : l.stackTraces = false) (D : va_G) (cI cZ cJ : ClassId) (x_ ou : Nat) (a_ : Nat → Nat) (S : ST) (fo : Nat → Int64) (sz : Nat) (c_ : Int32) : Met l yL_wear wsL_wear rmL_wear (va_Pc [.ref x_, .int c_, .ref ou] (fun U => (pW D (tyL cI cZ cJ) (wX cI cZ x_ a_ S ++ [wO cJ ou fo]) sz) U ∧ pL U)) (va_Qi (fun (r_ : Int32) (u_ : ST × (Nat → Int64)) => ∃ v_ : Int32, k_wear S c_ = (r_, v_, u_.1) ∧ (r_ = 0 → u_.2 0 = v_.toInt64)) (fun u_ t_ => atW D (wX cI cZ x_ a_ u_.1 ++ [wO cJ ou u_.2]) (va_A (wX cI cZ x_ a_ S ++ [wO cJ ou fo]) sz) t_) (va_A (wX cI cZ x_ a_ S ++ [wO cJ ou fo]) sz)) 1 6 (va_A (wX cI cZ x_ a_ S ++ [wO cJ ou fo]) sz) := by
  refine va_ofWH (cc := cL_wear) (maxL := 4) (ret := (some .int)) (hh := [(0, 9, 12, 13)]) (by decide) rfl ?_
  intro pr env s_ mid args below meth cod s₁ Bd hml hv
  obtain ⟨rfl, ⟨hsz, hP, hK_, hD0⟩, hG0, hN_⟩ := hv
  have hG : xG (fun q_ => s_.heap.size ≤ q_) s_ s_.heap := hG0
  have hx := Bd.exec
  have hb_ := Bd.bytes
  have hr := Bd.returns
  have hts := atoms_spec (ws := wsL_wear) Bd.pre
  have hown : s_.vm.findClass RL = some mid.cls := findClass_of_methodNamed Bd.named
  have hlocks := Bd.notSynchronized
  have htab : cod.exceptionTable.toList = tableOf [(0, 9, 12, 13)] := vx_table (x := objectInit) Bd (hts _ List.mem_cons_self)
  subst hsz
  have hD := hD0.self (sz := s_.heap.size)
  generalize hAe : va_A (wX cI cZ x_ a_ S ++ [wO cJ ou fo]) s_.heap.size = A at hD ⊢
  have hA : ∀ q_ : Nat, s_.heap.size ≤ q_ → A q_ := fun q_ h_ => by rw [← hAe]; exact Or.inr h_
  have hS_ : va_S A s_.heap s_.heap [] := va_S.rf
  have hP : va_P D vwCl (wX cI cZ x_ a_ S ++ [wO cJ ou fo]) s_.heap := hP
  have hl := lv_entry ([.ref x_, .int c_, .ref ou]) (n := 4) (Nat.le_of_ble_eq_true rfl)
  rw [lg_entry_eq]
  generalize (lg_sl ([.ref x_, .int c_, .ref ou]) ++ List.replicate (4 - (lg_sl ([.ref x_, .int c_, .ref ou])).length) Slot.unset).toArray = ls at hl ⊢
  have hl : lv_has ls 4 [(0, .ref x_), (1, .int c_), (2, .ref ou)] := hl
  refine lv_aload_n hx hb_ dL_wear_0 rfl (lv_at hl 2 rfl) ?_
  refine lv_iconst (v := 0) hx hb_ dL_wear_1 (by decide) ?_
  refine lv_aload_n hx hb_ dL_wear_2 rfl (lv_at hl 0 rfl) ?_
  refine lv_iload_n hx hb_ dL_wear_3 rfl (lv_at hl 1 rfl) ?_
  have hPc := hP.sub (ws' := wX cI cZ x_ a_ S) [0, 1, 2, 3, 4, 5, 6, 7, 8, 9, 10, 11, 12, 13] rfl
  have hKc := hK_.sub (tys' := tyX cI cZ) [0, 1] rfl
  refine vy_csi (vy_runV (As := [.int c_]) (rest := [.int 0, .ref ou]) ⟨hx, hb_, hml, hown, hts⟩ (c_X0_wear l hfl D cI cZ x_ a_ S c_ ) (cwV 1 hts gL_wear_X0_wear rfl rfl rfl (by decide +kernel) ⟨Nat.le_of_ble_eq_true rfl, Nat.le_of_ble_eq_true rfl⟩) (pT_V (pR_V (ci := 0) hPc hKc rfl rfl) hG (fun _ h_ => h_)) rfl rfl hl.1 rfl (lv_room (Nat.le_of_ble_eq_true rfl)) dL_wear_4 ⟨Nat.le_of_ble_eq_true rfl, Nat.le_of_ble_eq_true rfl⟩) (fun E ce q9_ H1 hPE_ hz9 hk9 hc9 hv9 hcl9 => ?_) (fun r_ hw => ?_)
  · have hP1 : va_P D vwCl (wX cI cZ x_ a_ S ++ [wO cJ ou fo]) H1 := hP.grown hk9
    have hS_ : va_S A s_.heap H1 [] := ⟨hz9, fun q_ h_ _ => hk9 q_ h_, fun q_ h_ => by cases h_⟩
    obtain ⟨rfl, hk⟩ := hPE_
    refine vx_catch hown [] ⟨0, 9, 12, 13⟩ [] (by rw [htab]; rfl) (fun z_ hz => absurd hz List.not_mem_nil) rfl (by decide) (hts (.classLink RL 13 xIO) (by decide +kernel)) (va_Nw.use rfl (hG.2.2.1 _ (List.mem_of_getElem? (i := 3) rfl))) hc9 hv9 hcl9 ?_
    refine lv_astore_n (lv' := [(3, .ref q9_), (0, .ref x_), (1, .int c_), (2, .ref ou)]) hx hb_ dL_wear_12 rfl hl (by decide) rfl (fun ls hl => ?_)
    refine lv_iconst (v := 1) hx hb_ dL_wear_13 (by decide) ?_
    refine W.widen (k := 1) (n := 6) (by omega) (by omega) ?_
    exact W.iret (v := 1) hx hb_ hr (fun t_ ht hW => ⟨⟨_, (S, fo), rfl, ⟨0, hk, fun h_ => absurd h_ (by decide)⟩, by rw [ht]; exact hP1, hD⟩, hS_.F ht⟩) hS_.2.2 dL_wear_14
  · skip
    refine lv_i2l (v := r_.toInt64) hx hb_ dL_wear_7 rfl ?_
    refine va_last (f := fo) (n := 1) hx hb_ hK_ hP hD hS_ 14 2 rfl rfl vin01 dL_wear_8 (fun H locs hP hD hS_ => ?_)
    have hP : va_P D vwCl (wX cI cZ x_ a_ S ++ [wO cJ ou (vp_updL fo (0 : Int32).toNatClampNeg r_.toInt64)]) H := hP
    have hD : va_D A (wX cI cZ x_ a_ S ++ [wO cJ ou (vp_updL fo (0 : Int32).toNatClampNeg r_.toInt64)]) := hD
    refine lv_goto (tgt := 15) hx hb_ dL_wear_9 (by decide) ?_
    refine lv_iconst (v := 0) hx hb_ dL_wear_15 (by decide) ?_
    refine W.widen (k := 1) (n := 6) (by omega) (by omega) ?_
    exact W.iret (v := 0) hx hb_ hr (fun t_ ht hW => ⟨⟨_, (S, vp_updL fo (0 : Int32).toNatClampNeg r_.toInt64), rfl, ⟨r_, hw, fun _ => u0L fo _⟩, by rw [ht]; exact hP, hD⟩, hS_.F ht⟩) hS_.2.2 dL_wear_16
abbrev rmL_addCue : Room := ({ frames := 9, cells := 1, slots := 6, locals := 156 } : Room)
set_option maxHeartbeats 4000000 in
set_option maxRecDepth 100000 in
theorem c_L_addCue (l : Launch) (hfl : l.stackTraces = false) (D : va_G) (cI cZ cJ : ClassId) (x_ ou : Nat) (a_ : Nat → Nat) (S : ST) (fo : Nat → Int64) (sz : Nat) (k_ : Int32) (p_ : Int32) (o_ : Int32) (w_ : Int32) (B : Nat) (hI_ : Inv B S) : Met l yL_addCue wsL_addCue rmL_addCue (va_Pc [.ref x_, .int k_, .int p_, .int o_, .int w_, .ref ou] (fun U => (pW D (tyL cI cZ cJ) (wX cI cZ x_ a_ S ++ [wO cJ ou fo]) sz) U ∧ pL U)) (va_Qi (fun (r_ : Int32) (u_ : ST × (Nat → Int64)) => ∃ v_ : Int32, k_addCue S k_ p_ o_ w_ = (r_, v_, u_.1) ∧ (r_ = 0 → u_.2 0 = v_.toInt64)) (fun u_ t_ => atW D (wX cI cZ x_ a_ u_.1 ++ [wO cJ ou u_.2]) (va_A (wX cI cZ x_ a_ S ++ [wO cJ ou fo]) sz) t_) (va_A (wX cI cZ x_ a_ S ++ [wO cJ ou fo]) sz)) 1 6 (va_A (wX cI cZ x_ a_ S ++ [wO cJ ou fo]) sz) := by
  refine va_ofWH (cc := cL_addCue) (maxL := 7) (ret := (some .int)) (hh := [(0, 14, 17, 15), (0, 14, 21, 13), (0, 14, 25, 17)]) (by decide) rfl ?_
  intro pr env s_ mid args below meth cod s₁ Bd hml hv
  obtain ⟨rfl, ⟨hsz, hP, hK_, hD0⟩, hG0, hN_⟩ := hv
  have hG : xG (fun q_ => s_.heap.size ≤ q_) s_ s_.heap := hG0
  have hx := Bd.exec
  have hb_ := Bd.bytes
  have hr := Bd.returns
  have hts := atoms_spec (ws := wsL_addCue) Bd.pre
  have hown : s_.vm.findClass RL = some mid.cls := findClass_of_methodNamed Bd.named
  have hlocks := Bd.notSynchronized
  have htab : cod.exceptionTable.toList = tableOf [(0, 14, 17, 15), (0, 14, 21, 13), (0, 14, 25, 17)] := vx_table (x := objectInit) Bd (hts _ List.mem_cons_self)
  subst hsz
  have hD := hD0.self (sz := s_.heap.size)
  generalize hAe : va_A (wX cI cZ x_ a_ S ++ [wO cJ ou fo]) s_.heap.size = A at hD ⊢
  have hA : ∀ q_ : Nat, s_.heap.size ≤ q_ → A q_ := fun q_ h_ => by rw [← hAe]; exact Or.inr h_
  have hS_ : va_S A s_.heap s_.heap [] := va_S.rf
  have hP : va_P D vwCl (wX cI cZ x_ a_ S ++ [wO cJ ou fo]) s_.heap := hP
  have hl := lv_entry ([.ref x_, .int k_, .int p_, .int o_, .int w_, .ref ou]) (n := 7) (Nat.le_of_ble_eq_true rfl)
  rw [lg_entry_eq]
  generalize (lg_sl ([.ref x_, .int k_, .int p_, .int o_, .int w_, .ref ou]) ++ List.replicate (7 - (lg_sl ([.ref x_, .int k_, .int p_, .int o_, .int w_, .ref ou])).length) Slot.unset).toArray = ls at hl ⊢
  have hl : lv_has ls 7 [(0, .ref x_), (1, .int k_), (2, .int p_), (3, .int o_), (4, .int w_), (5, .ref ou)] := hl
  refine lv_aload hx hb_ dL_addCue_0 (lv_at hl 5 rfl) ?_
  refine lv_iconst (v := 0) hx hb_ dL_addCue_2 (by decide) ?_
  refine lv_aload_n hx hb_ dL_addCue_3 rfl (lv_at hl 0 rfl) ?_
  refine lv_iload_n hx hb_ dL_addCue_4 rfl (lv_at hl 1 rfl) ?_
  refine lv_iload_n hx hb_ dL_addCue_5 rfl (lv_at hl 2 rfl) ?_
  refine lv_iload_n hx hb_ dL_addCue_6 rfl (lv_at hl 3 rfl) ?_
  refine lv_iload hx hb_ dL_addCue_7 (lv_at hl 4 rfl) ?_
  have hPc := hP.sub (ws' := wX cI cZ x_ a_ S) [0, 1, 2, 3, 4, 5, 6, 7, 8, 9, 10, 11, 12, 13] rfl
  have hKc := hK_.sub (tys' := tyX cI cZ) [0, 1] rfl
  have hDc := hD.sub (ws' := wX cI cZ x_ a_ S) [0, 1, 2, 3, 4, 5, 6, 7, 8, 9, 10, 11, 12, 13] (by decide) rfl
  have hFc := va_free (wc := wX cI cZ x_ a_ S) hD hS_ hA [0, 1, 2, 3, 4, 5, 6, 7, 8, 9, 10, 11, 12, 13] rfl
  refine vy_calli (vy_runV (As := [.int k_, .int p_, .int o_, .int w_]) (rest := [.int 0, .ref ou]) ⟨hx, hb_, hml, hown, hts⟩ (c_X0_addCue l hfl D cI cZ x_ a_ S s_.heap.size k_ p_ o_ w_ B hI_) (cwV 4 hts gL_addCue_X0_addCue rfl rfl rfl (by decide +kernel) ⟨Nat.le_of_ble_eq_true rfl, Nat.le_of_ble_eq_true rfl⟩) (pT_V (pW_V (ci := 0) hPc hKc hDc rfl rfl) hG (fun _ h_ => h_)) rfl rfl hl.1 rfl (lv_room (Nat.le_of_ble_eq_true rfl)) dL_addCue_9 ⟨Nat.le_of_ble_eq_true rfl, Nat.le_of_ble_eq_true rfl⟩) hS_ (fun q_ _ h_ => hFc q_ h_) hFc (fun E ce q9_ H1 locs hPE_ hz9 hk9 hS_ hc9 hv9 hcl9 => ?_) (fun r_ u_ t9 H1 locs ht9 hvm9 hw hB9 hz9 hk9 hS_ => ?_)
  · have hP1 : va_P D vwCl (wX cI cZ x_ a_ S ++ [wO cJ ou fo]) H1 := hP.grown hk9
    rcases hPE_ with ⟨rfl, hk⟩ | ⟨rfl, hk⟩ | ⟨rfl, hk⟩
    · skip
      refine vx_catch hown [] ⟨0, 14, 17, 15⟩ [⟨0, 14, 21, 13⟩, ⟨0, 14, 25, 17⟩] (by rw [htab]; rfl) (fun z_ hz => absurd hz List.not_mem_nil) rfl (by decide) (hts (.classLink RL 15 xIA) (by decide +kernel)) (va_Nw.use rfl (hG.2.2.1 _ (List.mem_of_getElem? (i := 4) rfl))) hc9 hv9 hcl9 ?_
      refine lv_astore (lv' := [(6, .ref q9_), (0, .ref x_), (1, .int k_), (2, .int p_), (3, .int o_), (4, .int w_), (5, .ref ou)]) hx hb_ dL_addCue_17 hl (by decide) rfl (fun ls hl => ?_)
      refine lv_iconst (v := 1) hx hb_ dL_addCue_19 (by decide) ?_
      refine W.widen (k := 1) (n := 6) (by omega) (by omega) ?_
      exact W.iret (v := 1) hx hb_ hr (fun t_ ht hW => ⟨⟨_, (S, fo), rfl, ⟨0, hk, fun h_ => absurd h_ (by decide)⟩, by rw [ht]; exact hP1, hD⟩, hS_.F ht⟩) hS_.2.2 dL_addCue_20
    · skip
      refine vx_catch hown [⟨0, 14, 17, 15⟩] ⟨0, 14, 21, 13⟩ [⟨0, 14, 25, 17⟩] (by rw [htab]; rfl) (fun z_ hz => by rw [List.mem_singleton.mp hz]; exact Or.inr ⟨by decide, xIA, hts (.classLink RL 15 xIA) (by decide +kernel), hN_.2.2.2⟩) rfl (by decide) (hts (.classLink RL 13 xIO) (by decide +kernel)) (va_Nw.use rfl (hG.2.2.1 _ (List.mem_of_getElem? (i := 3) rfl))) hc9 hv9 hcl9 ?_
      refine lv_astore (lv' := [(6, .ref q9_), (0, .ref x_), (1, .int k_), (2, .int p_), (3, .int o_), (4, .int w_), (5, .ref ou)]) hx hb_ dL_addCue_21 hl (by decide) rfl (fun ls hl => ?_)
      refine lv_iconst (v := 2) hx hb_ dL_addCue_23 (by decide) ?_
      refine W.widen (k := 1) (n := 6) (by omega) (by omega) ?_
      exact W.iret (v := 2) hx hb_ hr (fun t_ ht hW => ⟨⟨_, (S, fo), rfl, ⟨0, hk, fun h_ => absurd h_ (by decide)⟩, by rw [ht]; exact hP1, hD⟩, hS_.F ht⟩) hS_.2.2 dL_addCue_24
    · skip
      refine vx_catch hown [⟨0, 14, 17, 15⟩, ⟨0, 14, 21, 13⟩] ⟨0, 14, 25, 17⟩ [] (by rw [htab]; rfl) (fun z_ hz => by rcases List.mem_cons.mp hz with rfl | hz; exact Or.inr ⟨by decide, xIA, hts (.classLink RL 15 xIA) (by decide +kernel), hN_.2.2.1⟩; rw [List.mem_singleton.mp hz]; exact Or.inr ⟨by decide, xIO, hts (.classLink RL 13 xIO) (by decide +kernel), hN_.2.1⟩) rfl (by decide) (hts (.classLink RL 17 xIS) (by decide +kernel)) (va_Nw.use rfl (hG.2.2.1 _ (List.mem_of_getElem? (i := 5) rfl))) hc9 hv9 hcl9 ?_
      refine lv_astore (lv' := [(6, .ref q9_), (0, .ref x_), (1, .int k_), (2, .int p_), (3, .int o_), (4, .int w_), (5, .ref ou)]) hx hb_ dL_addCue_25 hl (by decide) rfl (fun ls hl => ?_)
      refine lv_iconst (v := 3) hx hb_ dL_addCue_27 (by decide) ?_
      refine W.widen (k := 1) (n := 6) (by omega) (by omega) ?_
      exact W.iret (v := 3) hx hb_ hr (fun t_ ht hW => ⟨⟨_, (S, fo), rfl, ⟨0, hk, fun h_ => absurd h_ (by decide)⟩, by rw [ht]; exact hP1, hD⟩, hS_.F ht⟩) hS_.2.2 dL_addCue_28
  · have hJ9 := va_join (wr := [wO cJ ou fo]) hP hD [0, 1, 2, 3, 4, 5, 6, 7, 8, 9, 10, 11, 12, 13] [14] rfl rfl (by decide) (by decide) hk9 hFc (atW_P hB9 ht9) hB9.2
    have hP : va_P D vwCl (wX cI cZ x_ a_ u_ ++ [wO cJ ou fo]) H1 := hJ9.1.sub [1, 2, 3, 4, 5, 6, 7, 8, 9, 10, 11, 12, 13, 14, 0] rfl
    have hD : va_D A (wX cI cZ x_ a_ u_ ++ [wO cJ ou fo]) := hJ9.2.sub [1, 2, 3, 4, 5, 6, 7, 8, 9, 10, 11, 12, 13, 14, 0] (by decide) rfl
    refine lv_i2l (v := r_.toInt64) hx hb_ dL_addCue_12 rfl ?_
    refine va_last (f := fo) (n := 1) hx hb_ hK_ hP hD hS_ 14 2 rfl rfl vin01 dL_addCue_13 (fun H locs hP hD hS_ => ?_)
    have hP : va_P D vwCl (wX cI cZ x_ a_ u_ ++ [wO cJ ou (vp_updL fo (0 : Int32).toNatClampNeg r_.toInt64)]) H := hP
    have hD : va_D A (wX cI cZ x_ a_ u_ ++ [wO cJ ou (vp_updL fo (0 : Int32).toNatClampNeg r_.toInt64)]) := hD
    refine lv_goto (tgt := 29) hx hb_ dL_addCue_14 (by decide) ?_
    refine lv_iconst (v := 0) hx hb_ dL_addCue_29 (by decide) ?_
    refine W.widen (k := 1) (n := 6) (by omega) (by omega) ?_
    exact W.iret (v := 0) hx hb_ hr (fun t_ ht hW => ⟨⟨_, (u_, vp_updL fo (0 : Int32).toNatClampNeg r_.toInt64), rfl, ⟨r_, hw, fun _ => u0L fo _⟩, by rw [ht]; exact hP, hD⟩, hS_.F ht⟩) hS_.2.2 dL_addCue_30
abbrev rmL_canCall : Room := ({ frames := 8, cells := 1, slots := 6, locals := 132 } : Room)
set_option maxHeartbeats 4000000 in
set_option maxRecDepth 100000 in
theorem c_L_canCall (l : Launch) (hfl : l.stackTraces = false) (D : va_G) (cI cZ cJ : ClassId) (x_ ou : Nat) (a_ : Nat → Nat) (S : ST) (fo : Nat → Int64) (sz : Nat) (q_ : Int32) (B : Nat) (hI_ : Inv B S) : Met l yL_canCall wsL_canCall rmL_canCall (va_Pc [.ref x_, .int q_, .ref ou] (fun U => (pW D (tyL cI cZ cJ) (wX cI cZ x_ a_ S ++ [wO cJ ou fo]) sz) U ∧ pL U)) (va_Qi (fun (r_ : Int32) (u_ : ST × (Nat → Int64)) => ∃ v_ : Int32, k_canCall S q_ = (r_, v_, u_.1) ∧ (r_ = 0 → u_.2 0 = if v_ = 0 then 0 else 1)) (fun u_ t_ => atW D (wX cI cZ x_ a_ u_.1 ++ [wO cJ ou u_.2]) (va_A (wX cI cZ x_ a_ S ++ [wO cJ ou fo]) sz) t_) (va_A (wX cI cZ x_ a_ S ++ [wO cJ ou fo]) sz)) 1 6 (va_A (wX cI cZ x_ a_ S ++ [wO cJ ou fo]) sz) := by
  refine va_ofWH (cc := cL_canCall) (maxL := 4) (ret := (some .int)) (hh := [(0, 16, 19, 13)]) (by decide) rfl ?_
  intro pr env s_ mid args below meth cod s₁ Bd hml hv
  obtain ⟨rfl, ⟨hsz, hP, hK_, hD0⟩, hG0, hN_⟩ := hv
  have hG : xG (fun q_ => s_.heap.size ≤ q_) s_ s_.heap := hG0
  have hx := Bd.exec
  have hb_ := Bd.bytes
  have hr := Bd.returns
  have hts := atoms_spec (ws := wsL_canCall) Bd.pre
  have hown : s_.vm.findClass RL = some mid.cls := findClass_of_methodNamed Bd.named
  have hlocks := Bd.notSynchronized
  have htab : cod.exceptionTable.toList = tableOf [(0, 16, 19, 13)] := vx_table (x := objectInit) Bd (hts _ List.mem_cons_self)
  subst hsz
  have hD := hD0.self (sz := s_.heap.size)
  generalize hAe : va_A (wX cI cZ x_ a_ S ++ [wO cJ ou fo]) s_.heap.size = A at hD ⊢
  have hA : ∀ q_ : Nat, s_.heap.size ≤ q_ → A q_ := fun q_ h_ => by rw [← hAe]; exact Or.inr h_
  have hS_ : va_S A s_.heap s_.heap [] := va_S.rf
  have hP : va_P D vwCl (wX cI cZ x_ a_ S ++ [wO cJ ou fo]) s_.heap := hP
  have hl := lv_entry ([.ref x_, .int q_, .ref ou]) (n := 4) (Nat.le_of_ble_eq_true rfl)
  rw [lg_entry_eq]
  generalize (lg_sl ([.ref x_, .int q_, .ref ou]) ++ List.replicate (4 - (lg_sl ([.ref x_, .int q_, .ref ou])).length) Slot.unset).toArray = ls at hl ⊢
  have hl : lv_has ls 4 [(0, .ref x_), (1, .int q_), (2, .ref ou)] := hl
  refine lv_aload_n hx hb_ dL_canCall_0 rfl (lv_at hl 2 rfl) ?_
  refine lv_iconst (v := 0) hx hb_ dL_canCall_1 (by decide) ?_
  refine lv_aload_n hx hb_ dL_canCall_2 rfl (lv_at hl 0 rfl) ?_
  refine lv_iload_n hx hb_ dL_canCall_3 rfl (lv_at hl 1 rfl) ?_
  have hPc := hP.sub (ws' := wX cI cZ x_ a_ S) [0, 1, 2, 3, 4, 5, 6, 7, 8, 9, 10, 11, 12, 13] rfl
  have hKc := hK_.sub (tys' := tyX cI cZ) [0, 1] rfl
  refine vy_csi (vy_runV (As := [.int q_]) (rest := [.int 0, .ref ou]) ⟨hx, hb_, hml, hown, hts⟩ (c_X0_canCall l hfl D cI cZ x_ a_ S q_ B hI_) (cwV 1 hts gL_canCall_X0_canCall rfl rfl rfl (by decide +kernel) ⟨Nat.le_of_ble_eq_true rfl, Nat.le_of_ble_eq_true rfl⟩) (pT_V (pR_V (ci := 0) hPc hKc rfl rfl) hG (fun _ h_ => h_)) rfl rfl hl.1 rfl (lv_room (Nat.le_of_ble_eq_true rfl)) dL_canCall_4 ⟨Nat.le_of_ble_eq_true rfl, Nat.le_of_ble_eq_true rfl⟩) (fun E ce q9_ H1 hPE_ hz9 hk9 hc9 hv9 hcl9 => ?_) (fun r_ hw => ?_)
  · have hP1 : va_P D vwCl (wX cI cZ x_ a_ S ++ [wO cJ ou fo]) H1 := hP.grown hk9
    have hS_ : va_S A s_.heap H1 [] := ⟨hz9, fun q_ h_ _ => hk9 q_ h_, fun q_ h_ => by cases h_⟩
    obtain ⟨rfl, hk⟩ := hPE_
    refine vx_catch hown [] ⟨0, 16, 19, 13⟩ [] (by rw [htab]; rfl) (fun z_ hz => absurd hz List.not_mem_nil) rfl (by decide) (hts (.classLink RL 13 xIO) (by decide +kernel)) (va_Nw.use rfl (hG.2.2.1 _ (List.mem_of_getElem? (i := 3) rfl))) hc9 hv9 hcl9 ?_
    refine lv_astore_n (lv' := [(3, .ref q9_), (0, .ref x_), (1, .int q_), (2, .ref ou)]) hx hb_ dL_canCall_19 rfl hl (by decide) rfl (fun ls hl => ?_)
    refine lv_iconst (v := 1) hx hb_ dL_canCall_20 (by decide) ?_
    refine W.widen (k := 1) (n := 6) (by omega) (by omega) ?_
    exact W.iret (v := 1) hx hb_ hr (fun t_ ht hW => ⟨⟨_, (S, fo), rfl, ⟨0, hk, fun h_ => absurd h_ (by decide)⟩, by rw [ht]; exact hP1, hD⟩, hS_.F ht⟩) hS_.2.2 dL_canCall_21
  · skip
    refine lv_if_eq (tgt := 14) hx hb_ dL_canCall_7 (by decide) (fun c_7 => ?_) (fun c_7 => ?_)
    · refine lv_lconst (v := 0) hx hb_ dL_canCall_14 (by decide) ?_
      refine va_last (f := fo) (n := 1) hx hb_ hK_ hP hD hS_ 14 2 rfl rfl vin01 dL_canCall_15 (fun H locs hP hD hS_ => ?_)
      have hP : va_P D vwCl (wX cI cZ x_ a_ S ++ [wO cJ ou (vp_updL fo (0 : Int32).toNatClampNeg 0)]) H := hP
      have hD : va_D A (wX cI cZ x_ a_ S ++ [wO cJ ou (vp_updL fo (0 : Int32).toNatClampNeg 0)]) := hD
      refine lv_goto (tgt := 22) hx hb_ dL_canCall_16 (by decide) ?_
      refine lv_iconst (v := 0) hx hb_ dL_canCall_22 (by decide) ?_
      refine W.widen (k := 1) (n := 6) (by omega) (by omega) ?_
      exact W.iret (v := 0) hx hb_ hr (fun t_ ht hW => ⟨⟨_, (S, vp_updL fo (0 : Int32).toNatClampNeg 0), rfl, ⟨r_, hw, fun _ => by rw [if_pos c_7]; exact u0L fo _⟩, by rw [ht]; exact hP, hD⟩, hS_.F ht⟩) hS_.2.2 dL_canCall_23
    · refine lv_lconst (v := 1) hx hb_ dL_canCall_10 (by decide) ?_
      refine lv_goto (tgt := 15) hx hb_ dL_canCall_11 (by decide) ?_
      refine va_last (f := fo) (n := 1) hx hb_ hK_ hP hD hS_ 14 2 rfl rfl vin01 dL_canCall_15 (fun H locs hP hD hS_ => ?_)
      have hP : va_P D vwCl (wX cI cZ x_ a_ S ++ [wO cJ ou (vp_updL fo (0 : Int32).toNatClampNeg 1)]) H := hP
      have hD : va_D A (wX cI cZ x_ a_ S ++ [wO cJ ou (vp_updL fo (0 : Int32).toNatClampNeg 1)]) := hD
      refine lv_goto (tgt := 22) hx hb_ dL_canCall_16 (by decide) ?_
      refine lv_iconst (v := 0) hx hb_ dL_canCall_22 (by decide) ?_
      refine W.widen (k := 1) (n := 6) (by omega) (by omega) ?_
      exact W.iret (v := 0) hx hb_ hr (fun t_ ht hW => ⟨⟨_, (S, vp_updL fo (0 : Int32).toNatClampNeg 1), rfl, ⟨r_, hw, fun _ => by rw [if_neg c_7]; exact u0L fo _⟩, by rw [ht]; exact hP, hD⟩, hS_.F ht⟩) hS_.2.2 dL_canCall_23
abbrev rmL_call : Room := ({ frames := 8, cells := 1, slots := 6, locals := 132 } : Room)
set_option maxHeartbeats 4000000 in
set_option maxRecDepth 100000 in
theorem c_L_call (l : Launch) (hfl : l.stackTraces = false) (D : va_G) (cI cZ cJ : ClassId) (x_ ou : Nat) (a_ : Nat → Nat) (S : ST) (fo : Nat → Int64) (sz : Nat) (q_ : Int32) (B : Nat) (hI_ : Inv B S) : Met l yL_call wsL_call rmL_call (va_Pc [.ref x_, .int q_, .ref ou] (fun U => (pW D (tyL cI cZ cJ) (wX cI cZ x_ a_ S ++ [wO cJ ou fo]) sz) U ∧ pL U)) (va_Qi (fun (r_ : Int32) (u_ : ST × (Nat → Int64)) => ∃ v_ : Int32, k_call S q_ = (r_, v_, u_.1) ∧ (r_ = 0 → u_.2 0 = v_.toInt64)) (fun u_ t_ => atW D (wX cI cZ x_ a_ u_.1 ++ [wO cJ ou u_.2]) (va_A (wX cI cZ x_ a_ S ++ [wO cJ ou fo]) sz) t_) (va_A (wX cI cZ x_ a_ S ++ [wO cJ ou fo]) sz)) 1 6 (va_A (wX cI cZ x_ a_ S ++ [wO cJ ou fo]) sz) := by
  refine va_ofWH (cc := cL_call) (maxL := 4) (ret := (some .int)) (hh := [(0, 9, 12, 13), (0, 9, 15, 17)]) (by decide) rfl ?_
  intro pr env s_ mid args below meth cod s₁ Bd hml hv
  obtain ⟨rfl, ⟨hsz, hP, hK_, hD0⟩, hG0, hN_⟩ := hv
  have hG : xG (fun q_ => s_.heap.size ≤ q_) s_ s_.heap := hG0
  have hx := Bd.exec
  have hb_ := Bd.bytes
  have hr := Bd.returns
  have hts := atoms_spec (ws := wsL_call) Bd.pre
  have hown : s_.vm.findClass RL = some mid.cls := findClass_of_methodNamed Bd.named
  have hlocks := Bd.notSynchronized
  have htab : cod.exceptionTable.toList = tableOf [(0, 9, 12, 13), (0, 9, 15, 17)] := vx_table (x := objectInit) Bd (hts _ List.mem_cons_self)
  subst hsz
  have hD := hD0.self (sz := s_.heap.size)
  generalize hAe : va_A (wX cI cZ x_ a_ S ++ [wO cJ ou fo]) s_.heap.size = A at hD ⊢
  have hA : ∀ q_ : Nat, s_.heap.size ≤ q_ → A q_ := fun q_ h_ => by rw [← hAe]; exact Or.inr h_
  have hS_ : va_S A s_.heap s_.heap [] := va_S.rf
  have hP : va_P D vwCl (wX cI cZ x_ a_ S ++ [wO cJ ou fo]) s_.heap := hP
  have hl := lv_entry ([.ref x_, .int q_, .ref ou]) (n := 4) (Nat.le_of_ble_eq_true rfl)
  rw [lg_entry_eq]
  generalize (lg_sl ([.ref x_, .int q_, .ref ou]) ++ List.replicate (4 - (lg_sl ([.ref x_, .int q_, .ref ou])).length) Slot.unset).toArray = ls at hl ⊢
  have hl : lv_has ls 4 [(0, .ref x_), (1, .int q_), (2, .ref ou)] := hl
  refine lv_aload_n hx hb_ dL_call_0 rfl (lv_at hl 2 rfl) ?_
  refine lv_iconst (v := 0) hx hb_ dL_call_1 (by decide) ?_
  refine lv_aload_n hx hb_ dL_call_2 rfl (lv_at hl 0 rfl) ?_
  refine lv_iload_n hx hb_ dL_call_3 rfl (lv_at hl 1 rfl) ?_
  have hPc := hP.sub (ws' := wX cI cZ x_ a_ S) [0, 1, 2, 3, 4, 5, 6, 7, 8, 9, 10, 11, 12, 13] rfl
  have hKc := hK_.sub (tys' := tyX cI cZ) [0, 1] rfl
  have hDc := hD.sub (ws' := wX cI cZ x_ a_ S) [0, 1, 2, 3, 4, 5, 6, 7, 8, 9, 10, 11, 12, 13] (by decide) rfl
  have hFc := va_free (wc := wX cI cZ x_ a_ S) hD hS_ hA [0, 1, 2, 3, 4, 5, 6, 7, 8, 9, 10, 11, 12, 13] rfl
  refine vy_calli (vy_runV (As := [.int q_]) (rest := [.int 0, .ref ou]) ⟨hx, hb_, hml, hown, hts⟩ (c_X0_call l hfl D cI cZ x_ a_ S s_.heap.size q_ B hI_) (cwV 1 hts gL_call_X0_call rfl rfl rfl (by decide +kernel) ⟨Nat.le_of_ble_eq_true rfl, Nat.le_of_ble_eq_true rfl⟩) (pT_V (pW_V (ci := 0) hPc hKc hDc rfl rfl) hG (fun _ h_ => h_)) rfl rfl hl.1 rfl (lv_room (Nat.le_of_ble_eq_true rfl)) dL_call_4 ⟨Nat.le_of_ble_eq_true rfl, Nat.le_of_ble_eq_true rfl⟩) hS_ (fun q_ _ h_ => hFc q_ h_) hFc (fun E ce q9_ H1 locs hPE_ hz9 hk9 hS_ hc9 hv9 hcl9 => ?_) (fun r_ u_ t9 H1 locs ht9 hvm9 hw hB9 hz9 hk9 hS_ => ?_)
  · have hP1 : va_P D vwCl (wX cI cZ x_ a_ S ++ [wO cJ ou fo]) H1 := hP.grown hk9
    rcases hPE_ with ⟨rfl, hk⟩ | ⟨rfl, hk⟩
    · skip
      refine vx_catch hown [] ⟨0, 9, 12, 13⟩ [⟨0, 9, 15, 17⟩] (by rw [htab]; rfl) (fun z_ hz => absurd hz List.not_mem_nil) rfl (by decide) (hts (.classLink RL 13 xIO) (by decide +kernel)) (va_Nw.use rfl (hG.2.2.1 _ (List.mem_of_getElem? (i := 3) rfl))) hc9 hv9 hcl9 ?_
      refine lv_astore_n (lv' := [(3, .ref q9_), (0, .ref x_), (1, .int q_), (2, .ref ou)]) hx hb_ dL_call_12 rfl hl (by decide) rfl (fun ls hl => ?_)
      refine lv_iconst (v := 1) hx hb_ dL_call_13 (by decide) ?_
      refine W.widen (k := 1) (n := 6) (by omega) (by omega) ?_
      exact W.iret (v := 1) hx hb_ hr (fun t_ ht hW => ⟨⟨_, (S, fo), rfl, ⟨0, hk, fun h_ => absurd h_ (by decide)⟩, by rw [ht]; exact hP1, hD⟩, hS_.F ht⟩) hS_.2.2 dL_call_14
    · skip
      refine vx_catch hown [⟨0, 9, 12, 13⟩] ⟨0, 9, 15, 17⟩ [] (by rw [htab]; rfl) (fun z_ hz => by rw [List.mem_singleton.mp hz]; exact Or.inr ⟨by decide, xIO, hts (.classLink RL 13 xIO) (by decide +kernel), hN_.2.1⟩) rfl (by decide) (hts (.classLink RL 17 xIS) (by decide +kernel)) (va_Nw.use rfl (hG.2.2.1 _ (List.mem_of_getElem? (i := 5) rfl))) hc9 hv9 hcl9 ?_
      refine lv_astore_n (lv' := [(3, .ref q9_), (0, .ref x_), (1, .int q_), (2, .ref ou)]) hx hb_ dL_call_15 rfl hl (by decide) rfl (fun ls hl => ?_)
      refine lv_iconst (v := 2) hx hb_ dL_call_16 (by decide) ?_
      refine W.widen (k := 1) (n := 6) (by omega) (by omega) ?_
      exact W.iret (v := 2) hx hb_ hr (fun t_ ht hW => ⟨⟨_, (S, fo), rfl, ⟨0, hk, fun h_ => absurd h_ (by decide)⟩, by rw [ht]; exact hP1, hD⟩, hS_.F ht⟩) hS_.2.2 dL_call_17
  · have hJ9 := va_join (wr := [wO cJ ou fo]) hP hD [0, 1, 2, 3, 4, 5, 6, 7, 8, 9, 10, 11, 12, 13] [14] rfl rfl (by decide) (by decide) hk9 hFc (atW_P hB9 ht9) hB9.2
    have hP : va_P D vwCl (wX cI cZ x_ a_ u_ ++ [wO cJ ou fo]) H1 := hJ9.1.sub [1, 2, 3, 4, 5, 6, 7, 8, 9, 10, 11, 12, 13, 14, 0] rfl
    have hD : va_D A (wX cI cZ x_ a_ u_ ++ [wO cJ ou fo]) := hJ9.2.sub [1, 2, 3, 4, 5, 6, 7, 8, 9, 10, 11, 12, 13, 14, 0] (by decide) rfl
    refine lv_i2l (v := r_.toInt64) hx hb_ dL_call_7 rfl ?_
    refine va_last (f := fo) (n := 1) hx hb_ hK_ hP hD hS_ 14 2 rfl rfl vin01 dL_call_8 (fun H locs hP hD hS_ => ?_)
    have hP : va_P D vwCl (wX cI cZ x_ a_ u_ ++ [wO cJ ou (vp_updL fo (0 : Int32).toNatClampNeg r_.toInt64)]) H := hP
    have hD : va_D A (wX cI cZ x_ a_ u_ ++ [wO cJ ou (vp_updL fo (0 : Int32).toNatClampNeg r_.toInt64)]) := hD
    refine lv_goto (tgt := 18) hx hb_ dL_call_9 (by decide) ?_
    refine lv_iconst (v := 0) hx hb_ dL_call_18 (by decide) ?_
    refine W.widen (k := 1) (n := 6) (by omega) (by omega) ?_
    exact W.iret (v := 0) hx hb_ hr (fun t_ ht hW => ⟨⟨_, (u_, vp_updL fo (0 : Int32).toNatClampNeg r_.toInt64), rfl, ⟨r_, hw, fun _ => u0L fo _⟩, by rw [ht]; exact hP, hD⟩, hS_.F ht⟩) hS_.2.2 dL_call_19
abbrev rmL_miss : Room := ({ frames := 8, cells := 1, slots := 6, locals := 134 } : Room)
set_option maxHeartbeats 4000000 in
set_option maxRecDepth 100000 in
theorem c_L_miss (l : Launch) (hfl : l.stackTraces = false) (D : va_G) (cI cZ cJ : ClassId) (x_ ou : Nat) (a_ : Nat → Nat) (S : ST) (fo : Nat → Int64) (sz : Nat) (q_ : Int32) (B : Nat) (hI_ : Inv B S) : Met l yL_miss wsL_miss rmL_miss (va_Pc [.ref x_, .int q_, .ref ou] (fun U => (pW D (tyL cI cZ cJ) (wX cI cZ x_ a_ S ++ [wO cJ ou fo]) sz) U ∧ pL U)) (va_Qi (fun (r_ : Int32) (u_ : ST × (Nat → Int64)) => ∃ v_ : Int32, k_miss S q_ = (r_, v_, u_.1) ∧ (r_ = 0 → u_.2 0 = v_.toInt64)) (fun u_ t_ => atW D (wX cI cZ x_ a_ u_.1 ++ [wO cJ ou u_.2]) (va_A (wX cI cZ x_ a_ S ++ [wO cJ ou fo]) sz) t_) (va_A (wX cI cZ x_ a_ S ++ [wO cJ ou fo]) sz)) 1 6 (va_A (wX cI cZ x_ a_ S ++ [wO cJ ou fo]) sz) := by
  refine va_ofWH (cc := cL_miss) (maxL := 4) (ret := (some .int)) (hh := [(0, 9, 12, 13), (0, 9, 15, 17)]) (by decide) rfl ?_
  intro pr env s_ mid args below meth cod s₁ Bd hml hv
  obtain ⟨rfl, ⟨hsz, hP, hK_, hD0⟩, hG0, hN_⟩ := hv
  have hG : xG (fun q_ => s_.heap.size ≤ q_) s_ s_.heap := hG0
  have hx := Bd.exec
  have hb_ := Bd.bytes
  have hr := Bd.returns
  have hts := atoms_spec (ws := wsL_miss) Bd.pre
  have hown : s_.vm.findClass RL = some mid.cls := findClass_of_methodNamed Bd.named
  have hlocks := Bd.notSynchronized
  have htab : cod.exceptionTable.toList = tableOf [(0, 9, 12, 13), (0, 9, 15, 17)] := vx_table (x := objectInit) Bd (hts _ List.mem_cons_self)
  subst hsz
  have hD := hD0.self (sz := s_.heap.size)
  generalize hAe : va_A (wX cI cZ x_ a_ S ++ [wO cJ ou fo]) s_.heap.size = A at hD ⊢
  have hA : ∀ q_ : Nat, s_.heap.size ≤ q_ → A q_ := fun q_ h_ => by rw [← hAe]; exact Or.inr h_
  have hS_ : va_S A s_.heap s_.heap [] := va_S.rf
  have hP : va_P D vwCl (wX cI cZ x_ a_ S ++ [wO cJ ou fo]) s_.heap := hP
  have hl := lv_entry ([.ref x_, .int q_, .ref ou]) (n := 4) (Nat.le_of_ble_eq_true rfl)
  rw [lg_entry_eq]
  generalize (lg_sl ([.ref x_, .int q_, .ref ou]) ++ List.replicate (4 - (lg_sl ([.ref x_, .int q_, .ref ou])).length) Slot.unset).toArray = ls at hl ⊢
  have hl : lv_has ls 4 [(0, .ref x_), (1, .int q_), (2, .ref ou)] := hl
  refine lv_aload_n hx hb_ dL_miss_0 rfl (lv_at hl 2 rfl) ?_
  refine lv_iconst (v := 0) hx hb_ dL_miss_1 (by decide) ?_
  refine lv_aload_n hx hb_ dL_miss_2 rfl (lv_at hl 0 rfl) ?_
  refine lv_iload_n hx hb_ dL_miss_3 rfl (lv_at hl 1 rfl) ?_
  have hPc := hP.sub (ws' := wX cI cZ x_ a_ S) [0, 1, 2, 3, 4, 5, 6, 7, 8, 9, 10, 11, 12, 13] rfl
  have hKc := hK_.sub (tys' := tyX cI cZ) [0, 1] rfl
  have hDc := hD.sub (ws' := wX cI cZ x_ a_ S) [0, 1, 2, 3, 4, 5, 6, 7, 8, 9, 10, 11, 12, 13] (by decide) rfl
  have hFc := va_free (wc := wX cI cZ x_ a_ S) hD hS_ hA [0, 1, 2, 3, 4, 5, 6, 7, 8, 9, 10, 11, 12, 13] rfl
  refine vy_calli (vy_runV (As := [.int q_]) (rest := [.int 0, .ref ou]) ⟨hx, hb_, hml, hown, hts⟩ (c_X0_miss l hfl D cI cZ x_ a_ S s_.heap.size q_ B hI_) (cwV 1 hts gL_miss_X0_miss rfl rfl rfl (by decide +kernel) ⟨Nat.le_of_ble_eq_true rfl, Nat.le_of_ble_eq_true rfl⟩) (pT_V (pW_V (ci := 0) hPc hKc hDc rfl rfl) hG (fun _ h_ => h_)) rfl rfl hl.1 rfl (lv_room (Nat.le_of_ble_eq_true rfl)) dL_miss_4 ⟨Nat.le_of_ble_eq_true rfl, Nat.le_of_ble_eq_true rfl⟩) hS_ (fun q_ _ h_ => hFc q_ h_) hFc (fun E ce q9_ H1 locs hPE_ hz9 hk9 hS_ hc9 hv9 hcl9 => ?_) (fun r_ u_ t9 H1 locs ht9 hvm9 hw hB9 hz9 hk9 hS_ => ?_)
  · have hP1 : va_P D vwCl (wX cI cZ x_ a_ S ++ [wO cJ ou fo]) H1 := hP.grown hk9
    rcases hPE_ with ⟨rfl, hk⟩ | ⟨rfl, hk⟩
    · skip
      refine vx_catch hown [] ⟨0, 9, 12, 13⟩ [⟨0, 9, 15, 17⟩] (by rw [htab]; rfl) (fun z_ hz => absurd hz List.not_mem_nil) rfl (by decide) (hts (.classLink RL 13 xIO) (by decide +kernel)) (va_Nw.use rfl (hG.2.2.1 _ (List.mem_of_getElem? (i := 3) rfl))) hc9 hv9 hcl9 ?_
      refine lv_astore_n (lv' := [(3, .ref q9_), (0, .ref x_), (1, .int q_), (2, .ref ou)]) hx hb_ dL_miss_12 rfl hl (by decide) rfl (fun ls hl => ?_)
      refine lv_iconst (v := 1) hx hb_ dL_miss_13 (by decide) ?_
      refine W.widen (k := 1) (n := 6) (by omega) (by omega) ?_
      exact W.iret (v := 1) hx hb_ hr (fun t_ ht hW => ⟨⟨_, (S, fo), rfl, ⟨0, hk, fun h_ => absurd h_ (by decide)⟩, by rw [ht]; exact hP1, hD⟩, hS_.F ht⟩) hS_.2.2 dL_miss_14
    · skip
      refine vx_catch hown [⟨0, 9, 12, 13⟩] ⟨0, 9, 15, 17⟩ [] (by rw [htab]; rfl) (fun z_ hz => by rw [List.mem_singleton.mp hz]; exact Or.inr ⟨by decide, xIO, hts (.classLink RL 13 xIO) (by decide +kernel), hN_.2.1⟩) rfl (by decide) (hts (.classLink RL 17 xIS) (by decide +kernel)) (va_Nw.use rfl (hG.2.2.1 _ (List.mem_of_getElem? (i := 5) rfl))) hc9 hv9 hcl9 ?_
      refine lv_astore_n (lv' := [(3, .ref q9_), (0, .ref x_), (1, .int q_), (2, .ref ou)]) hx hb_ dL_miss_15 rfl hl (by decide) rfl (fun ls hl => ?_)
      refine lv_iconst (v := 2) hx hb_ dL_miss_16 (by decide) ?_
      refine W.widen (k := 1) (n := 6) (by omega) (by omega) ?_
      exact W.iret (v := 2) hx hb_ hr (fun t_ ht hW => ⟨⟨_, (S, fo), rfl, ⟨0, hk, fun h_ => absurd h_ (by decide)⟩, by rw [ht]; exact hP1, hD⟩, hS_.F ht⟩) hS_.2.2 dL_miss_17
  · have hJ9 := va_join (wr := [wO cJ ou fo]) hP hD [0, 1, 2, 3, 4, 5, 6, 7, 8, 9, 10, 11, 12, 13] [14] rfl rfl (by decide) (by decide) hk9 hFc (atW_P hB9 ht9) hB9.2
    have hP : va_P D vwCl (wX cI cZ x_ a_ u_ ++ [wO cJ ou fo]) H1 := hJ9.1.sub [1, 2, 3, 4, 5, 6, 7, 8, 9, 10, 11, 12, 13, 14, 0] rfl
    have hD : va_D A (wX cI cZ x_ a_ u_ ++ [wO cJ ou fo]) := hJ9.2.sub [1, 2, 3, 4, 5, 6, 7, 8, 9, 10, 11, 12, 13, 14, 0] (by decide) rfl
    refine lv_i2l (v := r_.toInt64) hx hb_ dL_miss_7 rfl ?_
    refine va_last (f := fo) (n := 1) hx hb_ hK_ hP hD hS_ 14 2 rfl rfl vin01 dL_miss_8 (fun H locs hP hD hS_ => ?_)
    have hP : va_P D vwCl (wX cI cZ x_ a_ u_ ++ [wO cJ ou (vp_updL fo (0 : Int32).toNatClampNeg r_.toInt64)]) H := hP
    have hD : va_D A (wX cI cZ x_ a_ u_ ++ [wO cJ ou (vp_updL fo (0 : Int32).toNatClampNeg r_.toInt64)]) := hD
    refine lv_goto (tgt := 18) hx hb_ dL_miss_9 (by decide) ?_
    refine lv_iconst (v := 0) hx hb_ dL_miss_18 (by decide) ?_
    refine W.widen (k := 1) (n := 6) (by omega) (by omega) ?_
    exact W.iret (v := 0) hx hb_ hr (fun t_ ht hW => ⟨⟨_, (u_, vp_updL fo (0 : Int32).toNatClampNeg r_.toInt64), rfl, ⟨r_, hw, fun _ => u0L fo _⟩, by rw [ht]; exact hP, hD⟩, hS_.F ht⟩) hS_.2.2 dL_miss_19
abbrev rmL_stateOf : Room := ({ frames := 8, cells := 1, slots := 6, locals := 132 } : Room)
set_option maxHeartbeats 4000000 in
set_option maxRecDepth 100000 in
theorem c_L_stateOf (l : Launch) (hfl : l.stackTraces = false) (D : va_G) (cI cZ cJ : ClassId) (x_ ou : Nat) (a_ : Nat → Nat) (S : ST) (fo : Nat → Int64) (sz : Nat) (q_ : Int32) (B : Nat) (hI_ : Inv B S) : Met l yL_stateOf wsL_stateOf rmL_stateOf (va_Pc [.ref x_, .int q_, .ref ou] (fun U => (pW D (tyL cI cZ cJ) (wX cI cZ x_ a_ S ++ [wO cJ ou fo]) sz) U ∧ pL U)) (va_Qi (fun (r_ : Int32) (u_ : ST × (Nat → Int64)) => ∃ v_ : Int32, k_stateOf S q_ = (r_, v_, u_.1) ∧ (r_ = 0 → u_.2 0 = v_.toInt64)) (fun u_ t_ => atW D (wX cI cZ x_ a_ u_.1 ++ [wO cJ ou u_.2]) (va_A (wX cI cZ x_ a_ S ++ [wO cJ ou fo]) sz) t_) (va_A (wX cI cZ x_ a_ S ++ [wO cJ ou fo]) sz)) 1 6 (va_A (wX cI cZ x_ a_ S ++ [wO cJ ou fo]) sz) := by
  refine va_ofWH (cc := cL_stateOf) (maxL := 4) (ret := (some .int)) (hh := [(0, 9, 12, 13)]) (by decide) rfl ?_
  intro pr env s_ mid args below meth cod s₁ Bd hml hv
  obtain ⟨rfl, ⟨hsz, hP, hK_, hD0⟩, hG0, hN_⟩ := hv
  have hG : xG (fun q_ => s_.heap.size ≤ q_) s_ s_.heap := hG0
  have hx := Bd.exec
  have hb_ := Bd.bytes
  have hr := Bd.returns
  have hts := atoms_spec (ws := wsL_stateOf) Bd.pre
  have hown : s_.vm.findClass RL = some mid.cls := findClass_of_methodNamed Bd.named
  have hlocks := Bd.notSynchronized
  have htab : cod.exceptionTable.toList = tableOf [(0, 9, 12, 13)] := vx_table (x := objectInit) Bd (hts _ List.mem_cons_self)
  subst hsz
  have hD := hD0.self (sz := s_.heap.size)
  generalize hAe : va_A (wX cI cZ x_ a_ S ++ [wO cJ ou fo]) s_.heap.size = A at hD ⊢
  have hA : ∀ q_ : Nat, s_.heap.size ≤ q_ → A q_ := fun q_ h_ => by rw [← hAe]; exact Or.inr h_
  have hS_ : va_S A s_.heap s_.heap [] := va_S.rf
  have hP : va_P D vwCl (wX cI cZ x_ a_ S ++ [wO cJ ou fo]) s_.heap := hP
  have hl := lv_entry ([.ref x_, .int q_, .ref ou]) (n := 4) (Nat.le_of_ble_eq_true rfl)
  rw [lg_entry_eq]
  generalize (lg_sl ([.ref x_, .int q_, .ref ou]) ++ List.replicate (4 - (lg_sl ([.ref x_, .int q_, .ref ou])).length) Slot.unset).toArray = ls at hl ⊢
  have hl : lv_has ls 4 [(0, .ref x_), (1, .int q_), (2, .ref ou)] := hl
  refine lv_aload_n hx hb_ dL_stateOf_0 rfl (lv_at hl 2 rfl) ?_
  refine lv_iconst (v := 0) hx hb_ dL_stateOf_1 (by decide) ?_
  refine lv_aload_n hx hb_ dL_stateOf_2 rfl (lv_at hl 0 rfl) ?_
  refine lv_iload_n hx hb_ dL_stateOf_3 rfl (lv_at hl 1 rfl) ?_
  have hPc := hP.sub (ws' := wX cI cZ x_ a_ S) [0, 1, 2, 3, 4, 5, 6, 7, 8, 9, 10, 11, 12, 13] rfl
  have hKc := hK_.sub (tys' := tyX cI cZ) [0, 1] rfl
  refine vy_csi (vy_runV (As := [.int q_]) (rest := [.int 0, .ref ou]) ⟨hx, hb_, hml, hown, hts⟩ (c_X0_stateOf l hfl D cI cZ x_ a_ S q_ B hI_) (cwV 1 hts gL_stateOf_X0_stateOf rfl rfl rfl (by decide +kernel) ⟨Nat.le_of_ble_eq_true rfl, Nat.le_of_ble_eq_true rfl⟩) (pT_V (pR_V (ci := 0) hPc hKc rfl rfl) hG (fun _ h_ => h_)) rfl rfl hl.1 rfl (lv_room (Nat.le_of_ble_eq_true rfl)) dL_stateOf_4 ⟨Nat.le_of_ble_eq_true rfl, Nat.le_of_ble_eq_true rfl⟩) (fun E ce q9_ H1 hPE_ hz9 hk9 hc9 hv9 hcl9 => ?_) (fun r_ hw => ?_)
  · have hP1 : va_P D vwCl (wX cI cZ x_ a_ S ++ [wO cJ ou fo]) H1 := hP.grown hk9
    have hS_ : va_S A s_.heap H1 [] := ⟨hz9, fun q_ h_ _ => hk9 q_ h_, fun q_ h_ => by cases h_⟩
    obtain ⟨rfl, hk⟩ := hPE_
    refine vx_catch hown [] ⟨0, 9, 12, 13⟩ [] (by rw [htab]; rfl) (fun z_ hz => absurd hz List.not_mem_nil) rfl (by decide) (hts (.classLink RL 13 xIO) (by decide +kernel)) (va_Nw.use rfl (hG.2.2.1 _ (List.mem_of_getElem? (i := 3) rfl))) hc9 hv9 hcl9 ?_
    refine lv_astore_n (lv' := [(3, .ref q9_), (0, .ref x_), (1, .int q_), (2, .ref ou)]) hx hb_ dL_stateOf_12 rfl hl (by decide) rfl (fun ls hl => ?_)
    refine lv_iconst (v := 1) hx hb_ dL_stateOf_13 (by decide) ?_
    refine W.widen (k := 1) (n := 6) (by omega) (by omega) ?_
    exact W.iret (v := 1) hx hb_ hr (fun t_ ht hW => ⟨⟨_, (S, fo), rfl, ⟨0, hk, fun h_ => absurd h_ (by decide)⟩, by rw [ht]; exact hP1, hD⟩, hS_.F ht⟩) hS_.2.2 dL_stateOf_14
  · skip
    refine lv_i2l (v := r_.toInt64) hx hb_ dL_stateOf_7 rfl ?_
    refine va_last (f := fo) (n := 1) hx hb_ hK_ hP hD hS_ 14 2 rfl rfl vin01 dL_stateOf_8 (fun H locs hP hD hS_ => ?_)
    have hP : va_P D vwCl (wX cI cZ x_ a_ S ++ [wO cJ ou (vp_updL fo (0 : Int32).toNatClampNeg r_.toInt64)]) H := hP
    have hD : va_D A (wX cI cZ x_ a_ S ++ [wO cJ ou (vp_updL fo (0 : Int32).toNatClampNeg r_.toInt64)]) := hD
    refine lv_goto (tgt := 15) hx hb_ dL_stateOf_9 (by decide) ?_
    refine lv_iconst (v := 0) hx hb_ dL_stateOf_15 (by decide) ?_
    refine W.widen (k := 1) (n := 6) (by omega) (by omega) ?_
    exact W.iret (v := 0) hx hb_ hr (fun t_ ht hW => ⟨⟨_, (S, vp_updL fo (0 : Int32).toNatClampNeg r_.toInt64), rfl, ⟨r_, hw, fun _ => u0L fo _⟩, by rw [ht]; exact hP, hD⟩, hS_.F ht⟩) hS_.2.2 dL_stateOf_16
abbrev rmL_maskOf : Room := ({ frames := 8, cells := 1, slots := 6, locals := 131 } : Room)
set_option maxHeartbeats 4000000 in
set_option maxRecDepth 100000 in
theorem c_L_maskOf (l : Launch) (hfl : l.stackTraces = false) (D : va_G) (cI cZ cJ : ClassId) (x_ ou : Nat) (a_ : Nat → Nat) (S : ST) (fo : Nat → Int64) (sz : Nat) (p_ : Int32) : Met l yL_maskOf wsL_maskOf rmL_maskOf (va_Pc [.ref x_, .int p_, .ref ou] (fun U => (pW D (tyL cI cZ cJ) (wX cI cZ x_ a_ S ++ [wO cJ ou fo]) sz) U ∧ pL U)) (va_Qi (fun (r_ : Int32) (u_ : ST × (Nat → Int64)) => ∃ v_ : Int32, k_maskOf S p_ = (r_, v_, u_.1) ∧ (r_ = 0 → u_.2 0 = v_.toInt64)) (fun u_ t_ => atW D (wX cI cZ x_ a_ u_.1 ++ [wO cJ ou u_.2]) (va_A (wX cI cZ x_ a_ S ++ [wO cJ ou fo]) sz) t_) (va_A (wX cI cZ x_ a_ S ++ [wO cJ ou fo]) sz)) 1 6 (va_A (wX cI cZ x_ a_ S ++ [wO cJ ou fo]) sz) := by
  refine va_ofWH (cc := cL_maskOf) (maxL := 4) (ret := (some .int)) (hh := [(0, 9, 12, 13)]) (by decide) rfl ?_
  intro pr env s_ mid args below meth cod s₁ Bd hml hv
  obtain ⟨rfl, ⟨hsz, hP, hK_, hD0⟩, hG0, hN_⟩ := hv
  have hG : xG (fun q_ => s_.heap.size ≤ q_) s_ s_.heap := hG0
  have hx := Bd.exec
  have hb_ := Bd.bytes
  have hr := Bd.returns
  have hts := atoms_spec (ws := wsL_maskOf) Bd.pre
  have hown : s_.vm.findClass RL = some mid.cls := findClass_of_methodNamed Bd.named
  have hlocks := Bd.notSynchronized
  have htab : cod.exceptionTable.toList = tableOf [(0, 9, 12, 13)] := vx_table (x := objectInit) Bd (hts _ List.mem_cons_self)
  subst hsz
  have hD := hD0.self (sz := s_.heap.size)
  generalize hAe : va_A (wX cI cZ x_ a_ S ++ [wO cJ ou fo]) s_.heap.size = A at hD ⊢
  have hA : ∀ q_ : Nat, s_.heap.size ≤ q_ → A q_ := fun q_ h_ => by rw [← hAe]; exact Or.inr h_
  have hS_ : va_S A s_.heap s_.heap [] := va_S.rf
  have hP : va_P D vwCl (wX cI cZ x_ a_ S ++ [wO cJ ou fo]) s_.heap := hP
  have hl := lv_entry ([.ref x_, .int p_, .ref ou]) (n := 4) (Nat.le_of_ble_eq_true rfl)
  rw [lg_entry_eq]
  generalize (lg_sl ([.ref x_, .int p_, .ref ou]) ++ List.replicate (4 - (lg_sl ([.ref x_, .int p_, .ref ou])).length) Slot.unset).toArray = ls at hl ⊢
  have hl : lv_has ls 4 [(0, .ref x_), (1, .int p_), (2, .ref ou)] := hl
  refine lv_aload_n hx hb_ dL_maskOf_0 rfl (lv_at hl 2 rfl) ?_
  refine lv_iconst (v := 0) hx hb_ dL_maskOf_1 (by decide) ?_
  refine lv_aload_n hx hb_ dL_maskOf_2 rfl (lv_at hl 0 rfl) ?_
  refine lv_iload_n hx hb_ dL_maskOf_3 rfl (lv_at hl 1 rfl) ?_
  have hPc := hP.sub (ws' := wX cI cZ x_ a_ S) [0, 1, 2, 3, 4, 5, 6, 7, 8, 9, 10, 11, 12, 13] rfl
  have hKc := hK_.sub (tys' := tyX cI cZ) [0, 1] rfl
  refine vy_csi (vy_runV (As := [.int p_]) (rest := [.int 0, .ref ou]) ⟨hx, hb_, hml, hown, hts⟩ (c_X0_maskOf l hfl D cI cZ x_ a_ S p_ ) (cwV 1 hts gL_maskOf_X0_maskOf rfl rfl rfl (by decide +kernel) ⟨Nat.le_of_ble_eq_true rfl, Nat.le_of_ble_eq_true rfl⟩) (pT_V (pR_V (ci := 0) hPc hKc rfl rfl) hG (fun _ h_ => h_)) rfl rfl hl.1 rfl (lv_room (Nat.le_of_ble_eq_true rfl)) dL_maskOf_4 ⟨Nat.le_of_ble_eq_true rfl, Nat.le_of_ble_eq_true rfl⟩) (fun E ce q9_ H1 hPE_ hz9 hk9 hc9 hv9 hcl9 => ?_) (fun r_ hw => ?_)
  · have hP1 : va_P D vwCl (wX cI cZ x_ a_ S ++ [wO cJ ou fo]) H1 := hP.grown hk9
    have hS_ : va_S A s_.heap H1 [] := ⟨hz9, fun q_ h_ _ => hk9 q_ h_, fun q_ h_ => by cases h_⟩
    obtain ⟨rfl, hk⟩ := hPE_
    refine vx_catch hown [] ⟨0, 9, 12, 13⟩ [] (by rw [htab]; rfl) (fun z_ hz => absurd hz List.not_mem_nil) rfl (by decide) (hts (.classLink RL 13 xIO) (by decide +kernel)) (va_Nw.use rfl (hG.2.2.1 _ (List.mem_of_getElem? (i := 3) rfl))) hc9 hv9 hcl9 ?_
    refine lv_astore_n (lv' := [(3, .ref q9_), (0, .ref x_), (1, .int p_), (2, .ref ou)]) hx hb_ dL_maskOf_12 rfl hl (by decide) rfl (fun ls hl => ?_)
    refine lv_iconst (v := 1) hx hb_ dL_maskOf_13 (by decide) ?_
    refine W.widen (k := 1) (n := 6) (by omega) (by omega) ?_
    exact W.iret (v := 1) hx hb_ hr (fun t_ ht hW => ⟨⟨_, (S, fo), rfl, ⟨0, hk, fun h_ => absurd h_ (by decide)⟩, by rw [ht]; exact hP1, hD⟩, hS_.F ht⟩) hS_.2.2 dL_maskOf_14
  · skip
    refine lv_i2l (v := r_.toInt64) hx hb_ dL_maskOf_7 rfl ?_
    refine va_last (f := fo) (n := 1) hx hb_ hK_ hP hD hS_ 14 2 rfl rfl vin01 dL_maskOf_8 (fun H locs hP hD hS_ => ?_)
    have hP : va_P D vwCl (wX cI cZ x_ a_ S ++ [wO cJ ou (vp_updL fo (0 : Int32).toNatClampNeg r_.toInt64)]) H := hP
    have hD : va_D A (wX cI cZ x_ a_ S ++ [wO cJ ou (vp_updL fo (0 : Int32).toNatClampNeg r_.toInt64)]) := hD
    refine lv_goto (tgt := 15) hx hb_ dL_maskOf_9 (by decide) ?_
    refine lv_iconst (v := 0) hx hb_ dL_maskOf_15 (by decide) ?_
    refine W.widen (k := 1) (n := 6) (by omega) (by omega) ?_
    exact W.iret (v := 0) hx hb_ hr (fun t_ ht hW => ⟨⟨_, (S, vp_updL fo (0 : Int32).toNatClampNeg r_.toInt64), rfl, ⟨r_, hw, fun _ => u0L fo _⟩, by rw [ht]; exact hP, hD⟩, hS_.F ht⟩) hS_.2.2 dL_maskOf_16
abbrev rmL_maskByCues : Room := ({ frames := 8, cells := 1, slots := 6, locals := 132 } : Room)
set_option maxHeartbeats 4000000 in
set_option maxRecDepth 100000 in
theorem c_L_maskByCues (l : Launch) (hfl : l.stackTraces = false) (D : va_G) (cI cZ cJ : ClassId) (x_ ou : Nat) (a_ : Nat → Nat) (S : ST) (fo : Nat → Int64) (sz : Nat) (p_ : Int32) (B : Nat) (hI_ : Inv B S) : Met l yL_maskByCues wsL_maskByCues rmL_maskByCues (va_Pc [.ref x_, .int p_, .ref ou] (fun U => (pW D (tyL cI cZ cJ) (wX cI cZ x_ a_ S ++ [wO cJ ou fo]) sz) U ∧ pL U)) (va_Qi (fun (r_ : Int32) (u_ : ST × (Nat → Int64)) => ∃ v_ : Int32, k_maskByCues S p_ = (r_, v_, u_.1) ∧ (r_ = 0 → u_.2 0 = v_.toInt64)) (fun u_ t_ => atW D (wX cI cZ x_ a_ u_.1 ++ [wO cJ ou u_.2]) (va_A (wX cI cZ x_ a_ S ++ [wO cJ ou fo]) sz) t_) (va_A (wX cI cZ x_ a_ S ++ [wO cJ ou fo]) sz)) 1 6 (va_A (wX cI cZ x_ a_ S ++ [wO cJ ou fo]) sz) := by
  refine va_ofWH (cc := cL_maskByCues) (maxL := 4) (ret := (some .int)) (hh := [(0, 9, 12, 13)]) (by decide) rfl ?_
  intro pr env s_ mid args below meth cod s₁ Bd hml hv
  obtain ⟨rfl, ⟨hsz, hP, hK_, hD0⟩, hG0, hN_⟩ := hv
  have hG : xG (fun q_ => s_.heap.size ≤ q_) s_ s_.heap := hG0
  have hx := Bd.exec
  have hb_ := Bd.bytes
  have hr := Bd.returns
  have hts := atoms_spec (ws := wsL_maskByCues) Bd.pre
  have hown : s_.vm.findClass RL = some mid.cls := findClass_of_methodNamed Bd.named
  have hlocks := Bd.notSynchronized
  have htab : cod.exceptionTable.toList = tableOf [(0, 9, 12, 13)] := vx_table (x := objectInit) Bd (hts _ List.mem_cons_self)
  subst hsz
  have hD := hD0.self (sz := s_.heap.size)
  generalize hAe : va_A (wX cI cZ x_ a_ S ++ [wO cJ ou fo]) s_.heap.size = A at hD ⊢
  have hA : ∀ q_ : Nat, s_.heap.size ≤ q_ → A q_ := fun q_ h_ => by rw [← hAe]; exact Or.inr h_
  have hS_ : va_S A s_.heap s_.heap [] := va_S.rf
  have hP : va_P D vwCl (wX cI cZ x_ a_ S ++ [wO cJ ou fo]) s_.heap := hP
  have hl := lv_entry ([.ref x_, .int p_, .ref ou]) (n := 4) (Nat.le_of_ble_eq_true rfl)
  rw [lg_entry_eq]
  generalize (lg_sl ([.ref x_, .int p_, .ref ou]) ++ List.replicate (4 - (lg_sl ([.ref x_, .int p_, .ref ou])).length) Slot.unset).toArray = ls at hl ⊢
  have hl : lv_has ls 4 [(0, .ref x_), (1, .int p_), (2, .ref ou)] := hl
  refine lv_aload_n hx hb_ dL_maskByCues_0 rfl (lv_at hl 2 rfl) ?_
  refine lv_iconst (v := 0) hx hb_ dL_maskByCues_1 (by decide) ?_
  refine lv_aload_n hx hb_ dL_maskByCues_2 rfl (lv_at hl 0 rfl) ?_
  refine lv_iload_n hx hb_ dL_maskByCues_3 rfl (lv_at hl 1 rfl) ?_
  have hPc := hP.sub (ws' := wX cI cZ x_ a_ S) [0, 1, 2, 3, 4, 5, 6, 7, 8, 9, 10, 11, 12, 13] rfl
  have hKc := hK_.sub (tys' := tyX cI cZ) [0, 1] rfl
  have hDc := hD.sub (ws' := wX cI cZ x_ a_ S) [0, 1, 2, 3, 4, 5, 6, 7, 8, 9, 10, 11, 12, 13] (by decide) rfl
  have hFc := va_free (wc := wX cI cZ x_ a_ S) hD hS_ hA [0, 1, 2, 3, 4, 5, 6, 7, 8, 9, 10, 11, 12, 13] rfl
  refine vy_calli (vy_runV (As := [.int p_]) (rest := [.int 0, .ref ou]) ⟨hx, hb_, hml, hown, hts⟩ (c_X0_maskByCues l hfl D cI cZ x_ a_ S s_.heap.size p_ B hI_) (cwV 1 hts gL_maskByCues_X0_maskByCues rfl rfl rfl (by decide +kernel) ⟨Nat.le_of_ble_eq_true rfl, Nat.le_of_ble_eq_true rfl⟩) (pT_V (pW_V (ci := 0) hPc hKc hDc rfl rfl) hG (fun _ h_ => h_)) rfl rfl hl.1 rfl (lv_room (Nat.le_of_ble_eq_true rfl)) dL_maskByCues_4 ⟨Nat.le_of_ble_eq_true rfl, Nat.le_of_ble_eq_true rfl⟩) hS_ (fun q_ _ h_ => hFc q_ h_) hFc (fun E ce q9_ H1 locs hPE_ hz9 hk9 hS_ hc9 hv9 hcl9 => ?_) (fun r_ u_ t9 H1 locs ht9 hvm9 hw hB9 hz9 hk9 hS_ => ?_)
  · have hP1 : va_P D vwCl (wX cI cZ x_ a_ S ++ [wO cJ ou fo]) H1 := hP.grown hk9
    obtain ⟨rfl, hk⟩ := hPE_
    refine vx_catch hown [] ⟨0, 9, 12, 13⟩ [] (by rw [htab]; rfl) (fun z_ hz => absurd hz List.not_mem_nil) rfl (by decide) (hts (.classLink RL 13 xIO) (by decide +kernel)) (va_Nw.use rfl (hG.2.2.1 _ (List.mem_of_getElem? (i := 3) rfl))) hc9 hv9 hcl9 ?_
    refine lv_astore_n (lv' := [(3, .ref q9_), (0, .ref x_), (1, .int p_), (2, .ref ou)]) hx hb_ dL_maskByCues_12 rfl hl (by decide) rfl (fun ls hl => ?_)
    refine lv_iconst (v := 1) hx hb_ dL_maskByCues_13 (by decide) ?_
    refine W.widen (k := 1) (n := 6) (by omega) (by omega) ?_
    exact W.iret (v := 1) hx hb_ hr (fun t_ ht hW => ⟨⟨_, (S, fo), rfl, ⟨0, hk, fun h_ => absurd h_ (by decide)⟩, by rw [ht]; exact hP1, hD⟩, hS_.F ht⟩) hS_.2.2 dL_maskByCues_14
  · have hJ9 := va_join (wr := [wO cJ ou fo]) hP hD [0, 1, 2, 3, 4, 5, 6, 7, 8, 9, 10, 11, 12, 13] [14] rfl rfl (by decide) (by decide) hk9 hFc (atW_P hB9 ht9) hB9.2
    have hP : va_P D vwCl (wX cI cZ x_ a_ u_ ++ [wO cJ ou fo]) H1 := hJ9.1.sub [1, 2, 3, 4, 5, 6, 7, 8, 9, 10, 11, 12, 13, 14, 0] rfl
    have hD : va_D A (wX cI cZ x_ a_ u_ ++ [wO cJ ou fo]) := hJ9.2.sub [1, 2, 3, 4, 5, 6, 7, 8, 9, 10, 11, 12, 13, 14, 0] (by decide) rfl
    refine lv_i2l (v := r_.toInt64) hx hb_ dL_maskByCues_7 rfl ?_
    refine va_last (f := fo) (n := 1) hx hb_ hK_ hP hD hS_ 14 2 rfl rfl vin01 dL_maskByCues_8 (fun H locs hP hD hS_ => ?_)
    have hP : va_P D vwCl (wX cI cZ x_ a_ u_ ++ [wO cJ ou (vp_updL fo (0 : Int32).toNatClampNeg r_.toInt64)]) H := hP
    have hD : va_D A (wX cI cZ x_ a_ u_ ++ [wO cJ ou (vp_updL fo (0 : Int32).toNatClampNeg r_.toInt64)]) := hD
    refine lv_goto (tgt := 15) hx hb_ dL_maskByCues_9 (by decide) ?_
    refine lv_iconst (v := 0) hx hb_ dL_maskByCues_15 (by decide) ?_
    refine W.widen (k := 1) (n := 6) (by omega) (by omega) ?_
    exact W.iret (v := 0) hx hb_ hr (fun t_ ht hW => ⟨⟨_, (u_, vp_updL fo (0 : Int32).toNatClampNeg r_.toInt64), rfl, ⟨r_, hw, fun _ => u0L fo _⟩, by rw [ht]; exact hP, hD⟩, hS_.F ht⟩) hS_.2.2 dL_maskByCues_16
abbrev rmL_wearerOf : Room := ({ frames := 8, cells := 1, slots := 6, locals := 131 } : Room)
set_option maxHeartbeats 4000000 in
set_option maxRecDepth 100000 in
theorem c_L_wearerOf (l : Launch) (hfl : l.stackTraces = false) (D : va_G) (cI cZ cJ : ClassId) (x_ ou : Nat) (a_ : Nat → Nat) (S : ST) (fo : Nat → Int64) (sz : Nat) (m_ : Int32) : Met l yL_wearerOf wsL_wearerOf rmL_wearerOf (va_Pc [.ref x_, .int m_, .ref ou] (fun U => (pW D (tyL cI cZ cJ) (wX cI cZ x_ a_ S ++ [wO cJ ou fo]) sz) U ∧ pL U)) (va_Qi (fun (r_ : Int32) (u_ : ST × (Nat → Int64)) => ∃ v_ : Int32, k_wearerOf S m_ = (r_, v_, u_.1) ∧ (r_ = 0 → u_.2 0 = v_.toInt64)) (fun u_ t_ => atW D (wX cI cZ x_ a_ u_.1 ++ [wO cJ ou u_.2]) (va_A (wX cI cZ x_ a_ S ++ [wO cJ ou fo]) sz) t_) (va_A (wX cI cZ x_ a_ S ++ [wO cJ ou fo]) sz)) 1 6 (va_A (wX cI cZ x_ a_ S ++ [wO cJ ou fo]) sz) := by
  refine va_ofWH (cc := cL_wearerOf) (maxL := 4) (ret := (some .int)) (hh := [(0, 9, 12, 13)]) (by decide) rfl ?_
  intro pr env s_ mid args below meth cod s₁ Bd hml hv
  obtain ⟨rfl, ⟨hsz, hP, hK_, hD0⟩, hG0, hN_⟩ := hv
  have hG : xG (fun q_ => s_.heap.size ≤ q_) s_ s_.heap := hG0
  have hx := Bd.exec
  have hb_ := Bd.bytes
  have hr := Bd.returns
  have hts := atoms_spec (ws := wsL_wearerOf) Bd.pre
  have hown : s_.vm.findClass RL = some mid.cls := findClass_of_methodNamed Bd.named
  have hlocks := Bd.notSynchronized
  have htab : cod.exceptionTable.toList = tableOf [(0, 9, 12, 13)] := vx_table (x := objectInit) Bd (hts _ List.mem_cons_self)
  subst hsz
  have hD := hD0.self (sz := s_.heap.size)
  generalize hAe : va_A (wX cI cZ x_ a_ S ++ [wO cJ ou fo]) s_.heap.size = A at hD ⊢
  have hA : ∀ q_ : Nat, s_.heap.size ≤ q_ → A q_ := fun q_ h_ => by rw [← hAe]; exact Or.inr h_
  have hS_ : va_S A s_.heap s_.heap [] := va_S.rf
  have hP : va_P D vwCl (wX cI cZ x_ a_ S ++ [wO cJ ou fo]) s_.heap := hP
  have hl := lv_entry ([.ref x_, .int m_, .ref ou]) (n := 4) (Nat.le_of_ble_eq_true rfl)
  rw [lg_entry_eq]
  generalize (lg_sl ([.ref x_, .int m_, .ref ou]) ++ List.replicate (4 - (lg_sl ([.ref x_, .int m_, .ref ou])).length) Slot.unset).toArray = ls at hl ⊢
  have hl : lv_has ls 4 [(0, .ref x_), (1, .int m_), (2, .ref ou)] := hl
  refine lv_aload_n hx hb_ dL_wearerOf_0 rfl (lv_at hl 2 rfl) ?_
  refine lv_iconst (v := 0) hx hb_ dL_wearerOf_1 (by decide) ?_
  refine lv_aload_n hx hb_ dL_wearerOf_2 rfl (lv_at hl 0 rfl) ?_
  refine lv_iload_n hx hb_ dL_wearerOf_3 rfl (lv_at hl 1 rfl) ?_
  have hPc := hP.sub (ws' := wX cI cZ x_ a_ S) [0, 1, 2, 3, 4, 5, 6, 7, 8, 9, 10, 11, 12, 13] rfl
  have hKc := hK_.sub (tys' := tyX cI cZ) [0, 1] rfl
  refine vy_csi (vy_runV (As := [.int m_]) (rest := [.int 0, .ref ou]) ⟨hx, hb_, hml, hown, hts⟩ (c_X0_wearerOf l hfl D cI cZ x_ a_ S m_ ) (cwV 1 hts gL_wearerOf_X0_wearerOf rfl rfl rfl (by decide +kernel) ⟨Nat.le_of_ble_eq_true rfl, Nat.le_of_ble_eq_true rfl⟩) (pT_V (pR_V (ci := 0) hPc hKc rfl rfl) hG (fun _ h_ => h_)) rfl rfl hl.1 rfl (lv_room (Nat.le_of_ble_eq_true rfl)) dL_wearerOf_4 ⟨Nat.le_of_ble_eq_true rfl, Nat.le_of_ble_eq_true rfl⟩) (fun E ce q9_ H1 hPE_ hz9 hk9 hc9 hv9 hcl9 => ?_) (fun r_ hw => ?_)
  · have hP1 : va_P D vwCl (wX cI cZ x_ a_ S ++ [wO cJ ou fo]) H1 := hP.grown hk9
    have hS_ : va_S A s_.heap H1 [] := ⟨hz9, fun q_ h_ _ => hk9 q_ h_, fun q_ h_ => by cases h_⟩
    obtain ⟨rfl, hk⟩ := hPE_
    refine vx_catch hown [] ⟨0, 9, 12, 13⟩ [] (by rw [htab]; rfl) (fun z_ hz => absurd hz List.not_mem_nil) rfl (by decide) (hts (.classLink RL 13 xIO) (by decide +kernel)) (va_Nw.use rfl (hG.2.2.1 _ (List.mem_of_getElem? (i := 3) rfl))) hc9 hv9 hcl9 ?_
    refine lv_astore_n (lv' := [(3, .ref q9_), (0, .ref x_), (1, .int m_), (2, .ref ou)]) hx hb_ dL_wearerOf_12 rfl hl (by decide) rfl (fun ls hl => ?_)
    refine lv_iconst (v := 1) hx hb_ dL_wearerOf_13 (by decide) ?_
    refine W.widen (k := 1) (n := 6) (by omega) (by omega) ?_
    exact W.iret (v := 1) hx hb_ hr (fun t_ ht hW => ⟨⟨_, (S, fo), rfl, ⟨0, hk, fun h_ => absurd h_ (by decide)⟩, by rw [ht]; exact hP1, hD⟩, hS_.F ht⟩) hS_.2.2 dL_wearerOf_14
  · skip
    refine lv_i2l (v := r_.toInt64) hx hb_ dL_wearerOf_7 rfl ?_
    refine va_last (f := fo) (n := 1) hx hb_ hK_ hP hD hS_ 14 2 rfl rfl vin01 dL_wearerOf_8 (fun H locs hP hD hS_ => ?_)
    have hP : va_P D vwCl (wX cI cZ x_ a_ S ++ [wO cJ ou (vp_updL fo (0 : Int32).toNatClampNeg r_.toInt64)]) H := hP
    have hD : va_D A (wX cI cZ x_ a_ S ++ [wO cJ ou (vp_updL fo (0 : Int32).toNatClampNeg r_.toInt64)]) := hD
    refine lv_goto (tgt := 15) hx hb_ dL_wearerOf_9 (by decide) ?_
    refine lv_iconst (v := 0) hx hb_ dL_wearerOf_15 (by decide) ?_
    refine W.widen (k := 1) (n := 6) (by omega) (by omega) ?_
    exact W.iret (v := 0) hx hb_ hr (fun t_ ht hW => ⟨⟨_, (S, vp_updL fo (0 : Int32).toNatClampNeg r_.toInt64), rfl, ⟨r_, hw, fun _ => u0L fo _⟩, by rw [ht]; exact hP, hD⟩, hS_.F ht⟩) hS_.2.2 dL_wearerOf_16
abbrev rmL_isOn : Room := ({ frames := 8, cells := 1, slots := 6, locals := 131 } : Room)
set_option maxHeartbeats 4000000 in
set_option maxRecDepth 100000 in
theorem c_L_isOn (l : Launch) (hfl : l.stackTraces = false) (D : va_G) (cI cZ cJ : ClassId) (x_ ou : Nat) (a_ : Nat → Nat) (S : ST) (fo : Nat → Int64) (sz : Nat) (p_ : Int32) (B : Nat) (hI_ : Inv B S) : Met l yL_isOn wsL_isOn rmL_isOn (va_Pc [.ref x_, .int p_, .ref ou] (fun U => (pW D (tyL cI cZ cJ) (wX cI cZ x_ a_ S ++ [wO cJ ou fo]) sz) U ∧ pL U)) (va_Qi (fun (r_ : Int32) (u_ : ST × (Nat → Int64)) => ∃ v_ : Int32, k_isOn S p_ = (r_, v_, u_.1) ∧ (r_ = 0 → u_.2 0 = if v_ = 0 then 0 else 1)) (fun u_ t_ => atW D (wX cI cZ x_ a_ u_.1 ++ [wO cJ ou u_.2]) (va_A (wX cI cZ x_ a_ S ++ [wO cJ ou fo]) sz) t_) (va_A (wX cI cZ x_ a_ S ++ [wO cJ ou fo]) sz)) 1 6 (va_A (wX cI cZ x_ a_ S ++ [wO cJ ou fo]) sz) := by
  refine va_ofWH (cc := cL_isOn) (maxL := 4) (ret := (some .int)) (hh := [(0, 16, 19, 13)]) (by decide) rfl ?_
  intro pr env s_ mid args below meth cod s₁ Bd hml hv
  obtain ⟨rfl, ⟨hsz, hP, hK_, hD0⟩, hG0, hN_⟩ := hv
  have hG : xG (fun q_ => s_.heap.size ≤ q_) s_ s_.heap := hG0
  have hx := Bd.exec
  have hb_ := Bd.bytes
  have hr := Bd.returns
  have hts := atoms_spec (ws := wsL_isOn) Bd.pre
  have hown : s_.vm.findClass RL = some mid.cls := findClass_of_methodNamed Bd.named
  have hlocks := Bd.notSynchronized
  have htab : cod.exceptionTable.toList = tableOf [(0, 16, 19, 13)] := vx_table (x := objectInit) Bd (hts _ List.mem_cons_self)
  subst hsz
  have hD := hD0.self (sz := s_.heap.size)
  generalize hAe : va_A (wX cI cZ x_ a_ S ++ [wO cJ ou fo]) s_.heap.size = A at hD ⊢
  have hA : ∀ q_ : Nat, s_.heap.size ≤ q_ → A q_ := fun q_ h_ => by rw [← hAe]; exact Or.inr h_
  have hS_ : va_S A s_.heap s_.heap [] := va_S.rf
  have hP : va_P D vwCl (wX cI cZ x_ a_ S ++ [wO cJ ou fo]) s_.heap := hP
  have hl := lv_entry ([.ref x_, .int p_, .ref ou]) (n := 4) (Nat.le_of_ble_eq_true rfl)
  rw [lg_entry_eq]
  generalize (lg_sl ([.ref x_, .int p_, .ref ou]) ++ List.replicate (4 - (lg_sl ([.ref x_, .int p_, .ref ou])).length) Slot.unset).toArray = ls at hl ⊢
  have hl : lv_has ls 4 [(0, .ref x_), (1, .int p_), (2, .ref ou)] := hl
  refine lv_aload_n hx hb_ dL_isOn_0 rfl (lv_at hl 2 rfl) ?_
  refine lv_iconst (v := 0) hx hb_ dL_isOn_1 (by decide) ?_
  refine lv_aload_n hx hb_ dL_isOn_2 rfl (lv_at hl 0 rfl) ?_
  refine lv_iload_n hx hb_ dL_isOn_3 rfl (lv_at hl 1 rfl) ?_
  have hPc := hP.sub (ws' := wX cI cZ x_ a_ S) [0, 1, 2, 3, 4, 5, 6, 7, 8, 9, 10, 11, 12, 13] rfl
  have hKc := hK_.sub (tys' := tyX cI cZ) [0, 1] rfl
  refine vy_csi (vy_runV (As := [.int p_]) (rest := [.int 0, .ref ou]) ⟨hx, hb_, hml, hown, hts⟩ (c_X0_isOn l hfl D cI cZ x_ a_ S p_ B hI_) (cwV 1 hts gL_isOn_X0_isOn rfl rfl rfl (by decide +kernel) ⟨Nat.le_of_ble_eq_true rfl, Nat.le_of_ble_eq_true rfl⟩) (pT_V (pR_V (ci := 0) hPc hKc rfl rfl) hG (fun _ h_ => h_)) rfl rfl hl.1 rfl (lv_room (Nat.le_of_ble_eq_true rfl)) dL_isOn_4 ⟨Nat.le_of_ble_eq_true rfl, Nat.le_of_ble_eq_true rfl⟩) (fun E ce q9_ H1 hPE_ hz9 hk9 hc9 hv9 hcl9 => ?_) (fun r_ hw => ?_)
  · have hP1 : va_P D vwCl (wX cI cZ x_ a_ S ++ [wO cJ ou fo]) H1 := hP.grown hk9
    have hS_ : va_S A s_.heap H1 [] := ⟨hz9, fun q_ h_ _ => hk9 q_ h_, fun q_ h_ => by cases h_⟩
    obtain ⟨rfl, hk⟩ := hPE_
    refine vx_catch hown [] ⟨0, 16, 19, 13⟩ [] (by rw [htab]; rfl) (fun z_ hz => absurd hz List.not_mem_nil) rfl (by decide) (hts (.classLink RL 13 xIO) (by decide +kernel)) (va_Nw.use rfl (hG.2.2.1 _ (List.mem_of_getElem? (i := 3) rfl))) hc9 hv9 hcl9 ?_
    refine lv_astore_n (lv' := [(3, .ref q9_), (0, .ref x_), (1, .int p_), (2, .ref ou)]) hx hb_ dL_isOn_19 rfl hl (by decide) rfl (fun ls hl => ?_)
    refine lv_iconst (v := 1) hx hb_ dL_isOn_20 (by decide) ?_
    refine W.widen (k := 1) (n := 6) (by omega) (by omega) ?_
    exact W.iret (v := 1) hx hb_ hr (fun t_ ht hW => ⟨⟨_, (S, fo), rfl, ⟨0, hk, fun h_ => absurd h_ (by decide)⟩, by rw [ht]; exact hP1, hD⟩, hS_.F ht⟩) hS_.2.2 dL_isOn_21
  · skip
    refine lv_if_eq (tgt := 14) hx hb_ dL_isOn_7 (by decide) (fun c_7 => ?_) (fun c_7 => ?_)
    · refine lv_lconst (v := 0) hx hb_ dL_isOn_14 (by decide) ?_
      refine va_last (f := fo) (n := 1) hx hb_ hK_ hP hD hS_ 14 2 rfl rfl vin01 dL_isOn_15 (fun H locs hP hD hS_ => ?_)
      have hP : va_P D vwCl (wX cI cZ x_ a_ S ++ [wO cJ ou (vp_updL fo (0 : Int32).toNatClampNeg 0)]) H := hP
      have hD : va_D A (wX cI cZ x_ a_ S ++ [wO cJ ou (vp_updL fo (0 : Int32).toNatClampNeg 0)]) := hD
      refine lv_goto (tgt := 22) hx hb_ dL_isOn_16 (by decide) ?_
      refine lv_iconst (v := 0) hx hb_ dL_isOn_22 (by decide) ?_
      refine W.widen (k := 1) (n := 6) (by omega) (by omega) ?_
      exact W.iret (v := 0) hx hb_ hr (fun t_ ht hW => ⟨⟨_, (S, vp_updL fo (0 : Int32).toNatClampNeg 0), rfl, ⟨r_, hw, fun _ => by rw [if_pos c_7]; exact u0L fo _⟩, by rw [ht]; exact hP, hD⟩, hS_.F ht⟩) hS_.2.2 dL_isOn_23
    · refine lv_lconst (v := 1) hx hb_ dL_isOn_10 (by decide) ?_
      refine lv_goto (tgt := 15) hx hb_ dL_isOn_11 (by decide) ?_
      refine va_last (f := fo) (n := 1) hx hb_ hK_ hP hD hS_ 14 2 rfl rfl vin01 dL_isOn_15 (fun H locs hP hD hS_ => ?_)
      have hP : va_P D vwCl (wX cI cZ x_ a_ S ++ [wO cJ ou (vp_updL fo (0 : Int32).toNatClampNeg 1)]) H := hP
      have hD : va_D A (wX cI cZ x_ a_ S ++ [wO cJ ou (vp_updL fo (0 : Int32).toNatClampNeg 1)]) := hD
      refine lv_goto (tgt := 22) hx hb_ dL_isOn_16 (by decide) ?_
      refine lv_iconst (v := 0) hx hb_ dL_isOn_22 (by decide) ?_
      refine W.widen (k := 1) (n := 6) (by omega) (by omega) ?_
      exact W.iret (v := 0) hx hb_ hr (fun t_ ht hW => ⟨⟨_, (S, vp_updL fo (0 : Int32).toNatClampNeg 1), rfl, ⟨r_, hw, fun _ => by rw [if_neg c_7]; exact u0L fo _⟩, by rw [ht]; exact hP, hD⟩, hS_.F ht⟩) hS_.2.2 dL_isOn_23
abbrev rmL_guess : Room := ({ frames := 8, cells := 1, slots := 6, locals := 135 } : Room)
set_option maxHeartbeats 4000000 in
set_option maxRecDepth 100000 in
theorem c_L_guess (l : Launch) (hfl : l.stackTraces = false) (D : va_G) (cI cZ cJ : ClassId) (x_ ou : Nat) (a_ : Nat → Nat) (S : ST) (fo : Nat → Int64) (sz : Nat) (g_ : Int32) (p_ : Int32) (m_ : Int32) : Met l yL_guess wsL_guess rmL_guess (va_Pc [.ref x_, .int g_, .int p_, .int m_, .ref ou] (fun U => (pW D (tyL cI cZ cJ) (wX cI cZ x_ a_ S ++ [wO cJ ou fo]) sz) U ∧ pL U)) (va_Qi (fun (r_ : Int32) (u_ : ST × (Nat → Int64)) => ∃ v_ : Int32, k_guess S g_ p_ m_ = (r_, v_, u_.1) ∧ (r_ = 0 → u_.2 0 = if v_ = 0 then 0 else 1)) (fun u_ t_ => atW D (wX cI cZ x_ a_ u_.1 ++ [wO cJ ou u_.2]) (va_A (wX cI cZ x_ a_ S ++ [wO cJ ou fo]) sz) t_) (va_A (wX cI cZ x_ a_ S ++ [wO cJ ou fo]) sz)) 1 6 (va_A (wX cI cZ x_ a_ S ++ [wO cJ ou fo]) sz) := by
  refine va_ofWH (cc := cL_guess) (maxL := 6) (ret := (some .int)) (hh := [(0, 19, 22, 13), (0, 19, 26, 17)]) (by decide) rfl ?_
  intro pr env s_ mid args below meth cod s₁ Bd hml hv
  obtain ⟨rfl, ⟨hsz, hP, hK_, hD0⟩, hG0, hN_⟩ := hv
  have hG : xG (fun q_ => s_.heap.size ≤ q_) s_ s_.heap := hG0
  have hx := Bd.exec
  have hb_ := Bd.bytes
  have hr := Bd.returns
  have hts := atoms_spec (ws := wsL_guess) Bd.pre
  have hown : s_.vm.findClass RL = some mid.cls := findClass_of_methodNamed Bd.named
  have hlocks := Bd.notSynchronized
  have htab : cod.exceptionTable.toList = tableOf [(0, 19, 22, 13), (0, 19, 26, 17)] := vx_table (x := objectInit) Bd (hts _ List.mem_cons_self)
  subst hsz
  have hD := hD0.self (sz := s_.heap.size)
  generalize hAe : va_A (wX cI cZ x_ a_ S ++ [wO cJ ou fo]) s_.heap.size = A at hD ⊢
  have hA : ∀ q_ : Nat, s_.heap.size ≤ q_ → A q_ := fun q_ h_ => by rw [← hAe]; exact Or.inr h_
  have hS_ : va_S A s_.heap s_.heap [] := va_S.rf
  have hP : va_P D vwCl (wX cI cZ x_ a_ S ++ [wO cJ ou fo]) s_.heap := hP
  have hl := lv_entry ([.ref x_, .int g_, .int p_, .int m_, .ref ou]) (n := 6) (Nat.le_of_ble_eq_true rfl)
  rw [lg_entry_eq]
  generalize (lg_sl ([.ref x_, .int g_, .int p_, .int m_, .ref ou]) ++ List.replicate (6 - (lg_sl ([.ref x_, .int g_, .int p_, .int m_, .ref ou])).length) Slot.unset).toArray = ls at hl ⊢
  have hl : lv_has ls 6 [(0, .ref x_), (1, .int g_), (2, .int p_), (3, .int m_), (4, .ref ou)] := hl
  refine lv_aload hx hb_ dL_guess_0 (lv_at hl 4 rfl) ?_
  refine lv_iconst (v := 0) hx hb_ dL_guess_2 (by decide) ?_
  refine lv_aload_n hx hb_ dL_guess_3 rfl (lv_at hl 0 rfl) ?_
  refine lv_iload_n hx hb_ dL_guess_4 rfl (lv_at hl 1 rfl) ?_
  refine lv_iload_n hx hb_ dL_guess_5 rfl (lv_at hl 2 rfl) ?_
  refine lv_iload_n hx hb_ dL_guess_6 rfl (lv_at hl 3 rfl) ?_
  have hPc := hP.sub (ws' := wX cI cZ x_ a_ S) [0, 1, 2, 3, 4, 5, 6, 7, 8, 9, 10, 11, 12, 13] rfl
  have hKc := hK_.sub (tys' := tyX cI cZ) [0, 1] rfl
  have hDc := hD.sub (ws' := wX cI cZ x_ a_ S) [0, 1, 2, 3, 4, 5, 6, 7, 8, 9, 10, 11, 12, 13] (by decide) rfl
  have hFc := va_free (wc := wX cI cZ x_ a_ S) hD hS_ hA [0, 1, 2, 3, 4, 5, 6, 7, 8, 9, 10, 11, 12, 13] rfl
  refine vy_calli (vy_runV (As := [.int g_, .int p_, .int m_]) (rest := [.int 0, .ref ou]) ⟨hx, hb_, hml, hown, hts⟩ (c_X0_guess l hfl D cI cZ x_ a_ S s_.heap.size g_ p_ m_ ) (cwV 3 hts gL_guess_X0_guess rfl rfl rfl (by decide +kernel) ⟨Nat.le_of_ble_eq_true rfl, Nat.le_of_ble_eq_true rfl⟩) (pT_V (pW_V (ci := 0) hPc hKc hDc rfl rfl) hG (fun _ h_ => h_)) rfl rfl hl.1 rfl (lv_room (Nat.le_of_ble_eq_true rfl)) dL_guess_7 ⟨Nat.le_of_ble_eq_true rfl, Nat.le_of_ble_eq_true rfl⟩) hS_ (fun q_ _ h_ => hFc q_ h_) hFc (fun E ce q9_ H1 locs hPE_ hz9 hk9 hS_ hc9 hv9 hcl9 => ?_) (fun r_ u_ t9 H1 locs ht9 hvm9 hw hB9 hz9 hk9 hS_ => ?_)
  · have hP1 : va_P D vwCl (wX cI cZ x_ a_ S ++ [wO cJ ou fo]) H1 := hP.grown hk9
    rcases hPE_ with ⟨rfl, hk⟩ | ⟨rfl, hk⟩
    · skip
      refine vx_catch hown [] ⟨0, 19, 22, 13⟩ [⟨0, 19, 26, 17⟩] (by rw [htab]; rfl) (fun z_ hz => absurd hz List.not_mem_nil) rfl (by decide) (hts (.classLink RL 13 xIO) (by decide +kernel)) (va_Nw.use rfl (hG.2.2.1 _ (List.mem_of_getElem? (i := 3) rfl))) hc9 hv9 hcl9 ?_
      refine lv_astore (lv' := [(5, .ref q9_), (0, .ref x_), (1, .int g_), (2, .int p_), (3, .int m_), (4, .ref ou)]) hx hb_ dL_guess_22 hl (by decide) rfl (fun ls hl => ?_)
      refine lv_iconst (v := 1) hx hb_ dL_guess_24 (by decide) ?_
      refine W.widen (k := 1) (n := 6) (by omega) (by omega) ?_
      exact W.iret (v := 1) hx hb_ hr (fun t_ ht hW => ⟨⟨_, (S, fo), rfl, ⟨0, hk, fun h_ => absurd h_ (by decide)⟩, by rw [ht]; exact hP1, hD⟩, hS_.F ht⟩) hS_.2.2 dL_guess_25
    · skip
      refine vx_catch hown [⟨0, 19, 22, 13⟩] ⟨0, 19, 26, 17⟩ [] (by rw [htab]; rfl) (fun z_ hz => by rw [List.mem_singleton.mp hz]; exact Or.inr ⟨by decide, xIO, hts (.classLink RL 13 xIO) (by decide +kernel), hN_.2.1⟩) rfl (by decide) (hts (.classLink RL 17 xIS) (by decide +kernel)) (va_Nw.use rfl (hG.2.2.1 _ (List.mem_of_getElem? (i := 5) rfl))) hc9 hv9 hcl9 ?_
      refine lv_astore (lv' := [(5, .ref q9_), (0, .ref x_), (1, .int g_), (2, .int p_), (3, .int m_), (4, .ref ou)]) hx hb_ dL_guess_26 hl (by decide) rfl (fun ls hl => ?_)
      refine lv_iconst (v := 2) hx hb_ dL_guess_28 (by decide) ?_
      refine W.widen (k := 1) (n := 6) (by omega) (by omega) ?_
      exact W.iret (v := 2) hx hb_ hr (fun t_ ht hW => ⟨⟨_, (S, fo), rfl, ⟨0, hk, fun h_ => absurd h_ (by decide)⟩, by rw [ht]; exact hP1, hD⟩, hS_.F ht⟩) hS_.2.2 dL_guess_29
  · have hJ9 := va_join (wr := [wO cJ ou fo]) hP hD [0, 1, 2, 3, 4, 5, 6, 7, 8, 9, 10, 11, 12, 13] [14] rfl rfl (by decide) (by decide) hk9 hFc (atW_P hB9 ht9) hB9.2
    have hP : va_P D vwCl (wX cI cZ x_ a_ u_ ++ [wO cJ ou fo]) H1 := hJ9.1.sub [1, 2, 3, 4, 5, 6, 7, 8, 9, 10, 11, 12, 13, 14, 0] rfl
    have hD : va_D A (wX cI cZ x_ a_ u_ ++ [wO cJ ou fo]) := hJ9.2.sub [1, 2, 3, 4, 5, 6, 7, 8, 9, 10, 11, 12, 13, 14, 0] (by decide) rfl
    refine lv_if_eq (tgt := 17) hx hb_ dL_guess_10 (by decide) (fun c_10 => ?_) (fun c_10 => ?_)
    · refine lv_lconst (v := 0) hx hb_ dL_guess_17 (by decide) ?_
      refine va_last (f := fo) (n := 1) hx hb_ hK_ hP hD hS_ 14 2 rfl rfl vin01 dL_guess_18 (fun H locs hP hD hS_ => ?_)
      have hP : va_P D vwCl (wX cI cZ x_ a_ u_ ++ [wO cJ ou (vp_updL fo (0 : Int32).toNatClampNeg 0)]) H := hP
      have hD : va_D A (wX cI cZ x_ a_ u_ ++ [wO cJ ou (vp_updL fo (0 : Int32).toNatClampNeg 0)]) := hD
      refine lv_goto (tgt := 30) hx hb_ dL_guess_19 (by decide) ?_
      refine lv_iconst (v := 0) hx hb_ dL_guess_30 (by decide) ?_
      refine W.widen (k := 1) (n := 6) (by omega) (by omega) ?_
      exact W.iret (v := 0) hx hb_ hr (fun t_ ht hW => ⟨⟨_, (u_, vp_updL fo (0 : Int32).toNatClampNeg 0), rfl, ⟨r_, hw, fun _ => by rw [if_pos c_10]; exact u0L fo _⟩, by rw [ht]; exact hP, hD⟩, hS_.F ht⟩) hS_.2.2 dL_guess_31
    · refine lv_lconst (v := 1) hx hb_ dL_guess_13 (by decide) ?_
      refine lv_goto (tgt := 18) hx hb_ dL_guess_14 (by decide) ?_
      refine va_last (f := fo) (n := 1) hx hb_ hK_ hP hD hS_ 14 2 rfl rfl vin01 dL_guess_18 (fun H locs hP hD hS_ => ?_)
      have hP : va_P D vwCl (wX cI cZ x_ a_ u_ ++ [wO cJ ou (vp_updL fo (0 : Int32).toNatClampNeg 1)]) H := hP
      have hD : va_D A (wX cI cZ x_ a_ u_ ++ [wO cJ ou (vp_updL fo (0 : Int32).toNatClampNeg 1)]) := hD
      refine lv_goto (tgt := 30) hx hb_ dL_guess_19 (by decide) ?_
      refine lv_iconst (v := 0) hx hb_ dL_guess_30 (by decide) ?_
      refine W.widen (k := 1) (n := 6) (by omega) (by omega) ?_
      exact W.iret (v := 0) hx hb_ hr (fun t_ ht hW => ⟨⟨_, (u_, vp_updL fo (0 : Int32).toNatClampNeg 1), rfl, ⟨r_, hw, fun _ => by rw [if_neg c_10]; exact u0L fo _⟩, by rw [ht]; exact hP, hD⟩, hS_.F ht⟩) hS_.2.2 dL_guess_31
abbrev rmL_points : Room := ({ frames := 8, cells := 1, slots := 6, locals := 131 } : Room)
set_option maxHeartbeats 4000000 in
set_option maxRecDepth 100000 in
theorem c_L_points (l : Launch) (hfl : l.stackTraces = false) (D : va_G) (cI cZ cJ : ClassId) (x_ ou : Nat) (a_ : Nat → Nat) (S : ST) (fo : Nat → Int64) (sz : Nat) (g_ : Int32) : Met l yL_points wsL_points rmL_points (va_Pc [.ref x_, .int g_, .ref ou] (fun U => (pW D (tyL cI cZ cJ) (wX cI cZ x_ a_ S ++ [wO cJ ou fo]) sz) U ∧ pL U)) (va_Qi (fun (r_ : Int32) (u_ : ST × (Nat → Int64)) => ∃ v_ : Int32, k_points S g_ = (r_, v_, u_.1) ∧ (r_ = 0 → u_.2 0 = v_.toInt64)) (fun u_ t_ => atW D (wX cI cZ x_ a_ u_.1 ++ [wO cJ ou u_.2]) (va_A (wX cI cZ x_ a_ S ++ [wO cJ ou fo]) sz) t_) (va_A (wX cI cZ x_ a_ S ++ [wO cJ ou fo]) sz)) 1 6 (va_A (wX cI cZ x_ a_ S ++ [wO cJ ou fo]) sz) := by
  refine va_ofWH (cc := cL_points) (maxL := 4) (ret := (some .int)) (hh := [(0, 9, 12, 13)]) (by decide) rfl ?_
  intro pr env s_ mid args below meth cod s₁ Bd hml hv
  obtain ⟨rfl, ⟨hsz, hP, hK_, hD0⟩, hG0, hN_⟩ := hv
  have hG : xG (fun q_ => s_.heap.size ≤ q_) s_ s_.heap := hG0
  have hx := Bd.exec
  have hb_ := Bd.bytes
  have hr := Bd.returns
  have hts := atoms_spec (ws := wsL_points) Bd.pre
  have hown : s_.vm.findClass RL = some mid.cls := findClass_of_methodNamed Bd.named
  have hlocks := Bd.notSynchronized
  have htab : cod.exceptionTable.toList = tableOf [(0, 9, 12, 13)] := vx_table (x := objectInit) Bd (hts _ List.mem_cons_self)
  subst hsz
  have hD := hD0.self (sz := s_.heap.size)
  generalize hAe : va_A (wX cI cZ x_ a_ S ++ [wO cJ ou fo]) s_.heap.size = A at hD ⊢
  have hA : ∀ q_ : Nat, s_.heap.size ≤ q_ → A q_ := fun q_ h_ => by rw [← hAe]; exact Or.inr h_
  have hS_ : va_S A s_.heap s_.heap [] := va_S.rf
  have hP : va_P D vwCl (wX cI cZ x_ a_ S ++ [wO cJ ou fo]) s_.heap := hP
  have hl := lv_entry ([.ref x_, .int g_, .ref ou]) (n := 4) (Nat.le_of_ble_eq_true rfl)
  rw [lg_entry_eq]
  generalize (lg_sl ([.ref x_, .int g_, .ref ou]) ++ List.replicate (4 - (lg_sl ([.ref x_, .int g_, .ref ou])).length) Slot.unset).toArray = ls at hl ⊢
  have hl : lv_has ls 4 [(0, .ref x_), (1, .int g_), (2, .ref ou)] := hl
  refine lv_aload_n hx hb_ dL_points_0 rfl (lv_at hl 2 rfl) ?_
  refine lv_iconst (v := 0) hx hb_ dL_points_1 (by decide) ?_
  refine lv_aload_n hx hb_ dL_points_2 rfl (lv_at hl 0 rfl) ?_
  refine lv_iload_n hx hb_ dL_points_3 rfl (lv_at hl 1 rfl) ?_
  have hPc := hP.sub (ws' := wX cI cZ x_ a_ S) [0, 1, 2, 3, 4, 5, 6, 7, 8, 9, 10, 11, 12, 13] rfl
  have hKc := hK_.sub (tys' := tyX cI cZ) [0, 1] rfl
  refine vy_csi (vy_runV (As := [.int g_]) (rest := [.int 0, .ref ou]) ⟨hx, hb_, hml, hown, hts⟩ (c_X0_points l hfl D cI cZ x_ a_ S g_ ) (cwV 1 hts gL_points_X0_points rfl rfl rfl (by decide +kernel) ⟨Nat.le_of_ble_eq_true rfl, Nat.le_of_ble_eq_true rfl⟩) (pT_V (pR_V (ci := 0) hPc hKc rfl rfl) hG (fun _ h_ => h_)) rfl rfl hl.1 rfl (lv_room (Nat.le_of_ble_eq_true rfl)) dL_points_4 ⟨Nat.le_of_ble_eq_true rfl, Nat.le_of_ble_eq_true rfl⟩) (fun E ce q9_ H1 hPE_ hz9 hk9 hc9 hv9 hcl9 => ?_) (fun r_ hw => ?_)
  · have hP1 : va_P D vwCl (wX cI cZ x_ a_ S ++ [wO cJ ou fo]) H1 := hP.grown hk9
    have hS_ : va_S A s_.heap H1 [] := ⟨hz9, fun q_ h_ _ => hk9 q_ h_, fun q_ h_ => by cases h_⟩
    obtain ⟨rfl, hk⟩ := hPE_
    refine vx_catch hown [] ⟨0, 9, 12, 13⟩ [] (by rw [htab]; rfl) (fun z_ hz => absurd hz List.not_mem_nil) rfl (by decide) (hts (.classLink RL 13 xIO) (by decide +kernel)) (va_Nw.use rfl (hG.2.2.1 _ (List.mem_of_getElem? (i := 3) rfl))) hc9 hv9 hcl9 ?_
    refine lv_astore_n (lv' := [(3, .ref q9_), (0, .ref x_), (1, .int g_), (2, .ref ou)]) hx hb_ dL_points_12 rfl hl (by decide) rfl (fun ls hl => ?_)
    refine lv_iconst (v := 1) hx hb_ dL_points_13 (by decide) ?_
    refine W.widen (k := 1) (n := 6) (by omega) (by omega) ?_
    exact W.iret (v := 1) hx hb_ hr (fun t_ ht hW => ⟨⟨_, (S, fo), rfl, ⟨0, hk, fun h_ => absurd h_ (by decide)⟩, by rw [ht]; exact hP1, hD⟩, hS_.F ht⟩) hS_.2.2 dL_points_14
  · skip
    refine lv_i2l (v := r_.toInt64) hx hb_ dL_points_7 rfl ?_
    refine va_last (f := fo) (n := 1) hx hb_ hK_ hP hD hS_ 14 2 rfl rfl vin01 dL_points_8 (fun H locs hP hD hS_ => ?_)
    have hP : va_P D vwCl (wX cI cZ x_ a_ S ++ [wO cJ ou (vp_updL fo (0 : Int32).toNatClampNeg r_.toInt64)]) H := hP
    have hD : va_D A (wX cI cZ x_ a_ S ++ [wO cJ ou (vp_updL fo (0 : Int32).toNatClampNeg r_.toInt64)]) := hD
    refine lv_goto (tgt := 15) hx hb_ dL_points_9 (by decide) ?_
    refine lv_iconst (v := 0) hx hb_ dL_points_15 (by decide) ?_
    refine W.widen (k := 1) (n := 6) (by omega) (by omega) ?_
    exact W.iret (v := 0) hx hb_ hr (fun t_ ht hW => ⟨⟨_, (S, vp_updL fo (0 : Int32).toNatClampNeg r_.toInt64), rfl, ⟨r_, hw, fun _ => u0L fo _⟩, by rw [ht]; exact hP, hD⟩, hS_.F ht⟩) hS_.2.2 dL_points_16
abbrev rmL_endPlay : Room := ({ frames := 7, cells := 1, slots := 6, locals := 110 } : Room)
set_option maxHeartbeats 4000000 in
set_option maxRecDepth 100000 in
theorem c_L_endPlay (l : Launch) (hfl : l.stackTraces = false) (D : va_G) (cI cZ cJ : ClassId) (x_ ou : Nat) (a_ : Nat → Nat) (S : ST) (fo : Nat → Int64) (sz : Nat) (B : Nat) (hI_ : Inv B S) (hB_ : B ≤ 100000) : Met l yL_endPlay wsL_endPlay rmL_endPlay (va_Pc [.ref x_, .ref ou] (fun U => (pW D (tyL cI cZ cJ) (wX cI cZ x_ a_ S ++ [wO cJ ou fo]) sz) U ∧ pL U)) (va_Qi (fun (r_ : Int32) (u_ : ST × (Nat → Int64)) => ∃ v_ : Int32, k_endPlay S = (r_, v_, u_.1) ∧ (r_ = 0 → u_.2 0 = v_.toInt64)) (fun u_ t_ => atW D (wX cI cZ x_ a_ u_.1 ++ [wO cJ ou u_.2]) (va_A (wX cI cZ x_ a_ S ++ [wO cJ ou fo]) sz) t_) (va_A (wX cI cZ x_ a_ S ++ [wO cJ ou fo]) sz)) 1 6 (va_A (wX cI cZ x_ a_ S ++ [wO cJ ou fo]) sz) := by
  refine va_ofWH (cc := cL_endPlay) (maxL := 3) (ret := (some .int)) (hh := [(0, 8, 11, 17)]) (by decide) rfl ?_
  intro pr env s_ mid args below meth cod s₁ Bd hml hv
  obtain ⟨rfl, ⟨hsz, hP, hK_, hD0⟩, hG0, hN_⟩ := hv
  have hG : xG (fun q_ => s_.heap.size ≤ q_) s_ s_.heap := hG0
  have hx := Bd.exec
  have hb_ := Bd.bytes
  have hr := Bd.returns
  have hts := atoms_spec (ws := wsL_endPlay) Bd.pre
  have hown : s_.vm.findClass RL = some mid.cls := findClass_of_methodNamed Bd.named
  have hlocks := Bd.notSynchronized
  have htab : cod.exceptionTable.toList = tableOf [(0, 8, 11, 17)] := vx_table (x := objectInit) Bd (hts _ List.mem_cons_self)
  subst hsz
  have hD := hD0.self (sz := s_.heap.size)
  generalize hAe : va_A (wX cI cZ x_ a_ S ++ [wO cJ ou fo]) s_.heap.size = A at hD ⊢
  have hA : ∀ q_ : Nat, s_.heap.size ≤ q_ → A q_ := fun q_ h_ => by rw [← hAe]; exact Or.inr h_
  have hS_ : va_S A s_.heap s_.heap [] := va_S.rf
  have hP : va_P D vwCl (wX cI cZ x_ a_ S ++ [wO cJ ou fo]) s_.heap := hP
  have hl := lv_entry ([.ref x_, .ref ou]) (n := 3) (Nat.le_of_ble_eq_true rfl)
  rw [lg_entry_eq]
  generalize (lg_sl ([.ref x_, .ref ou]) ++ List.replicate (3 - (lg_sl ([.ref x_, .ref ou])).length) Slot.unset).toArray = ls at hl ⊢
  have hl : lv_has ls 3 [(0, .ref x_), (1, .ref ou)] := hl
  refine lv_aload_n hx hb_ dL_endPlay_0 rfl (lv_at hl 1 rfl) ?_
  refine lv_iconst (v := 0) hx hb_ dL_endPlay_1 (by decide) ?_
  refine lv_aload_n hx hb_ dL_endPlay_2 rfl (lv_at hl 0 rfl) ?_
  have hPc := hP.sub (ws' := wX cI cZ x_ a_ S) [0, 1, 2, 3, 4, 5, 6, 7, 8, 9, 10, 11, 12, 13] rfl
  have hKc := hK_.sub (tys' := tyX cI cZ) [0, 1] rfl
  have hDc := hD.sub (ws' := wX cI cZ x_ a_ S) [0, 1, 2, 3, 4, 5, 6, 7, 8, 9, 10, 11, 12, 13] (by decide) rfl
  have hFc := va_free (wc := wX cI cZ x_ a_ S) hD hS_ hA [0, 1, 2, 3, 4, 5, 6, 7, 8, 9, 10, 11, 12, 13] rfl
  refine vy_calli (vy_runV (As := []) (rest := [.int 0, .ref ou]) ⟨hx, hb_, hml, hown, hts⟩ (c_X0_endPlay l hfl D cI cZ x_ a_ S s_.heap.size  B hI_ hB_) (cwV 0 hts gL_endPlay_X0_endPlay rfl rfl rfl (by decide +kernel) ⟨Nat.le_of_ble_eq_true rfl, Nat.le_of_ble_eq_true rfl⟩) (pT_V (pW_V (ci := 0) hPc hKc hDc rfl rfl) hG (fun _ h_ => h_)) rfl rfl hl.1 rfl (lv_room (Nat.le_of_ble_eq_true rfl)) dL_endPlay_3 ⟨Nat.le_of_ble_eq_true rfl, Nat.le_of_ble_eq_true rfl⟩) hS_ (fun q_ _ h_ => hFc q_ h_) hFc (fun E ce q9_ H1 locs hPE_ hz9 hk9 hS_ hc9 hv9 hcl9 => ?_) (fun r_ u_ t9 H1 locs ht9 hvm9 hw hB9 hz9 hk9 hS_ => ?_)
  · have hP1 : va_P D vwCl (wX cI cZ x_ a_ S ++ [wO cJ ou fo]) H1 := hP.grown hk9
    obtain ⟨rfl, hk⟩ := hPE_
    refine vx_catch hown [] ⟨0, 8, 11, 17⟩ [] (by rw [htab]; rfl) (fun z_ hz => absurd hz List.not_mem_nil) rfl (by decide) (hts (.classLink RL 17 xIS) (by decide +kernel)) (va_Nw.use rfl (hG.2.2.1 _ (List.mem_of_getElem? (i := 5) rfl))) hc9 hv9 hcl9 ?_
    refine lv_astore_n (lv' := [(2, .ref q9_), (0, .ref x_), (1, .ref ou)]) hx hb_ dL_endPlay_11 rfl hl (by decide) rfl (fun ls hl => ?_)
    refine lv_iconst (v := 1) hx hb_ dL_endPlay_12 (by decide) ?_
    refine W.widen (k := 1) (n := 6) (by omega) (by omega) ?_
    exact W.iret (v := 1) hx hb_ hr (fun t_ ht hW => ⟨⟨_, (S, fo), rfl, ⟨0, hk, fun h_ => absurd h_ (by decide)⟩, by rw [ht]; exact hP1, hD⟩, hS_.F ht⟩) hS_.2.2 dL_endPlay_13
  · have hJ9 := va_join (wr := [wO cJ ou fo]) hP hD [0, 1, 2, 3, 4, 5, 6, 7, 8, 9, 10, 11, 12, 13] [14] rfl rfl (by decide) (by decide) hk9 hFc (atW_P hB9 ht9) hB9.2
    have hP : va_P D vwCl (wX cI cZ x_ a_ u_ ++ [wO cJ ou fo]) H1 := hJ9.1.sub [1, 2, 3, 4, 5, 6, 7, 8, 9, 10, 11, 12, 13, 14, 0] rfl
    have hD : va_D A (wX cI cZ x_ a_ u_ ++ [wO cJ ou fo]) := hJ9.2.sub [1, 2, 3, 4, 5, 6, 7, 8, 9, 10, 11, 12, 13, 14, 0] (by decide) rfl
    refine lv_i2l (v := r_.toInt64) hx hb_ dL_endPlay_6 rfl ?_
    refine va_last (f := fo) (n := 1) hx hb_ hK_ hP hD hS_ 14 2 rfl rfl vin01 dL_endPlay_7 (fun H locs hP hD hS_ => ?_)
    have hP : va_P D vwCl (wX cI cZ x_ a_ u_ ++ [wO cJ ou (vp_updL fo (0 : Int32).toNatClampNeg r_.toInt64)]) H := hP
    have hD : va_D A (wX cI cZ x_ a_ u_ ++ [wO cJ ou (vp_updL fo (0 : Int32).toNatClampNeg r_.toInt64)]) := hD
    refine lv_goto (tgt := 14) hx hb_ dL_endPlay_8 (by decide) ?_
    refine lv_iconst (v := 0) hx hb_ dL_endPlay_14 (by decide) ?_
    refine W.widen (k := 1) (n := 6) (by omega) (by omega) ?_
    exact W.iret (v := 0) hx hb_ hr (fun t_ ht hW => ⟨⟨_, (u_, vp_updL fo (0 : Int32).toNatClampNeg r_.toInt64), rfl, ⟨r_, hw, fun _ => u0L fo _⟩, by rw [ht]; exact hP, hD⟩, hS_.F ht⟩) hS_.2.2 dL_endPlay_15
