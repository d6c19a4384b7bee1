/-! THE WORLDS: the class's object x with its arrays a r (r: the row of the state), the reference's object y with its arrays b r -/
abbrev wXr (cI cZ : ClassId) (x : Nat) (a : Nat → Nat) (f0 f1 f2 f3 f4 f5 f6 f7 f8 f9 : Nat → Int32) (n10 n11 : Int32) (f12 f13 : Nat → Int32) (n14 n15 : Int32) (f16 : Nat → Int32) : va_W :=
  [(x, .inr (0, [.ref (a 0), .ref (a 1), .ref (a 2), .ref (a 3), .ref (a 4), .ref (a 5), .ref (a 6), .ref (a 7), .ref (a 8), .ref (a 9), .int n10, .int n11, .ref (a 12), .ref (a 13), .int n14, .int n15, .ref (a 16)])), (a 0, .inl (cI, 6, .inl f0)), (a 1, .inl (cI, 6, .inl f1)), (a 2, .inl (cZ, 6, .inl f2)), (a 3, .inl (cI, 8, .inl f3)), (a 4, .inl (cI, 24, .inl f4)), (a 5, .inl (cI, 24, .inl f5)), (a 6, .inl (cI, 24, .inl f6)), (a 7, .inl (cI, 24, .inl f7)), (a 8, .inl (cI, 24, .inl f8)), (a 9, .inl (cI, 24, .inl f9)), (a 12, .inl (cI, 3, .inl f12)), (a 13, .inl (cZ, 18, .inl f13)), (a 16, .inl (cI, 6, .inl f16))]
abbrev wX (cI cZ : ClassId) (x : Nat) (a : Nat → Nat) (S : ST) : va_W := wXr cI cZ x a (S 0) (S 1) (S 2) (S 3) (S 4) (S 5) (S 6) (S 7) (S 8) (S 9) (S 10 0) (S 11 0) (S 12) (S 13) (S 14 0) (S 15 0) (S 16)
abbrev wMr (cI : ClassId) (y : Nat) (b : Nat → Nat) (f0 f1 f2 f3 f4 f5 f6 f7 f8 f9 : Nat → Int32) (n10 n11 : Int32) (f12 f13 : Nat → Int32) (n14 n15 : Int32) (f16 : Nat → Int32) (t : Int32) : va_W :=
  [(y, .inr (1, [.ref (b 1), .ref (b 2), .ref (b 0), .ref (b 3), .ref (b 4), .ref (b 5), .ref (b 6), .ref (b 7), .ref (b 8), .ref (b 9), .int n10, .int n11, .ref (b 13), .ref (b 12), .ref (b 16), .int n14, .int n15, .int t])), (b 1, .inl (cI, 6, .inl f1)), (b 2, .inl (cI, 6, .inl f2)), (b 0, .inl (cI, 6, .inl f0)), (b 3, .inl (cI, 8, .inl f3)), (b 4, .inl (cI, 24, .inl f4)), (b 5, .inl (cI, 24, .inl f5)), (b 6, .inl (cI, 24, .inl f6)), (b 7, .inl (cI, 24, .inl f7)), (b 8, .inl (cI, 24, .inl f8)), (b 9, .inl (cI, 24, .inl f9)), (b 13, .inl (cI, 18, .inl f13)), (b 12, .inl (cI, 3, .inl f12)), (b 16, .inl (cI, 6, .inl f16))]
abbrev wM (cI : ClassId) (y : Nat) (b : Nat → Nat) (S : ST) (t : Int32) : va_W := wMr cI y b (S 0) (S 1) (S 2) (S 3) (S 4) (S 5) (S 6) (S 7) (S 8) (S 9) (S 10 0) (S 11 0) (S 12) (S 13) (S 14 0) (S 15 0) (S 16) t
abbrev tyX (cI cZ : ClassId) : List (ClassId × FieldType) := [(cI, .int), (cZ, .boolean)]
abbrev tyM (cI : ClassId) : List (ClassId × FieldType) := [(cI, .int)]
/-! what a throw of the class needs beside the tables' good words -/
abbrev xNm : List String := ["java/lang/RuntimeException", "java/lang/Exception"]
abbrev xIO : String := "java/lang/IndexOutOfBoundsException"
abbrev xIA : String := "java/lang/IllegalArgumentException"
abbrev xIS : String := "java/lang/IllegalStateException"
def xB : List Cond := [.declares (Bundle.initS "java/lang/RuntimeException"), .declares (Bundle.initS "java/lang/Exception"), .declares (Bundle.initS Bundle.tN), .castable xIO xIO, .castable xIA xIA, .castable xIS xIS]
def xStr : List (Nat × String) := [(107, "the play has no room for another cue"), (109, "a player cannot swap with itself"), (111, "the cue for which to wait was missed"), (117, "the cue cannot be called"), (129, "the cue is not waiting"), (147, "the player is not on stage with a mask"), (149, "the guesser has guessed this part in this play"), (154, "some cue is waiting"), (176, "no such player"), (179, "no such mask"), (181, "no such costume"), (183, "no such guesser"), (185, "no such cue"), (73, "the costume does not fit"), (80, "the player is on stage"), (87, "the costume is on another player"), (89, "the costume is torn"), (95, "no such kind of cue")]
theorem xB_tabs : ∀ w ∈ xB, w.onTables = true := by
  intro w hw
  simp only [xB, List.mem_cons, List.not_mem_nil, or_false] at hw
  rcases hw with rfl | rfl | rfl | rfl | rfl | rfl <;> rfl
def xG (A : Nat → Prop) (U : State) (H : Heap) : Prop :=
  vx_Zq Bundle.tN "UNASSIGNED_STACK" Bundle.steD A U H ∧ vx_Zq Bundle.tN "SUPPRESSED_SENTINEL" Bundle.listD A U H ∧ (∀ w ∈ xB, va_Nw w U) ∧ ∀ q ∈ xStr, ∃ sa, vk_R RX0 q.1 q.2 sa U
theorem xG.call {A : Nat → Prop} {s U : State} {H : Heap} (h : xG A s H) (hA : ∀ q, H.size ≤ q → A q) (hU : U.heap = H) (hW : s.WarmedH U.vm) : xG (fun q => U.heap.size ≤ q) U U.heap := by
  subst hU
  refine ⟨(h.1.narrow hA).moved hW.alike, (h.2.1.narrow hA).moved hW.alike, fun w hw => ?_, fun q hq => ?_⟩
  · have h1 := h.2.2.1 w hw
    simp only [xB, List.mem_cons, List.not_mem_nil, or_false] at hw
    rcases hw with rfl | rfl | rfl | rfl | rfl | rfl
    · exact va_Nw.warmD hW h1
    · exact va_Nw.warmD hW h1
    · exact va_Nw.warmD hW h1
    · exact va_tabs rfl (rfl : (s.setVm U.vm).vm = U.vm) (by rw [Cond.castable_setVm hW.alike]; exact h1)
    · exact va_tabs rfl (rfl : (s.setVm U.vm).vm = U.vm) (by rw [Cond.castable_setVm hW.alike]; exact h1)
    · exact va_tabs rfl (rfl : (s.setVm U.vm).vm = U.vm) (by rw [Cond.castable_setVm hW.alike]; exact h1)
  · obtain ⟨sa, h1⟩ := h.2.2.2 q hq
    exact ⟨sa, h1.warm hW⟩
theorem xG.blind {A : Nat → Prop} {U : State} {H : Heap} {g : JFrame} {mk : MethodId} {a : Array Value} (h : xG A U H) : xG A (U.calling g mk a) H :=
  ⟨vx_Zq.moved (u := U) (U := U.calling g mk a) (Vm.Alike.refl U.vm) h.1, vx_Zq.moved (u := U) (U := U.calling g mk a) (Vm.Alike.refl U.vm) h.2.1, fun w hw => va_Nw.same (u := U) (U := U.calling g mk a) (xB_tabs w hw) rfl (h.2.2.1 w hw),
   fun q hq => by
    obtain ⟨sa, h1⟩ := h.2.2.2 q hq
    exact ⟨sa, vk_R.same (u := U) (U := U.calling g mk a) rfl h1⟩⟩
theorem xG.kept {A : Nat → Prop} {s : State} {H H1 : Heap} (h : xG A s H) (hq : ∀ a : Nat, a < H.size → ¬ A a → H1[a]? = H[a]?) : xG A s H1 := ⟨h.1.kept hq, h.2.1.kept hq, h.2.2.1, h.2.2.2⟩
/-! contracts' starts and ends -/
def pN : State → Prop := fun _ => True
theorem pN_S {s : State} {H : Heap} {As : List Value} : PreS s H (va_Pc As pN) As := ⟨fun _ _ _ _ h => ⟨h.1, trivial⟩, fun _ _ _ => ⟨rfl, trivial⟩⟩
def pR (D : va_G) (tys : List (ClassId × FieldType)) (ws : va_W) : State → Prop := fun U => va_P D vwCl ws U.heap ∧ va_K D vwCl tys U
theorem pR_bl {av : List Value} {D : va_G} {tys : List (ClassId × FieldType)} {ws : va_W} : FrameBlind (va_Pc av (pR D tys ws)) := fun a U g mk h => ⟨h.1, h.2.1, va_K.moved (u := U) (U := U.calling g mk a) (Vm.Alike.refl U.vm) h.2.2⟩
theorem pR_S {s : State} {H : Heap} {D : va_G} {tys : List (ClassId × FieldType)} {ws : va_W} {As : List Value} (hP : va_P D vwCl ws H) (hK : va_K D vwCl tys s) : PreS s H (va_Pc As (pR D tys ws)) As :=
  ⟨pR_bl, fun U hU hW => ⟨rfl, by rw [hU]; exact hP, va_K.moved hW.alike hK⟩⟩
theorem pR_V {s : State} {H : Heap} {D : va_G} {tys : List (ClassId × FieldType)} {ws : va_W} {As : List Value} {b ci : Nat} {fs : List Value} {q : vw_C} (hP : va_P D vwCl ws H) (hK : va_K D vwCl tys s) (hc : vwCl[ci]? = some q) (he : ws[0]? = some (b, .inr (ci, fs))) : PreV s H q.1 b (va_Pc (.ref b :: As) (pR D tys ws)) As :=
  ⟨pR_bl, va_recv hK hP hc he, fun U hU hW => ⟨rfl, by rw [hU]; exact hP, va_K.moved hW.alike hK⟩⟩
def pW (D : va_G) (tys : List (ClassId × FieldType)) (ws : va_W) (sz : Nat) : State → Prop := fun U => U.heap.size = sz ∧ va_P D vwCl ws U.heap ∧ va_K D vwCl tys U ∧ va_D (fun _ => True) ws
theorem pW_bl {av : List Value} {D : va_G} {tys : List (ClassId × FieldType)} {ws : va_W} {sz : Nat} : FrameBlind (va_Pc av (pW D tys ws sz)) := fun a U g mk h => ⟨h.1, h.2.1, h.2.2.1, va_K.moved (u := U) (U := U.calling g mk a) (Vm.Alike.refl U.vm) h.2.2.2.1, h.2.2.2.2⟩
theorem pW_S {s : State} {H : Heap} {D : va_G} {tys : List (ClassId × FieldType)} {ws : va_W} {As : List Value} {A : Nat → Prop} (hP : va_P D vwCl ws H) (hK : va_K D vwCl tys s) (hD : va_D A ws) : PreS s H (va_Pc As (pW D tys ws H.size)) As :=
  ⟨pW_bl, fun U hU hW => ⟨rfl, by rw [hU], by rw [hU]; exact hP, va_K.moved hW.alike hK, hD.weaken (fun _ _ _ _ => trivial)⟩⟩
theorem pW_V {s : State} {H : Heap} {D : va_G} {tys : List (ClassId × FieldType)} {ws : va_W} {As : List Value} {A : Nat → Prop} {b ci : Nat} {fs : List Value} {q : vw_C} (hP : va_P D vwCl ws H) (hK : va_K D vwCl tys s) (hD : va_D A ws) (hc : vwCl[ci]? = some q) (he : ws[0]? = some (b, .inr (ci, fs))) : PreV s H q.1 b (va_Pc (.ref b :: As) (pW D tys ws H.size)) As :=
  ⟨pW_bl, va_recv hK hP hc he, fun U hU hW => ⟨rfl, by rw [hU], by rw [hU]; exact hP, va_K.moved hW.alike hK, hD.weaken (fun _ _ _ _ => trivial)⟩⟩
def atW (D : va_G) (ws : va_W) (A : Nat → Prop) (t : State) : Prop := va_P D vwCl ws t.heap ∧ va_D A ws
def pG : State → Prop := fun U => xG (fun q => U.heap.size ≤ q) U U.heap
theorem pG_bl {B : State → Prop} {av : List Value} (h : FrameBlind (va_Pc av B)) : FrameBlind (va_Pc av (fun U => B U ∧ pG U)) := fun a U g mk q => ⟨q.1, (h a U g mk ⟨q.1, q.2.1⟩).2, xG.blind q.2.2⟩
theorem pT_S {B : State → Prop} {s : State} {H : Heap} {As : List Value} {A : Nat → Prop} (h : PreS s H (va_Pc As B) As) (hG : xG A s H) (hA : ∀ q, H.size ≤ q → A q) : PreS s H (va_Pc As (fun U => B U ∧ pG U)) As :=
  ⟨pG_bl h.1, fun U hU hW => ⟨rfl, (h.2 U hU hW).2, hG.call hA hU hW⟩⟩
theorem pT_V {B : State → Prop} {s : State} {H : Heap} {C : String} {b : Addr} {As : List Value} {A : Nat → Prop} (h : PreV s H C b (va_Pc (.ref b :: As) B) As) (hG : xG A s H) (hA : ∀ q, H.size ≤ q → A q) : PreV s H C b (va_Pc (.ref b :: As) (fun U => B U ∧ pG U)) As :=
  ⟨pG_bl h.1, h.2.1, fun U hU hW => ⟨rfl, (h.2.2 U hU hW).2, hG.call hA hU hW⟩⟩
theorem wfree {A0 : Nat → Prop} {ws : va_W} {H0 H : Heap} {locs : List Loc} (hD : va_D A0 ws) (hS : va_S A0 H0 H locs) (hA : ∀ q, H0.size ≤ q → A0 q) : ∀ q, va_A ws H.size q → A0 q := fun q h =>
  h.elim (fun ⟨k, e, hk⟩ => hD.2 k (q, e) hk) (fun h => hA q (Nat.le_trans hS.1 h))
theorem atW_P {D : va_G} {ws : va_W} {A : Nat → Prop} {t : State} {H1 : Heap} (h : atW D ws A t) (ht : t.heap = H1) : va_P D vwCl ws H1 := by rw [← ht]; exact h.1
theorem atW_D {D : va_G} {ws : va_W} {A A0 : Nat → Prop} {t : State} (h : atW D ws A t) (hF : ∀ q, A q → A0 q) : va_D A0 ws := h.2.weaken (fun _ q _ h => hF q.1 h)
/-! throws of the class -/
theorem xIO_b : ∀ w ∈ (vx_atS RX0 178 xIO xNm).filter (fun w => !goodWord w), w ∈ xB := by decide +kernel
theorem xIA_b : ∀ w ∈ (vx_atS RX0 75 xIA xNm).filter (fun w => !goodWord w), w ∈ xB := by decide +kernel
theorem xIS_b : ∀ w ∈ (vx_atS RX0 82 xIS xNm).filter (fun w => !goodWord w), w ∈ xB := by decide +kernel
theorem xIO_g : ∀ w ∈ Cond.classLink RX0 174 xIO :: Cond.initialized xIO :: vx_atS RX0 178 xIO xNm, vx_ot w = true := by decide +kernel
theorem xIA_g : ∀ w ∈ Cond.classLink RX0 71 xIA :: Cond.initialized xIA :: vx_atS RX0 75 xIA xNm, vx_ot w = true := by decide +kernel
theorem xIS_g : ∀ w ∈ Cond.classLink RX0 78 xIS :: Cond.initialized xIS :: vx_atS RX0 82 xIS xNm, vx_ot w = true := by decide +kernel
theorem x_throwS {p : Program} {l : Launch} {e : Env} {R : Room} {s : State} {m : MethodId} {args : Array Value} {below : List Frame} {meth : Method} {c : Code} {ls : Array Slot} {rest : List Value} {Qc : Array Value → State → Outcome → State → Prop} {P : String → Prop} {free : Addr → Prop} {cc : ByteArray} {pc : Nat}
    (hx : p.tables.exec = Jvm.exec) (hb : c.code = cc) (hl : l.stackTraces = false) (hown : s.vm.findClass RX0 = some m.cls) {cls text : String} {ik is ic : Nat} (hcls : Bundle.fit cls = true) (hk : (Cond.classLink RX0 ik cls).before args s = true) (hini : (Cond.initialized cls).before args s = true)
    (hg : ∀ w ∈ (vx_atS RX0 ic cls xNm).filter goodWord, w.before args s = true) (hb2 : ∀ w ∈ (vx_atS RX0 ic cls xNm).filter (fun w => !goodWord w), w ∈ xB) (hgood : ∀ w ∈ Cond.classLink RX0 ik cls :: Cond.initialized cls :: vx_atS RX0 ic cls xNm, vx_ot w = true)
    (hG : xG (fun q => s.heap.size ≤ q) s s.heap) (hst : (is, text) ∈ xStr) (hsize : ls.size = c.maxLocals)
    (d0 : decode cc pc = .ok (.new ik, 3)) (d3 : decode cc (pc + 3) = .ok (.dup, 1)) (d4 : decode cc (pc + 4) = .ok (.ldc is, 2)) (d6 : decode cc (pc + 6) = .ok (.invokespecial ic, 3)) (d9 : decode cc (pc + 9) = .ok (.athrow, 1))
    (hout : ∀ x ∈ c.exceptionTable.toList, False) (hR : 5 < R.frames ∧ (rest.map fun v => v.category).sum + 82 ≤ R.locals ∧ 1 ≤ R.cells ∧ 6 ≤ R.slots) (hlocks : meth.locks = false) (hP : P cls) :
    W p l e R s m args below meth c s.heap [] 0 0 (vy_MQ below Qc (xcs P) args s 1 6 free) (F0 m pc ls rest) := by
  obtain ⟨sa, hstr⟩ := hG.2.2.2 _ hst
  refine vy_wx (vx_throwS (names := xNm) (A := fun q => s.heap.size ≤ q) hx hb hl hown hcls (by decide) hk hini hstr
    (vx_hat hg hb2 (fun w hw => va_Nw.use (xB_tabs w hw) (hG.2.2.1 w hw))) hgood hG.1 hG.2.1 va_S.rf hsize d0 d3 d4 d6 d9 (fun x hx => (hout x hx).elim) hR.1 hR.2.1 (by have := hR.2.2.1; omega) (by have := hR.2.2.2; omega) hlocks
    (fun t _ h1 h2 => ⟨hP, h1, h2⟩) (fun z h => by cases h) (Nat.le_refl _) (Nat.le_refl _))
/-! answers that are yes or no -/
theorem cif_b1 {r : Int32} {P : Prop} (h : r = cif P 1 0) (h2 : ¬ r = 0) : P := by
  by_cases q : P
  · exact q
  · rw [cif_f q] at h
    exact absurd h h2
theorem cif_b0 {r : Int32} {P : Prop} (h : r = cif P 1 0) (h2 : r = 0) : ¬ P := fun q => by
  rw [cif_t q, h2] at h
  exact absurd h (by decide)
theorem cif_nar {P : Prop} : narrow .boolean (.int (cif P 1 0)) = .int (cif P 1 0) := by
  by_cases q : P
  · rw [cif_t q]; rfl
  · rw [cif_f q]; rfl
theorem cif_iff {P Q : Prop} {α : Sort _} {a b : α} (h : P ↔ Q) : cif P a b = cif Q a b := by rw [propext h]
