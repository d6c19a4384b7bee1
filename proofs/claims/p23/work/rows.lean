section
/-- a private method of a class that the tables say can be made, by its rows of tables_1 -/
def lw_okq (q : MethodName × Nat) : Prop := (q.1.cls ≠ "java/lang/invoke/MethodHandle" ∧ q.1.cls ≠ "java/lang/invoke/VarHandle") ∧ Cond.instantiable q.1.cls q.2 ∈ tables_1 ∧ Cond.privateMethod q.1 ∈ tables_1 ∧ Cond.instanceMethod q.1 ∈ tables_1
theorem lw_p0 : lw_okq (⟨"java/lang/Throwable", "fillInStackTrace", "(I)Ljava/lang/Throwable;"⟩, 6) := ⟨⟨by decide +kernel, by decide +kernel⟩, List.mem_of_getElem? (i := 124) (by decide +kernel), List.mem_of_getElem? (i := 122) (by decide +kernel), List.mem_of_getElem? (i := 123) (by decide +kernel)⟩
theorem lw_p1 : lw_okq (⟨"Clockmask", "moveMasks", "(I[I)V"⟩, 17) := ⟨⟨by decide +kernel, by decide +kernel⟩, List.mem_of_getElem? (i := 11) (by decide +kernel), List.mem_of_getElem? (i := 177) (by decide +kernel), List.mem_of_getElem? (i := 178) (by decide +kernel)⟩
theorem lw_p2 : lw_okq (⟨"Clockmask", "playerBehind", "(I)I"⟩, 17) := ⟨⟨by decide +kernel, by decide +kernel⟩, List.mem_of_getElem? (i := 11) (by decide +kernel), List.mem_of_getElem? (i := 189) (by decide +kernel), List.mem_of_getElem? (i := 190) (by decide +kernel)⟩
theorem lw_p3 : lw_okq (⟨"Clockmask", "requireCue", "(I)V"⟩, 17) := ⟨⟨by decide +kernel, by decide +kernel⟩, List.mem_of_getElem? (i := 11) (by decide +kernel), List.mem_of_getElem? (i := 219) (by decide +kernel), List.mem_of_getElem? (i := 220) (by decide +kernel)⟩
theorem lw_p4 : lw_okq (⟨"Clockmask", "isCallable", "(I)Z"⟩, 17) := ⟨⟨by decide +kernel, by decide +kernel⟩, List.mem_of_getElem? (i := 11) (by decide +kernel), List.mem_of_getElem? (i := 228) (by decide +kernel), List.mem_of_getElem? (i := 229) (by decide +kernel)⟩
theorem lw_p5 : lw_okq (⟨"Clockmask", "isReleased", "(I)Z"⟩, 17) := ⟨⟨by decide +kernel, by decide +kernel⟩, List.mem_of_getElem? (i := 11) (by decide +kernel), List.mem_of_getElem? (i := 232) (by decide +kernel), List.mem_of_getElem? (i := 233) (by decide +kernel)⟩
theorem lw_p6 : lw_okq (⟨"Clockmask", "canBeDone", "(I)Z"⟩, 17) := ⟨⟨by decide +kernel, by decide +kernel⟩, List.mem_of_getElem? (i := 11) (by decide +kernel), List.mem_of_getElem? (i := 236) (by decide +kernel), List.mem_of_getElem? (i := 237) (by decide +kernel)⟩
theorem lw_p7 : lw_okq (⟨"Clockmask", "canSwap", "(II)Z"⟩, 17) := ⟨⟨by decide +kernel, by decide +kernel⟩, List.mem_of_getElem? (i := 11) (by decide +kernel), List.mem_of_getElem? (i := 240) (by decide +kernel), List.mem_of_getElem? (i := 241) (by decide +kernel)⟩
theorem lw_p8 : lw_okq (⟨"Clockmask", "playerIn", "(I)I"⟩, 17) := ⟨⟨by decide +kernel, by decide +kernel⟩, List.mem_of_getElem? (i := 11) (by decide +kernel), List.mem_of_getElem? (i := 292) (by decide +kernel), List.mem_of_getElem? (i := 293) (by decide +kernel)⟩
theorem lw_p9 : lw_okq (⟨"Clockmask", "firstCallable", "()I"⟩, 17) := ⟨⟨by decide +kernel, by decide +kernel⟩, List.mem_of_getElem? (i := 11) (by decide +kernel), List.mem_of_getElem? (i := 313) (by decide +kernel), List.mem_of_getElem? (i := 314) (by decide +kernel)⟩
theorem lw_p10 : lw_okq (⟨"Clockmask", "carryOut", "(I)V"⟩, 17) := ⟨⟨by decide +kernel, by decide +kernel⟩, List.mem_of_getElem? (i := 11) (by decide +kernel), List.mem_of_getElem? (i := 317) (by decide +kernel), List.mem_of_getElem? (i := 318) (by decide +kernel)⟩
theorem lw_p11 : lw_okq (⟨"Clockmask", "leaveStage", "(I)V"⟩, 17) := ⟨⟨by decide +kernel, by decide +kernel⟩, List.mem_of_getElem? (i := 11) (by decide +kernel), List.mem_of_getElem? (i := 321) (by decide +kernel), List.mem_of_getElem? (i := 322) (by decide +kernel)⟩
theorem lw_p12 : lw_okq (⟨"Clockmask", "noteCalled", "(I)V"⟩, 17) := ⟨⟨by decide +kernel, by decide +kernel⟩, List.mem_of_getElem? (i := 11) (by decide +kernel), List.mem_of_getElem? (i := 325) (by decide +kernel), List.mem_of_getElem? (i := 326) (by decide +kernel)⟩
theorem lw_p13 : lw_okq (⟨"Clockmask", "waitsForMissed", "(I)Z"⟩, 17) := ⟨⟨by decide +kernel, by decide +kernel⟩, List.mem_of_getElem? (i := 11) (by decide +kernel), List.mem_of_getElem? (i := 337) (by decide +kernel), List.mem_of_getElem? (i := 338) (by decide +kernel)⟩
theorem lw_p14 : lw_okq (⟨"Clockmask", "countCues", "(I)I"⟩, 17) := ⟨⟨by decide +kernel, by decide +kernel⟩, List.mem_of_getElem? (i := 11) (by decide +kernel), List.mem_of_getElem? (i := 358) (by decide +kernel), List.mem_of_getElem? (i := 359) (by decide +kernel)⟩
theorem lw_p15 : lw_okq (⟨"Clockmask", "clearStage", "()V"⟩, 17) := ⟨⟨by decide +kernel, by decide +kernel⟩, List.mem_of_getElem? (i := 11) (by decide +kernel), List.mem_of_getElem? (i := 366) (by decide +kernel), List.mem_of_getElem? (i := 367) (by decide +kernel)⟩
def lw_privs_1 : List (MethodName × Nat) := [(⟨"java/lang/Throwable", "fillInStackTrace", "(I)Ljava/lang/Throwable;"⟩, 6), (⟨"Clockmask", "moveMasks", "(I[I)V"⟩, 17), (⟨"Clockmask", "playerBehind", "(I)I"⟩, 17), (⟨"Clockmask", "requireCue", "(I)V"⟩, 17), (⟨"Clockmask", "isCallable", "(I)Z"⟩, 17), (⟨"Clockmask", "isReleased", "(I)Z"⟩, 17), (⟨"Clockmask", "canBeDone", "(I)Z"⟩, 17), (⟨"Clockmask", "canSwap", "(II)Z"⟩, 17), (⟨"Clockmask", "playerIn", "(I)I"⟩, 17), (⟨"Clockmask", "firstCallable", "()I"⟩, 17), (⟨"Clockmask", "carryOut", "(I)V"⟩, 17), (⟨"Clockmask", "leaveStage", "(I)V"⟩, 17), (⟨"Clockmask", "noteCalled", "(I)V"⟩, 17), (⟨"Clockmask", "waitsForMissed", "(I)Z"⟩, 17), (⟨"Clockmask", "countCues", "(I)I"⟩, 17), (⟨"Clockmask", "clearStage", "()V"⟩, 17)]
theorem lw_r1 : ∀ q ∈ lw_privs_1, lw_okq q := List.forall_mem_cons.mpr ⟨lw_p0, List.forall_mem_cons.mpr ⟨lw_p1, List.forall_mem_cons.mpr ⟨lw_p2, List.forall_mem_cons.mpr ⟨lw_p3, List.forall_mem_cons.mpr ⟨lw_p4, List.forall_mem_cons.mpr ⟨lw_p5, List.forall_mem_cons.mpr ⟨lw_p6, List.forall_mem_cons.mpr ⟨lw_p7, List.forall_mem_cons.mpr ⟨lw_p8, List.forall_mem_cons.mpr ⟨lw_p9, List.forall_mem_cons.mpr ⟨lw_p10, List.forall_mem_cons.mpr ⟨lw_p11, List.forall_mem_cons.mpr ⟨lw_p12, List.forall_mem_cons.mpr ⟨lw_p13, List.forall_mem_cons.mpr ⟨lw_p14, List.forall_mem_cons.mpr ⟨lw_p15, fun _ h => absurd h List.not_mem_nil⟩⟩⟩⟩⟩⟩⟩⟩⟩⟩⟩⟩⟩⟩⟩⟩
theorem lw_p16 : lw_okq (⟨"Clockmask", "clearGuesses", "()V"⟩, 17) := ⟨⟨by decide +kernel, by decide +kernel⟩, List.mem_of_getElem? (i := 11) (by decide +kernel), List.mem_of_getElem? (i := 370) (by decide +kernel), List.mem_of_getElem? (i := 371) (by decide +kernel)⟩
def lw_privs_2 : List (MethodName × Nat) := [(⟨"Clockmask", "clearGuesses", "()V"⟩, 17)]
theorem lw_r2 : ∀ q ∈ lw_privs_2, lw_okq q := List.forall_mem_cons.mpr ⟨lw_p16, fun _ h => absurd h List.not_mem_nil⟩
def lw_privs : List (MethodName × Nat) := lw_privs_1 ++ (lw_privs_2)
def lw_tbl : List Cond := k2_sels lw_privs ++ tables_1
theorem lw_privs_ok : ∀ q ∈ lw_privs, lw_okq q := by
  show ∀ q ∈ lw_privs_1 ++ (lw_privs_2), lw_okq q
  exact List.forall_mem_append.mpr ⟨lw_r1, lw_r2⟩
end
section
/-! ===== BEGIN words of one list among another's, by their places ===== -/
theorem goodIn_r {big : List Cond} (ws : List Cond) (ps : List Nat) (hp : ws = ps.filterMap (fun i => big[i]?)) (h : ws.all goodWord = true) : GoodIn big ws := by
  intro w hw
  have h1 := List.all_eq_true.mp h w hw
  rw [hp] at hw
  obtain ⟨i, -, hi⟩ := List.mem_filterMap.mp hw
  have hm : w ∈ big := by first | exact List.mem_of_getElem? hi | exact List.getElem?_mem hi
  exact ⟨hm, good_of_word h1⟩
theorem goodIn_app {big a b : List Cond} (ha : GoodIn big a) (hb : GoodIn big b) : GoodIn big (a ++ b) := fun w h => (List.mem_append.mp h).elim (ha w) (hb w)
theorem goodIn_ca {big a b : List Cond} {c : Cond} (ha : GoodIn big (c :: a)) (hb : GoodIn big b) : GoodIn big (c :: (a ++ b)) := fun w h => (List.mem_cons.mp h).elim (fun e => ha w (List.mem_cons.mpr (Or.inl e))) (fun h => (List.mem_append.mp h).elim (fun h => ha w (List.mem_cons.mpr (Or.inr h))) (hb w))
theorem goodIn_sub {big ws : List Cond} (hm : ∀ w ∈ ws, w ∈ big) (h : ws.all goodWord = true) : GoodIn big ws := fun w hw => ⟨hm w hw, good_of_word (List.all_eq_true.mp h w hw)⟩
/-! ===== END ===== -/

/-! ===== BEGIN exceptions that leave a method, and their catching by the caller (launches without stack traces) ===== -/
section VXA
/-! The laws vx_back, vx_callV, vx_callS, vx_callSW, vx_throw0, vx_throwS follow proofs of the library, with one case more: JvmDerived/Free/Laws.lean (Back.of_free), Shelf42/LK1.lean (callV, callS), Shelf/KitTraced.lean (throwNew0V, throwNewS). -/
/-- where a method has thrown q: the class by its name, the cell, what was written, the world -/
def vx_T (XC : String → State → State → Prop) (st : State) (q : Addr) (t : State) (mc ms : Nat) (free : Addr → Prop) : Prop :=
  ∃ (E : String) (ce : Cell) (L : List Loc), XC E st t ∧ t.heap[q]? = some ce ∧ ce.vm = .none ∧ st.vm.findClass E = some ce.cls ∧ st.WarmedH t.vm ∧ st.sameButNew ({ t with vm := st.vm } : State) L mc ms ∧ ∀ z ∈ L, free z.base
def vx_Q (Qc : Array Value → State → Outcome → State → Prop) (XC : String → State → State → Prop) (mc ms : Nat) (free : Addr → Prop) : Array Value → State → Outcome → State → Prop := fun a st o t =>
  (Qc a st o t ∧ ∃ L, FrameEnd st o t L mc ms ∧ ∀ q ∈ L, free q.base) ∨ ∃ q, o = .threw q ∧ vx_T XC st q t mc ms free
/-- a callee that returns or throws -/
def vx_Met (l : Launch) (y : MethodName) (ws : List Cond) (rm : Room) (Pc : Array Value → State → Prop) (Qc : Array Value → State → Outcome → State → Prop) (XC : String → State → State → Prop) (mc ms : Nat) (free : Addr → Prop) : Prop :=
  MetFree l y (headSpec ws rm) Pc (fun _ _ _ _ _ => True) (vx_Q Qc XC mc ms free)
def vx_Post (XC : String → State → State → Prop) (mc ms : Nat) (free : Addr → Prop) : Pt → Array Value → Addr → Pt → Prop := fun A a q B =>
  ∃ (g : JFrame) (mk : MethodId) (t : State) (L : List Loc) (E : String) (ce : Cell), B.U.heap = t.heap ∧ B.U.vm = t.vm ∧ XC E (A.U.calling g mk a) t ∧ t.heap[q]? = some ce ∧ ce.vm = .none ∧ A.U.vm.findClass E = some ce.cls ∧ B.locs = A.locs ++ L ∧ (∀ z ∈ L, free z.base) ∧ B.cells = A.cells + mc ∧ B.slots = A.slots + ms
def vx_Back (l : Launch) (R : Room) (p : Program) (e : Env) (below : List Frame) (s : State) (sargs : Array Value) (y : MethodName) (len W9 : Nat)
    (Pre : Pt → Array Value → Prop) (Post : Pt → Array Value → Option Value → Pt → Prop) (PostX : Pt → Array Value → Addr → Pt → Prop) : Prop :=
  ∀ (m : MethodId) (meth : Method) (c : Code) (A : Pt) (g : JFrame) (ig : Instr) (mk : MethodId) (a : Array Value),
    Stand p l e R s m sargs below meth c A.U A.locs A.cells A.slots → g.method = m → g.locals.size = c.maxLocals → decode c.code g.pc = .ok (ig, len) →
    2 * g.monitorRoom + (g.stack.map fun v => v.category).sum ≤ W9 → A.U.methodNamed? y = some mk → Pre A a →
    (∃ (v : Option Value) (B : Pt), Stand p l e R s m sargs below meth c B.U B.locs B.cells B.slots ∧ Post A a v B ∧
      Steps p.tables e below (doInvoke e (A.U.setTop g) [] mk a).1 (B.U.setTop { g with pc := g.pc + len, stack := v.toList ++ g.stack })) ∨
    (∃ (q : Addr) (B : Pt), Stand p l e R s m sargs below meth c B.U B.locs B.cells B.slots ∧ PostX A a q B ∧
      Steps p.tables e below (doInvoke e (A.U.setTop g) [] mk a).1 ((B.U.setTop g).pushFrame (.throwing q)))
section Payer
variable {l : Launch} {R : Room} {p : Program} {e : Env} {below : List Frame} {s : State} {sargs : Array Value} {y : MethodName} {len W9 : Nat}
theorem vx_back {ws : List Cond} {rm : Room} {Pc : Array Value → State → Prop} {Qc : Array Value → State → Outcome → State → Prop} {XC : String → State → State → Prop} {mc ms : Nat} {free : Addr → Prop} {bytes : ByteArray} {maxL : Nat} {ret : Option FieldType}
    (hM : vx_Met l y ws rm Pc Qc XC mc ms free) (hblind : FrameBlind Pc) (hrc : rm.cells = mc) (hrs : rm.slots = ms)
    (hframes : rm.frames + 1 ≤ R.frames) (hlocals : W9 + (maxL + 11) + rm.locals ≤ R.locals)
    (hws : ∀ w ∈ ws, ∀ a' U, s.WarmedH U.vm → w.before a' U = true) (hcode : Cond.code y bytes maxL ret ∈ ws) (hinit : ∀ a' U, s.WarmedH U.vm → (Cond.initialized y.cls).before a' U = true) :
    vx_Back l R p e below s sargs y len W9 (PreOf R mc ms Pc) (PostOf Qc mc ms free) (vx_Post XC mc ms free) := by
  intro m meth c A g ig mk a X hg hsize hdg hW hn hp
  have h1 : (headSpec ws rm).pre.before a A.U = true := atoms_intro fun w hw => hws w hw _ _ X.warmed
  have h2 : (Cond.code y bytes maxL ret).before a A.U = true := hws _ hcode _ _ X.warmed
  have h3 : (Cond.initialized y.cls).before a A.U = true := hinit _ _ X.warmed
  have h4 : A.cells + (headSpec ws rm).room.cells ≤ R.cells := by rw [show (headSpec ws rm).room.cells = mc from hrc]; exact hp.1
  have h5 : A.slots + (headSpec ws rm).room.slots ≤ R.slots := by rw [show (headSpec ws rm).room.slots = ms from hrs]; exact hp.2.1
  have hPc : Pc a (A.U.calling g mk a) := hblind _ _ _ _ hp.2.2
  obtain ⟨U, Ls, c0, s0⟩ := A
  dsimp only [Pt.U, Pt.locs, Pt.cells, Pt.slots] at h1 h2 h3 h4 h5 X hn hPc ⊢
  obtain ⟨methY, cY, hmY, hcY, -, hlY, -, -, -, -⟩ := Cond.code_spec hn h2
  obtain ⟨kY, hkY, -⟩ := className_of_methodNamed hn
  have hinitY : kY.init = .initialized := Cond.initialized_spec (findClass_of_methodNamed hn) hkY h3
  have h : At U g.method c below := by rw [hg]; exact X.here
  have hlocals9 : W9 + (maxL + 11) + (headSpec ws rm).room.locals ≤ R.locals := hlocals
  have happ : (headSpec ws rm).appliesLoose y e.platform (U.calling g mk a) = true :=
    Spec.appliesLoose_calling (g := g) h hdg hn hkY hinitY
      (X.room_calling (g := g) (R' := (headSpec ws rm).room) hsize hmY hcY hframes (by rw [hlY]; omega) h4 h5) h1
  obtain ⟨mid, hmid⟩ := h.above
  have hfr : (U.setTop g).frames = (.java g :: mid) ++ below := by rw [State.frames_setTop' g h.top, hmid]; rfl
  obtain ⟨o, s₂, hsteps, -, hend, hq⟩ := Steps.callFree hM p X.admits X.cas X.clock (acts := []) hfr happ hPc trivial
  have hq' : vx_Q Qc XC mc ms free a (U.calling g mk a) o s₂ := hq
  rw [State.frames_setTop' g h.top] at hend
  obtain ⟨g₀, hg0⟩ := Option.isSome_iff_exists.mp h.top
  obtain ⟨r, hr⟩ := State.topJava?_eq_some.mp hg0
  have hr' : (({ U with heap := s₂.heap, slotsUsed := s₂.slotsUsed } : State).setVm s₂.vm).frames = .java g₀ :: r := hr
  rcases hq' with ⟨hqc, L, hfe, hL⟩ | ⟨q, rfl, E, ce, L, hx, hce, hcv, hcl, hW₂, hsm, hL⟩
  · obtain ⟨⟨v, rfl⟩, hW₂, e2, q2, q3, q4, q5, q6⟩ := id hfe
    have e3 : s₂ = ({ (U.calling g mk a).setFrames s₂.frames with heap := s₂.heap, slotsUsed := s₂.slotsUsed } : State).setVm s₂.vm := by
      have : s₂ = ({ s₂ with vm := (U.calling g mk a).vm } : State).setVm s₂.vm := rfl
      rw [e2] at this
      exact this
    obtain ⟨c₂, i₂, len₂, hc₂, hd₂, hf₂⟩ := hend
    have hW' : U.WarmedH s₂.vm := hW₂
    have hcc : c₂ = c := by
      have h1 : s₂.code? g.method = U.code? g.method := by
        rw [State.code?_eq, State.code?_eq, hW'.alike.method?]
      exact Option.some.inj (hc₂.symm.trans (h1.trans h.code))
    subst hcc
    have hlen : len₂ = len := by rw [hdg] at hd₂; cases hd₂; rfl
    subst hlen
    have hs₂ : s₂ = (({ U with heap := s₂.heap, slotsUsed := s₂.slotsUsed } : State).setVm s₂.vm).setTop { g with pc := g.pc + len₂, stack := v.toList ++ g.stack } := by
      refine e3.trans ?_
      rw [hf₂, State.calling_eq h.top, State.setFrames_setFrames, State.setTop_of_frames _ hr', hr]
      rfl
    have hsame : U.sameButNew ({ U with heap := s₂.heap, slotsUsed := s₂.slotsUsed } : State) L mc ms := by
      refine ⟨?_, q2, q3, q4, q5, q6⟩
      obtain ⟨t, ht, -⟩ := State.frames_cons hr
      show ({ U with heap := s₂.heap, slotsUsed := s₂.slotsUsed } : State) = { U.setFrames U.frames with heap := s₂.heap, slotsUsed := s₂.slotsUsed }
      rw [State.setFrames_self ht]
    subst hg
    refine Or.inl ⟨v, ⟨(({ U with heap := s₂.heap, slotsUsed := s₂.slotsUsed } : State).setVm s₂.vm), Ls ++ L, c0 + mc, s0 + ms⟩,
      ⟨X.admits, X.cas, X.clock, X.frames, X.room, X.hears, X.method, X.code, (X.here.setHeapUsed s₂.heap s₂.slotsUsed).setVm hW'.alike, X.tail, State.WarmedH.trans X.warmed hW', X.limits, X.bytes, X.same.trans (hsame.setVm s.vm)⟩,
      ⟨g, mk, s₂, L, rfl, rfl, hqc, rfl, hL, rfl, rfl⟩, ?_⟩
    show Steps p.tables e below _ ((({ U with heap := s₂.heap, slotsUsed := s₂.slotsUsed } : State).setVm s₂.vm).setTop { g with pc := g.pc + len₂, stack := v.toList ++ g.stack })
    rw [← hs₂]
    exact hsteps
  · obtain ⟨e2, q2, q3, q4, q5, q6⟩ := id hsm
    have e3 : s₂ = ({ (U.calling g mk a).setFrames s₂.frames with heap := s₂.heap, slotsUsed := s₂.slotsUsed } : State).setVm s₂.vm := by
      have : s₂ = ({ s₂ with vm := (U.calling g mk a).vm } : State).setVm s₂.vm := rfl
      rw [e2] at this
      exact this
    have hf₂ : s₂.frames = .throwing q :: .java g :: U.frames.tail := hend
    have hW' : U.WarmedH s₂.vm := hW₂
    have hs₂ : s₂ = ((({ U with heap := s₂.heap, slotsUsed := s₂.slotsUsed } : State).setVm s₂.vm).setTop g).pushFrame (.throwing q) := by
      refine e3.trans ?_
      rw [hf₂, State.calling_eq h.top, State.setFrames_setFrames, State.pushFrame, State.frames_setTop _ hr', State.setTop_of_frames _ hr', State.setFrames_setFrames, hr]
      rfl
    have hsame : U.sameButNew ({ U with heap := s₂.heap, slotsUsed := s₂.slotsUsed } : State) L mc ms := by
      refine ⟨?_, q2, q3, q4, q5, q6⟩
      obtain ⟨t, ht, -⟩ := State.frames_cons hr
      show ({ U with heap := s₂.heap, slotsUsed := s₂.slotsUsed } : State) = { U.setFrames U.frames with heap := s₂.heap, slotsUsed := s₂.slotsUsed }
      rw [State.setFrames_self ht]
    subst hg
    refine Or.inr ⟨q, ⟨(({ U with heap := s₂.heap, slotsUsed := s₂.slotsUsed } : State).setVm s₂.vm), Ls ++ L, c0 + mc, s0 + ms⟩,
      ⟨X.admits, X.cas, X.clock, X.frames, X.room, X.hears, X.method, X.code, (X.here.setHeapUsed s₂.heap s₂.slotsUsed).setVm hW'.alike, X.tail, State.WarmedH.trans X.warmed hW', X.limits, X.bytes, X.same.trans (hsame.setVm s.vm)⟩,
      ⟨g, mk, s₂, L, E, ce, rfl, rfl, hx, hce, hcv, hcl, rfl, hL, rfl, rfl⟩, ?_⟩
    show Steps p.tables e below _ (((({ U with heap := s₂.heap, slotsUsed := s₂.slotsUsed } : State).setVm s₂.vm).setTop g).pushFrame (.throwing q))
    rw [← hs₂]
    exact hsteps
end Payer
section Calls
variable {p : Program} {l : Launch} {e : Env} {R : Room} {s : State} {m : MethodId} {args : Array Value} {below : List Frame} {meth : Method} {c : Code} {T : State} {locs : List Loc} {cells slots : Nat}
theorem vx_callV (X : Stand p l e R s m args below meth c T locs cells slots) (hexec : p.tables.exec = Jvm.exec) {own C : String} {index : Nat} {y : MethodName} {bytes : ByteArray} {maxL : Nat} {ret : Option FieldType}
    (hown : s.vm.findClass own = some m.cls) (hlink : (Cond.methodLink own index y).before args s = true) (hinst : (Cond.instanceMethod y).before args s = true) (hsel : (Cond.selects C y y).before args s = true)
    (hcode : (Cond.code y bytes maxL ret).before args s = true) (hy : y.cls ≠ "java/lang/invoke/MethodHandle" ∧ y.cls ≠ "java/lang/invoke/VarHandle")
    {W9 : Nat} {Pre : Pt → Array Value → Prop} {Post : Pt → Array Value → Option Value → Pt → Prop} {PostX : Pt → Array Value → Addr → Pt → Prop} (hK : vx_Back l R p e below s args y 3 W9 Pre Post PostX)
    {b : Addr} {cellB : Cell} (hcell : T.heap[b]? = some cellB) (hobj : cellB.vm.isStatics = false) (hcls : s.vm.findClass C = some cellB.cls)
    {g : JFrame} (hg : g.method = m) (hsize : g.locals.size = c.maxLocals) {argsL rest : List Value} (hlen : ∀ sig, parseMethodDescriptor y.desc = some sig → argsL.length = sig.parameters.length)
    (hstack : g.stack = argsL.reverse ++ .ref b :: rest) (hW : 2 * g.monitorRoom + (rest.map fun v => v.category).sum ≤ W9) (hdg : decode c.code g.pc = .ok (.invokevirtual index, 3))
    (hpre : ∀ vm₁, s.WarmedH vm₁ → Pre ⟨T.setVm vm₁, locs, cells, slots⟩ (Value.ref b :: argsL).toArray) :
    (∃ (v : Option Value) (vm₁ : Vm) (B : Pt), s.WarmedH vm₁ ∧ Stand p l e R s m args below meth c B.U B.locs B.cells B.slots ∧ Post ⟨T.setVm vm₁, locs, cells, slots⟩ (Value.ref b :: argsL).toArray v B ∧
      ∀ target, Steps p.tables e below (B.U.setTop { g with pc := g.pc + 3, stack := v.toList ++ rest }) target → Steps p.tables e below (T.setTop g) target) ∨
    (∃ (q : Addr) (vm₁ : Vm) (B : Pt), s.WarmedH vm₁ ∧ Stand p l e R s m args below meth c B.U B.locs B.cells B.slots ∧ PostX ⟨T.setVm vm₁, locs, cells, slots⟩ (Value.ref b :: argsL).toArray q B ∧
      Steps p.tables e below (T.setTop g) ((B.U.setTop { g with stack := rest }).pushFrame (.throwing q))) := by
  obtain ⟨mk, methM, hnamed, hmethM, hstM, habM⟩ := Cond.instanceMethod_spec hinst
  obtain ⟨methM', cM, hmethM', -, -, -, -, -, -, hsigM⟩ := Cond.code_spec hnamed hcode
  cases hmethM.symm.trans hmethM'
  obtain ⟨c2, r2, m2, q1, q2, q3, q4, kP, hkP, hkPi⟩ := Cond.selects_spec hsel
  cases hcls.symm.trans q1
  cases (State.methodFound?_of_named hnamed hy).symm.trans q2
  cases hnamed.symm.trans q3
  have hselP : selectMethod e.platform s.vm cellB.cls mk = .method mk := by rw [Launch.admits_selectMethod X.admits]; exact q4
  obtain ⟨vm₁, X₁, hstep₁⟩ := X.invokevirtual hexec hown hlink hnamed hmethM hstM hkP hkPi hy (a := b) (cell := cellB) hcell
    (fun z h => by rw [h] at hobj; cases hobj) hselP hmethM habM hkP hkPi (g := g) hg (argsL := argsL) (rest := rest) (hlen _ hsigM) hstack hdg
  rcases hK m meth c ⟨T.setVm vm₁, locs, cells, slots⟩ { g with stack := rest } (.invokevirtual index) mk (Value.ref b :: argsL).toArray X₁ hg hsize hdg hW (X₁.named hnamed) (hpre vm₁ X₁.warmed) with ⟨v, B, X', hpost, hsteps⟩ | ⟨q, B, X', hpost, hsteps⟩
  · exact Or.inl ⟨v, vm₁, B, X₁.warmed, X', hpost, fun target h => hstep₁ _ fun acts => by rw [doInvoke_state]; exact hsteps.trans h⟩
  · exact Or.inr ⟨q, vm₁, B, X₁.warmed, X', hpost, hstep₁ _ fun acts => by rw [doInvoke_state]; exact hsteps⟩
theorem vx_callS (X : Stand p l e R s m args below meth c T locs cells slots) (hexec : p.tables.exec = Jvm.exec) {own : String} {index : Nat} {y : MethodName} {bytes : ByteArray} {maxL : Nat} {ret : Option FieldType}
    (hown : s.vm.findClass own = some m.cls) (hlink : (Cond.methodLink own index y).before args s = true) (hstat : (Cond.static y).before args s = true) (hinit : (Cond.initialized y.cls).before args s = true)
    (hcode : (Cond.code y bytes maxL ret).before args s = true) (hy : y.cls ≠ "java/lang/invoke/MethodHandle" ∧ y.cls ≠ "java/lang/invoke/VarHandle")
    {W9 : Nat} {Pre : Pt → Array Value → Prop} {Post : Pt → Array Value → Option Value → Pt → Prop} {PostX : Pt → Array Value → Addr → Pt → Prop} (hK : vx_Back l R p e below s args y 3 W9 Pre Post PostX)
    {g : JFrame} (hg : g.method = m) (hsize : g.locals.size = c.maxLocals) {argsL rest : List Value} (hlen : ∀ sig, parseMethodDescriptor y.desc = some sig → argsL.length = sig.parameters.length)
    (hstack : g.stack = argsL.reverse ++ rest) (hW : 2 * g.monitorRoom + (rest.map fun v => v.category).sum ≤ W9) (hdg : decode c.code g.pc = .ok (.invokestatic index, 3))
    (hpre : ∀ vm₁, s.WarmedH vm₁ → Pre ⟨T.setVm vm₁, locs, cells, slots⟩ argsL.toArray) :
    (∃ (v : Option Value) (vm₁ : Vm) (B : Pt), s.WarmedH vm₁ ∧ Stand p l e R s m args below meth c B.U B.locs B.cells B.slots ∧ Post ⟨T.setVm vm₁, locs, cells, slots⟩ argsL.toArray v B ∧
      ∀ target, Steps p.tables e below (B.U.setTop { g with pc := g.pc + 3, stack := v.toList ++ rest }) target → Steps p.tables e below (T.setTop g) target) ∨
    (∃ (q : Addr) (vm₁ : Vm) (B : Pt), s.WarmedH vm₁ ∧ Stand p l e R s m args below meth c B.U B.locs B.cells B.slots ∧ PostX ⟨T.setVm vm₁, locs, cells, slots⟩ argsL.toArray q B ∧
      Steps p.tables e below (T.setTop g) ((B.U.setTop { g with stack := rest }).pushFrame (.throwing q))) := by
  obtain ⟨mk, hnamed⟩ := Cond.code_named hcode
  obtain ⟨methM, cM, hmethM, -, -, -, -, -, -, hsigM⟩ := Cond.code_spec hnamed hcode
  have hstatic : methM.isStatic = true := Cond.static_spec hnamed hmethM hstat
  obtain ⟨kP, hkP, -⟩ := className_of_methodNamed hnamed
  have hinitP : kP.init = .initialized := Cond.initialized_spec (findClass_of_methodNamed hnamed) hkP hinit
  obtain ⟨vm₁, X₁, hstep₁⟩ := X.invokestatic hexec hown hlink hnamed hmethM hstatic hkP hinitP hy (g := g) hg (argsL := argsL) (rest := rest) (hlen _ hsigM) hstack hdg
  rcases hK m meth c ⟨T.setVm vm₁, locs, cells, slots⟩ { g with stack := rest } (.invokestatic index) mk argsL.toArray X₁ hg hsize hdg hW (X₁.named hnamed) (hpre vm₁ X₁.warmed) with ⟨v, B, X', hpost, hsteps⟩ | ⟨q, B, X', hpost, hsteps⟩
  · exact Or.inl ⟨v, vm₁, B, X₁.warmed, X', hpost, fun target h => hstep₁ _ fun acts => by rw [doInvoke_state]; exact hsteps.trans h⟩
  · exact Or.inr ⟨q, vm₁, B, X₁.warmed, X', hpost, hstep₁ _ fun acts => by rw [doInvoke_state]; exact hsteps⟩
end Calls
theorem vx_cls {s : State} {T : State} {vm₁ : Vm} {E : String} {k : ClassId} (hW : s.WarmedH vm₁) (h : (T.setVm vm₁).vm.findClass E = some k) : s.vm.findClass E = some k := by
  have h1 : vm₁.findClass E = some k := h
  rw [hW.alike.findClass] at h1
  exact h1
/-- the method's frame g, with q thrown over it -/
def vx_W (p : Program) (l : Launch) (e : Env) (R : Room) (s : State) (m : MethodId) (args : Array Value) (below : List Frame) (meth : Method) (c : Code) (H : Heap) (locs : List Loc) (cells slots : Nat) (Q : State → Prop) (g : JFrame) (q : Addr) : Prop :=
  ∀ T : State, T.heap = H → Stand p l e R s m args below meth c T locs cells slots → ∃ t, Steps p.tables e below ((T.setTop g).pushFrame (.throwing q)) t ∧ Q t
def vx_Run (p : Program) (l : Launch) (e : Env) (R : Room) (s : State) (m : MethodId) (args : Array Value) (below : List Frame) (meth : Method) (c : Code) (H : Heap) (locs : List Loc) (cells slots mc ms : Nat) (g : JFrame) (rest : List Value) (Qa : State → Outcome → State → Prop) (XC : String → State → State → Prop) (free : Addr → Prop) : Prop :=
  ∀ T : State, T.heap = H → Stand p l e R s m args below meth c T locs cells slots →
    (∃ (v : Option Value) (st₀ t T' : State) (L : List Loc), st₀.heap = H ∧ Stand p l e R s m args below meth c T' (locs ++ L) (cells + mc) (slots + ms) ∧ (∀ q ∈ L, free q.base) ∧ T'.heap = t.heap ∧ T'.vm = t.vm ∧ Qa st₀ (.returned v) t ∧
      Goes p e below T g T' { g with pc := g.pc + 3, stack := v.toList ++ rest }) ∨
    (∃ (q : Addr) (st₀ t T' : State) (L : List Loc) (E : String) (ce : Cell), st₀.heap = H ∧ Stand p l e R s m args below meth c T' (locs ++ L) (cells + mc) (slots + ms) ∧ (∀ z ∈ L, free z.base) ∧ T'.heap = t.heap ∧ T'.vm = t.vm ∧ XC E st₀ t ∧ t.heap[q]? = some ce ∧ ce.vm = .none ∧ s.vm.findClass E = some ce.cls ∧
      Steps p.tables e below (T.setTop g) ((T'.setTop { g with stack := rest }).pushFrame (.throwing q)))
def vx_X {S : Type} (px : S → Prop) (B : String → S → State → Prop) (A : Nat → Prop) : String → State → State → Prop := fun E st t => ∃ u : S, px u ∧ B E u t ∧ va_F A st t
section Runs
variable {p : Program} {l : Launch} {e : Env} {R : Room} {s : State} {m : MethodId} {args : Array Value} {below : List Frame} {meth : Method} {c : Code} {H : Heap} {locs : List Loc} {cells slots : Nat}
variable {y : MethodName} {bytes cc : ByteArray} {maxL nL mc ms n index : Nat} {ret : Option FieldType} {ws : List Cond} {rm : Room} {Pc : Array Value → State → Prop} {Qc : Array Value → State → Outcome → State → Prop} {XC : String → State → State → Prop} {free : Addr → Prop} {Ts : List Cond} {own C : String} {b : Addr} {As rest : List Value} {g : JFrame}
theorem vx_callBack (cb : CallB R s args own index y bytes maxL ret ws rm mc ms n) (hM : vx_Met l y ws rm Pc Qc XC mc ms free) (hbl : FrameBlind Pc) : vx_Back l R p e below s args y 3 8 (PreOf R mc ms Pc) (PostOf Qc mc ms free) (vx_Post XC mc ms free) := by
  obtain ⟨hrc, hrs, hfr, hlo, hws, hcw, -, hini, -⟩ := cb
  exact vx_back (bytes := bytes) (maxL := maxL) (ret := ret) hM hbl hrc hrs hfr hlo hws hcw (fun a' U hW => word_at hW (Or.inl (by first | rfl | simp [Cond.onTables, Cond.keeps, Cond.steady])) hini)
theorem vx_runV (S : CallFix p m c cc nL s args Ts own) (hM : vx_Met l y ws rm Pc Qc XC mc ms free) (cw : CallW R s args own C index y bytes maxL ret ws rm mc ms n) (hp : PreV s H C b Pc As)
    (hg : g.method = m) (hn : As.length = n) (hsize : g.locals.size = nL) (hstack : g.stack = As.reverse ++ .ref b :: rest) (hW : 2 * g.monitorRoom + (rest.map fun v => v.category).sum ≤ 8) (hdg : decode cc g.pc = .ok (.invokevirtual index, 3)) (hf : cells + mc ≤ R.cells ∧ slots + ms ≤ R.slots) :
    vx_Run p l e R s m args below meth c H locs cells slots mc ms g rest (Qc (Value.ref b :: As).toArray) XC free := by
  have hK : vx_Back l R p e below s args y 3 8 (PreOf R mc ms Pc) (PostOf Qc mc ms free) (vx_Post XC mc ms free) := vx_callBack cw.1 hM hp.1
  obtain ⟨⟨-, -, -, -, -, -, hcode, -, hy, hlen, hl⟩, hin, hse⟩ := cw
  obtain ⟨hx, hb, hml, ho, -⟩ := S
  obtain ⟨-, ⟨cellB, hcB, hoB, hclB⟩, hPc⟩ := hp
  intro T hT X
  rcases vx_callV X hx (C := C) (bytes := bytes) (maxL := maxL) (ret := ret) ho hl hin hse hcode hy hK (by rw [hT]; exact hcB) hoB hclB hg (hsize.trans hml.symm) (argsL := As) (rest := rest) (fun sig h => hn.trans (hlen sig h)) hstack hW (by rw [hb]; exact hdg)
    (fun vm₁ hW₁ => ⟨hf.1, hf.2, hPc (T.setVm vm₁) hT hW₁⟩) with ⟨v, vm₁, ⟨U', l2, c2, s2⟩, hW₁, X', ⟨g', mk, t, L, e1, e2, hq, h1, hL, h2, h3⟩, st⟩ | ⟨q, vm₁, ⟨U', l2, c2, s2⟩, hW₁, X', ⟨g', mk, t, L, E, ce, e1, e2, hq, hce, hcv, hcl, h1, hL, h2, h3⟩, st⟩
  · dsimp only [Pt.U, Pt.locs, Pt.cells, Pt.slots] at X' e1 e2 h1 h2 h3 st
    subst h1; subst h2; subst h3
    exact Or.inl ⟨v, (T.setVm vm₁).calling g' mk (Value.ref b :: As).toArray, t, U', L, hT, X', hL, e1, e2, hq, st⟩
  · dsimp only [Pt.U, Pt.locs, Pt.cells, Pt.slots] at X' e1 e2 h1 h2 h3 st hcl
    subst h1; subst h2; subst h3
    exact Or.inr ⟨q, (T.setVm vm₁).calling g' mk (Value.ref b :: As).toArray, t, U', L, E, ce, hT, X', hL, e1, e2, hq, hce, hcv, vx_cls hW₁ hcl, st⟩
theorem vx_runS (S : CallFix p m c cc nL s args Ts own) (hM : vx_Met l y ws rm Pc Qc XC mc ms free) (cw : CallB R s args own index y bytes maxL ret ws rm mc ms n ∧ (Cond.static y).before args s = true) (hp : PreS s H Pc As)
    (hg : g.method = m) (hn : As.length = n) (hsize : g.locals.size = nL) (hstack : g.stack = As.reverse ++ rest) (hW : 2 * g.monitorRoom + (rest.map fun v => v.category).sum ≤ 8) (hdg : decode cc g.pc = .ok (.invokestatic index, 3)) (hf : cells + mc ≤ R.cells ∧ slots + ms ≤ R.slots) :
    vx_Run p l e R s m args below meth c H locs cells slots mc ms g rest (Qc As.toArray) XC free := by
  have hK : vx_Back l R p e below s args y 3 8 (PreOf R mc ms Pc) (PostOf Qc mc ms free) (vx_Post XC mc ms free) := vx_callBack cw.1 hM hp.1
  obtain ⟨⟨-, -, -, -, -, -, hcode, hini, hy, hlen, hl⟩, hstt⟩ := cw
  obtain ⟨hx, hb, hml, ho, -⟩ := S
  intro T hT X
  rcases vx_callS X hx (bytes := bytes) (maxL := maxL) (ret := ret) ho hl hstt hini hcode hy hK hg (hsize.trans hml.symm) (argsL := As) (rest := rest) (fun sig h => hn.trans (hlen sig h)) hstack hW (by rw [hb]; exact hdg)
    (fun vm₁ hW₁ => ⟨hf.1, hf.2, hp.2 (T.setVm vm₁) hT hW₁⟩) with ⟨v, vm₁, ⟨U', l2, c2, s2⟩, hW₁, X', ⟨g', mk, t, L, e1, e2, hq, h1, hL, h2, h3⟩, st⟩ | ⟨q, vm₁, ⟨U', l2, c2, s2⟩, hW₁, X', ⟨g', mk, t, L, E, ce, e1, e2, hq, hce, hcv, hcl, h1, hL, h2, h3⟩, st⟩
  · dsimp only [Pt.U, Pt.locs, Pt.cells, Pt.slots] at X' e1 e2 h1 h2 h3 st
    subst h1; subst h2; subst h3
    exact Or.inl ⟨v, (T.setVm vm₁).calling g' mk As.toArray, t, U', L, hT, X', hL, e1, e2, hq, st⟩
  · dsimp only [Pt.U, Pt.locs, Pt.cells, Pt.slots] at X' e1 e2 h1 h2 h3 st hcl
    subst h1; subst h2; subst h3
    exact Or.inr ⟨q, (T.setVm vm₁).calling g' mk As.toArray, t, U', L, E, ce, hT, X', hL, e1, e2, hq, hce, hcv, vx_cls hW₁ hcl, st⟩
end Runs
section Rows
variable {p : Program} {l : Launch} {e : Env} {R : Room} {s : State} {m : MethodId} {args : Array Value} {below : List Frame} {meth : Method} {c : Code} {H : Heap} {locs : List Loc} {cells slots : Nat} {Q : State → Prop}
variable {mc ms : Nat} {free : Addr → Prop} {A0 A1 : Nat → Prop} {H0 : Heap} {a : Array Value} {pc : Nat} {ls : Array Slot} {st0 rest : List Value}
theorem vx_keep {st₀ t T' : State} {L : List Loc} (h0 : st₀.heap = H) (e1 : T'.heap = t.heap) (hS : va_S A0 H0 H locs) (hA : ∀ q, q < H.size → A1 q → A0 q) (hf : ∀ q, free q → A0 q) (hL : ∀ q ∈ L, free q.base) (hF : va_F A1 st₀ t) :
    H.size ≤ T'.heap.size ∧ (∀ q : Nat, q < H.size → ¬ A1 q → T'.heap[q]? = H[q]?) ∧ va_S A0 H0 T'.heap (locs ++ L) := by
  obtain ⟨hz, hk⟩ := hF
  rw [h0] at hz hk
  exact ⟨by rw [e1]; exact hz, fun q h1 h2 => by rw [e1]; exact hk q h1 h2,
    ⟨Nat.le_trans hS.1 (by rw [e1]; exact hz), fun q h1 h2 => by rw [e1, hk q (Nat.lt_of_lt_of_le h1 hS.1) (fun z => h2 (hA q (Nat.lt_of_lt_of_le h1 hS.1) z))]; exact hS.2.1 q h1 h2, fun q hq => by
      rcases List.mem_append.mp hq with h | h
      · exact hS.2.2 q h
      · exact hf _ (hL q h)⟩⟩
theorem vx_calli {S SX : Type} {post : Int32 → S → Prop} {px : SX → Prop} {B : S → State → Prop} {BX : String → SX → State → Prop} {AX : Nat → Prop} (hr : vx_Run p l e R s m args below meth c H locs cells slots mc ms (F0 m pc ls st0) rest (va_Qi post B A1 a) (vx_X px BX AX) free) (hS : va_S A0 H0 H locs) (hA : ∀ q, q < H.size → A1 q → A0 q) (hf : ∀ q, free q → A0 q) (hAX : ∀ q, q < H.size → AX q → A0 q)
    (kx : ∀ (E : String) (ce : Cell) (q9 : Addr) (u : SX) (t : State) (H1 : Heap) (locs1 : List Loc), t.heap = H1 → s.vm.Alike t.vm → px u → BX E u t → H.size ≤ H1.size → (∀ q : Nat, q < H.size → ¬ AX q → H1[q]? = H[q]?) → va_S A0 H0 H1 locs1 → H1[q9]? = some ce → ce.vm = .none → s.vm.findClass E = some ce.cls → vx_W p l e R s m args below meth c H1 locs1 (cells + mc) (slots + ms) Q (F0 m pc ls rest) q9)
    (kk : ∀ (r : Int32) (u : S) (t : State) (H1 : Heap) (locs1 : List Loc), t.heap = H1 → s.vm.Alike t.vm → post r u → B u t → H.size ≤ H1.size → (∀ q : Nat, q < H.size → ¬ A1 q → H1[q]? = H[q]?) → va_S A0 H0 H1 locs1 → W p l e R s m args below meth c H1 locs1 (cells + mc) (slots + ms) Q (F0 m (pc + 3) ls (.int r :: rest))) : W p l e R s m args below meth c H locs cells slots Q (F0 m pc ls st0) := by
  intro T hT X
  rcases hr T hT X with ⟨v, st₀, t, T', L, h0, X', hL, e1, e2, ⟨⟨r, u, hv, hp, hb⟩, hF⟩, st⟩ | ⟨q, st₀, t, T', L, E, ce, h0, X', hL, e1, e2, ⟨u, hp, hb, hF⟩, hce, hcv, hcl, st⟩
  · cases hv
    obtain ⟨k1, k2, k3⟩ := vx_keep h0 e1 hS hA hf hL hF
    obtain ⟨t2, a1, b1⟩ := kk r u t T'.heap (locs ++ L) e1.symm (by rw [← e2]; exact X'.warmed.alike) hp hb k1 k2 k3 T' rfl X'
    exact ⟨t2, st t2 a1, b1⟩
  · obtain ⟨k1, k2, k3⟩ := vx_keep h0 e1 hS hAX hf hL hF
    obtain ⟨t2, a1, b1⟩ := kx E ce q u t T'.heap (locs ++ L) e1.symm (by rw [← e2]; exact X'.warmed.alike) hp hb k1 k2 k3 (by rw [e1]; exact hce) hcv hcl T' rfl X'
    exact ⟨t2, st.trans a1, b1⟩
theorem vx_calll {S SX : Type} {post : Int64 → S → Prop} {px : SX → Prop} {B : S → State → Prop} {BX : String → SX → State → Prop} {AX : Nat → Prop} (hr : vx_Run p l e R s m args below meth c H locs cells slots mc ms (F0 m pc ls st0) rest (va_Ql post B A1 a) (vx_X px BX AX) free) (hS : va_S A0 H0 H locs) (hA : ∀ q, q < H.size → A1 q → A0 q) (hf : ∀ q, free q → A0 q) (hAX : ∀ q, q < H.size → AX q → A0 q)
    (kx : ∀ (E : String) (ce : Cell) (q9 : Addr) (u : SX) (t : State) (H1 : Heap) (locs1 : List Loc), t.heap = H1 → s.vm.Alike t.vm → px u → BX E u t → H.size ≤ H1.size → (∀ q : Nat, q < H.size → ¬ AX q → H1[q]? = H[q]?) → va_S A0 H0 H1 locs1 → H1[q9]? = some ce → ce.vm = .none → s.vm.findClass E = some ce.cls → vx_W p l e R s m args below meth c H1 locs1 (cells + mc) (slots + ms) Q (F0 m pc ls rest) q9)
    (kk : ∀ (r : Int64) (u : S) (t : State) (H1 : Heap) (locs1 : List Loc), t.heap = H1 → s.vm.Alike t.vm → post r u → B u t → H.size ≤ H1.size → (∀ q : Nat, q < H.size → ¬ A1 q → H1[q]? = H[q]?) → va_S A0 H0 H1 locs1 → W p l e R s m args below meth c H1 locs1 (cells + mc) (slots + ms) Q (F0 m (pc + 3) ls (.long r :: rest))) : W p l e R s m args below meth c H locs cells slots Q (F0 m pc ls st0) := by
  intro T hT X
  rcases hr T hT X with ⟨v, st₀, t, T', L, h0, X', hL, e1, e2, ⟨⟨r, u, hv, hp, hb⟩, hF⟩, st⟩ | ⟨q, st₀, t, T', L, E, ce, h0, X', hL, e1, e2, ⟨u, hp, hb, hF⟩, hce, hcv, hcl, st⟩
  · cases hv
    obtain ⟨k1, k2, k3⟩ := vx_keep h0 e1 hS hA hf hL hF
    obtain ⟨t2, a1, b1⟩ := kk r u t T'.heap (locs ++ L) e1.symm (by rw [← e2]; exact X'.warmed.alike) hp hb k1 k2 k3 T' rfl X'
    exact ⟨t2, st t2 a1, b1⟩
  · obtain ⟨k1, k2, k3⟩ := vx_keep h0 e1 hS hAX hf hL hF
    obtain ⟨t2, a1, b1⟩ := kx E ce q u t T'.heap (locs ++ L) e1.symm (by rw [← e2]; exact X'.warmed.alike) hp hb k1 k2 k3 (by rw [e1]; exact hce) hcv hcl T' rfl X'
    exact ⟨t2, st.trans a1, b1⟩
theorem vx_callf {S SX : Type} {post : UInt32 → S → Prop} {px : SX → Prop} {B : S → State → Prop} {BX : String → SX → State → Prop} {AX : Nat → Prop} (hr : vx_Run p l e R s m args below meth c H locs cells slots mc ms (F0 m pc ls st0) rest (va_Qf post B A1 a) (vx_X px BX AX) free) (hS : va_S A0 H0 H locs) (hA : ∀ q, q < H.size → A1 q → A0 q) (hf : ∀ q, free q → A0 q) (hAX : ∀ q, q < H.size → AX q → A0 q)
    (kx : ∀ (E : String) (ce : Cell) (q9 : Addr) (u : SX) (t : State) (H1 : Heap) (locs1 : List Loc), t.heap = H1 → s.vm.Alike t.vm → px u → BX E u t → H.size ≤ H1.size → (∀ q : Nat, q < H.size → ¬ AX q → H1[q]? = H[q]?) → va_S A0 H0 H1 locs1 → H1[q9]? = some ce → ce.vm = .none → s.vm.findClass E = some ce.cls → vx_W p l e R s m args below meth c H1 locs1 (cells + mc) (slots + ms) Q (F0 m pc ls rest) q9)
    (kk : ∀ (r : UInt32) (u : S) (t : State) (H1 : Heap) (locs1 : List Loc), t.heap = H1 → s.vm.Alike t.vm → post r u → B u t → H.size ≤ H1.size → (∀ q : Nat, q < H.size → ¬ A1 q → H1[q]? = H[q]?) → va_S A0 H0 H1 locs1 → W p l e R s m args below meth c H1 locs1 (cells + mc) (slots + ms) Q (F0 m (pc + 3) ls (.float r :: rest))) : W p l e R s m args below meth c H locs cells slots Q (F0 m pc ls st0) := by
  intro T hT X
  rcases hr T hT X with ⟨v, st₀, t, T', L, h0, X', hL, e1, e2, ⟨⟨r, u, hv, hp, hb⟩, hF⟩, st⟩ | ⟨q, st₀, t, T', L, E, ce, h0, X', hL, e1, e2, ⟨u, hp, hb, hF⟩, hce, hcv, hcl, st⟩
  · cases hv
    obtain ⟨k1, k2, k3⟩ := vx_keep h0 e1 hS hA hf hL hF
    obtain ⟨t2, a1, b1⟩ := kk r u t T'.heap (locs ++ L) e1.symm (by rw [← e2]; exact X'.warmed.alike) hp hb k1 k2 k3 T' rfl X'
    exact ⟨t2, st t2 a1, b1⟩
  · obtain ⟨k1, k2, k3⟩ := vx_keep h0 e1 hS hAX hf hL hF
    obtain ⟨t2, a1, b1⟩ := kx E ce q u t T'.heap (locs ++ L) e1.symm (by rw [← e2]; exact X'.warmed.alike) hp hb k1 k2 k3 (by rw [e1]; exact hce) hcv hcl T' rfl X'
    exact ⟨t2, st.trans a1, b1⟩
theorem vx_calld {S SX : Type} {post : UInt64 → S → Prop} {px : SX → Prop} {B : S → State → Prop} {BX : String → SX → State → Prop} {AX : Nat → Prop} (hr : vx_Run p l e R s m args below meth c H locs cells slots mc ms (F0 m pc ls st0) rest (va_Qd post B A1 a) (vx_X px BX AX) free) (hS : va_S A0 H0 H locs) (hA : ∀ q, q < H.size → A1 q → A0 q) (hf : ∀ q, free q → A0 q) (hAX : ∀ q, q < H.size → AX q → A0 q)
    (kx : ∀ (E : String) (ce : Cell) (q9 : Addr) (u : SX) (t : State) (H1 : Heap) (locs1 : List Loc), t.heap = H1 → s.vm.Alike t.vm → px u → BX E u t → H.size ≤ H1.size → (∀ q : Nat, q < H.size → ¬ AX q → H1[q]? = H[q]?) → va_S A0 H0 H1 locs1 → H1[q9]? = some ce → ce.vm = .none → s.vm.findClass E = some ce.cls → vx_W p l e R s m args below meth c H1 locs1 (cells + mc) (slots + ms) Q (F0 m pc ls rest) q9)
    (kk : ∀ (r : UInt64) (u : S) (t : State) (H1 : Heap) (locs1 : List Loc), t.heap = H1 → s.vm.Alike t.vm → post r u → B u t → H.size ≤ H1.size → (∀ q : Nat, q < H.size → ¬ A1 q → H1[q]? = H[q]?) → va_S A0 H0 H1 locs1 → W p l e R s m args below meth c H1 locs1 (cells + mc) (slots + ms) Q (F0 m (pc + 3) ls (.double r :: rest))) : W p l e R s m args below meth c H locs cells slots Q (F0 m pc ls st0) := by
  intro T hT X
  rcases hr T hT X with ⟨v, st₀, t, T', L, h0, X', hL, e1, e2, ⟨⟨r, u, hv, hp, hb⟩, hF⟩, st⟩ | ⟨q, st₀, t, T', L, E, ce, h0, X', hL, e1, e2, ⟨u, hp, hb, hF⟩, hce, hcv, hcl, st⟩
  · cases hv
    obtain ⟨k1, k2, k3⟩ := vx_keep h0 e1 hS hA hf hL hF
    obtain ⟨t2, a1, b1⟩ := kk r u t T'.heap (locs ++ L) e1.symm (by rw [← e2]; exact X'.warmed.alike) hp hb k1 k2 k3 T' rfl X'
    exact ⟨t2, st t2 a1, b1⟩
  · obtain ⟨k1, k2, k3⟩ := vx_keep h0 e1 hS hAX hf hL hF
    obtain ⟨t2, a1, b1⟩ := kx E ce q u t T'.heap (locs ++ L) e1.symm (by rw [← e2]; exact X'.warmed.alike) hp hb k1 k2 k3 (by rw [e1]; exact hce) hcv hcl T' rfl X'
    exact ⟨t2, st.trans a1, b1⟩
theorem vx_callv {S SX : Type} {post : S → Prop} {px : SX → Prop} {B : S → State → Prop} {BX : String → SX → State → Prop} {AX : Nat → Prop} (hr : vx_Run p l e R s m args below meth c H locs cells slots mc ms (F0 m pc ls st0) rest (va_Qv post B A1 a) (vx_X px BX AX) free) (hS : va_S A0 H0 H locs) (hA : ∀ q, q < H.size → A1 q → A0 q) (hf : ∀ q, free q → A0 q) (hAX : ∀ q, q < H.size → AX q → A0 q)
    (kx : ∀ (E : String) (ce : Cell) (q9 : Addr) (u : SX) (t : State) (H1 : Heap) (locs1 : List Loc), t.heap = H1 → s.vm.Alike t.vm → px u → BX E u t → H.size ≤ H1.size → (∀ q : Nat, q < H.size → ¬ AX q → H1[q]? = H[q]?) → va_S A0 H0 H1 locs1 → H1[q9]? = some ce → ce.vm = .none → s.vm.findClass E = some ce.cls → vx_W p l e R s m args below meth c H1 locs1 (cells + mc) (slots + ms) Q (F0 m pc ls rest) q9)
    (kk : ∀ (u : S) (t : State) (H1 : Heap) (locs1 : List Loc), t.heap = H1 → s.vm.Alike t.vm → post u → B u t → H.size ≤ H1.size → (∀ q : Nat, q < H.size → ¬ A1 q → H1[q]? = H[q]?) → va_S A0 H0 H1 locs1 → W p l e R s m args below meth c H1 locs1 (cells + mc) (slots + ms) Q (F0 m (pc + 3) ls (rest))) : W p l e R s m args below meth c H locs cells slots Q (F0 m pc ls st0) := by
  intro T hT X
  rcases hr T hT X with ⟨v, st₀, t, T', L, h0, X', hL, e1, e2, ⟨⟨u, hv, hp, hb⟩, hF⟩, st⟩ | ⟨q, st₀, t, T', L, E, ce, h0, X', hL, e1, e2, ⟨u, hp, hb, hF⟩, hce, hcv, hcl, st⟩
  · cases hv
    obtain ⟨k1, k2, k3⟩ := vx_keep h0 e1 hS hA hf hL hF
    obtain ⟨t2, a1, b1⟩ := kk u t T'.heap (locs ++ L) e1.symm (by rw [← e2]; exact X'.warmed.alike) hp hb k1 k2 k3 T' rfl X'
    exact ⟨t2, st t2 a1, b1⟩
  · obtain ⟨k1, k2, k3⟩ := vx_keep h0 e1 hS hAX hf hL hF
    obtain ⟨t2, a1, b1⟩ := kx E ce q u t T'.heap (locs ++ L) e1.symm (by rw [← e2]; exact X'.warmed.alike) hp hb k1 k2 k3 (by rw [e1]; exact hce) hcv hcl T' rfl X'
    exact ⟨t2, st.trans a1, b1⟩
/-- caught by the row x of this method's table; the rows ahead don't take it -/
theorem vx_catch {own name : String} {E : String} {ce : Cell} {q : Addr} (hown : s.vm.findClass own = some m.cls) (pre : List ExceptionTableEntry) (x : ExceptionTableEntry) (suf : List ExceptionTableEntry) (hsplit : c.exceptionTable.toList = pre ++ x :: suf)
    (hpass : ∀ z ∈ pre, covers z pc = false ∨ (z.catchType ≠ 0 ∧ ∃ nm : String, (Cond.classLink own z.catchType nm).before args s = true ∧ va_Nc E nm s)) (hx : covers x pc = true) (h0 : x.catchType ≠ 0)
    (hlink : (Cond.classLink own x.catchType name).before args s = true) (hcast : (Cond.castable E name).before args s = true) (hcell : H[q]? = some ce) (hv : ce.vm = .none) (hcl : s.vm.findClass E = some ce.cls)
    (kk : W p l e R s m args below meth c H locs cells slots Q (F0 m x.handlerPc ls [.ref q])) : vx_W p l e R s m args below meth c H locs cells slots Q (F0 m pc ls rest) q := by
  intro T hT X
  have hpl : e.platform.magicAccessors = ({} : Platform).magicAccessors := by rw [X.admits.platform]
  obtain ⟨c3, c4, hc3, hc4, hasg⟩ := Cond.castable_spec hcast
  cases Option.some.inj (hc3.symm.trans hcl)
  obtain ⟨c5, hc5, hcl5⟩ := Cond.classLink_spec hown hlink e.platform hpl
  cases Option.some.inj (hc4.symm.trans hc5)
  obtain ⟨vm', X', st⟩ := X.thenCaughtThrough q (g := F0 m pc ls rest) rfl (Steps.refl _) (by rw [hT]; exact hcell) (by rw [hv]; rfl) (by obtain ⟨k9, h9, -⟩ := Vm.findClass_spec hcl; exact ⟨k9, h9⟩) pre x suf hsplit
    (fun z hz => by
      rcases hpass z hz with h | ⟨hz0, nm, hl1, hn1⟩
      · exact Or.inl h
      · obtain ⟨c6, hc6, hcl6⟩ := Cond.classLink_spec hown hl1 e.platform hpl
        obtain ⟨a8, b8, h1, h2, h3⟩ := hn1
        cases Option.some.inj (h1.symm.trans hcl)
        cases Option.some.inj (h2.symm.trans hc6)
        exact Or.inr ⟨hz0, _, hcl6, h3⟩) hx (Or.inr ⟨h0, c4, hcl5, hasg⟩)
  obtain ⟨t, a1, b1⟩ := kk (T.setVm vm') hT X'
  exact ⟨t, st.trans a1, b1⟩
end Rows
section Ends
variable {p : Program} {l : Launch} {e : Env} {R : Room} {s : State} {m : MethodId} {args : Array Value} {below : List Frame} {meth : Method} {c : Code} {H : Heap} {locs : List Loc} {cells slots : Nat} {Q : State → Prop}
variable {mc ms : Nat} {free : Addr → Prop} {A0 A1 : Nat → Prop} {H0 : Heap} {a : Array Value} {ls : Array Slot} {st0 rest : List Value}
variable {Qc : Array Value → State → Outcome → State → Prop} {XC : String → State → State → Prop}
/-- what a body that may throw owes at its end -/
def vx_MQ (below : List Frame) (Qc : Array Value → State → Outcome → State → Prop) (XC : String → State → State → Prop) (a : Array Value) (s : State) (mc ms : Nat) (free : Addr → Prop) : State → Prop := fun t =>
  ∃ o, t.status = .running ∧ Ended t below o ∧ vx_Q Qc XC mc ms free a s o t
theorem vx_ret {g : JFrame} {mc ms : Nat} (k : W p l e R s m args below meth c H locs cells slots (MQ below Qc args s mc ms free) g) : W p l e R s m args below meth c H locs cells slots (vx_MQ below Qc XC args s mc ms free) g := by
  intro T hT X
  obtain ⟨t, a1, o, b1, b2, b3, b4⟩ := k T hT X
  exact ⟨t, a1, o, b1, b2, Or.inl ⟨b3, b4⟩⟩
/-- not caught here: it goes on to the caller -/
theorem vx_widen {g : JFrame} {q : Addr} {k n : Nat} (h1 : cells ≤ k) (h2 : slots ≤ n) (kk : vx_W p l e R s m args below meth c H locs k n Q g q) : vx_W p l e R s m args below meth c H locs cells slots Q g q := fun T hT X => kk T hT (stand_widen X h1 h2)
theorem vx_out {pc : Nat} {E : String} {ce : Cell} {q : Addr} {mc ms : Nat} (hout : ∀ x ∈ c.exceptionTable.toList, covers x pc = false) (hlocks : meth.locks = false) (hcell : H[q]? = some ce) (hv : ce.vm = .none) (hcl : s.vm.findClass E = some ce.cls)
    (hx : ∀ t : State, t.heap = H → s.vm.Alike t.vm → XC E s t) (hf : ∀ z ∈ locs, free z.base) (hc : cells ≤ mc) (hs : slots ≤ ms) :
    vx_W p l e R s m args below meth c H locs cells slots (vx_MQ below Qc XC args s mc ms free) (F0 m pc ls rest) q := by
  intro T hT X
  obtain ⟨st1, hrun, hend, hW, hsm⟩ := X.leaveThrown q (g := F0 m pc ls rest) rfl rfl rfl hout hlocks
  have hcell9 : (T.setFrames (.throwing q :: below)).heap[q]? = some ce := by
    show T.heap[q]? = some ce
    rw [hT]; exact hcell
  exact ⟨_, st1, .threw q, hrun, hend, Or.inr ⟨q, rfl, E, ce, locs, hx _ hT hW.alike, hcell9, hv, hcl, hW, hsm.mono hc hs, hf⟩⟩
theorem vx_frame {U : State} {k n : Nat} (h : s.sameButNew ({ U with vm := s.vm } : State) locs k n) : s.heap.size ≤ U.heap.size ∧ ∀ q : Nat, q < s.heap.size → (∀ z ∈ locs, z.base ≠ q) → U.heap[q]? = s.heap[q]? := by
  obtain ⟨-, h2, -, -, -, h6⟩ := h
  refine ⟨h2, fun q hq hz => ?_⟩
  obtain ⟨c9, e1, e2, e3, e4⟩ := h6 q _ (Array.getElem?_eq_getElem hq)
  have hs : c9.slots = (s.heap[q]).slots := Array.ext_getElem? fun i => e4 i fun hm => hz _ hm rfl
  have h9 : c9 = s.heap[q] := by
    rw [hs] at e2
    exact e2
  have e5 : U.heap[q]? = some c9 := e1
  rw [e5, h9, Array.getElem?_eq_getElem hq]
/-- the words of a throw but the four that speak of the heap -/
def vx_no (w : Cond) : Bool := decide (w ≠ .isRef (.static Bundle.tN "UNASSIGNED_STACK" Bundle.steD)) && decide (w ≠ .isRef (.static Bundle.tN "SUPPRESSED_SENTINEL" Bundle.listD)) && decide (w ≠ .laysStatic Bundle.tN "UNASSIGNED_STACK" Bundle.steD) && decide (w ≠ .laysStatic Bundle.tN "SUPPRESSED_SENTINEL" Bundle.listD)
def vx_at0 (own : String) (ic : Nat) (X : String) (names : List String) : List Cond := (Bundle.ownAtoms0 own ic X names).filter vx_no
def vx_atS (own : String) (ic : Nat) (X : String) (names : List String) : List Cond := (Bundle.ownAtoms own ic X names).filter vx_no
/-- a word that the tables alone decide, or a good one -/
def vx_ot (w : Cond) : Bool := w.onTables || goodWord w
theorem vx_ot_at {args a' : Array Value} {s U : State} {w : Cond} (hW : s.WarmedH U.vm) (hvm : s.vm = U.vm) (hg : vx_ot w = true) (h : w.before args s = true) : w.before a' U = true := by
  simp only [vx_ot, Bool.or_eq_true] at hg
  rcases hg with hg | hg
  · exact va_tabs hg hvm h
  · exact word_at hW (good_of_word hg) h
/-- a list's words: the good ones out of the method's own list, the others by premises of their own -/
theorem vx_hat {args : Array Value} {s : State} {L B : List Cond} (h1 : ∀ w ∈ L.filter goodWord, w.before args s = true) (h2 : ∀ w ∈ L.filter (fun w => !goodWord w), w ∈ B) (h3 : ∀ w ∈ B, w.before args s = true) : ∀ w ∈ L, w.before args s = true := by
  intro w hw
  by_cases g : goodWord w = true
  · exact h1 w (List.mem_filter.mpr ⟨hw, g⟩)
  · refine h3 w (h2 w (List.mem_filter.mpr ⟨hw, ?_⟩))
    show (!goodWord w) = true
    cases hgw : goodWord w
    · rfl
    · exact absurd hgw g
theorem vx_c {args : Array Value} {s : State} {w : Cond} {B : List Cond} (h : w.before args s = true) (t : ∀ w ∈ B, w.before args s = true) : ∀ w' ∈ w :: B, w'.before args s = true := fun w' h' => (List.mem_cons.mp h').elim (fun e => by rw [e]; exact h) (t w')
theorem vx_n {args : Array Value} {s : State} : ∀ w ∈ ([] : List Cond), w.before args s = true := fun _ h => nomatch h
theorem vx_own {args : Array Value} {s : State} {L : List Cond} (h1 : ∀ w ∈ L.filter vx_no, w.before args s = true)
    (hU : (Cond.isRef (.static Bundle.tN "UNASSIGNED_STACK" Bundle.steD)).before args s = true) (hN : (Cond.isRef (.static Bundle.tN "SUPPRESSED_SENTINEL" Bundle.listD)).before args s = true)
    (lU : (Cond.laysStatic Bundle.tN "UNASSIGNED_STACK" Bundle.steD).before args s = true) (lN : (Cond.laysStatic Bundle.tN "SUPPRESSED_SENTINEL" Bundle.listD).before args s = true) : ∀ w ∈ L, w.before args s = true := by
  intro w hw
  by_cases e1 : w = .isRef (.static Bundle.tN "UNASSIGNED_STACK" Bundle.steD)
  · rw [e1]; exact hU
  · by_cases e2 : w = .isRef (.static Bundle.tN "SUPPRESSED_SENTINEL" Bundle.listD)
    · rw [e2]; exact hN
    · by_cases e3 : w = .laysStatic Bundle.tN "UNASSIGNED_STACK" Bundle.steD
      · rw [e3]; exact lU
      · by_cases e4 : w = .laysStatic Bundle.tN "SUPPRESSED_SENTINEL" Bundle.listD
        · rw [e4]; exact lN
        · exact h1 w (List.mem_filter.mpr ⟨hw, by unfold vx_no; rw [decide_eq_true e1, decide_eq_true e2, decide_eq_true e3, decide_eq_true e4]; rfl⟩)
/-- where a static field lies, its class's statics cell in H -/
def vx_L (C n d : String) (A : Nat → Prop) (U : State) (H : Heap) : Prop := ∃ (c : ClassId) (k : Class) (i : Nat) (f : Field) (a : Nat) (cell : Cell), U.vm.findClass C = some c ∧ U.fieldFound? C n d = some (c, k, i, f) ∧ f.isStatic = true ∧ k.statics = some a ∧ H[a]? = some cell ∧ cell.vm.isStatics = true ∧ cell.cls = c ∧ f.slot < cell.slots.size ∧ k.staticTypes[f.slot]? = some f.type ∧ ¬ A a
theorem vx_L.moved {C n d : String} {A : Nat → Prop} {u U : State} {H : Heap} (hvm : u.vm.Alike U.vm) (h : vx_L C n d A u H) : vx_L C n d A U H := by
  obtain ⟨c, k, i, f, a, cell, h1, h2, h3, h4, h5, h6, h7, h8, h9, h10⟩ := h
  obtain ⟨k', hi', he⟩ := State.fieldFound?_setVm hvm h2
  exact ⟨c, k', i, f, a, cell, by rw [hvm.findClass]; exact h1, hi', h3, by rw [he]; exact h4, h5, h6, h7, h8, by rw [he]; exact h9, h10⟩
theorem vx_L.kept {C n d : String} {A : Nat → Prop} {U : State} {H H1 : Heap} (h : vx_L C n d A U H) (hq : ∀ a : Nat, a < H.size → ¬ A a → H1[a]? = H[a]?) : vx_L C n d A U H1 := by
  obtain ⟨c, k, i, f, a, cell, h1, h2, h3, h4, h5, h6, h7, h8, h9, h10⟩ := h
  exact ⟨c, k, i, f, a, cell, h1, h2, h3, h4, by rw [hq a (Array.getElem?_eq_some_iff.mp h5).1 h10]; exact h5, h6, h7, h8, h9, h10⟩
theorem vx_L.narrow {C n d : String} {A B : Nat → Prop} {U : State} {H : Heap} (h : vx_L C n d A U H) (hAB : ∀ q, B q → A q) : vx_L C n d B U H := by
  obtain ⟨c, k, i, f, a, cell, h1, h2, h3, h4, h5, h6, h7, h8, h9, h10⟩ := h
  exact ⟨c, k, i, f, a, cell, h1, h2, h3, h4, h5, h6, h7, h8, h9, fun z => h10 (hAB _ z)⟩
theorem vx_L.word {C n d : String} {A : Nat → Prop} {s : State} {args : Array Value} (h : vx_L C n d A s s.heap) : (Cond.laysStatic C n d).before args s = true := by
  obtain ⟨c, k, i, f, a, cell, h1, h2, h3, h4, h5, h6, h7, h8, h9, -⟩ := h
  show (Cond.laysStatic C n d).holds args s none s [] = true
  exact Cond.laysStatic_of h1 h2 h3 h4 h5 h6 h7 h8 h9
/-- .. and what it holds: null or some reference -/
def vx_Zq (C n d : String) (A : Nat → Prop) (U : State) (H : Heap) : Prop := va_Zq C n d A U H ∧ vx_L C n d A U H
theorem vx_Zq.moved {C n d : String} {A : Nat → Prop} {u U : State} {H : Heap} (hvm : u.vm.Alike U.vm) (h : vx_Zq C n d A u H) : vx_Zq C n d A U H := ⟨va_Zq.moved hvm h.1, vx_L.moved hvm h.2⟩
theorem vx_Zq.kept {C n d : String} {A : Nat → Prop} {U : State} {H H1 : Heap} (h : vx_Zq C n d A U H) (hq : ∀ a : Nat, a < H.size → ¬ A a → H1[a]? = H[a]?) : vx_Zq C n d A U H1 := ⟨va_Zq.kept h.1 hq, vx_L.kept h.2 hq⟩
theorem vx_Zq.narrow {C n d : String} {A B : Nat → Prop} {U : State} {H : Heap} (h : vx_Zq C n d A U H) (hAB : ∀ q, B q → A q) : vx_Zq C n d B U H := ⟨va_Zq.narrow h.1 hAB, vx_L.narrow h.2 hAB⟩
theorem vx_Zqof {args : Array Value} {s : State} {C n d : String} {A : Nat → Prop} (hl : (Cond.laysStatic C n d).before args s = true) (hini : (Cond.initialized C).before args s = true) (h : (Cond.isRef (.static C n d)).before args s = true) (hA : ∀ a : Nat, a < s.heap.size → ¬ A a) : vx_Zq C n d A s s.heap := by
  refine ⟨va_Zqof hl hini h hA, ?_⟩
  obtain ⟨c, k, i, f, a, cell, h1, h2, h3, h4, h5, h6, h7, h8, h9⟩ := Cond.laysStatic_spec hl
  exact ⟨c, k, i, f, a, cell, h1, h2, h3, h4, h5, h6, h7, h8, h9, hA a (Array.getElem?_eq_some_iff.mp h5).1⟩
theorem vx_isRef {C n d : String} {v : Value} {A : Nat → Prop} {s : State} {args : Array Value} (h : va_Z C n d v A s s.heap) (hv : v.isRef = true) : (Cond.isRef (.static C n d)).before args s = true := by
  obtain ⟨cf, kf, fi, f, a, cell, h1, h2, h3, h4, h5, h6, h7, -⟩ := h
  have he : (Term.static C n d).eval args s none [] s = some v := by
    simp [Term.eval, State.fieldNamed?, h1, h2, h4, h5, h6, h7]
  simp only [Cond.before, Cond.holds, Cond.value, he]
  cases v <;> simp_all [Value.isRef]
theorem vx_isRefq {C n d : String} {A : Nat → Prop} {s : State} {args : Array Value} (h : va_Zq C n d A s s.heap) : (Cond.isRef (.static C n d)).before args s = true := by
  rcases h with h | ⟨t, h⟩
  · exact vx_isRef h rfl
  · exact vx_isRef h rfl
/-- the same frame, seen from here: as if the method were called anew in this heap -/
theorem vx_rebase {T : State} (X : Stand p l e R s m args below meth c T locs cells slots) {R' : Room} (hf : R'.frames ≤ R.frames) (hl : R'.locals ≤ R.locals) (hc : cells + R'.cells ≤ R.cells) (hs : slots + R'.slots ≤ R.slots) :
    Stand p l e R' ((T.setVm s.vm).setFrames (.invoking m args :: below)) m args below meth c T [] 0 0 := by
  have htop : (T.setVm s.vm).topJava?.isSome := X.here.top
  have hF : ((T.setVm s.vm).setFrames (.invoking m args :: below)).frames = .invoking m args :: below := State.frames_setFrames _ (State.cur_lt_of_top htop)
  obtain ⟨g₀, hg0⟩ := Option.isSome_iff_exists.mp htop
  obtain ⟨r, hr⟩ := State.topJava?_eq_some.mp hg0
  have hl9 : e.platform.stackLimits (T.setVm s.vm).me = e.platform.stackLimits s.me := X.limits
  have hb9 : (T.setVm s.vm).me.stackBytes = s.me.stackBytes := X.bytes
  refine ⟨X.admits, X.cas, X.clock, hF, ?_, X.hears, X.method, X.code, X.here, X.tail, X.warmed, ?_, ?_, ?_⟩
  · have h := X.room
    have hU : ((T.setVm s.vm).setFrames (.invoking m args :: below)).localsInUse = s.localsInUse := by
      rw [State.localsInUse_invoking hF (meth := meth) (c := c) X.method X.code, State.localsInUse_invoking X.frames X.method X.code]
    simp only [State.hasRoom, Bool.and_eq_true, decide_eq_true_eq] at h ⊢
    obtain ⟨⟨⟨⟨h1, h2, h3, h4, h5, h6⟩, h7⟩, h8⟩, h9⟩ := h
    rw [X.frames, List.length_cons] at h2 h3
    have q1 := X.heapSize
    have q2 := X.used
    simp only [hF, hU, List.length_cons, State.stackLimits_setFrames, State.stackBytes_setFrames, hl9, hb9]
    refine ⟨⟨⟨⟨by omega, by omega, by omega, by omega, by omega, h6⟩, ?_⟩, ?_⟩, X.book⟩
    · show T.heap.size + R'.cells ≤ e.platform.maxCells
      omega
    · show T.slotsUsed + R'.slots ≤ e.platform.maxSlots
      omega
  · rw [State.stackLimits_setFrames]; rfl
  · rw [State.stackBytes_setFrames]; rfl
  · refine ⟨?_, Nat.le_refl _, Nat.le_refl _, ?_, ?_, fun a c9 h9 => ⟨c9, h9, rfl, rfl, fun _ _ => rfl⟩⟩
    · obtain ⟨t, ht, -⟩ := State.frames_cons hr
      show T.setVm s.vm = { ((T.setVm s.vm).setFrames (.invoking m args :: below)).setFrames (T.setVm s.vm).frames with heap := T.heap, slotsUsed := T.slotsUsed }
      rw [State.setFrames_setFrames, State.setFrames_self ht]
      rfl
    · show T.slotsUsed = T.slotsUsed + ((T.heap.toList.drop T.heap.size).map (·.slots.size)).sum
      rw [List.drop_eq_nil_of_le (Nat.le_of_eq Array.length_toList)]
      rfl
    · show ((T.heap.toList.drop T.heap.size).map (·.slots.size)).sum ≤ 0
      rw [List.drop_eq_nil_of_le (Nat.le_of_eq Array.length_toList)]
      exact Nat.le_refl _
/-- 'throw new E()': new; dup; invokespecial; athrow -/
theorem vx_throw0 {cc : ByteArray} {pc : Nat} (hexec : p.tables.exec = Jvm.exec) (hb : c.code = cc) (hl : l.stackTraces = false) {own cls : String} {names : List String} {ik ic mc ms : Nat} {A : Nat → Prop}
    (hown : s.vm.findClass own = some m.cls) (hcls : Bundle.fit cls = true) (hnames : ∀ n ∈ names, Bundle.fit n = true)
    (hk : (Cond.classLink own ik cls).before args s = true) (hini : (Cond.initialized cls).before args s = true) (hat : ∀ w ∈ vx_at0 own ic cls names, w.before args s = true)
    (hgood : ∀ w ∈ Cond.classLink own ik cls :: Cond.initialized cls :: vx_at0 own ic cls names, vx_ot w = true)
    (hU : vx_Zq Bundle.tN "UNASSIGNED_STACK" Bundle.steD A s s.heap) (hN : vx_Zq Bundle.tN "SUPPRESSED_SENTINEL" Bundle.listD A s s.heap) (hS : va_S A s.heap H locs) (hsize : ls.size = c.maxLocals)
    (d0 : decode cc pc = .ok (.new ik, 3)) (d3 : decode cc (pc + 3) = .ok (.dup, 1)) (d4 : decode cc (pc + 4) = .ok (.invokespecial ic, 3)) (d7 : decode cc (pc + 7) = .ok (.athrow, 1))
    (hout : ∀ x ∈ c.exceptionTable.toList, covers x (pc + 7) = false)
    (hRframes : names.length + 3 < R.frames) (hRlocals : (rest.map fun v => v.category).sum + (13 * (names.length + 1) + 42) ≤ R.locals) (hRcells : cells + 1 ≤ R.cells) (hRslots : slots + 6 ≤ R.slots) (hlocks : meth.locks = false)
    (hx : ∀ t : State, s.vm.Alike t.vm → H.size ≤ t.heap.size → (∀ q : Nat, q < H.size → t.heap[q]? = H[q]?) → XC cls s t)
    (hf : ∀ z ∈ locs, free z.base) (hc : cells + 1 ≤ mc) (hs : slots + 6 ≤ ms) :
    W p l e R s m args below meth c H locs cells slots (vx_MQ below Qc XC args s mc ms free) (F0 m pc ls rest) := by
  intro T hT X
  have htr : e.platform.stackTraces = false := (show e.platform.stackTraces = l.stackTraces by rw [X.admits.platform]).trans hl
  have Y := vx_rebase X (R' := { frames := R.frames, locals := R.locals, cells := 1, slots := 6 }) (Nat.le_refl _) (Nat.le_refl _) hRcells hRslots
  obtain ⟨s', hA⟩ : ∃ z, z = (T.setVm s.vm).setFrames (.invoking m args :: below) := ⟨_, rfl⟩
  rw [← hA] at Y
  have hvm : s'.vm = s.vm := by rw [hA]; rfl
  have hhp : s'.heap = H := by rw [hA]; exact hT
  have hW0 : s.WarmedH s'.vm := by rw [hvm]; exact State.WarmedH.refl s
  have hat' : ∀ w ∈ vx_at0 own ic cls names, w.before args s' = true := fun w hw => vx_ot_at hW0 hvm.symm (hgood w (List.mem_cons_of_mem _ (List.mem_cons_of_mem _ hw))) (hat w hw)
  have hk' : (Cond.classLink own ik cls).before args s' = true := vx_ot_at hW0 hvm.symm (hgood _ List.mem_cons_self) hk
  have hini' : (Cond.initialized cls).before args s' = true := vx_ot_at hW0 hvm.symm (hgood _ (List.mem_cons_of_mem _ List.mem_cons_self)) hini
  have hU' : vx_Zq Bundle.tN "UNASSIGNED_STACK" Bundle.steD A s' s'.heap := by rw [hhp]; exact vx_Zq.moved hW0.alike (hU.kept hS.2.1)
  have hN' : vx_Zq Bundle.tN "SUPPRESSED_SENTINEL" Bundle.listD A s' s'.heap := by rw [hhp]; exact vx_Zq.moved hW0.alike (hN.kept hS.2.1)
  have h : ∀ w ∈ Bundle.ownAtoms0 own ic cls names, w.before args s' = true := vx_own hat' (vx_isRefq hU'.1) (vx_isRefq hN'.1) hU'.2.word hN'.2.word
  have hown' : s'.vm.findClass own = some m.cls := by rw [hvm]; exact hown
  have hins : (Cond.instantiable cls 6).before args s' = true := h _ (by simp [Bundle.ownAtoms0])
  obtain ⟨vm₁, cX, kX, hfX, hkX, -, -, X₁, st1⟩ := Y.newCold hexec (own := own) (C := cls) (index := ik) (n := 6) hown' hk' hins hini'
    (g := F0 m pc ls rest) rfl (by rw [hb]; exact d0) (Nat.le_refl _) (Nat.le_refl _)
  generalize hT1 : (T.setVm vm₁).pushCell { cls := cX, slots := kX.instanceTypes.map defaultValue, vm := .none } = T1 at X₁ st1
  have hcat : (Value.ref T.heap.size).category = 1 := rfl
  have hcellA : T1.heap[T.heap.size]? = some (freshCell cX kX) := by rw [← hT1]; exact State.heap_pushCell_size _ _
  have d3' : decode c.code (pc + 3) = .ok (.dup, 1) := by rw [hb]; exact d3
  obtain ⟨U, hsteps, hrun, hend, hW, hsame, ce, hce, hO⟩ := X₁.ctorThrow0 hexec htr (own := own) (cls := cls) (names := names) (ic := ic) hown' hcls hnames h (fun x hx => nomatch hx) hfX hkX hcellA (by rw [hhp, hT]; exact Nat.le_refl _)
    (g := { method := m, pc := pc + 4, locals := ls, stack := .ref T.heap.size :: .ref T.heap.size :: rest, locked := none }) rfl hsize rfl rfl (rest := rest) rfl
    (by rw [hb]; exact d4) (by rw [hb]; exact d7) hout hRframes (by simp only [List.map_cons, List.sum_cons, hcat]; omega) hlocks
  obtain ⟨f1, f2⟩ := vx_frame hsame
  rw [hhp] at f1 f2
  have hWs : s.WarmedH U.vm := State.WarmedH.trans hW0 hW
  have hcl : s.vm.findClass cls = some ce.cls := by
    have h9 := hO.cls
    rw [hvm] at h9
    exact h9
  have hall : s.sameButNew ({ U with vm := s.vm } : State) locs mc ms := by
    subst hA
    obtain ⟨e1, e2⟩ := hsame
    rw [State.setFrames_setFrames] at e1
    have h2 : (T.setVm s.vm).sameButNew ({ U with vm := s.vm } : State) [] (0 + 1) (0 + 6) := ⟨e1, e2⟩
    have h3 := X.same.trans h2
    rw [List.append_nil] at h3
    exact h3.mono hc hs
  refine ⟨U, ?_, .threw T.heap.size, hrun, hend, Or.inr ⟨T.heap.size, rfl, cls, ce, locs, hx U hWs.alike f1 (fun q hq => f2 q hq (fun z hz => nomatch hz)), hce, hO.vm, hcl, hWs, hall, hf⟩⟩
  refine st1 _ ?_
  show Steps p.tables e below (T1.setTop { method := m, pc := pc + 3, locals := ls, stack := .ref T.heap.size :: rest, locked := none }) _
  jvm_step X₁.here [X₁.here.top, hexec, d3', Value.category]
  exact hsteps
/-- 'throw new E("text")': new; dup; ldc; invokespecial; athrow -/
theorem vx_throwS {cc : ByteArray} {pc : Nat} (hexec : p.tables.exec = Jvm.exec) (hb : c.code = cc) (hl : l.stackTraces = false) {own cls text : String} {names : List String} {ik is ic mc ms sa : Nat} {A : Nat → Prop}
    (hown : s.vm.findClass own = some m.cls) (hcls : Bundle.fit cls = true) (hnames : ∀ n ∈ names, Bundle.fit n = true)
    (hk : (Cond.classLink own ik cls).before args s = true) (hini : (Cond.initialized cls).before args s = true) (hstr : vk_R own is text sa s) (hat : ∀ w ∈ vx_atS own ic cls names, w.before args s = true)
    (hgood : ∀ w ∈ Cond.classLink own ik cls :: Cond.initialized cls :: vx_atS own ic cls names, vx_ot w = true)
    (hU : vx_Zq Bundle.tN "UNASSIGNED_STACK" Bundle.steD A s s.heap) (hN : vx_Zq Bundle.tN "SUPPRESSED_SENTINEL" Bundle.listD A s s.heap) (hS : va_S A s.heap H locs) (hsize : ls.size = c.maxLocals)
    (d0 : decode cc pc = .ok (.new ik, 3)) (d3 : decode cc (pc + 3) = .ok (.dup, 1)) (d4 : decode cc (pc + 4) = .ok (.ldc is, 2)) (d6 : decode cc (pc + 6) = .ok (.invokespecial ic, 3)) (d9 : decode cc (pc + 9) = .ok (.athrow, 1))
    (hout : ∀ x ∈ c.exceptionTable.toList, covers x (pc + 9) = false)
    (hRframes : names.length + 3 < R.frames) (hRlocals : (rest.map fun v => v.category).sum + (13 * (names.length + 1) + 43) ≤ R.locals) (hRcells : cells + 1 ≤ R.cells) (hRslots : slots + 6 ≤ R.slots) (hlocks : meth.locks = false)
    (hx : ∀ t : State, s.vm.Alike t.vm → H.size ≤ t.heap.size → (∀ q : Nat, q < H.size → t.heap[q]? = H[q]?) → XC cls s t)
    (hf : ∀ z ∈ locs, free z.base) (hc : cells + 1 ≤ mc) (hs : slots + 6 ≤ ms) :
    W p l e R s m args below meth c H locs cells slots (vx_MQ below Qc XC args s mc ms free) (F0 m pc ls rest) := by
  intro T hT X
  have htr : e.platform.stackTraces = false := (show e.platform.stackTraces = l.stackTraces by rw [X.admits.platform]).trans hl
  have Y := vx_rebase X (R' := { frames := R.frames, locals := R.locals, cells := 1, slots := 6 }) (Nat.le_refl _) (Nat.le_refl _) hRcells hRslots
  obtain ⟨s', hA⟩ : ∃ z, z = (T.setVm s.vm).setFrames (.invoking m args :: below) := ⟨_, rfl⟩
  rw [← hA] at Y
  have hvm : s'.vm = s.vm := by rw [hA]; rfl
  have hhp : s'.heap = H := by rw [hA]; exact hT
  have hW0 : s.WarmedH s'.vm := by rw [hvm]; exact State.WarmedH.refl s
  have hat' : ∀ w ∈ vx_atS own ic cls names, w.before args s' = true := fun w hw => vx_ot_at hW0 hvm.symm (hgood w (List.mem_cons_of_mem _ (List.mem_cons_of_mem _ hw))) (hat w hw)
  have hk' : (Cond.classLink own ik cls).before args s' = true := vx_ot_at hW0 hvm.symm (hgood _ List.mem_cons_self) hk
  have hini' : (Cond.initialized cls).before args s' = true := vx_ot_at hW0 hvm.symm (hgood _ (List.mem_cons_of_mem _ List.mem_cons_self)) hini
  have hU' : vx_Zq Bundle.tN "UNASSIGNED_STACK" Bundle.steD A s' s'.heap := by rw [hhp]; exact vx_Zq.moved hW0.alike (hU.kept hS.2.1)
  have hN' : vx_Zq Bundle.tN "SUPPRESSED_SENTINEL" Bundle.listD A s' s'.heap := by rw [hhp]; exact vx_Zq.moved hW0.alike (hN.kept hS.2.1)
  have h : ∀ w ∈ Bundle.ownAtoms own ic cls names, w.before args s' = true := vx_own hat' (vx_isRefq hU'.1) (vx_isRefq hN'.1) hU'.2.word hN'.2.word
  have hown' : s'.vm.findClass own = some m.cls := by rw [hvm]; exact hown
  have hins : (Cond.instantiable cls 6).before args s' = true := h _ (by simp [Bundle.ownAtoms])
  obtain ⟨vm₁, cX, kX, hfX, hkX, -, -, X₁, st1⟩ := Y.newCold hexec (own := own) (C := cls) (index := ik) (n := 6) hown' hk' hins hini'
    (g := F0 m pc ls rest) rfl (by rw [hb]; exact d0) (Nat.le_refl _) (Nat.le_refl _)
  generalize hT1 : (T.setVm vm₁).pushCell { cls := cX, slots := kX.instanceTypes.map defaultValue, vm := .none } = T1 at X₁ st1
  have hcat : (Value.ref T.heap.size).category = 1 := rfl
  have hcellA : T1.heap[T.heap.size]? = some (freshCell cX kX) := by rw [← hT1]; exact State.heap_pushCell_size _ _
  have d3' : decode c.code (pc + 3) = .ok (.dup, 1) := by rw [hb]; exact d3
  have d4' : decode c.code (pc + 4) = .ok (.ldc is, 2) := by rw [hb]; exact d4
  have hstr' : vk_R own is text sa s' := vk_R.warm hW0 hstr
  obtain ⟨U, hsteps, hrun, hend, hW, hsame, ce, hce, hO⟩ := X₁.ctorThrowS hexec htr (own := own) (cls := cls) (names := names) (ic := ic) hown' hcls hnames h (fun x hx => nomatch hx) hfX hkX hcellA (by rw [hhp, hT]; exact Nat.le_refl _) (msg := .ref sa) rfl
    (g := { method := m, pc := pc + 6, locals := ls, stack := .ref sa :: .ref T.heap.size :: .ref T.heap.size :: rest, locked := none }) rfl hsize rfl rfl (rest := rest) rfl
    (by rw [hb]; exact d6) (by rw [hb]; exact d9) hout hRframes (by simp only [List.map_cons, List.sum_cons, hcat]; omega) hlocks
  obtain ⟨f1, f2⟩ := vx_frame hsame
  rw [hhp] at f1 f2
  have hWs : s.WarmedH U.vm := State.WarmedH.trans hW0 hW
  have hcl : s.vm.findClass cls = some ce.cls := by
    have h9 := hO.cls
    rw [hvm] at h9
    exact h9
  have hall : s.sameButNew ({ U with vm := s.vm } : State) locs mc ms := by
    subst hA
    obtain ⟨e1, e2⟩ := hsame
    rw [State.setFrames_setFrames] at e1
    have h2 : (T.setVm s.vm).sameButNew ({ U with vm := s.vm } : State) [] (0 + 1) (0 + 6) := ⟨e1, e2⟩
    have h3 := X.same.trans h2
    rw [List.append_nil] at h3
    exact h3.mono hc hs
  refine ⟨U, ?_, .threw T.heap.size, hrun, hend, Or.inr ⟨T.heap.size, rfl, cls, ce, locs, hx U hWs.alike f1 (fun q hq => f2 q hq (fun z hz => nomatch hz)), hce, hO.vm, hcl, hWs, hall, hf⟩⟩
  refine st1 _ ?_
  show Steps p.tables e below (T1.setTop { method := m, pc := pc + 3, locals := ls, stack := .ref T.heap.size :: rest, locked := none }) _
  jvm_step X₁.here [X₁.here.top, hexec, d3', Value.category]
  exact X₁.ldcString hexec (own := own) (text := text) (index := is) (a := sa) hown' hstr'.1 hstr'.2
    (g := { method := m, pc := pc + 4, locals := ls, stack := .ref T.heap.size :: .ref T.heap.size :: rest, locked := none }) rfl d4' _ hsteps
/-- 'throw new E("text")', the text by a wide index -/
theorem vx_throwSW {cc : ByteArray} {pc : Nat} (hexec : p.tables.exec = Jvm.exec) (hb : c.code = cc) (hl : l.stackTraces = false) {own cls text : String} {names : List String} {ik is ic mc ms sa : Nat} {A : Nat → Prop}
    (hown : s.vm.findClass own = some m.cls) (hcls : Bundle.fit cls = true) (hnames : ∀ n ∈ names, Bundle.fit n = true)
    (hk : (Cond.classLink own ik cls).before args s = true) (hini : (Cond.initialized cls).before args s = true) (hstr : vk_R own is text sa s) (hat : ∀ w ∈ vx_atS own ic cls names, w.before args s = true)
    (hgood : ∀ w ∈ Cond.classLink own ik cls :: Cond.initialized cls :: vx_atS own ic cls names, vx_ot w = true)
    (hU : vx_Zq Bundle.tN "UNASSIGNED_STACK" Bundle.steD A s s.heap) (hN : vx_Zq Bundle.tN "SUPPRESSED_SENTINEL" Bundle.listD A s s.heap) (hS : va_S A s.heap H locs) (hsize : ls.size = c.maxLocals)
    (d0 : decode cc pc = .ok (.new ik, 3)) (d3 : decode cc (pc + 3) = .ok (.dup, 1)) (d4 : decode cc (pc + 4) = .ok (.ldc_w is, 3)) (d7 : decode cc (pc + 7) = .ok (.invokespecial ic, 3)) (d10 : decode cc (pc + 10) = .ok (.athrow, 1))
    (hout : ∀ x ∈ c.exceptionTable.toList, covers x (pc + 10) = false)
    (hRframes : names.length + 3 < R.frames) (hRlocals : (rest.map fun v => v.category).sum + (13 * (names.length + 1) + 43) ≤ R.locals) (hRcells : cells + 1 ≤ R.cells) (hRslots : slots + 6 ≤ R.slots) (hlocks : meth.locks = false)
    (hx : ∀ t : State, s.vm.Alike t.vm → H.size ≤ t.heap.size → (∀ q : Nat, q < H.size → t.heap[q]? = H[q]?) → XC cls s t)
    (hf : ∀ z ∈ locs, free z.base) (hc : cells + 1 ≤ mc) (hs : slots + 6 ≤ ms) :
    W p l e R s m args below meth c H locs cells slots (vx_MQ below Qc XC args s mc ms free) (F0 m pc ls rest) := by
  intro T hT X
  have htr : e.platform.stackTraces = false := (show e.platform.stackTraces = l.stackTraces by rw [X.admits.platform]).trans hl
  have Y := vx_rebase X (R' := { frames := R.frames, locals := R.locals, cells := 1, slots := 6 }) (Nat.le_refl _) (Nat.le_refl _) hRcells hRslots
  obtain ⟨s', hA⟩ : ∃ z, z = (T.setVm s.vm).setFrames (.invoking m args :: below) := ⟨_, rfl⟩
  rw [← hA] at Y
  have hvm : s'.vm = s.vm := by rw [hA]; rfl
  have hhp : s'.heap = H := by rw [hA]; exact hT
  have hW0 : s.WarmedH s'.vm := by rw [hvm]; exact State.WarmedH.refl s
  have hat' : ∀ w ∈ vx_atS own ic cls names, w.before args s' = true := fun w hw => vx_ot_at hW0 hvm.symm (hgood w (List.mem_cons_of_mem _ (List.mem_cons_of_mem _ hw))) (hat w hw)
  have hk' : (Cond.classLink own ik cls).before args s' = true := vx_ot_at hW0 hvm.symm (hgood _ List.mem_cons_self) hk
  have hini' : (Cond.initialized cls).before args s' = true := vx_ot_at hW0 hvm.symm (hgood _ (List.mem_cons_of_mem _ List.mem_cons_self)) hini
  have hU' : vx_Zq Bundle.tN "UNASSIGNED_STACK" Bundle.steD A s' s'.heap := by rw [hhp]; exact vx_Zq.moved hW0.alike (hU.kept hS.2.1)
  have hN' : vx_Zq Bundle.tN "SUPPRESSED_SENTINEL" Bundle.listD A s' s'.heap := by rw [hhp]; exact vx_Zq.moved hW0.alike (hN.kept hS.2.1)
  have h : ∀ w ∈ Bundle.ownAtoms own ic cls names, w.before args s' = true := vx_own hat' (vx_isRefq hU'.1) (vx_isRefq hN'.1) hU'.2.word hN'.2.word
  have hown' : s'.vm.findClass own = some m.cls := by rw [hvm]; exact hown
  have hins : (Cond.instantiable cls 6).before args s' = true := h _ (by simp [Bundle.ownAtoms])
  obtain ⟨vm₁, cX, kX, hfX, hkX, -, -, X₁, st1⟩ := Y.newCold hexec (own := own) (C := cls) (index := ik) (n := 6) hown' hk' hins hini'
    (g := F0 m pc ls rest) rfl (by rw [hb]; exact d0) (Nat.le_refl _) (Nat.le_refl _)
  generalize hT1 : (T.setVm vm₁).pushCell { cls := cX, slots := kX.instanceTypes.map defaultValue, vm := .none } = T1 at X₁ st1
  have hcat : (Value.ref T.heap.size).category = 1 := rfl
  have hcellA : T1.heap[T.heap.size]? = some (freshCell cX kX) := by rw [← hT1]; exact State.heap_pushCell_size _ _
  have d3' : decode c.code (pc + 3) = .ok (.dup, 1) := by rw [hb]; exact d3
  have d4' : decode c.code (pc + 4) = .ok (.ldc_w is, 3) := by rw [hb]; exact d4
  have hstr' : vk_R own is text sa s' := vk_R.warm hW0 hstr
  obtain ⟨U, hsteps, hrun, hend, hW, hsame, ce, hce, hO⟩ := X₁.ctorThrowS hexec htr (own := own) (cls := cls) (names := names) (ic := ic) hown' hcls hnames h (fun x hx => nomatch hx) hfX hkX hcellA (by rw [hhp, hT]; exact Nat.le_refl _) (msg := .ref sa) rfl
    (g := { method := m, pc := pc + 7, locals := ls, stack := .ref sa :: .ref T.heap.size :: .ref T.heap.size :: rest, locked := none }) rfl hsize rfl rfl (rest := rest) rfl
    (by rw [hb]; exact d7) (by rw [hb]; exact d10) hout hRframes (by simp only [List.map_cons, List.sum_cons, hcat]; omega) hlocks
  obtain ⟨f1, f2⟩ := vx_frame hsame
  rw [hhp] at f1 f2
  have hWs : s.WarmedH U.vm := State.WarmedH.trans hW0 hW
  have hcl : s.vm.findClass cls = some ce.cls := by
    have h9 := hO.cls
    rw [hvm] at h9
    exact h9
  have hall : s.sameButNew ({ U with vm := s.vm } : State) locs mc ms := by
    subst hA
    obtain ⟨e1, e2⟩ := hsame
    rw [State.setFrames_setFrames] at e1
    have h2 : (T.setVm s.vm).sameButNew ({ U with vm := s.vm } : State) [] (0 + 1) (0 + 6) := ⟨e1, e2⟩
    have h3 := X.same.trans h2
    rw [List.append_nil] at h3
    exact h3.mono hc hs
  refine ⟨U, ?_, .threw T.heap.size, hrun, hend, Or.inr ⟨T.heap.size, rfl, cls, ce, locs, hx U hWs.alike f1 (fun q hq => f2 q hq (fun z hz => nomatch hz)), hce, hO.vm, hcl, hWs, hall, hf⟩⟩
  refine st1 _ ?_
  show Steps p.tables e below (T1.setTop { method := m, pc := pc + 3, locals := ls, stack := .ref T.heap.size :: rest, locked := none }) _
  jvm_step X₁.here [X₁.here.top, hexec, d3', Value.category]
  exact X₁.ldcStringW hexec (own := own) (text := text) (index := is) (a := sa) hown' hstr'.1 hstr'.2
    (g := { method := m, pc := pc + 4, locals := ls, stack := .ref T.heap.size :: .ref T.heap.size :: rest, locked := none }) rfl d4' _ hsteps
end Ends
section Bodies
variable {l : Launch}
theorem vx_ofW {y : MethodName} {ws ws' : List Cond} {rm : Room} {Pc : Array Value → State → Prop} {Qc : Array Value → State → Outcome → State → Prop} {XC : String → State → State → Prop} {mc ms : Nat} {free : Addr → Prop} {cc : ByteArray} {maxL : Nat} {ret : Option FieldType}
    (hy : plainName y.cls = true) (hw : ws = Cond.code y cc maxL ret :: ws')
    (body : ∀ p e s m args below meth c s₁, BodyLoose p l y (headSpec ws rm) cc maxL ret e s m args below meth c s₁ → c.maxLocals = maxL → (∀ x ∈ c.exceptionTable.toList, False) → Pc args s →
      W p l e (headSpec ws rm).room s m args below meth c s.heap [] 0 0 (vx_MQ below Qc XC args s mc ms free) (entryFrame m args maxL)) : vx_Met l y ws rm Pc Qc XC mc ms free := by
  refine MetFree.of_bodyS (code := cc) (maxLocals := maxL) (ret := ret) hy ?_ ?_
  · intro args s m h hn
    obtain ⟨meth, c, h1, h2, h3, h4, h5, h6, -, -⟩ := Cond.code_spec hn (atoms_spec (ws := ws) h _ (by rw [hw]; exact List.mem_cons_self))
    exact ⟨meth, c, h1, h2, h3, h4, h5, h6⟩
  · intro p e s m args below meth c s₁ B hml hP _
    have hh0 : s₁.heap = s.heap := by rw [B.state]; rfl
    have ht : ∀ x ∈ c.exceptionTable.toList, False := by
      obtain ⟨meth9, c9, h1, h2, -, -, -, -, h7, -⟩ := Cond.code_spec B.named (atoms_spec (ws := ws) B.pre _ (by rw [hw]; exact List.mem_cons_self))
      cases Option.some.inj (h1.symm.trans B.method)
      cases Option.some.inj (h2.symm.trans (Stand.of_body B).code)
      intro x hx
      rw [Array.isEmpty_iff.mp h7] at hx
      cases hx
    obtain ⟨t, a1, o, b1, b2, b3⟩ := body p e s m args below meth c s₁ B hml ht hP s₁ hh0 (Stand.of_body B)
    exact ⟨t, o, a1, b1, b2, b3⟩
/-- the table of a body with handlers -/
theorem vx_table {p : Program} {x y : MethodName} {S : Spec} {cc bytes : ByteArray} {maxL maxL' : Nat} {ret ret' : Option FieldType} {e : Env} {s s₁ : State} {m : MethodId} {args : Array Value} {below : List Frame} {meth : Method} {c : Code} {hh : List (Nat × Nat × Nat × Nat)}
    (B : BodyLoose p l y S cc maxL ret e s m args below meth c s₁) (h : (Cond.codeWith y bytes maxL' ret' hh).before args s = true) : c.exceptionTable.toList = tableOf hh := by
  obtain ⟨m9, meth9, c9, hn9, h1, h2, -, -, h6, -⟩ := Cond.codeWith_spec h
  cases Option.some.inj (hn9.symm.trans B.named)
  cases Option.some.inj (h1.symm.trans B.method)
  cases Option.some.inj (h2.symm.trans (Stand.of_body B).code)
  rw [← h6, table_eq]
end Bodies
end VXA
/-! ===== END ===== -/
/-! ===== BEGIN a static call of a method with an exception table ===== -/
section VXS
variable {p : Program} {l : Launch} {e : Env} {R : Room} {s : State} {m : MethodId} {args : Array Value} {below : List Frame} {meth : Method} {c : Code} {T : State} {H : Heap} {locs : List Loc} {cells slots : Nat}
abbrev vx_CSW (R : Room) (s : State) (args : Array Value) (own : String) (index : Nat) (y : MethodName) (bytes : ByteArray) (maxL : Nat) (ret : Option FieldType) (hh : List (Nat × Nat × Nat × Nat)) (ws : List Cond) (rm : Room) (mc ms n : Nat) : Prop :=
  (rm.cells = mc ∧ rm.slots = ms ∧ rm.frames + 1 ≤ R.frames ∧ 8 + (maxL + 11) + rm.locals ≤ R.locals ∧ (∀ w ∈ ws, ∀ (a' : Array Value) (U : State), s.WarmedH U.vm → w.before a' U = true) ∧ Cond.codeWith y bytes maxL ret hh ∈ ws) ∧
  (Cond.codeWith y bytes maxL ret hh).before args s = true ∧ (Cond.initialized y.cls).before args s = true ∧ (y.cls ≠ "java/lang/invoke/MethodHandle" ∧ y.cls ≠ "java/lang/invoke/VarHandle") ∧
  (∀ sig, parseMethodDescriptor y.desc = some sig → n = sig.parameters.length) ∧ (Cond.methodLink own index y).before args s = true ∧ (Cond.static y).before args s = true
theorem vx_cwSW {own : String} {index maxL mc ms : Nat} {y : MethodName} {bytes : ByteArray} {ret : Option FieldType} {hh : List (Nat × Nat × Nat × Nat)} {Ts ws ws' : List Cond} {rm : Room} (n : Nat) (ht : ∀ w ∈ Ts, w.before args s = true) (hT : GoodIn Ts (va_wsS own index y ws)) (hw : ws = Cond.codeWith y bytes maxL ret hh :: ws') (hrc : rm.cells = mc) (hrs : rm.slots = ms)
    (hd : y.cls ≠ "java/lang/invoke/MethodHandle" ∧ y.cls ≠ "java/lang/invoke/VarHandle" ∧ (parseMethodDescriptor y.desc).map (fun d => d.parameters.length) = some n) (hR : rm.frames + 1 ≤ R.frames ∧ 8 + (maxL + 11) + rm.locals ≤ R.locals) :
    vx_CSW R s args own index y bytes maxL ret hh ws rm mc ms n := by
  have ok : ∀ w ∈ va_wsS own index y ws, w.before args s = true := fun w h => ht w (hT w h).1
  have hG : GoodIn Ts ws := fun w h => hT w (by unfold va_wsS; exact List.mem_append_right _ h)
  have hc : Cond.codeWith y bytes maxL ret hh ∈ ws := by rw [hw]; exact List.mem_cons_self
  refine ⟨⟨hrc, hrs, hR.1, hR.2, pay_in ht hG, hc⟩, ht _ (hG _ hc).1, ok _ (by simp [va_wsS]), ⟨hd.1, hd.2.1⟩, fun sig h => ?_, ok _ (by simp [va_wsS]), ok _ (by simp [va_wsS])⟩
  have h2 := hd.2.2
  rw [h] at h2
  exact (Option.some.inj h2).symm
theorem vx_callSW (X : Stand p l e R s m args below meth c T locs cells slots) (hexec : p.tables.exec = Jvm.exec) {own : String} {index : Nat} {y : MethodName} {bytes : ByteArray} {maxL : Nat} {ret : Option FieldType} {hh : List (Nat × Nat × Nat × Nat)}
    (hown : s.vm.findClass own = some m.cls) (hlink : (Cond.methodLink own index y).before args s = true) (hstat : (Cond.static y).before args s = true) (hinit : (Cond.initialized y.cls).before args s = true)
    (hcode : (Cond.codeWith y bytes maxL ret hh).before args s = true) (hy : y.cls ≠ "java/lang/invoke/MethodHandle" ∧ y.cls ≠ "java/lang/invoke/VarHandle")
    {W9 : Nat} {Pre : Pt → Array Value → Prop} {Post : Pt → Array Value → Option Value → Pt → Prop} (hK : Back l R p e below s args y 3 W9 Pre Post)
    {g : JFrame} (hg : g.method = m) (hsize : g.locals.size = c.maxLocals) {argsL rest : List Value} (hlen : ∀ sig, parseMethodDescriptor y.desc = some sig → argsL.length = sig.parameters.length)
    (hstack : g.stack = argsL.reverse ++ rest) (hW : 2 * g.monitorRoom + (rest.map fun v => v.category).sum ≤ W9) (hdg : decode c.code g.pc = .ok (.invokestatic index, 3))
    (hpre : ∀ vm₁, s.WarmedH vm₁ → Pre ⟨T.setVm vm₁, locs, cells, slots⟩ argsL.toArray) :
    ∃ (v : Option Value) (vm₁ : Vm) (B : Pt), s.WarmedH vm₁ ∧ Stand p l e R s m args below meth c B.U B.locs B.cells B.slots ∧ Post ⟨T.setVm vm₁, locs, cells, slots⟩ argsL.toArray v B ∧
      ∀ target, Steps p.tables e below (B.U.setTop { g with pc := g.pc + 3, stack := v.toList ++ rest }) target → Steps p.tables e below (T.setTop g) target := by
  obtain ⟨mk, methM, cM, hnamed, hmethM, -, -, -, -, -, -, hsigM⟩ := Cond.codeWith_spec hcode
  have hstatic : methM.isStatic = true := Cond.static_spec hnamed hmethM hstat
  obtain ⟨kP, hkP, -⟩ := className_of_methodNamed hnamed
  have hinitP : kP.init = .initialized := Cond.initialized_spec (findClass_of_methodNamed hnamed) hkP hinit
  obtain ⟨vm₁, X₁, hstep₁⟩ := X.invokestatic hexec hown hlink hnamed hmethM hstatic hkP hinitP hy (g := g) hg (argsL := argsL) (rest := rest) (hlen _ hsigM) hstack hdg
  obtain ⟨v, B, X', hpost, hsteps⟩ := hK m meth c ⟨T.setVm vm₁, locs, cells, slots⟩ { g with stack := rest } (.invokestatic index) mk argsL.toArray X₁ hg hsize hdg hW (X₁.named hnamed) (hpre vm₁ X₁.warmed)
  exact ⟨v, vm₁, B, X₁.warmed, X', hpost, fun target h => hstep₁ _ fun acts => by rw [doInvoke_state]; exact hsteps.trans h⟩
theorem vx_runSW {y : MethodName} {bytes cc : ByteArray} {maxL nL mc ms n index : Nat} {ret : Option FieldType} {hh : List (Nat × Nat × Nat × Nat)} {ws : List Cond} {rm : Room} {Pc : Array Value → State → Prop} {Qc : Array Value → State → Outcome → State → Prop} {free : Addr → Prop} {Ts : List Cond} {own : String} {As rest : List Value} {g : JFrame}
    (S : CallFix p m c cc nL s args Ts own) (hM : Met l y ws rm Pc Qc mc ms free) (cw : vx_CSW R s args own index y bytes maxL ret hh ws rm mc ms n) (hp : PreS s H Pc As)
    (hg : g.method = m) (hn : As.length = n) (hsize : g.locals.size = nL) (hstack : g.stack = As.reverse ++ rest) (hW : 2 * g.monitorRoom + (rest.map fun v => v.category).sum ≤ 8) (hdg : decode cc g.pc = .ok (.invokestatic index, 3)) (hf : cells + mc ≤ R.cells ∧ slots + ms ≤ R.slots) :
    va_Run p l e R s m args below meth c H locs cells slots mc ms g rest (Qc As.toArray) (free) := by
  obtain ⟨⟨hrc, hrs, hfr, hlo, hws, hcw⟩, hcode, hini, hy, hlen, hl, hstt⟩ := cw
  have hK : Back l R p e below s args y 3 8 (PreOf R mc ms Pc) (PostOf Qc mc ms free) := va_backW (hh := hh) (bytes := bytes) (maxL := maxL) (ret := ret) hM hp.1 hrc hrs hfr hlo hws hcw (fun a' U hW => word_at hW (Or.inl (by first | rfl | simp [Cond.onTables, Cond.keeps, Cond.steady])) hini)
  obtain ⟨hx, hb, hml, ho, -⟩ := S
  intro T hT X
  obtain ⟨v, vm₁, ⟨U', l2, c2, s2⟩, hW₁, X', ⟨g', mk, t, L, e1, e2, hq, h1, hL, h2, h3⟩, st⟩ := vx_callSW X hx (hh := hh) (bytes := bytes) (maxL := maxL) (ret := ret) ho hl hstt hini hcode hy hK hg (hsize.trans hml.symm) (argsL := As) (rest := rest) (fun sig h => hn.trans (hlen sig h)) hstack hW (by rw [hb]; exact hdg)
    (fun vm₁ hW₁ => ⟨hf.1, hf.2, hp.2 (T.setVm vm₁) hT hW₁⟩)
  dsimp only [Pt.U, Pt.locs, Pt.cells, Pt.slots] at X' e1 e2 h1 h2 h3 st
  subst h1; subst h2; subst h3
  exact ⟨v, (T.setVm vm₁).calling g' mk As.toArray, t, U', L, hT, X', hL, e1, e2, hq, st⟩
/-- not caught here, past rows that name other classes: it goes on to the caller -/
theorem vx_outP {p : Program} {l : Launch} {e : Env} {R : Room} {s : State} {m : MethodId} {args : Array Value} {below : List Frame} {meth : Method} {c : Code} {H : Heap} {locs : List Loc} {cells slots : Nat} {free : Addr → Prop} {ls : Array Slot} {rest : List Value} {Qc : Array Value → State → Outcome → State → Prop} {XC : String → State → State → Prop}
    {pc : Nat} {own E : String} {ce : Cell} {q : Addr} {mc ms : Nat} (hown : s.vm.findClass own = some m.cls) (hlocks : meth.locks = false)
    (hpass : ∀ z ∈ c.exceptionTable.toList, covers z pc = false ∨ (z.catchType ≠ 0 ∧ ∃ nm : String, (Cond.classLink own z.catchType nm).before args s = true ∧ va_Nc E nm s)) (hcell : H[q]? = some ce) (hv : ce.vm = .none) (hcl : s.vm.findClass E = some ce.cls)
    (hx : ∀ t : State, t.heap = H → s.vm.Alike t.vm → XC E s t) (hf : ∀ z ∈ locs, free z.base) (hc : cells ≤ mc) (hs : slots ≤ ms) :
    vx_W p l e R s m args below meth c H locs cells slots (vx_MQ below Qc XC args s mc ms free) (F0 m pc ls rest) q := by
  intro T hT X
  have hpl : e.platform.magicAccessors = ({} : Platform).magicAccessors := by rw [X.admits.platform]
  obtain ⟨vm', hW', X', st⟩ := X.outThrough hlocks q (g := F0 m pc ls rest) rfl rfl rfl (cell := ce) (by rw [hT]; exact hcell) (by rw [hv]; rfl)
    (by obtain ⟨k9, h9, -⟩ := Vm.findClass_spec hcl; exact ⟨k9, h9⟩) (fun z hz => by
      rcases hpass z hz with h | ⟨hz0, nm, hl1, hn1⟩
      · exact Or.inl h
      · obtain ⟨c6, hc6, hcl6⟩ := Cond.classLink_spec hown hl1 e.platform hpl
        obtain ⟨a8, b8, h1, h2, h3⟩ := hn1
        cases Option.some.inj (h1.symm.trans hcl)
        cases Option.some.inj (h2.symm.trans hc6)
        exact Or.inr ⟨hz0, _, hcl6, h3⟩)
  obtain ⟨g₀, hfr⟩ := X'.frames_eq
  have hcell9 : ((T.setVm vm').setFrames (.throwing q :: below)).heap[q]? = some ce := by
    show T.heap[q]? = some ce
    rw [hT]; exact hcell
  have hend : Ended ((T.setVm vm').setFrames (.throwing q :: below)) below (.threw q) := State.frames_setFrames _ (State.cur_lt_of_frames hfr)
  refine ⟨(T.setVm vm').setFrames (.throwing q :: below), ?_, .threw q, X'.here.running, hend, Or.inr ⟨q, rfl, E, ce, locs, hx _ hT (X'.ends _).1.alike, hcell9, hv, hcl, (X'.ends _).1, (X'.ends _).2.mono hc hs, hf⟩⟩
  rw [X.pushThrowing_eq]
  exact st
/-- a thing of a world lies in the heap -/
theorem vx_lt {D : va_G} {cl : List vw_C} {ws : va_W} {H1 : Heap} (h : va_P D cl ws H1) {k : Nat} {q : Nat × va_E} (hk : ws[k]? = some q) : q.1 < H1.size := (h k q hk).lt
end VXS
/-! ===== END ===== -/
/-! ===== BEGIN methods with a table of their own: called by a name, returning or throwing ===== -/
section VXH
/-! vx_backW, vx_callVX, vx_callSX, vx_callVW, vx_runVW, vx_runVX, vx_runSX, vx_ofWH follow the same proofs as their sisters above (Free/Laws.lean, Shelf42/LK1.lean); vx_outP calls Shelf42/NT130.lean (outThrough). -/
section
variable {l : Launch} {R : Room} {p : Program} {e : Env} {below : List Frame} {s : State} {sargs : Array Value} {y : MethodName} {len W9 : Nat}
theorem vx_backW {ws : List Cond} {rm : Room} {Pc : Array Value → State → Prop} {Qc : Array Value → State → Outcome → State → Prop} {XC : String → State → State → Prop} {mc ms : Nat} {free : Addr → Prop} {bytes : ByteArray} {maxL : Nat} {ret : Option FieldType} {hh : List (Nat × Nat × Nat × Nat)}
    (hM : vx_Met l y ws rm Pc Qc XC mc ms free) (hblind : FrameBlind Pc) (hrc : rm.cells = mc) (hrs : rm.slots = ms)
    (hframes : rm.frames + 1 ≤ R.frames) (hlocals : W9 + (maxL + 11) + rm.locals ≤ R.locals)
    (hws : ∀ w ∈ ws, ∀ a' U, s.WarmedH U.vm → w.before a' U = true) (hcode : Cond.codeWith y bytes maxL ret hh ∈ ws) (hinit : ∀ a' U, s.WarmedH U.vm → (Cond.initialized y.cls).before a' U = true) :
    vx_Back l R p e below s sargs y len W9 (PreOf R mc ms Pc) (PostOf Qc mc ms free) (vx_Post XC mc ms free) := by
  intro m meth c A g ig mk a X hg hsize hdg hW hn hp
  have h1 : (headSpec ws rm).pre.before a A.U = true := atoms_intro fun w hw => hws w hw _ _ X.warmed
  have h2 : (Cond.codeWith y bytes maxL ret hh).before a A.U = true := hws _ hcode _ _ X.warmed
  have h3 : (Cond.initialized y.cls).before a A.U = true := hinit _ _ X.warmed
  have h4 : A.cells + (headSpec ws rm).room.cells ≤ R.cells := by rw [show (headSpec ws rm).room.cells = mc from hrc]; exact hp.1
  have h5 : A.slots + (headSpec ws rm).room.slots ≤ R.slots := by rw [show (headSpec ws rm).room.slots = ms from hrs]; exact hp.2.1
  have hPc : Pc a (A.U.calling g mk a) := hblind _ _ _ _ hp.2.2
  obtain ⟨U, Ls, c0, s0⟩ := A
  dsimp only [Pt.U, Pt.locs, Pt.cells, Pt.slots] at h1 h2 h3 h4 h5 X hn hPc ⊢
  obtain ⟨m9, methY, cY, hn9, hmY, hcY, -, hlY, -⟩ := Cond.codeWith_spec h2
  cases Option.some.inj (hn9.symm.trans hn)
  obtain ⟨kY, hkY, -⟩ := className_of_methodNamed hn
  have hinitY : kY.init = .initialized := Cond.initialized_spec (findClass_of_methodNamed hn) hkY h3
  have h : At U g.method c below := by rw [hg]; exact X.here
  have hlocals9 : W9 + (maxL + 11) + (headSpec ws rm).room.locals ≤ R.locals := hlocals
  have happ : (headSpec ws rm).appliesLoose y e.platform (U.calling g mk a) = true :=
    Spec.appliesLoose_calling (g := g) h hdg hn hkY hinitY
      (X.room_calling (g := g) (R' := (headSpec ws rm).room) hsize hmY hcY hframes (by rw [hlY]; omega) h4 h5) h1
  obtain ⟨mid, hmid⟩ := h.above
  have hfr : (U.setTop g).frames = (.java g :: mid) ++ below := by rw [State.frames_setTop' g h.top, hmid]; rfl
  obtain ⟨o, s₂, hsteps, -, hend, hq⟩ := Steps.callFree hM p X.admits X.cas X.clock (acts := []) hfr happ hPc trivial
  have hq' : vx_Q Qc XC mc ms free a (U.calling g mk a) o s₂ := hq
  rw [State.frames_setTop' g h.top] at hend
  obtain ⟨g₀, hg0⟩ := Option.isSome_iff_exists.mp h.top
  obtain ⟨r, hr⟩ := State.topJava?_eq_some.mp hg0
  have hr' : (({ U with heap := s₂.heap, slotsUsed := s₂.slotsUsed } : State).setVm s₂.vm).frames = .java g₀ :: r := hr
  rcases hq' with ⟨hqc, L, hfe, hL⟩ | ⟨q, rfl, E, ce, L, hx, hce, hcv, hcl, hW₂, hsm, hL⟩
  · obtain ⟨⟨v, rfl⟩, hW₂, e2, q2, q3, q4, q5, q6⟩ := id hfe
    have e3 : s₂ = ({ (U.calling g mk a).setFrames s₂.frames with heap := s₂.heap, slotsUsed := s₂.slotsUsed } : State).setVm s₂.vm := by
      have : s₂ = ({ s₂ with vm := (U.calling g mk a).vm } : State).setVm s₂.vm := rfl
      rw [e2] at this
      exact this
    obtain ⟨c₂, i₂, len₂, hc₂, hd₂, hf₂⟩ := hend
    have hW' : U.WarmedH s₂.vm := hW₂
    have hcc : c₂ = c := by
      have h1 : s₂.code? g.method = U.code? g.method := by
        rw [State.code?_eq, State.code?_eq, hW'.alike.method?]
      exact Option.some.inj (hc₂.symm.trans (h1.trans h.code))
    subst hcc
    have hlen : len₂ = len := by rw [hdg] at hd₂; cases hd₂; rfl
    subst hlen
    have hs₂ : s₂ = (({ U with heap := s₂.heap, slotsUsed := s₂.slotsUsed } : State).setVm s₂.vm).setTop { g with pc := g.pc + len₂, stack := v.toList ++ g.stack } := by
      refine e3.trans ?_
      rw [hf₂, State.calling_eq h.top, State.setFrames_setFrames, State.setTop_of_frames _ hr', hr]
      rfl
    have hsame : U.sameButNew ({ U with heap := s₂.heap, slotsUsed := s₂.slotsUsed } : State) L mc ms := by
      refine ⟨?_, q2, q3, q4, q5, q6⟩
      obtain ⟨t, ht, -⟩ := State.frames_cons hr
      show ({ U with heap := s₂.heap, slotsUsed := s₂.slotsUsed } : State) = { U.setFrames U.frames with heap := s₂.heap, slotsUsed := s₂.slotsUsed }
      rw [State.setFrames_self ht]
    subst hg
    refine Or.inl ⟨v, ⟨(({ U with heap := s₂.heap, slotsUsed := s₂.slotsUsed } : State).setVm s₂.vm), Ls ++ L, c0 + mc, s0 + ms⟩,
      ⟨X.admits, X.cas, X.clock, X.frames, X.room, X.hears, X.method, X.code, (X.here.setHeapUsed s₂.heap s₂.slotsUsed).setVm hW'.alike, X.tail, State.WarmedH.trans X.warmed hW', X.limits, X.bytes, X.same.trans (hsame.setVm s.vm)⟩,
      ⟨g, mk, s₂, L, rfl, rfl, hqc, rfl, hL, rfl, rfl⟩, ?_⟩
    show Steps p.tables e below _ ((({ U with heap := s₂.heap, slotsUsed := s₂.slotsUsed } : State).setVm s₂.vm).setTop { g with pc := g.pc + len₂, stack := v.toList ++ g.stack })
    rw [← hs₂]
    exact hsteps
  · obtain ⟨e2, q2, q3, q4, q5, q6⟩ := id hsm
    have e3 : s₂ = ({ (U.calling g mk a).setFrames s₂.frames with heap := s₂.heap, slotsUsed := s₂.slotsUsed } : State).setVm s₂.vm := by
      have : s₂ = ({ s₂ with vm := (U.calling g mk a).vm } : State).setVm s₂.vm := rfl
      rw [e2] at this
      exact this
    have hf₂ : s₂.frames = .throwing q :: .java g :: U.frames.tail := hend
    have hW' : U.WarmedH s₂.vm := hW₂
    have hs₂ : s₂ = ((({ U with heap := s₂.heap, slotsUsed := s₂.slotsUsed } : State).setVm s₂.vm).setTop g).pushFrame (.throwing q) := by
      refine e3.trans ?_
      rw [hf₂, State.calling_eq h.top, State.setFrames_setFrames, State.pushFrame, State.frames_setTop _ hr', State.setTop_of_frames _ hr', State.setFrames_setFrames, hr]
      rfl
    have hsame : U.sameButNew ({ U with heap := s₂.heap, slotsUsed := s₂.slotsUsed } : State) L mc ms := by
      refine ⟨?_, q2, q3, q4, q5, q6⟩
      obtain ⟨t, ht, -⟩ := State.frames_cons hr
      show ({ U with heap := s₂.heap, slotsUsed := s₂.slotsUsed } : State) = { U.setFrames U.frames with heap := s₂.heap, slotsUsed := s₂.slotsUsed }
      rw [State.setFrames_self ht]
    subst hg
    refine Or.inr ⟨q, ⟨(({ U with heap := s₂.heap, slotsUsed := s₂.slotsUsed } : State).setVm s₂.vm), Ls ++ L, c0 + mc, s0 + ms⟩,
      ⟨X.admits, X.cas, X.clock, X.frames, X.room, X.hears, X.method, X.code, (X.here.setHeapUsed s₂.heap s₂.slotsUsed).setVm hW'.alike, X.tail, State.WarmedH.trans X.warmed hW', X.limits, X.bytes, X.same.trans (hsame.setVm s.vm)⟩,
      ⟨g, mk, s₂, L, E, ce, rfl, rfl, hx, hce, hcv, hcl, rfl, hL, rfl, rfl⟩, ?_⟩
    show Steps p.tables e below _ (((({ U with heap := s₂.heap, slotsUsed := s₂.slotsUsed } : State).setVm s₂.vm).setTop g).pushFrame (.throwing q))
    rw [← hs₂]
    exact hsteps
end
variable {p : Program} {l : Launch} {e : Env} {R : Room} {s : State} {m : MethodId} {args : Array Value} {below : List Frame} {meth : Method} {c : Code} {T : State} {H : Heap} {locs : List Loc} {cells slots : Nat}
theorem vx_callVX (X : Stand p l e R s m args below meth c T locs cells slots) (hexec : p.tables.exec = Jvm.exec) {own C : String} {index : Nat} {y : MethodName} {bytes : ByteArray} {maxL : Nat} {ret : Option FieldType} {hh : List (Nat × Nat × Nat × Nat)}
    (hown : s.vm.findClass own = some m.cls) (hlink : (Cond.methodLink own index y).before args s = true) (hinst : (Cond.instanceMethod y).before args s = true) (hsel : (Cond.selects C y y).before args s = true)
    (hcode : (Cond.codeWith y bytes maxL ret hh).before args s = true) (hy : y.cls ≠ "java/lang/invoke/MethodHandle" ∧ y.cls ≠ "java/lang/invoke/VarHandle")
    {W9 : Nat} {Pre : Pt → Array Value → Prop} {Post : Pt → Array Value → Option Value → Pt → Prop} {PostX : Pt → Array Value → Addr → Pt → Prop} (hK : vx_Back l R p e below s args y 3 W9 Pre Post PostX)
    {b : Addr} {cellB : Cell} (hcell : T.heap[b]? = some cellB) (hobj : cellB.vm.isStatics = false) (hcls : s.vm.findClass C = some cellB.cls)
    {g : JFrame} (hg : g.method = m) (hsize : g.locals.size = c.maxLocals) {argsL rest : List Value} (hlen : ∀ sig, parseMethodDescriptor y.desc = some sig → argsL.length = sig.parameters.length)
    (hstack : g.stack = argsL.reverse ++ .ref b :: rest) (hW : 2 * g.monitorRoom + (rest.map fun v => v.category).sum ≤ W9) (hdg : decode c.code g.pc = .ok (.invokevirtual index, 3))
    (hpre : ∀ vm₁, s.WarmedH vm₁ → Pre ⟨T.setVm vm₁, locs, cells, slots⟩ (Value.ref b :: argsL).toArray) :
    (∃ (v : Option Value) (vm₁ : Vm) (B : Pt), s.WarmedH vm₁ ∧ Stand p l e R s m args below meth c B.U B.locs B.cells B.slots ∧ Post ⟨T.setVm vm₁, locs, cells, slots⟩ (Value.ref b :: argsL).toArray v B ∧
      ∀ target, Steps p.tables e below (B.U.setTop { g with pc := g.pc + 3, stack := v.toList ++ rest }) target → Steps p.tables e below (T.setTop g) target) ∨
    (∃ (q : Addr) (vm₁ : Vm) (B : Pt), s.WarmedH vm₁ ∧ Stand p l e R s m args below meth c B.U B.locs B.cells B.slots ∧ PostX ⟨T.setVm vm₁, locs, cells, slots⟩ (Value.ref b :: argsL).toArray q B ∧
      Steps p.tables e below (T.setTop g) ((B.U.setTop { g with stack := rest }).pushFrame (.throwing q))) := by
  obtain ⟨mk, methM, hnamed, hmethM, hstM, habM⟩ := Cond.instanceMethod_spec hinst
  obtain ⟨m8, methM', cM, hn8, hmethM', -, -, -, -, -, -, hsigM⟩ := Cond.codeWith_spec hcode
  cases Option.some.inj (hn8.symm.trans hnamed)
  cases hmethM.symm.trans hmethM'
  obtain ⟨c2, r2, m2, q1, q2, q3, q4, kP, hkP, hkPi⟩ := Cond.selects_spec hsel
  cases hcls.symm.trans q1
  cases (State.methodFound?_of_named hnamed hy).symm.trans q2
  cases hnamed.symm.trans q3
  have hselP : selectMethod e.platform s.vm cellB.cls mk = .method mk := by rw [Launch.admits_selectMethod X.admits]; exact q4
  obtain ⟨vm₁, X₁, hstep₁⟩ := X.invokevirtual hexec hown hlink hnamed hmethM hstM hkP hkPi hy (a := b) (cell := cellB) hcell
    (fun z h => by rw [h] at hobj; cases hobj) hselP hmethM habM hkP hkPi (g := g) hg (argsL := argsL) (rest := rest) (hlen _ hsigM) hstack hdg
  rcases hK m meth c ⟨T.setVm vm₁, locs, cells, slots⟩ { g with stack := rest } (.invokevirtual index) mk (Value.ref b :: argsL).toArray X₁ hg hsize hdg hW (X₁.named hnamed) (hpre vm₁ X₁.warmed) with ⟨v, B, X', hpost, hsteps⟩ | ⟨q, B, X', hpost, hsteps⟩
  · exact Or.inl ⟨v, vm₁, B, X₁.warmed, X', hpost, fun target h => hstep₁ _ fun acts => by rw [doInvoke_state]; exact hsteps.trans h⟩
  · exact Or.inr ⟨q, vm₁, B, X₁.warmed, X', hpost, hstep₁ _ fun acts => by rw [doInvoke_state]; exact hsteps⟩
theorem vx_callSX (X : Stand p l e R s m args below meth c T locs cells slots) (hexec : p.tables.exec = Jvm.exec) {own : String} {index : Nat} {y : MethodName} {bytes : ByteArray} {maxL : Nat} {ret : Option FieldType} {hh : List (Nat × Nat × Nat × Nat)}
    (hown : s.vm.findClass own = some m.cls) (hlink : (Cond.methodLink own index y).before args s = true) (hstat : (Cond.static y).before args s = true) (hinit : (Cond.initialized y.cls).before args s = true)
    (hcode : (Cond.codeWith y bytes maxL ret hh).before args s = true) (hy : y.cls ≠ "java/lang/invoke/MethodHandle" ∧ y.cls ≠ "java/lang/invoke/VarHandle")
    {W9 : Nat} {Pre : Pt → Array Value → Prop} {Post : Pt → Array Value → Option Value → Pt → Prop} {PostX : Pt → Array Value → Addr → Pt → Prop} (hK : vx_Back l R p e below s args y 3 W9 Pre Post PostX)
    {g : JFrame} (hg : g.method = m) (hsize : g.locals.size = c.maxLocals) {argsL rest : List Value} (hlen : ∀ sig, parseMethodDescriptor y.desc = some sig → argsL.length = sig.parameters.length)
    (hstack : g.stack = argsL.reverse ++ rest) (hW : 2 * g.monitorRoom + (rest.map fun v => v.category).sum ≤ W9) (hdg : decode c.code g.pc = .ok (.invokestatic index, 3))
    (hpre : ∀ vm₁, s.WarmedH vm₁ → Pre ⟨T.setVm vm₁, locs, cells, slots⟩ argsL.toArray) :
    (∃ (v : Option Value) (vm₁ : Vm) (B : Pt), s.WarmedH vm₁ ∧ Stand p l e R s m args below meth c B.U B.locs B.cells B.slots ∧ Post ⟨T.setVm vm₁, locs, cells, slots⟩ argsL.toArray v B ∧
      ∀ target, Steps p.tables e below (B.U.setTop { g with pc := g.pc + 3, stack := v.toList ++ rest }) target → Steps p.tables e below (T.setTop g) target) ∨
    (∃ (q : Addr) (vm₁ : Vm) (B : Pt), s.WarmedH vm₁ ∧ Stand p l e R s m args below meth c B.U B.locs B.cells B.slots ∧ PostX ⟨T.setVm vm₁, locs, cells, slots⟩ argsL.toArray q B ∧
      Steps p.tables e below (T.setTop g) ((B.U.setTop { g with stack := rest }).pushFrame (.throwing q))) := by
  obtain ⟨mk, methM, cM, hnamed, hmethM, -, -, -, -, -, -, hsigM⟩ := Cond.codeWith_spec hcode
  have hstatic : methM.isStatic = true := Cond.static_spec hnamed hmethM hstat
  obtain ⟨kP, hkP, -⟩ := className_of_methodNamed hnamed
  have hinitP : kP.init = .initialized := Cond.initialized_spec (findClass_of_methodNamed hnamed) hkP hinit
  obtain ⟨vm₁, X₁, hstep₁⟩ := X.invokestatic hexec hown hlink hnamed hmethM hstatic hkP hinitP hy (g := g) hg (argsL := argsL) (rest := rest) (hlen _ hsigM) hstack hdg
  rcases hK m meth c ⟨T.setVm vm₁, locs, cells, slots⟩ { g with stack := rest } (.invokestatic index) mk argsL.toArray X₁ hg hsize hdg hW (X₁.named hnamed) (hpre vm₁ X₁.warmed) with ⟨v, B, X', hpost, hsteps⟩ | ⟨q, B, X', hpost, hsteps⟩
  · exact Or.inl ⟨v, vm₁, B, X₁.warmed, X', hpost, fun target h => hstep₁ _ fun acts => by rw [doInvoke_state]; exact hsteps.trans h⟩
  · exact Or.inr ⟨q, vm₁, B, X₁.warmed, X', hpost, hstep₁ _ fun acts => by rw [doInvoke_state]; exact hsteps⟩
theorem vx_callVW (X : Stand p l e R s m args below meth c T locs cells slots) (hexec : p.tables.exec = Jvm.exec) {own C : String} {index : Nat} {y : MethodName} {bytes : ByteArray} {maxL : Nat} {ret : Option FieldType} {hh : List (Nat × Nat × Nat × Nat)}
    (hown : s.vm.findClass own = some m.cls) (hlink : (Cond.methodLink own index y).before args s = true) (hinst : (Cond.instanceMethod y).before args s = true) (hsel : (Cond.selects C y y).before args s = true)
    (hcode : (Cond.codeWith y bytes maxL ret hh).before args s = true) (hy : y.cls ≠ "java/lang/invoke/MethodHandle" ∧ y.cls ≠ "java/lang/invoke/VarHandle")
    {W9 : Nat} {Pre : Pt → Array Value → Prop} {Post : Pt → Array Value → Option Value → Pt → Prop} (hK : Back l R p e below s args y 3 W9 Pre Post)
    {b : Addr} {cellB : Cell} (hcell : T.heap[b]? = some cellB) (hobj : cellB.vm.isStatics = false) (hcls : s.vm.findClass C = some cellB.cls)
    {g : JFrame} (hg : g.method = m) (hsize : g.locals.size = c.maxLocals) {argsL rest : List Value} (hlen : ∀ sig, parseMethodDescriptor y.desc = some sig → argsL.length = sig.parameters.length)
    (hstack : g.stack = argsL.reverse ++ .ref b :: rest) (hW : 2 * g.monitorRoom + (rest.map fun v => v.category).sum ≤ W9) (hdg : decode c.code g.pc = .ok (.invokevirtual index, 3))
    (hpre : ∀ vm₁, s.WarmedH vm₁ → Pre ⟨T.setVm vm₁, locs, cells, slots⟩ (Value.ref b :: argsL).toArray) :
    ∃ (v : Option Value) (vm₁ : Vm) (B : Pt), s.WarmedH vm₁ ∧ Stand p l e R s m args below meth c B.U B.locs B.cells B.slots ∧ Post ⟨T.setVm vm₁, locs, cells, slots⟩ (Value.ref b :: argsL).toArray v B ∧
      ∀ target, Steps p.tables e below (B.U.setTop { g with pc := g.pc + 3, stack := v.toList ++ rest }) target → Steps p.tables e below (T.setTop g) target := by
  obtain ⟨mk, methM, hnamed, hmethM, hstM, habM⟩ := Cond.instanceMethod_spec hinst
  obtain ⟨m8, methM', cM, hn8, hmethM', -, -, -, -, -, -, hsigM⟩ := Cond.codeWith_spec hcode
  cases Option.some.inj (hn8.symm.trans hnamed)
  cases hmethM.symm.trans hmethM'
  obtain ⟨c2, r2, m2, q1, q2, q3, q4, kP, hkP, hkPi⟩ := Cond.selects_spec hsel
  cases hcls.symm.trans q1
  cases (State.methodFound?_of_named hnamed hy).symm.trans q2
  cases hnamed.symm.trans q3
  have hselP : selectMethod e.platform s.vm cellB.cls mk = .method mk := by rw [Launch.admits_selectMethod X.admits]; exact q4
  obtain ⟨vm₁, X₁, hstep₁⟩ := X.invokevirtual hexec hown hlink hnamed hmethM hstM hkP hkPi hy (a := b) (cell := cellB) hcell
    (fun z h => by rw [h] at hobj; cases hobj) hselP hmethM habM hkP hkPi (g := g) hg (argsL := argsL) (rest := rest) (hlen _ hsigM) hstack hdg
  obtain ⟨v, B, X', hpost, hsteps⟩ := hK m meth c ⟨T.setVm vm₁, locs, cells, slots⟩ { g with stack := rest } (.invokevirtual index) mk (Value.ref b :: argsL).toArray X₁ hg hsize hdg hW (X₁.named hnamed) (hpre vm₁ X₁.warmed)
  exact ⟨v, vm₁, B, X₁.warmed, X', hpost, fun target h => hstep₁ _ fun acts => by rw [doInvoke_state]; exact hsteps.trans h⟩
abbrev vx_CVW (R : Room) (s : State) (args : Array Value) (own C : String) (index : Nat) (y : MethodName) (bytes : ByteArray) (maxL : Nat) (ret : Option FieldType) (hh : List (Nat × Nat × Nat × Nat)) (ws : List Cond) (rm : Room) (mc ms n : Nat) : Prop :=
  (rm.cells = mc ∧ rm.slots = ms ∧ rm.frames + 1 ≤ R.frames ∧ 8 + (maxL + 11) + rm.locals ≤ R.locals ∧ (∀ w ∈ ws, ∀ (a' : Array Value) (U : State), s.WarmedH U.vm → w.before a' U = true) ∧ Cond.codeWith y bytes maxL ret hh ∈ ws) ∧
  (Cond.codeWith y bytes maxL ret hh).before args s = true ∧ (Cond.initialized y.cls).before args s = true ∧ (y.cls ≠ "java/lang/invoke/MethodHandle" ∧ y.cls ≠ "java/lang/invoke/VarHandle") ∧
  (∀ sig, parseMethodDescriptor y.desc = some sig → n = sig.parameters.length) ∧ (Cond.methodLink own index y).before args s = true ∧ (Cond.instanceMethod y).before args s = true ∧ (Cond.selects C y y).before args s = true
theorem vx_cwVW {own C : String} {index maxL mc ms : Nat} {y : MethodName} {bytes : ByteArray} {ret : Option FieldType} {hh : List (Nat × Nat × Nat × Nat)} {Ts ws ws' : List Cond} {rm : Room} (n : Nat) (ht : ∀ w ∈ Ts, w.before args s = true) (hT : GoodIn Ts (wsV own index C y ws)) (hw : ws = Cond.codeWith y bytes maxL ret hh :: ws') (hrc : rm.cells = mc) (hrs : rm.slots = ms)
    (hd : y.cls = C ∧ y.cls ≠ "java/lang/invoke/MethodHandle" ∧ y.cls ≠ "java/lang/invoke/VarHandle" ∧ (parseMethodDescriptor y.desc).map (fun d => d.parameters.length) = some n) (hR : rm.frames + 1 ≤ R.frames ∧ 8 + (maxL + 11) + rm.locals ≤ R.locals) :
    vx_CVW R s args own C index y bytes maxL ret hh ws rm mc ms n := by
  obtain ⟨hC, hd⟩ := hd
  subst hC
  have ok : ∀ w ∈ wsV own index y.cls y ws, w.before args s = true := fun w h => ht w (hT w h).1
  have hG : GoodIn Ts ws := fun w h => hT w (by unfold wsV; exact List.mem_append_right _ h)
  have hc : Cond.codeWith y bytes maxL ret hh ∈ ws := by rw [hw]; exact List.mem_cons_self
  refine ⟨⟨hrc, hrs, hR.1, hR.2, pay_in ht hG, hc⟩, ht _ (hG _ hc).1, ok _ (by simp [wsV]), ⟨hd.1, hd.2.1⟩, fun sig h => ?_, ok _ (by simp [wsV]), ok _ (by simp [wsV]), ok _ (by simp [wsV])⟩
  have h2 := hd.2.2
  rw [h] at h2
  exact (Option.some.inj h2).symm
theorem vx_runVW {y : MethodName} {bytes cc : ByteArray} {maxL nL mc ms n index : Nat} {ret : Option FieldType} {hh : List (Nat × Nat × Nat × Nat)} {ws : List Cond} {rm : Room} {Pc : Array Value → State → Prop} {Qc : Array Value → State → Outcome → State → Prop} {free : Addr → Prop} {Ts : List Cond} {own C : String} {b : Addr} {As rest : List Value} {g : JFrame}
    (S : CallFix p m c cc nL s args Ts own) (hM : Met l y ws rm Pc Qc mc ms free) (cw : vx_CVW R s args own C index y bytes maxL ret hh ws rm mc ms n) (hp : PreV s H C b Pc As)
    (hg : g.method = m) (hn : As.length = n) (hsize : g.locals.size = nL) (hstack : g.stack = As.reverse ++ .ref b :: rest) (hW : 2 * g.monitorRoom + (rest.map fun v => v.category).sum ≤ 8) (hdg : decode cc g.pc = .ok (.invokevirtual index, 3)) (hf : cells + mc ≤ R.cells ∧ slots + ms ≤ R.slots) :
    va_Run p l e R s m args below meth c H locs cells slots mc ms g rest (Qc (Value.ref b :: As).toArray) free := by
  obtain ⟨⟨hrc, hrs, hfr, hlo, hws, hcw⟩, hcode, hini, hy, hlen, hl, hin, hse⟩ := cw
  have hK : Back l R p e below s args y 3 8 (PreOf R mc ms Pc) (PostOf Qc mc ms free) := va_backW (hh := hh) (bytes := bytes) (maxL := maxL) (ret := ret) hM hp.1 hrc hrs hfr hlo hws hcw (fun a' U hW => word_at hW (Or.inl (by first | rfl | simp [Cond.onTables, Cond.keeps, Cond.steady])) hini)
  obtain ⟨hx, hb, hml, ho, -⟩ := S
  obtain ⟨-, ⟨cellB, hcB, hoB, hclB⟩, hPc⟩ := hp
  intro T hT X
  obtain ⟨v, vm₁, ⟨U', l2, c2, s2⟩, hW₁, X', ⟨g', mk, t, L, e1, e2, hq, h1, hL, h2, h3⟩, st⟩ := vx_callVW X hx (C := C) (hh := hh) (bytes := bytes) (maxL := maxL) (ret := ret) ho hl hin hse hcode hy hK (by rw [hT]; exact hcB) hoB hclB hg (hsize.trans hml.symm) (argsL := As) (rest := rest) (fun sig h => hn.trans (hlen sig h)) hstack hW (by rw [hb]; exact hdg)
    (fun vm₁ hW₁ => ⟨hf.1, hf.2, hPc (T.setVm vm₁) hT hW₁⟩)
  dsimp only [Pt.U, Pt.locs, Pt.cells, Pt.slots] at X' e1 e2 h1 h2 h3 st
  subst h1; subst h2; subst h3
  exact ⟨v, (T.setVm vm₁).calling g' mk (Value.ref b :: As).toArray, t, U', L, hT, X', hL, e1, e2, hq, st⟩
section
variable {y : MethodName} {bytes cc : ByteArray} {maxL nL mc ms n index : Nat} {ret : Option FieldType} {ws : List Cond} {rm : Room} {Pc : Array Value → State → Prop} {Qc : Array Value → State → Outcome → State → Prop} {XC : String → State → State → Prop} {free : Addr → Prop} {Ts : List Cond} {own C : String} {b : Addr} {As rest : List Value} {g : JFrame}
theorem vx_runVX {hh : List (Nat × Nat × Nat × Nat)} (S : CallFix p m c cc nL s args Ts own) (hM : vx_Met l y ws rm Pc Qc XC mc ms free) (cw : vx_CVW R s args own C index y bytes maxL ret hh ws rm mc ms n) (hp : PreV s H C b Pc As)
    (hg : g.method = m) (hn : As.length = n) (hsize : g.locals.size = nL) (hstack : g.stack = As.reverse ++ .ref b :: rest) (hW : 2 * g.monitorRoom + (rest.map fun v => v.category).sum ≤ 8) (hdg : decode cc g.pc = .ok (.invokevirtual index, 3)) (hf : cells + mc ≤ R.cells ∧ slots + ms ≤ R.slots) :
    vx_Run p l e R s m args below meth c H locs cells slots mc ms g rest (Qc (Value.ref b :: As).toArray) XC free := by
  obtain ⟨⟨hrc, hrs, hfr, hlo, hws, hcw⟩, hcode, hini, hy, hlen, hl, hin, hse⟩ := cw
  have hK : vx_Back l R p e below s args y 3 8 (PreOf R mc ms Pc) (PostOf Qc mc ms free) (vx_Post XC mc ms free) := vx_backW (hh := hh) (bytes := bytes) (maxL := maxL) (ret := ret) hM hp.1 hrc hrs hfr hlo hws hcw (fun a' U hW => word_at hW (Or.inl (by first | rfl | simp [Cond.onTables, Cond.keeps, Cond.steady])) hini)
  obtain ⟨hx, hb, hml, ho, -⟩ := S
  obtain ⟨-, ⟨cellB, hcB, hoB, hclB⟩, hPc⟩ := hp
  intro T hT X
  rcases vx_callVX X hx (C := C) (hh := hh) (bytes := bytes) (maxL := maxL) (ret := ret) ho hl hin hse hcode hy hK (by rw [hT]; exact hcB) hoB hclB hg (hsize.trans hml.symm) (argsL := As) (rest := rest) (fun sig h => hn.trans (hlen sig h)) hstack hW (by rw [hb]; exact hdg)
    (fun vm₁ hW₁ => ⟨hf.1, hf.2, hPc (T.setVm vm₁) hT hW₁⟩) with ⟨v, vm₁, ⟨U', l2, c2, s2⟩, hW₁, X', ⟨g', mk, t, L, e1, e2, hq, h1, hL, h2, h3⟩, st⟩ | ⟨q, vm₁, ⟨U', l2, c2, s2⟩, hW₁, X', ⟨g', mk, t, L, E, ce, e1, e2, hq, hce, hcv, hcl, h1, hL, h2, h3⟩, st⟩
  · dsimp only [Pt.U, Pt.locs, Pt.cells, Pt.slots] at X' e1 e2 h1 h2 h3 st
    subst h1; subst h2; subst h3
    exact Or.inl ⟨v, (T.setVm vm₁).calling g' mk (Value.ref b :: As).toArray, t, U', L, hT, X', hL, e1, e2, hq, st⟩
  · dsimp only [Pt.U, Pt.locs, Pt.cells, Pt.slots] at X' e1 e2 h1 h2 h3 st hcl
    subst h1; subst h2; subst h3
    exact Or.inr ⟨q, (T.setVm vm₁).calling g' mk (Value.ref b :: As).toArray, t, U', L, E, ce, hT, X', hL, e1, e2, hq, hce, hcv, vx_cls hW₁ hcl, st⟩
theorem vx_runSX {hh : List (Nat × Nat × Nat × Nat)} (S : CallFix p m c cc nL s args Ts own) (hM : vx_Met l y ws rm Pc Qc XC mc ms free) (cw : vx_CSW R s args own index y bytes maxL ret hh ws rm mc ms n) (hp : PreS s H Pc As)
    (hg : g.method = m) (hn : As.length = n) (hsize : g.locals.size = nL) (hstack : g.stack = As.reverse ++ rest) (hW : 2 * g.monitorRoom + (rest.map fun v => v.category).sum ≤ 8) (hdg : decode cc g.pc = .ok (.invokestatic index, 3)) (hf : cells + mc ≤ R.cells ∧ slots + ms ≤ R.slots) :
    vx_Run p l e R s m args below meth c H locs cells slots mc ms g rest (Qc As.toArray) XC free := by
  obtain ⟨⟨hrc, hrs, hfr, hlo, hws, hcw⟩, hcode, hini, hy, hlen, hl, hstt⟩ := cw
  have hK : vx_Back l R p e below s args y 3 8 (PreOf R mc ms Pc) (PostOf Qc mc ms free) (vx_Post XC mc ms free) := vx_backW (hh := hh) (bytes := bytes) (maxL := maxL) (ret := ret) hM hp.1 hrc hrs hfr hlo hws hcw (fun a' U hW => word_at hW (Or.inl (by first | rfl | simp [Cond.onTables, Cond.keeps, Cond.steady])) hini)
  obtain ⟨hx, hb, hml, ho, -⟩ := S
  intro T hT X
  rcases vx_callSX X hx (hh := hh) (bytes := bytes) (maxL := maxL) (ret := ret) ho hl hstt hini hcode hy hK hg (hsize.trans hml.symm) (argsL := As) (rest := rest) (fun sig h => hn.trans (hlen sig h)) hstack hW (by rw [hb]; exact hdg)
    (fun vm₁ hW₁ => ⟨hf.1, hf.2, hp.2 (T.setVm vm₁) hT hW₁⟩) with ⟨v, vm₁, ⟨U', l2, c2, s2⟩, hW₁, X', ⟨g', mk, t, L, e1, e2, hq, h1, hL, h2, h3⟩, st⟩ | ⟨q, vm₁, ⟨U', l2, c2, s2⟩, hW₁, X', ⟨g', mk, t, L, E, ce, e1, e2, hq, hce, hcv, hcl, h1, hL, h2, h3⟩, st⟩
  · dsimp only [Pt.U, Pt.locs, Pt.cells, Pt.slots] at X' e1 e2 h1 h2 h3 st
    subst h1; subst h2; subst h3
    exact Or.inl ⟨v, (T.setVm vm₁).calling g' mk As.toArray, t, U', L, hT, X', hL, e1, e2, hq, st⟩
  · dsimp only [Pt.U, Pt.locs, Pt.cells, Pt.slots] at X' e1 e2 h1 h2 h3 st hcl
    subst h1; subst h2; subst h3
    exact Or.inr ⟨q, (T.setVm vm₁).calling g' mk As.toArray, t, U', L, E, ce, hT, X', hL, e1, e2, hq, hce, hcv, vx_cls hW₁ hcl, st⟩
end
end VXH
theorem vx_ofWH {l : Launch} {y : MethodName} {ws ws' : List Cond} {rm : Room} {Pc : Array Value → State → Prop} {Qc : Array Value → State → Outcome → State → Prop} {XC : String → State → State → Prop} {mc ms : Nat} {free : Addr → Prop} {cc : ByteArray} {maxL : Nat} {ret : Option FieldType} {hh : List (Nat × Nat × Nat × Nat)}
    (hy : plainName y.cls = true) (hw : ws = Cond.codeWith y cc maxL ret hh :: ws')
    (body : ∀ p e s m args below meth c s₁, BodyLoose p l y (headSpec ws rm) cc maxL ret e s m args below meth c s₁ → c.maxLocals = maxL → Pc args s →
      W p l e (headSpec ws rm).room s m args below meth c s.heap [] 0 0 (vx_MQ below Qc XC args s mc ms free) (entryFrame m args maxL)) : vx_Met l y ws rm Pc Qc XC mc ms free := by
  refine MetFree.of_bodyS (code := cc) (maxLocals := maxL) (ret := ret) hy ?_ ?_
  · intro args s m h hn
    obtain ⟨m9, meth, c, hn9, h1, h2, h3, h4, -, h5, h6, -⟩ := Cond.codeWith_spec (atoms_spec (ws := ws) h _ (by rw [hw]; exact List.mem_cons_self))
    cases hn.symm.trans hn9
    exact ⟨meth, c, h1, h2, h3, h4, h5, h6⟩
  · intro p e s m args below meth c s₁ B hml hP _
    have hh0 : s₁.heap = s.heap := by rw [B.state]; rfl
    obtain ⟨t, a1, o, b1, b2, b3⟩ := body p e s m args below meth c s₁ B hml hP s₁ hh0 (Stand.of_body B)
    exact ⟨t, o, a1, b1, b2, b3⟩
/-! ===== END ===== -/
end
section
def RX0 : String := "Clockmask"
def TX0 : u_T := fun k => match k with
  | 0 => ("Clockmask", "costumeOfPlayer", "[I", true)
  | 1 => ("Clockmask", "maskOfPlayer", "[I", true)
  | 2 => ("Clockmask", "onStage", "[Z", true)
  | 3 => ("Clockmask", "wearOfCostume", "[I", true)
  | 4 => ("Clockmask", "cueKind", "[I", true)
  | 5 => ("Clockmask", "cuePlayer", "[I", true)
  | 6 => ("Clockmask", "cueOther", "[I", true)
  | 7 => ("Clockmask", "cueWaits", "[I", true)
  | 8 => ("Clockmask", "cueState", "[I", true)
  | 9 => ("Clockmask", "calledCues", "[I", true)
  | 10 => ("Clockmask", "cueCount", "I", false)
  | 11 => ("Clockmask", "calledCount", "I", false)
  | 12 => ("Clockmask", "pointsOfGuesser", "[I", true)
  | 13 => ("Clockmask", "guessed", "[Z", true)
  | 14 => ("Clockmask", "purse", "I", false)
  | 15 => ("Clockmask", "endedPlays", "I", false)
  | _ => ("Clockmask", "replayedMasks", "[I", true)
def tyX0 : Nat → FieldType := fun k => match k with
  | 0 => .array .int
  | 1 => .array .int
  | 2 => .array .boolean
  | 3 => .array .int
  | 4 => .array .int
  | 5 => .array .int
  | 6 => .array .int
  | 7 => .array .int
  | 8 => .array .int
  | 9 => .array .int
  | 10 => .int
  | 11 => .int
  | 12 => .array .int
  | 13 => .array .boolean
  | 14 => .int
  | 15 => .int
  | _ => .array .int
abbrev wsX00 : List Cond := u_ws RX0 TX0 17
theorem nmX0 : ∀ a, a < 17 → ∀ b, b < 17 → a ≠ b → (TX0 a).2.1 ≠ (TX0 b).2.1 := by decide +kernel
theorem tyX0_ok : ∀ k, k < 17 → parseFieldDescriptor (TX0 k).2.2.1 = some (tyX0 k) := by decide +kernel
abbrev cX0_init : ByteArray := prog_1_method_1_code
def yX0_init : MethodName := ⟨RX0, "<init>", "()V"⟩
abbrev cX0_dress : ByteArray := prog_1_method_2_code
def yX0_dress : MethodName := ⟨RX0, "dress", "(II)I"⟩
abbrev cX0_costumeOf : ByteArray := prog_1_method_4_code
def yX0_costumeOf : MethodName := ⟨RX0, "costumeOf", "(I)I"⟩
abbrev cX0_wear : ByteArray := prog_1_method_5_code
def yX0_wear : MethodName := ⟨RX0, "wear", "(I)I"⟩
abbrev cX0_purse : ByteArray := prog_1_method_6_code
def yX0_purse : MethodName := ⟨RX0, "purse", "()I"⟩
abbrev cX0_addCue : ByteArray := prog_1_method_7_code
def yX0_addCue : MethodName := ⟨RX0, "addCue", "(IIII)I"⟩
abbrev cX0_canCall : ByteArray := prog_1_method_8_code
def yX0_canCall : MethodName := ⟨RX0, "canCall", "(I)Z"⟩
abbrev cX0_call : ByteArray := prog_1_method_9_code
def yX0_call : MethodName := ⟨RX0, "call", "(I)I"⟩
abbrev cX0_run : ByteArray := prog_1_method_10_code
def yX0_run : MethodName := ⟨RX0, "run", "()I"⟩
abbrev cX0_miss : ByteArray := prog_1_method_11_code
def yX0_miss : MethodName := ⟨RX0, "miss", "(I)I"⟩
abbrev cX0_stateOf : ByteArray := prog_1_method_12_code
def yX0_stateOf : MethodName := ⟨RX0, "stateOf", "(I)I"⟩
abbrev cX0_cues : ByteArray := prog_1_method_13_code
def yX0_cues : MethodName := ⟨RX0, "cues", "()I"⟩
abbrev cX0_maskOf : ByteArray := prog_1_method_14_code
def yX0_maskOf : MethodName := ⟨RX0, "maskOf", "(I)I"⟩
abbrev cX0_maskByCues : ByteArray := prog_1_method_15_code
def yX0_maskByCues : MethodName := ⟨RX0, "maskByCues", "(I)I"⟩
abbrev cX0_wearerOf : ByteArray := prog_1_method_16_code
def yX0_wearerOf : MethodName := ⟨RX0, "wearerOf", "(I)I"⟩
abbrev cX0_isOn : ByteArray := prog_1_method_17_code
def yX0_isOn : MethodName := ⟨RX0, "isOn", "(I)Z"⟩
abbrev cX0_guess : ByteArray := prog_1_method_18_code
def yX0_guess : MethodName := ⟨RX0, "guess", "(III)Z"⟩
abbrev cX0_points : ByteArray := prog_1_method_19_code
def yX0_points : MethodName := ⟨RX0, "points", "(I)I"⟩
abbrev cX0_endPlay : ByteArray := prog_1_method_20_code
def yX0_endPlay : MethodName := ⟨RX0, "endPlay", "()I"⟩
abbrev cX0_plays : ByteArray := prog_1_method_21_code
def yX0_plays : MethodName := ⟨RX0, "plays", "()I"⟩
abbrev cX0_isWithin : ByteArray := prog_1_method_22_code
def yX0_isWithin : MethodName := ⟨RX0, "isWithin", "(II)Z"⟩
abbrev cX0_requirePlayer : ByteArray := prog_1_method_23_code
def yX0_requirePlayer : MethodName := ⟨RX0, "requirePlayer", "(I)V"⟩
abbrev cX0_requireMask : ByteArray := prog_1_method_24_code
def yX0_requireMask : MethodName := ⟨RX0, "requireMask", "(I)V"⟩
abbrev cX0_requireCostume : ByteArray := prog_1_method_25_code
def yX0_requireCostume : MethodName := ⟨RX0, "requireCostume", "(I)V"⟩
abbrev cX0_requireGuesser : ByteArray := prog_1_method_26_code
def yX0_requireGuesser : MethodName := ⟨RX0, "requireGuesser", "(I)V"⟩
abbrev cX0_requireCue : ByteArray := prog_1_method_27_code
def yX0_requireCue : MethodName := ⟨RX0, "requireCue", "(I)V"⟩
abbrev cX0_requireOther : ByteArray := prog_1_method_28_code
def yX0_requireOther : MethodName := ⟨RX0, "requireOther", "(II)V"⟩
abbrev cX0_fits : ByteArray := prog_1_method_29_code
def yX0_fits : MethodName := ⟨RX0, "fits", "(II)Z"⟩
abbrev cX0_playerIn : ByteArray := prog_1_method_30_code
def yX0_playerIn : MethodName := ⟨RX0, "playerIn", "(I)I"⟩
abbrev cX0_playerBehind : ByteArray := prog_1_method_31_code
def yX0_playerBehind : MethodName := ⟨RX0, "playerBehind", "(I)I"⟩
abbrev cX0_indexOf : ByteArray := prog_1_method_32_code
def yX0_indexOf : MethodName := ⟨RX0, "indexOf", "(I[I)I"⟩
abbrev cX0_firstCallable : ByteArray := prog_1_method_33_code
def yX0_firstCallable : MethodName := ⟨RX0, "firstCallable", "()I"⟩
abbrev cX0_isCallable : ByteArray := prog_1_method_34_code
def yX0_isCallable : MethodName := ⟨RX0, "isCallable", "(I)Z"⟩
abbrev cX0_isReleased : ByteArray := prog_1_method_35_code
def yX0_isReleased : MethodName := ⟨RX0, "isReleased", "(I)Z"⟩
abbrev cX0_waitsForMissed : ByteArray := prog_1_method_36_code
def yX0_waitsForMissed : MethodName := ⟨RX0, "waitsForMissed", "(I)Z"⟩
abbrev cX0_canBeDone : ByteArray := prog_1_method_37_code
def yX0_canBeDone : MethodName := ⟨RX0, "canBeDone", "(I)Z"⟩
abbrev cX0_canSwap : ByteArray := prog_1_method_38_code
def yX0_canSwap : MethodName := ⟨RX0, "canSwap", "(II)Z"⟩
abbrev cX0_carryOut : ByteArray := prog_1_method_39_code
def yX0_carryOut : MethodName := ⟨RX0, "carryOut", "(I)V"⟩
abbrev cX0_noteCalled : ByteArray := prog_1_method_40_code
def yX0_noteCalled : MethodName := ⟨RX0, "noteCalled", "(I)V"⟩
abbrev cX0_leaveStage : ByteArray := prog_1_method_41_code
def yX0_leaveStage : MethodName := ⟨RX0, "leaveStage", "(I)V"⟩
abbrev cX0_moveMasks : ByteArray := prog_1_method_42_code
def yX0_moveMasks : MethodName := ⟨RX0, "moveMasks", "(I[I)V"⟩
abbrev cX0_countCues : ByteArray := prog_1_method_43_code
def yX0_countCues : MethodName := ⟨RX0, "countCues", "(I)I"⟩
abbrev cX0_clearStage : ByteArray := prog_1_method_44_code
def yX0_clearStage : MethodName := ⟨RX0, "clearStage", "()V"⟩
abbrev cX0_clearGuesses : ByteArray := prog_1_method_45_code
def yX0_clearGuesses : MethodName := ⟨RX0, "clearGuesses", "()V"⟩
def RX1 : String := "ClockmaskModel"
def TX1 : u_T := fun k => match k with
  | _ => ("", "", "", false)
def tyX1 : Nat → FieldType := fun k => match k with
  | _ => .int
abbrev wsX10 : List Cond := u_ws RX1 TX1 0
theorem nmX1 : ∀ a, a < 0 → ∀ b, b < 0 → a ≠ b → (TX1 a).2.1 ≠ (TX1 b).2.1 := by decide +kernel
theorem tyX1_ok : ∀ k, k < 0 → parseFieldDescriptor (TX1 k).2.2.1 = some (tyX1 k) := by decide +kernel
def RJx145de : String := "java/io/Serializable"
def TJx145de : u_T := fun k => match k with
  | _ => ("", "", "", false)
def tyJx145de : Nat → FieldType := fun k => match k with
  | _ => .int
abbrev wsJx145de0 : List Cond := u_ws RJx145de TJx145de 0
theorem nmJx145de : ∀ a, a < 0 → ∀ b, b < 0 → a ≠ b → (TJx145de a).2.1 ≠ (TJx145de b).2.1 := by decide +kernel
theorem tyJx145de_ok : ∀ k, k < 0 → parseFieldDescriptor (TJx145de k).2.2.1 = some (tyJx145de k) := by decide +kernel
def RJ9 : String := "java/lang/Math"
def TJ9 : u_T := fun k => match k with
  | _ => ("", "", "", false)
def tyJ9 : Nat → FieldType := fun k => match k with
  | _ => .int
abbrev wsJ90 : List Cond := u_ws RJ9 TJ9 0
theorem nmJ9 : ∀ a, a < 0 → ∀ b, b < 0 → a ≠ b → (TJ9 a).2.1 ≠ (TJ9 b).2.1 := by decide +kernel
theorem tyJ9_ok : ∀ k, k < 0 → parseFieldDescriptor (TJ9 k).2.2.1 = some (tyJ9 k) := by decide +kernel
abbrev cJ9_abs_0f7a4 : ByteArray := prog_8_method_59_code
def yJ9_abs_0f7a4 : MethodName := ⟨RJ9, "abs", "(I)I"⟩
abbrev cJ9_max_7cf53 : ByteArray := prog_8_method_65_code
def yJ9_max_7cf53 : MethodName := ⟨RJ9, "max", "(II)I"⟩
def RJ0 : String := "java/lang/String"
def TJ0 : u_T := fun k => match k with
  | _ => ("", "", "", false)
def tyJ0 : Nat → FieldType := fun k => match k with
  | _ => .int
abbrev wsJ00 : List Cond := u_ws RJ0 TJ0 0
theorem nmJ0 : ∀ a, a < 0 → ∀ b, b < 0 → a ≠ b → (TJ0 a).2.1 ≠ (TJ0 b).2.1 := by decide +kernel
theorem tyJ0_ok : ∀ k, k < 0 → parseFieldDescriptor (TJ0 k).2.2.1 = some (tyJ0 k) := by decide +kernel
def RJ7 : String := "java/util/Arrays"
def TJ7 : u_T := fun k => match k with
  | _ => ("", "", "", false)
def tyJ7 : Nat → FieldType := fun k => match k with
  | _ => .int
abbrev wsJ70 : List Cond := u_ws RJ7 TJ7 0
theorem nmJ7 : ∀ a, a < 0 → ∀ b, b < 0 → a ≠ b → (TJ7 a).2.1 ≠ (TJ7 b).2.1 := by decide +kernel
theorem tyJ7_ok : ∀ k, k < 0 → parseFieldDescriptor (TJ7 k).2.2.1 = some (tyJ7 k) := by decide +kernel
abbrev cJ7_fill_53178 : ByteArray := prog_12_method_103_code
def yJ7_fill_53178 : MethodName := ⟨RJ7, "fill", "([II)V"⟩
def RL : String := "ClockmaskLaw"
abbrev cL_cell : ByteArray := method_2_code
def yL_cell : MethodName := ⟨RL, "cell", "([II)I"⟩
abbrev cL_at : ByteArray := method_3_code
def yL_at : MethodName := ⟨RL, "at", "(II)I"⟩
abbrev cL_sound : ByteArray := method_4_code
def yL_sound : MethodName := ⟨RL, "sound", "(LClockmask;)Z"⟩
abbrev cL_chained : ByteArray := method_5_code
def yL_chained : MethodName := ⟨RL, "chained", "(LClockmask;[I)Z"⟩
abbrev cL_count : ByteArray := method_6_code
def yL_count : MethodName := ⟨RL, "count", "(LClockmask;I)I"⟩
abbrev cL_act : ByteArray := method_7_code
def yL_act : MethodName := ⟨RL, "act", "(LClockmask;II[I)Z"⟩
abbrev cL_guessed : ByteArray := method_8_code
def yL_guessed : MethodName := ⟨RL, "guessed", "(LClockmask;II)Z"⟩
abbrev cL_law : ByteArray := code
def yL_law : MethodName := ⟨RL, "law", "([I)Z"⟩
def wsJ7_fill_53178 : List Cond := .code yJ7_fill_53178 cJ7_fill_53178 4 none :: ([])
def wsX0_init : List Cond := .code yX0_init cX0_init 1 none :: ([.methodLink RX0 1 objectInit, .instanceMethod objectInit, .code objectInit ⟨#[0xb1]⟩ 1 none, .arrayClass .int, .fieldLink RX0 9 "Clockmask" "costumeOfPlayer" "[I", .fieldLink RX0 13 "Clockmask" "maskOfPlayer" "[I", .arrayClass .boolean, .fieldLink RX0 16 "Clockmask" "onStage" "[Z", .fieldLink RX0 20 "Clockmask" "wearOfCostume" "[I", .fieldLink RX0 23 "Clockmask" "cueKind" "[I", .fieldLink RX0 26 "Clockmask" "cuePlayer" "[I", .fieldLink RX0 29 "Clockmask" "cueOther" "[I", .fieldLink RX0 32 "Clockmask" "cueWaits" "[I", .fieldLink RX0 35 "Clockmask" "cueState" "[I", .fieldLink RX0 38 "Clockmask" "calledCues" "[I", .fieldLink RX0 41 "Clockmask" "pointsOfGuesser" "[I", .fieldLink RX0 44 "Clockmask" "guessed" "[Z", .fieldLink RX0 47 "Clockmask" "purse" "I", .fieldLink RX0 51 "Clockmask" "replayedMasks" "[I", .methodLink RX0 54 yJ7_fill_53178, .static yJ7_fill_53178, .initialized RJ7, .code yJ7_fill_53178 cJ7_fill_53178 4 none] ++ wsX00)
def wsX0_isWithin : List Cond := .code yX0_isWithin cX0_isWithin 2 (some .boolean) :: ([])
def wsX0_requirePlayer : List Cond := .code yX0_requirePlayer cX0_requirePlayer 1 none :: ([.classLink RX0 174 "java/lang/IndexOutOfBoundsException", .initialized "java/lang/IndexOutOfBoundsException", .methodLink RX0 171 yX0_isWithin, .static yX0_isWithin, .initialized RX0, .code yX0_isWithin cX0_isWithin 2 (some .boolean)] ++ (vx_atS RX0 178 "java/lang/IndexOutOfBoundsException" ["java/lang/RuntimeException", "java/lang/Exception"]).filter goodWord)
def wsX0_requireCostume : List Cond := .code yX0_requireCostume cX0_requireCostume 1 none :: ([.classLink RX0 174 "java/lang/IndexOutOfBoundsException", .initialized "java/lang/IndexOutOfBoundsException", .methodLink RX0 171 yX0_isWithin, .static yX0_isWithin, .initialized RX0, .code yX0_isWithin cX0_isWithin 2 (some .boolean)] ++ (vx_atS RX0 178 "java/lang/IndexOutOfBoundsException" ["java/lang/RuntimeException", "java/lang/Exception"]).filter goodWord)
def wsX0_fits : List Cond := .code yX0_fits cX0_fits 3 (some .boolean) :: ([.methodLink RX0 187 Lib.Math.abs.name, .static Lib.Math.abs.name, .initialized "java/lang/Math", .code Lib.Math.abs.name Lib.Math.abs.code 1 (some .int)])
def wsX0_indexOf : List Cond := .code yX0_indexOf cX0_indexOf 3 (some .int) :: ([])
def wsX0_playerIn : List Cond := .code yX0_playerIn cX0_playerIn 2 (some .int) :: ([.fieldLink RX0 9 "Clockmask" "costumeOfPlayer" "[I", .methodLink RX0 190 yX0_indexOf, .static yX0_indexOf, .initialized RX0, .code yX0_indexOf cX0_indexOf 3 (some .int)] ++ wsX00)
def wsX0_dress_r1 : List Cond := [Cond.classLink RX0 71 "java/lang/IllegalArgumentException", Cond.initialized "java/lang/IllegalArgumentException", Cond.classLink RX0 78 "java/lang/IllegalStateException", Cond.initialized "java/lang/IllegalStateException", Cond.fieldLink RX0 16 "Clockmask" "onStage" "[Z", Cond.fieldLink RX0 20 "Clockmask" "wearOfCostume" "[I", Cond.fieldLink RX0 9 "Clockmask" "costumeOfPlayer" "[I", Cond.methodLink RX0 60 yX0_requirePlayer, Cond.static yX0_requirePlayer, Cond.initialized RX0, Cond.code yX0_requirePlayer cX0_requirePlayer 1 none, Cond.classLink RX0 174 "java/lang/IndexOutOfBoundsException", Cond.initialized "java/lang/IndexOutOfBoundsException", Cond.methodLink RX0 171 yX0_isWithin, Cond.static yX0_isWithin, Cond.code yX0_isWithin cX0_isWithin 2 (some .boolean), Cond.methodLink RX0 64 yX0_requireCostume, Cond.static yX0_requireCostume, Cond.code yX0_requireCostume cX0_requireCostume 1 none, Cond.methodLink RX0 67 yX0_fits, Cond.static yX0_fits, Cond.code yX0_fits cX0_fits 3 (some .boolean), Cond.methodLink RX0 187 Lib.Math.abs.name, Cond.static Lib.Math.abs.name]
def wsX0_dress_r2 : List Cond := [Cond.initialized "java/lang/Math", Cond.code Lib.Math.abs.name Lib.Math.abs.code 1 (some .int), Cond.methodLink RX0 83 yX0_playerIn, Cond.instanceMethod yX0_playerIn, Cond.selects RX0 yX0_playerIn yX0_playerIn, Cond.code yX0_playerIn cX0_playerIn 2 (some .int), Cond.methodLink RX0 190 yX0_indexOf, Cond.static yX0_indexOf, Cond.code yX0_indexOf cX0_indexOf 3 (some .int)]
def wsX0_dress : List Cond := .code yX0_dress cX0_dress 5 (some .int) :: ((wsX0_dress_r1 ++ wsX0_dress_r2) ++ wsX00 ++ (vx_atS RX0 75 "java/lang/IllegalArgumentException" ["java/lang/RuntimeException", "java/lang/Exception"]).filter goodWord ++ (vx_atS RX0 82 "java/lang/IllegalStateException" ["java/lang/RuntimeException", "java/lang/Exception"]).filter goodWord ++ (vx_atS RX0 178 "java/lang/IndexOutOfBoundsException" ["java/lang/RuntimeException", "java/lang/Exception"]).filter goodWord)
def wsX0_costumeOf : List Cond := .code yX0_costumeOf cX0_costumeOf 2 (some .int) :: ([.fieldLink RX0 9 "Clockmask" "costumeOfPlayer" "[I", .methodLink RX0 60 yX0_requirePlayer, .static yX0_requirePlayer, .initialized RX0, .code yX0_requirePlayer cX0_requirePlayer 1 none, .classLink RX0 174 "java/lang/IndexOutOfBoundsException", .initialized "java/lang/IndexOutOfBoundsException", .methodLink RX0 171 yX0_isWithin, .static yX0_isWithin, .code yX0_isWithin cX0_isWithin 2 (some .boolean)] ++ wsX00 ++ (vx_atS RX0 178 "java/lang/IndexOutOfBoundsException" ["java/lang/RuntimeException", "java/lang/Exception"]).filter goodWord)
def wsX0_wear : List Cond := .code yX0_wear cX0_wear 2 (some .int) :: ([.fieldLink RX0 20 "Clockmask" "wearOfCostume" "[I", .methodLink RX0 64 yX0_requireCostume, .static yX0_requireCostume, .initialized RX0, .code yX0_requireCostume cX0_requireCostume 1 none, .classLink RX0 174 "java/lang/IndexOutOfBoundsException", .initialized "java/lang/IndexOutOfBoundsException", .methodLink RX0 171 yX0_isWithin, .static yX0_isWithin, .code yX0_isWithin cX0_isWithin 2 (some .boolean)] ++ wsX00 ++ (vx_atS RX0 178 "java/lang/IndexOutOfBoundsException" ["java/lang/RuntimeException", "java/lang/Exception"]).filter goodWord)
def wsX0_purse : List Cond := .code yX0_purse cX0_purse 1 (some .int) :: ([.fieldLink RX0 47 "Clockmask" "purse" "I"] ++ wsX00)
def wsX0_requireMask : List Cond := .code yX0_requireMask cX0_requireMask 1 none :: ([.classLink RX0 174 "java/lang/IndexOutOfBoundsException", .initialized "java/lang/IndexOutOfBoundsException", .methodLink RX0 171 yX0_isWithin, .static yX0_isWithin, .initialized RX0, .code yX0_isWithin cX0_isWithin 2 (some .boolean)] ++ (vx_atS RX0 178 "java/lang/IndexOutOfBoundsException" ["java/lang/RuntimeException", "java/lang/Exception"]).filter goodWord)
def wsX0_requireOther : List Cond := .code yX0_requireOther cX0_requireOther 2 none :: ([.methodLink RX0 138 yX0_requireMask, .static yX0_requireMask, .initialized RX0, .code yX0_requireMask cX0_requireMask 1 none, .classLink RX0 174 "java/lang/IndexOutOfBoundsException", .initialized "java/lang/IndexOutOfBoundsException", .methodLink RX0 171 yX0_isWithin, .static yX0_isWithin, .code yX0_isWithin cX0_isWithin 2 (some .boolean), .methodLink RX0 60 yX0_requirePlayer, .static yX0_requirePlayer, .code yX0_requirePlayer cX0_requirePlayer 1 none] ++ (vx_atS RX0 178 "java/lang/IndexOutOfBoundsException" ["java/lang/RuntimeException", "java/lang/Exception"]).filter goodWord)
def wsX0_requireCue : List Cond := .code yX0_requireCue cX0_requireCue 2 none :: ([.classLink RX0 174 "java/lang/IndexOutOfBoundsException", .initialized "java/lang/IndexOutOfBoundsException", .fieldLink RX0 104 "Clockmask" "cueCount" "I", .methodLink RX0 171 yX0_isWithin, .static yX0_isWithin, .initialized RX0, .code yX0_isWithin cX0_isWithin 2 (some .boolean)] ++ wsX00 ++ (vx_atS RX0 178 "java/lang/IndexOutOfBoundsException" ["java/lang/RuntimeException", "java/lang/Exception"]).filter goodWord)
def wsX0_addCue_r1 : List Cond := [Cond.classLink RX0 71 "java/lang/IllegalArgumentException", Cond.initialized "java/lang/IllegalArgumentException", Cond.classLink RX0 78 "java/lang/IllegalStateException", Cond.initialized "java/lang/IllegalStateException", Cond.fieldLink RX0 104 "Clockmask" "cueCount" "I", Cond.fieldLink RX0 35 "Clockmask" "cueState" "[I", Cond.fieldLink RX0 23 "Clockmask" "cueKind" "[I", Cond.fieldLink RX0 26 "Clockmask" "cuePlayer" "[I", Cond.fieldLink RX0 29 "Clockmask" "cueOther" "[I", Cond.fieldLink RX0 32 "Clockmask" "cueWaits" "[I", Cond.methodLink RX0 60 yX0_requirePlayer, Cond.static yX0_requirePlayer, Cond.initialized RX0, Cond.code yX0_requirePlayer cX0_requirePlayer 1 none, Cond.classLink RX0 174 "java/lang/IndexOutOfBoundsException", Cond.initialized "java/lang/IndexOutOfBoundsException", Cond.methodLink RX0 171 yX0_isWithin, Cond.static yX0_isWithin, Cond.code yX0_isWithin cX0_isWithin 2 (some .boolean), Cond.methodLink RX0 97 yX0_requireOther, Cond.static yX0_requireOther, Cond.code yX0_requireOther cX0_requireOther 2 none, Cond.methodLink RX0 138 yX0_requireMask, Cond.static yX0_requireMask]
def wsX0_addCue_r2 : List Cond := [Cond.code yX0_requireMask cX0_requireMask 1 none, Cond.methodLink RX0 101 yX0_requireCue, Cond.instanceMethod yX0_requireCue, Cond.selects RX0 yX0_requireCue yX0_requireCue, Cond.code yX0_requireCue cX0_requireCue 2 none]
def wsX0_addCue : List Cond := .code yX0_addCue cX0_addCue 6 (some .int) :: ((wsX0_addCue_r1 ++ wsX0_addCue_r2) ++ wsX00 ++ (vx_atS RX0 75 "java/lang/IllegalArgumentException" ["java/lang/RuntimeException", "java/lang/Exception"]).filter goodWord ++ (vx_atS RX0 82 "java/lang/IllegalStateException" ["java/lang/RuntimeException", "java/lang/Exception"]).filter goodWord ++ (vx_atS RX0 178 "java/lang/IndexOutOfBoundsException" ["java/lang/RuntimeException", "java/lang/Exception"]).filter goodWord)
def wsX0_isReleased : List Cond := .code yX0_isReleased cX0_isReleased 3 (some .boolean) :: ([.fieldLink RX0 32 "Clockmask" "cueWaits" "[I", .fieldLink RX0 35 "Clockmask" "cueState" "[I"] ++ wsX00)
def wsX0_playerBehind : List Cond := .code yX0_playerBehind cX0_playerBehind 2 (some .int) :: ([.fieldLink RX0 13 "Clockmask" "maskOfPlayer" "[I", .methodLink RX0 190 yX0_indexOf, .static yX0_indexOf, .initialized RX0, .code yX0_indexOf cX0_indexOf 3 (some .int)] ++ wsX00)
def wsX0_canSwap : List Cond := .code yX0_canSwap cX0_canSwap 4 (some .boolean) :: ([.fieldLink RX0 16 "Clockmask" "onStage" "[Z", .fieldLink RX0 13 "Clockmask" "maskOfPlayer" "[I"] ++ wsX00)
def wsX0_canBeDone : List Cond := .code yX0_canBeDone cX0_canBeDone 4 (some .boolean) :: ([.fieldLink RX0 26 "Clockmask" "cuePlayer" "[I", .fieldLink RX0 29 "Clockmask" "cueOther" "[I", .fieldLink RX0 23 "Clockmask" "cueKind" "[I", .fieldLink RX0 16 "Clockmask" "onStage" "[Z", .fieldLink RX0 9 "Clockmask" "costumeOfPlayer" "[I", .fieldLink RX0 13 "Clockmask" "maskOfPlayer" "[I", .methodLink RX0 141 yX0_playerBehind, .instanceMethod yX0_playerBehind, .selects RX0 yX0_playerBehind yX0_playerBehind, .initialized RX0, .code yX0_playerBehind cX0_playerBehind 2 (some .int), .methodLink RX0 190 yX0_indexOf, .static yX0_indexOf, .code yX0_indexOf cX0_indexOf 3 (some .int), .methodLink RX0 200 yX0_canSwap, .instanceMethod yX0_canSwap, .selects RX0 yX0_canSwap yX0_canSwap, .code yX0_canSwap cX0_canSwap 4 (some .boolean)] ++ wsX00)
def wsX0_isCallable_r1 : List Cond := [Cond.fieldLink RX0 35 "Clockmask" "cueState" "[I", Cond.methodLink RX0 194 yX0_isReleased, Cond.instanceMethod yX0_isReleased, Cond.selects RX0 yX0_isReleased yX0_isReleased, Cond.initialized RX0, Cond.code yX0_isReleased cX0_isReleased 3 (some .boolean), Cond.fieldLink RX0 32 "Clockmask" "cueWaits" "[I", Cond.methodLink RX0 197 yX0_canBeDone, Cond.instanceMethod yX0_canBeDone, Cond.selects RX0 yX0_canBeDone yX0_canBeDone, Cond.code yX0_canBeDone cX0_canBeDone 4 (some .boolean), Cond.fieldLink RX0 26 "Clockmask" "cuePlayer" "[I", Cond.fieldLink RX0 29 "Clockmask" "cueOther" "[I", Cond.fieldLink RX0 23 "Clockmask" "cueKind" "[I", Cond.fieldLink RX0 16 "Clockmask" "onStage" "[Z", Cond.fieldLink RX0 9 "Clockmask" "costumeOfPlayer" "[I", Cond.fieldLink RX0 13 "Clockmask" "maskOfPlayer" "[I", Cond.methodLink RX0 141 yX0_playerBehind, Cond.instanceMethod yX0_playerBehind, Cond.selects RX0 yX0_playerBehind yX0_playerBehind, Cond.code yX0_playerBehind cX0_playerBehind 2 (some .int), Cond.methodLink RX0 190 yX0_indexOf, Cond.static yX0_indexOf, Cond.code yX0_indexOf cX0_indexOf 3 (some .int)]
def wsX0_isCallable_r2 : List Cond := [Cond.methodLink RX0 200 yX0_canSwap, Cond.instanceMethod yX0_canSwap, Cond.selects RX0 yX0_canSwap yX0_canSwap, Cond.code yX0_canSwap cX0_canSwap 4 (some .boolean)]
def wsX0_isCallable : List Cond := .code yX0_isCallable cX0_isCallable 2 (some .boolean) :: ((wsX0_isCallable_r1 ++ wsX0_isCallable_r2) ++ wsX00)
def wsX0_canCall_r1 : List Cond := [Cond.methodLink RX0 101 yX0_requireCue, Cond.instanceMethod yX0_requireCue, Cond.selects RX0 yX0_requireCue yX0_requireCue, Cond.initialized RX0, Cond.code yX0_requireCue cX0_requireCue 2 none, Cond.classLink RX0 174 "java/lang/IndexOutOfBoundsException", Cond.initialized "java/lang/IndexOutOfBoundsException", Cond.fieldLink RX0 104 "Clockmask" "cueCount" "I", Cond.methodLink RX0 171 yX0_isWithin, Cond.static yX0_isWithin, Cond.code yX0_isWithin cX0_isWithin 2 (some .boolean), Cond.methodLink RX0 113 yX0_isCallable, Cond.instanceMethod yX0_isCallable, Cond.selects RX0 yX0_isCallable yX0_isCallable, Cond.code yX0_isCallable cX0_isCallable 2 (some .boolean), Cond.fieldLink RX0 35 "Clockmask" "cueState" "[I", Cond.methodLink RX0 194 yX0_isReleased, Cond.instanceMethod yX0_isReleased, Cond.selects RX0 yX0_isReleased yX0_isReleased, Cond.code yX0_isReleased cX0_isReleased 3 (some .boolean), Cond.fieldLink RX0 32 "Clockmask" "cueWaits" "[I", Cond.methodLink RX0 197 yX0_canBeDone, Cond.instanceMethod yX0_canBeDone, Cond.selects RX0 yX0_canBeDone yX0_canBeDone]
def wsX0_canCall_r2 : List Cond := [Cond.code yX0_canBeDone cX0_canBeDone 4 (some .boolean), Cond.fieldLink RX0 26 "Clockmask" "cuePlayer" "[I", Cond.fieldLink RX0 29 "Clockmask" "cueOther" "[I", Cond.fieldLink RX0 23 "Clockmask" "cueKind" "[I", Cond.fieldLink RX0 16 "Clockmask" "onStage" "[Z", Cond.fieldLink RX0 9 "Clockmask" "costumeOfPlayer" "[I", Cond.fieldLink RX0 13 "Clockmask" "maskOfPlayer" "[I", Cond.methodLink RX0 141 yX0_playerBehind, Cond.instanceMethod yX0_playerBehind, Cond.selects RX0 yX0_playerBehind yX0_playerBehind, Cond.code yX0_playerBehind cX0_playerBehind 2 (some .int), Cond.methodLink RX0 190 yX0_indexOf, Cond.static yX0_indexOf, Cond.code yX0_indexOf cX0_indexOf 3 (some .int), Cond.methodLink RX0 200 yX0_canSwap, Cond.instanceMethod yX0_canSwap, Cond.selects RX0 yX0_canSwap yX0_canSwap, Cond.code yX0_canSwap cX0_canSwap 4 (some .boolean)]
def wsX0_canCall : List Cond := .code yX0_canCall cX0_canCall 2 (some .boolean) :: ((wsX0_canCall_r1 ++ wsX0_canCall_r2) ++ wsX00 ++ (vx_atS RX0 178 "java/lang/IndexOutOfBoundsException" ["java/lang/RuntimeException", "java/lang/Exception"]).filter goodWord)
def wsX0_leaveStage : List Cond := .code yX0_leaveStage cX0_leaveStage 3 none :: ([.fieldLink RX0 16 "Clockmask" "onStage" "[Z", .fieldLink RX0 9 "Clockmask" "costumeOfPlayer" "[I", .fieldLink RX0 20 "Clockmask" "wearOfCostume" "[I"] ++ wsX00)
def wsX0_moveMasks : List Cond := .code yX0_moveMasks cX0_moveMasks 6 none :: ([.fieldLink RX0 26 "Clockmask" "cuePlayer" "[I", .fieldLink RX0 29 "Clockmask" "cueOther" "[I", .fieldLink RX0 23 "Clockmask" "cueKind" "[I"] ++ wsX00)
def wsX0_noteCalled : List Cond := .code yX0_noteCalled cX0_noteCalled 2 none :: ([.fieldLink RX0 122 "Clockmask" "calledCount" "I", .fieldLink RX0 38 "Clockmask" "calledCues" "[I"] ++ wsX00)
def wsX0_carryOut : List Cond := .code yX0_carryOut cX0_carryOut 3 none :: ([.fieldLink RX0 26 "Clockmask" "cuePlayer" "[I", .fieldLink RX0 23 "Clockmask" "cueKind" "[I", .fieldLink RX0 16 "Clockmask" "onStage" "[Z", .fieldLink RX0 13 "Clockmask" "maskOfPlayer" "[I", .fieldLink RX0 35 "Clockmask" "cueState" "[I", .methodLink RX0 203 yX0_leaveStage, .instanceMethod yX0_leaveStage, .selects RX0 yX0_leaveStage yX0_leaveStage, .initialized RX0, .code yX0_leaveStage cX0_leaveStage 3 none, .fieldLink RX0 9 "Clockmask" "costumeOfPlayer" "[I", .fieldLink RX0 20 "Clockmask" "wearOfCostume" "[I", .methodLink RX0 134 yX0_moveMasks, .instanceMethod yX0_moveMasks, .selects RX0 yX0_moveMasks yX0_moveMasks, .code yX0_moveMasks cX0_moveMasks 6 none, .fieldLink RX0 29 "Clockmask" "cueOther" "[I", .methodLink RX0 206 yX0_noteCalled, .instanceMethod yX0_noteCalled, .selects RX0 yX0_noteCalled yX0_noteCalled, .code yX0_noteCalled cX0_noteCalled 2 none, .fieldLink RX0 122 "Clockmask" "calledCount" "I", .fieldLink RX0 38 "Clockmask" "calledCues" "[I"] ++ wsX00)
def wsX0_call_r1 : List Cond := [Cond.classLink RX0 78 "java/lang/IllegalStateException", Cond.initialized "java/lang/IllegalStateException", Cond.fieldLink RX0 122 "Clockmask" "calledCount" "I", Cond.methodLink RX0 101 yX0_requireCue, Cond.instanceMethod yX0_requireCue, Cond.selects RX0 yX0_requireCue yX0_requireCue, Cond.initialized RX0, Cond.code yX0_requireCue cX0_requireCue 2 none, Cond.classLink RX0 174 "java/lang/IndexOutOfBoundsException", Cond.initialized "java/lang/IndexOutOfBoundsException", Cond.fieldLink RX0 104 "Clockmask" "cueCount" "I", Cond.methodLink RX0 171 yX0_isWithin, Cond.static yX0_isWithin, Cond.code yX0_isWithin cX0_isWithin 2 (some .boolean), Cond.methodLink RX0 113 yX0_isCallable, Cond.instanceMethod yX0_isCallable, Cond.selects RX0 yX0_isCallable yX0_isCallable, Cond.code yX0_isCallable cX0_isCallable 2 (some .boolean), Cond.fieldLink RX0 35 "Clockmask" "cueState" "[I", Cond.methodLink RX0 194 yX0_isReleased, Cond.instanceMethod yX0_isReleased, Cond.selects RX0 yX0_isReleased yX0_isReleased, Cond.code yX0_isReleased cX0_isReleased 3 (some .boolean), Cond.fieldLink RX0 32 "Clockmask" "cueWaits" "[I"]
def wsX0_call_r2 : List Cond := [Cond.methodLink RX0 197 yX0_canBeDone, Cond.instanceMethod yX0_canBeDone, Cond.selects RX0 yX0_canBeDone yX0_canBeDone, Cond.code yX0_canBeDone cX0_canBeDone 4 (some .boolean), Cond.fieldLink RX0 26 "Clockmask" "cuePlayer" "[I", Cond.fieldLink RX0 29 "Clockmask" "cueOther" "[I", Cond.fieldLink RX0 23 "Clockmask" "cueKind" "[I", Cond.fieldLink RX0 16 "Clockmask" "onStage" "[Z", Cond.fieldLink RX0 9 "Clockmask" "costumeOfPlayer" "[I", Cond.fieldLink RX0 13 "Clockmask" "maskOfPlayer" "[I", Cond.methodLink RX0 141 yX0_playerBehind, Cond.instanceMethod yX0_playerBehind, Cond.selects RX0 yX0_playerBehind yX0_playerBehind, Cond.code yX0_playerBehind cX0_playerBehind 2 (some .int), Cond.methodLink RX0 190 yX0_indexOf, Cond.static yX0_indexOf, Cond.code yX0_indexOf cX0_indexOf 3 (some .int), Cond.methodLink RX0 200 yX0_canSwap, Cond.instanceMethod yX0_canSwap, Cond.selects RX0 yX0_canSwap yX0_canSwap, Cond.code yX0_canSwap cX0_canSwap 4 (some .boolean), Cond.methodLink RX0 119 yX0_carryOut, Cond.instanceMethod yX0_carryOut, Cond.selects RX0 yX0_carryOut yX0_carryOut]
def wsX0_call_r3 : List Cond := [Cond.code yX0_carryOut cX0_carryOut 3 none, Cond.methodLink RX0 203 yX0_leaveStage, Cond.instanceMethod yX0_leaveStage, Cond.selects RX0 yX0_leaveStage yX0_leaveStage, Cond.code yX0_leaveStage cX0_leaveStage 3 none, Cond.fieldLink RX0 20 "Clockmask" "wearOfCostume" "[I", Cond.methodLink RX0 134 yX0_moveMasks, Cond.instanceMethod yX0_moveMasks, Cond.selects RX0 yX0_moveMasks yX0_moveMasks, Cond.code yX0_moveMasks cX0_moveMasks 6 none, Cond.methodLink RX0 206 yX0_noteCalled, Cond.instanceMethod yX0_noteCalled, Cond.selects RX0 yX0_noteCalled yX0_noteCalled, Cond.code yX0_noteCalled cX0_noteCalled 2 none, Cond.fieldLink RX0 38 "Clockmask" "calledCues" "[I"]
def wsX0_call : List Cond := .code yX0_call cX0_call 2 (some .int) :: ((wsX0_call_r1 ++ (wsX0_call_r2 ++ wsX0_call_r3)) ++ wsX00 ++ (vx_atS RX0 82 "java/lang/IllegalStateException" ["java/lang/RuntimeException", "java/lang/Exception"]).filter goodWord ++ (vx_atS RX0 178 "java/lang/IndexOutOfBoundsException" ["java/lang/RuntimeException", "java/lang/Exception"]).filter goodWord)
def wsX0_firstCallable_r1 : List Cond := [Cond.fieldLink RX0 104 "Clockmask" "cueCount" "I", Cond.methodLink RX0 113 yX0_isCallable, Cond.instanceMethod yX0_isCallable, Cond.selects RX0 yX0_isCallable yX0_isCallable, Cond.initialized RX0, Cond.code yX0_isCallable cX0_isCallable 2 (some .boolean), Cond.fieldLink RX0 35 "Clockmask" "cueState" "[I", Cond.methodLink RX0 194 yX0_isReleased, Cond.instanceMethod yX0_isReleased, Cond.selects RX0 yX0_isReleased yX0_isReleased, Cond.code yX0_isReleased cX0_isReleased 3 (some .boolean), Cond.fieldLink RX0 32 "Clockmask" "cueWaits" "[I", Cond.methodLink RX0 197 yX0_canBeDone, Cond.instanceMethod yX0_canBeDone, Cond.selects RX0 yX0_canBeDone yX0_canBeDone, Cond.code yX0_canBeDone cX0_canBeDone 4 (some .boolean), Cond.fieldLink RX0 26 "Clockmask" "cuePlayer" "[I", Cond.fieldLink RX0 29 "Clockmask" "cueOther" "[I", Cond.fieldLink RX0 23 "Clockmask" "cueKind" "[I", Cond.fieldLink RX0 16 "Clockmask" "onStage" "[Z", Cond.fieldLink RX0 9 "Clockmask" "costumeOfPlayer" "[I", Cond.fieldLink RX0 13 "Clockmask" "maskOfPlayer" "[I", Cond.methodLink RX0 141 yX0_playerBehind, Cond.instanceMethod yX0_playerBehind]
def wsX0_firstCallable_r2 : List Cond := [Cond.selects RX0 yX0_playerBehind yX0_playerBehind, Cond.code yX0_playerBehind cX0_playerBehind 2 (some .int), Cond.methodLink RX0 190 yX0_indexOf, Cond.static yX0_indexOf, Cond.code yX0_indexOf cX0_indexOf 3 (some .int), Cond.methodLink RX0 200 yX0_canSwap, Cond.instanceMethod yX0_canSwap, Cond.selects RX0 yX0_canSwap yX0_canSwap, Cond.code yX0_canSwap cX0_canSwap 4 (some .boolean)]
def wsX0_firstCallable : List Cond := .code yX0_firstCallable cX0_firstCallable 2 (some .int) :: ((wsX0_firstCallable_r1 ++ wsX0_firstCallable_r2) ++ wsX00)
def wsX0_run_r1 : List Cond := [Cond.fieldLink RX0 122 "Clockmask" "calledCount" "I", Cond.methodLink RX0 125 yX0_firstCallable, Cond.instanceMethod yX0_firstCallable, Cond.selects RX0 yX0_firstCallable yX0_firstCallable, Cond.initialized RX0, Cond.code yX0_firstCallable cX0_firstCallable 2 (some .int), Cond.fieldLink RX0 104 "Clockmask" "cueCount" "I", Cond.methodLink RX0 113 yX0_isCallable, Cond.instanceMethod yX0_isCallable, Cond.selects RX0 yX0_isCallable yX0_isCallable, Cond.code yX0_isCallable cX0_isCallable 2 (some .boolean), Cond.fieldLink RX0 35 "Clockmask" "cueState" "[I", Cond.methodLink RX0 194 yX0_isReleased, Cond.instanceMethod yX0_isReleased, Cond.selects RX0 yX0_isReleased yX0_isReleased, Cond.code yX0_isReleased cX0_isReleased 3 (some .boolean), Cond.fieldLink RX0 32 "Clockmask" "cueWaits" "[I", Cond.methodLink RX0 197 yX0_canBeDone, Cond.instanceMethod yX0_canBeDone, Cond.selects RX0 yX0_canBeDone yX0_canBeDone, Cond.code yX0_canBeDone cX0_canBeDone 4 (some .boolean), Cond.fieldLink RX0 26 "Clockmask" "cuePlayer" "[I", Cond.fieldLink RX0 29 "Clockmask" "cueOther" "[I", Cond.fieldLink RX0 23 "Clockmask" "cueKind" "[I"]
def wsX0_run_r2 : List Cond := [Cond.fieldLink RX0 16 "Clockmask" "onStage" "[Z", Cond.fieldLink RX0 9 "Clockmask" "costumeOfPlayer" "[I", Cond.fieldLink RX0 13 "Clockmask" "maskOfPlayer" "[I", Cond.methodLink RX0 141 yX0_playerBehind, Cond.instanceMethod yX0_playerBehind, Cond.selects RX0 yX0_playerBehind yX0_playerBehind, Cond.code yX0_playerBehind cX0_playerBehind 2 (some .int), Cond.methodLink RX0 190 yX0_indexOf, Cond.static yX0_indexOf, Cond.code yX0_indexOf cX0_indexOf 3 (some .int), Cond.methodLink RX0 200 yX0_canSwap, Cond.instanceMethod yX0_canSwap, Cond.selects RX0 yX0_canSwap yX0_canSwap, Cond.code yX0_canSwap cX0_canSwap 4 (some .boolean), Cond.methodLink RX0 119 yX0_carryOut, Cond.instanceMethod yX0_carryOut, Cond.selects RX0 yX0_carryOut yX0_carryOut, Cond.code yX0_carryOut cX0_carryOut 3 none, Cond.methodLink RX0 203 yX0_leaveStage, Cond.instanceMethod yX0_leaveStage, Cond.selects RX0 yX0_leaveStage yX0_leaveStage, Cond.code yX0_leaveStage cX0_leaveStage 3 none, Cond.fieldLink RX0 20 "Clockmask" "wearOfCostume" "[I", Cond.methodLink RX0 134 yX0_moveMasks]
def wsX0_run_r3 : List Cond := [Cond.instanceMethod yX0_moveMasks, Cond.selects RX0 yX0_moveMasks yX0_moveMasks, Cond.code yX0_moveMasks cX0_moveMasks 6 none, Cond.methodLink RX0 206 yX0_noteCalled, Cond.instanceMethod yX0_noteCalled, Cond.selects RX0 yX0_noteCalled yX0_noteCalled, Cond.code yX0_noteCalled cX0_noteCalled 2 none, Cond.fieldLink RX0 38 "Clockmask" "calledCues" "[I"]
def wsX0_run : List Cond := .code yX0_run cX0_run 4 (some .int) :: ((wsX0_run_r1 ++ (wsX0_run_r2 ++ wsX0_run_r3)) ++ wsX00)
def wsX0_waitsForMissed : List Cond := .code yX0_waitsForMissed cX0_waitsForMissed 3 (some .boolean) :: ([.fieldLink RX0 32 "Clockmask" "cueWaits" "[I", .fieldLink RX0 35 "Clockmask" "cueState" "[I"] ++ wsX00)
def wsX0_miss : List Cond := .code yX0_miss cX0_miss 4 (some .int) :: ([.classLink RX0 78 "java/lang/IllegalStateException", .initialized "java/lang/IllegalStateException", .fieldLink RX0 35 "Clockmask" "cueState" "[I", .fieldLink RX0 104 "Clockmask" "cueCount" "I", .methodLink RX0 101 yX0_requireCue, .instanceMethod yX0_requireCue, .selects RX0 yX0_requireCue yX0_requireCue, .initialized RX0, .code yX0_requireCue cX0_requireCue 2 none, .classLink RX0 174 "java/lang/IndexOutOfBoundsException", .initialized "java/lang/IndexOutOfBoundsException", .methodLink RX0 171 yX0_isWithin, .static yX0_isWithin, .code yX0_isWithin cX0_isWithin 2 (some .boolean), .methodLink RX0 131 yX0_waitsForMissed, .instanceMethod yX0_waitsForMissed, .selects RX0 yX0_waitsForMissed yX0_waitsForMissed, .code yX0_waitsForMissed cX0_waitsForMissed 3 (some .boolean), .fieldLink RX0 32 "Clockmask" "cueWaits" "[I"] ++ wsX00 ++ (vx_atS RX0 82 "java/lang/IllegalStateException" ["java/lang/RuntimeException", "java/lang/Exception"]).filter goodWord ++ (vx_atS RX0 178 "java/lang/IndexOutOfBoundsException" ["java/lang/RuntimeException", "java/lang/Exception"]).filter goodWord)
def wsX0_stateOf : List Cond := .code yX0_stateOf cX0_stateOf 2 (some .int) :: ([.fieldLink RX0 35 "Clockmask" "cueState" "[I", .methodLink RX0 101 yX0_requireCue, .instanceMethod yX0_requireCue, .selects RX0 yX0_requireCue yX0_requireCue, .initialized RX0, .code yX0_requireCue cX0_requireCue 2 none, .classLink RX0 174 "java/lang/IndexOutOfBoundsException", .initialized "java/lang/IndexOutOfBoundsException", .fieldLink RX0 104 "Clockmask" "cueCount" "I", .methodLink RX0 171 yX0_isWithin, .static yX0_isWithin, .code yX0_isWithin cX0_isWithin 2 (some .boolean)] ++ wsX00 ++ (vx_atS RX0 178 "java/lang/IndexOutOfBoundsException" ["java/lang/RuntimeException", "java/lang/Exception"]).filter goodWord)
def wsX0_cues : List Cond := .code yX0_cues cX0_cues 1 (some .int) :: ([.fieldLink RX0 104 "Clockmask" "cueCount" "I"] ++ wsX00)
def wsX0_maskOf : List Cond := .code yX0_maskOf cX0_maskOf 2 (some .int) :: ([.fieldLink RX0 13 "Clockmask" "maskOfPlayer" "[I", .methodLink RX0 60 yX0_requirePlayer, .static yX0_requirePlayer, .initialized RX0, .code yX0_requirePlayer cX0_requirePlayer 1 none, .classLink RX0 174 "java/lang/IndexOutOfBoundsException", .initialized "java/lang/IndexOutOfBoundsException", .methodLink RX0 171 yX0_isWithin, .static yX0_isWithin, .code yX0_isWithin cX0_isWithin 2 (some .boolean)] ++ wsX00 ++ (vx_atS RX0 178 "java/lang/IndexOutOfBoundsException" ["java/lang/RuntimeException", "java/lang/Exception"]).filter goodWord)
def wsX0_maskByCues : List Cond := .code yX0_maskByCues cX0_maskByCues 3 (some .int) :: ([.fieldLink RX0 51 "Clockmask" "replayedMasks" "[I", .fieldLink RX0 122 "Clockmask" "calledCount" "I", .fieldLink RX0 38 "Clockmask" "calledCues" "[I", .methodLink RX0 60 yX0_requirePlayer, .static yX0_requirePlayer, .initialized RX0, .code yX0_requirePlayer cX0_requirePlayer 1 none, .classLink RX0 174 "java/lang/IndexOutOfBoundsException", .initialized "java/lang/IndexOutOfBoundsException", .methodLink RX0 171 yX0_isWithin, .static yX0_isWithin, .code yX0_isWithin cX0_isWithin 2 (some .boolean), .methodLink RX0 54 yJ7_fill_53178, .static yJ7_fill_53178, .initialized RJ7, .code yJ7_fill_53178 cJ7_fill_53178 4 none, .methodLink RX0 134 yX0_moveMasks, .instanceMethod yX0_moveMasks, .selects RX0 yX0_moveMasks yX0_moveMasks, .code yX0_moveMasks cX0_moveMasks 6 none, .fieldLink RX0 26 "Clockmask" "cuePlayer" "[I", .fieldLink RX0 29 "Clockmask" "cueOther" "[I", .fieldLink RX0 23 "Clockmask" "cueKind" "[I"] ++ wsX00 ++ (vx_atS RX0 178 "java/lang/IndexOutOfBoundsException" ["java/lang/RuntimeException", "java/lang/Exception"]).filter goodWord)
def wsX0_wearerOf : List Cond := .code yX0_wearerOf cX0_wearerOf 2 (some .int) :: ([.methodLink RX0 138 yX0_requireMask, .static yX0_requireMask, .initialized RX0, .code yX0_requireMask cX0_requireMask 1 none, .classLink RX0 174 "java/lang/IndexOutOfBoundsException", .initialized "java/lang/IndexOutOfBoundsException", .methodLink RX0 171 yX0_isWithin, .static yX0_isWithin, .code yX0_isWithin cX0_isWithin 2 (some .boolean), .methodLink RX0 141 yX0_playerBehind, .instanceMethod yX0_playerBehind, .selects RX0 yX0_playerBehind yX0_playerBehind, .code yX0_playerBehind cX0_playerBehind 2 (some .int), .fieldLink RX0 13 "Clockmask" "maskOfPlayer" "[I", .methodLink RX0 190 yX0_indexOf, .static yX0_indexOf, .code yX0_indexOf cX0_indexOf 3 (some .int)] ++ wsX00 ++ (vx_atS RX0 178 "java/lang/IndexOutOfBoundsException" ["java/lang/RuntimeException", "java/lang/Exception"]).filter goodWord)
def wsX0_isOn : List Cond := .code yX0_isOn cX0_isOn 2 (some .boolean) :: ([.fieldLink RX0 16 "Clockmask" "onStage" "[Z", .methodLink RX0 60 yX0_requirePlayer, .static yX0_requirePlayer, .initialized RX0, .code yX0_requirePlayer cX0_requirePlayer 1 none, .classLink RX0 174 "java/lang/IndexOutOfBoundsException", .initialized "java/lang/IndexOutOfBoundsException", .methodLink RX0 171 yX0_isWithin, .static yX0_isWithin, .code yX0_isWithin cX0_isWithin 2 (some .boolean)] ++ wsX00 ++ (vx_atS RX0 178 "java/lang/IndexOutOfBoundsException" ["java/lang/RuntimeException", "java/lang/Exception"]).filter goodWord)
def wsX0_requireGuesser : List Cond := .code yX0_requireGuesser cX0_requireGuesser 1 none :: ([.classLink RX0 174 "java/lang/IndexOutOfBoundsException", .initialized "java/lang/IndexOutOfBoundsException", .methodLink RX0 171 yX0_isWithin, .static yX0_isWithin, .initialized RX0, .code yX0_isWithin cX0_isWithin 2 (some .boolean)] ++ (vx_atS RX0 178 "java/lang/IndexOutOfBoundsException" ["java/lang/RuntimeException", "java/lang/Exception"]).filter goodWord)
def wsX0_guess : List Cond := .code yX0_guess cX0_guess 6 (some .boolean) :: ([.classLink RX0 78 "java/lang/IllegalStateException", .initialized "java/lang/IllegalStateException", .fieldLink RX0 16 "Clockmask" "onStage" "[Z", .fieldLink RX0 13 "Clockmask" "maskOfPlayer" "[I", .fieldLink RX0 44 "Clockmask" "guessed" "[Z", .fieldLink RX0 41 "Clockmask" "pointsOfGuesser" "[I", .methodLink RX0 144 yX0_requireGuesser, .static yX0_requireGuesser, .initialized RX0, .code yX0_requireGuesser cX0_requireGuesser 1 none, .classLink RX0 174 "java/lang/IndexOutOfBoundsException", .initialized "java/lang/IndexOutOfBoundsException", .methodLink RX0 171 yX0_isWithin, .static yX0_isWithin, .code yX0_isWithin cX0_isWithin 2 (some .boolean), .methodLink RX0 60 yX0_requirePlayer, .static yX0_requirePlayer, .code yX0_requirePlayer cX0_requirePlayer 1 none, .methodLink RX0 138 yX0_requireMask, .static yX0_requireMask, .code yX0_requireMask cX0_requireMask 1 none] ++ wsX00 ++ (vx_atS RX0 82 "java/lang/IllegalStateException" ["java/lang/RuntimeException", "java/lang/Exception"]).filter goodWord ++ (vx_atS RX0 178 "java/lang/IndexOutOfBoundsException" ["java/lang/RuntimeException", "java/lang/Exception"]).filter goodWord)
def wsX0_points : List Cond := .code yX0_points cX0_points 2 (some .int) :: ([.fieldLink RX0 41 "Clockmask" "pointsOfGuesser" "[I", .methodLink RX0 144 yX0_requireGuesser, .static yX0_requireGuesser, .initialized RX0, .code yX0_requireGuesser cX0_requireGuesser 1 none, .classLink RX0 174 "java/lang/IndexOutOfBoundsException", .initialized "java/lang/IndexOutOfBoundsException", .methodLink RX0 171 yX0_isWithin, .static yX0_isWithin, .code yX0_isWithin cX0_isWithin 2 (some .boolean)] ++ wsX00 ++ (vx_atS RX0 178 "java/lang/IndexOutOfBoundsException" ["java/lang/RuntimeException", "java/lang/Exception"]).filter goodWord)
def wsX0_countCues : List Cond := .code yX0_countCues cX0_countCues 4 (some .int) :: ([.fieldLink RX0 104 "Clockmask" "cueCount" "I", .fieldLink RX0 35 "Clockmask" "cueState" "[I"] ++ wsX00)
def wsX0_clearStage : List Cond := .code yX0_clearStage cX0_clearStage 2 none :: ([.fieldLink RX0 13 "Clockmask" "maskOfPlayer" "[I", .fieldLink RX0 16 "Clockmask" "onStage" "[Z"] ++ wsX00)
def wsX0_clearGuesses : List Cond := .code yX0_clearGuesses cX0_clearGuesses 2 none :: ([.fieldLink RX0 44 "Clockmask" "guessed" "[Z"] ++ wsX00)
def wsX0_endPlay_r1 : List Cond := [Cond.classLink RX0 78 "java/lang/IllegalStateException", Cond.initialized "java/lang/IllegalStateException", Cond.fieldLink RX0 47 "Clockmask" "purse" "I", Cond.methodLink RX0 156 Lib.Math.max.name, Cond.static Lib.Math.max.name, Cond.initialized "java/lang/Math", Cond.code Lib.Math.max.name Lib.Math.max.code 2 (some .int), Cond.fieldLink RX0 162 "Clockmask" "endedPlays" "I", Cond.fieldLink RX0 104 "Clockmask" "cueCount" "I", Cond.fieldLink RX0 122 "Clockmask" "calledCount" "I", Cond.methodLink RX0 151 yX0_countCues, Cond.instanceMethod yX0_countCues, Cond.selects RX0 yX0_countCues yX0_countCues, Cond.initialized RX0, Cond.code yX0_countCues cX0_countCues 4 (some .int), Cond.fieldLink RX0 35 "Clockmask" "cueState" "[I", Cond.methodLink RX0 165 yX0_clearStage, Cond.instanceMethod yX0_clearStage, Cond.selects RX0 yX0_clearStage yX0_clearStage, Cond.code yX0_clearStage cX0_clearStage 2 none, Cond.fieldLink RX0 13 "Clockmask" "maskOfPlayer" "[I", Cond.fieldLink RX0 16 "Clockmask" "onStage" "[Z", Cond.methodLink RX0 168 yX0_clearGuesses, Cond.instanceMethod yX0_clearGuesses]
def wsX0_endPlay_r2 : List Cond := [Cond.selects RX0 yX0_clearGuesses yX0_clearGuesses, Cond.code yX0_clearGuesses cX0_clearGuesses 2 none, Cond.fieldLink RX0 44 "Clockmask" "guessed" "[Z"]
def wsX0_endPlay : List Cond := .code yX0_endPlay cX0_endPlay 1 (some .int) :: ((wsX0_endPlay_r1 ++ wsX0_endPlay_r2) ++ wsX00 ++ (vx_atS RX0 82 "java/lang/IllegalStateException" ["java/lang/RuntimeException", "java/lang/Exception"]).filter goodWord)
def wsX0_plays : List Cond := .code yX0_plays cX0_plays 1 (some .int) :: ([.fieldLink RX0 162 "Clockmask" "endedPlays" "I"] ++ wsX00)
def wsJ9_abs_0f7a4 : List Cond := .code yJ9_abs_0f7a4 cJ9_abs_0f7a4 1 (some .int) :: ([])
def wsJ9_max_7cf53 : List Cond := .code yJ9_max_7cf53 cJ9_max_7cf53 2 (some .int) :: ([])
def wsL_cell : List Cond := .code yL_cell cL_cell 2 (some .int) :: ([.constant RL 7 (903460835)])
def wsL_at : List Cond := .code yL_at cL_at 2 (some .int) :: ([])
def wsL_sound_r1 : List Cond := [Cond.methodLink RL 8 yX0_maskOf, Cond.instanceMethod yX0_maskOf, Cond.selects RX0 yX0_maskOf yX0_maskOf, Cond.initialized RX0, Cond.code yX0_maskOf cX0_maskOf 2 (some .int), Cond.fieldLink RX0 13 "Clockmask" "maskOfPlayer" "[I", Cond.methodLink RX0 60 yX0_requirePlayer, Cond.static yX0_requirePlayer, Cond.code yX0_requirePlayer cX0_requirePlayer 1 none, Cond.classLink RX0 174 "java/lang/IndexOutOfBoundsException", Cond.initialized "java/lang/IndexOutOfBoundsException", Cond.methodLink RX0 171 yX0_isWithin, Cond.static yX0_isWithin, Cond.code yX0_isWithin cX0_isWithin 2 (some .boolean), Cond.methodLink RL 14 yX0_costumeOf, Cond.instanceMethod yX0_costumeOf, Cond.selects RX0 yX0_costumeOf yX0_costumeOf, Cond.code yX0_costumeOf cX0_costumeOf 2 (some .int), Cond.fieldLink RX0 9 "Clockmask" "costumeOfPlayer" "[I", Cond.methodLink RL 17 yX0_maskByCues, Cond.instanceMethod yX0_maskByCues, Cond.selects RX0 yX0_maskByCues yX0_maskByCues, Cond.code yX0_maskByCues cX0_maskByCues 3 (some .int), Cond.fieldLink RX0 51 "Clockmask" "replayedMasks" "[I"]
def wsL_sound_r2 : List Cond := [Cond.fieldLink RX0 122 "Clockmask" "calledCount" "I", Cond.fieldLink RX0 38 "Clockmask" "calledCues" "[I", Cond.methodLink RX0 54 yJ7_fill_53178, Cond.static yJ7_fill_53178, Cond.initialized RJ7, Cond.code yJ7_fill_53178 cJ7_fill_53178 4 none, Cond.methodLink RX0 134 yX0_moveMasks, Cond.instanceMethod yX0_moveMasks, Cond.selects RX0 yX0_moveMasks yX0_moveMasks, Cond.code yX0_moveMasks cX0_moveMasks 6 none, Cond.fieldLink RX0 26 "Clockmask" "cuePlayer" "[I", Cond.fieldLink RX0 29 "Clockmask" "cueOther" "[I", Cond.fieldLink RX0 23 "Clockmask" "cueKind" "[I", Cond.methodLink RL 20 yX0_wearerOf, Cond.instanceMethod yX0_wearerOf, Cond.selects RX0 yX0_wearerOf yX0_wearerOf, Cond.code yX0_wearerOf cX0_wearerOf 2 (some .int), Cond.methodLink RX0 138 yX0_requireMask, Cond.static yX0_requireMask, Cond.code yX0_requireMask cX0_requireMask 1 none, Cond.methodLink RX0 141 yX0_playerBehind, Cond.instanceMethod yX0_playerBehind, Cond.selects RX0 yX0_playerBehind yX0_playerBehind, Cond.code yX0_playerBehind cX0_playerBehind 2 (some .int)]
def wsL_sound_r3 : List Cond := [Cond.methodLink RX0 190 yX0_indexOf, Cond.static yX0_indexOf, Cond.code yX0_indexOf cX0_indexOf 3 (some .int), Cond.methodLink RL 23 yX0_isOn, Cond.instanceMethod yX0_isOn, Cond.selects RX0 yX0_isOn yX0_isOn, Cond.code yX0_isOn cX0_isOn 2 (some .boolean), Cond.fieldLink RX0 16 "Clockmask" "onStage" "[Z", Cond.methodLink RL 27 yX0_wear, Cond.instanceMethod yX0_wear, Cond.selects RX0 yX0_wear yX0_wear, Cond.code yX0_wear cX0_wear 2 (some .int), Cond.fieldLink RX0 20 "Clockmask" "wearOfCostume" "[I", Cond.methodLink RX0 64 yX0_requireCostume, Cond.static yX0_requireCostume, Cond.code yX0_requireCostume cX0_requireCostume 1 none]
def wsL_sound : List Cond := .code yL_sound cL_sound 5 (some .boolean) :: ((wsL_sound_r1 ++ (wsL_sound_r2 ++ wsL_sound_r3)) ++ wsX00 ++ (vx_atS RX0 178 "java/lang/IndexOutOfBoundsException" ["java/lang/RuntimeException", "java/lang/Exception"]).filter goodWord)
def wsL_chained_r1 : List Cond := [Cond.methodLink RL 30 yX0_cues, Cond.instanceMethod yX0_cues, Cond.selects RX0 yX0_cues yX0_cues, Cond.initialized RX0, Cond.code yX0_cues cX0_cues 1 (some .int), Cond.fieldLink RX0 104 "Clockmask" "cueCount" "I", Cond.methodLink RL 34 yX0_stateOf, Cond.instanceMethod yX0_stateOf, Cond.selects RX0 yX0_stateOf yX0_stateOf, Cond.code yX0_stateOf cX0_stateOf 2 (some .int), Cond.fieldLink RX0 35 "Clockmask" "cueState" "[I", Cond.methodLink RX0 101 yX0_requireCue, Cond.instanceMethod yX0_requireCue, Cond.selects RX0 yX0_requireCue yX0_requireCue, Cond.code yX0_requireCue cX0_requireCue 2 none, Cond.classLink RX0 174 "java/lang/IndexOutOfBoundsException", Cond.initialized "java/lang/IndexOutOfBoundsException", Cond.methodLink RX0 171 yX0_isWithin, Cond.static yX0_isWithin, Cond.code yX0_isWithin cX0_isWithin 2 (some .boolean), Cond.methodLink RL 37 yX0_canCall, Cond.instanceMethod yX0_canCall, Cond.selects RX0 yX0_canCall yX0_canCall, Cond.code yX0_canCall cX0_canCall 2 (some .boolean)]
def wsL_chained_r2 : List Cond := [Cond.methodLink RX0 113 yX0_isCallable, Cond.instanceMethod yX0_isCallable, Cond.selects RX0 yX0_isCallable yX0_isCallable, Cond.code yX0_isCallable cX0_isCallable 2 (some .boolean), Cond.methodLink RX0 194 yX0_isReleased, Cond.instanceMethod yX0_isReleased, Cond.selects RX0 yX0_isReleased yX0_isReleased, Cond.code yX0_isReleased cX0_isReleased 3 (some .boolean), Cond.fieldLink RX0 32 "Clockmask" "cueWaits" "[I", Cond.methodLink RX0 197 yX0_canBeDone, Cond.instanceMethod yX0_canBeDone, Cond.selects RX0 yX0_canBeDone yX0_canBeDone, Cond.code yX0_canBeDone cX0_canBeDone 4 (some .boolean), Cond.fieldLink RX0 26 "Clockmask" "cuePlayer" "[I", Cond.fieldLink RX0 29 "Clockmask" "cueOther" "[I", Cond.fieldLink RX0 23 "Clockmask" "cueKind" "[I", Cond.fieldLink RX0 16 "Clockmask" "onStage" "[Z", Cond.fieldLink RX0 9 "Clockmask" "costumeOfPlayer" "[I", Cond.fieldLink RX0 13 "Clockmask" "maskOfPlayer" "[I", Cond.methodLink RX0 141 yX0_playerBehind, Cond.instanceMethod yX0_playerBehind, Cond.selects RX0 yX0_playerBehind yX0_playerBehind, Cond.code yX0_playerBehind cX0_playerBehind 2 (some .int), Cond.methodLink RX0 190 yX0_indexOf]
def wsL_chained_r3 : List Cond := [Cond.static yX0_indexOf, Cond.code yX0_indexOf cX0_indexOf 3 (some .int), Cond.methodLink RX0 200 yX0_canSwap, Cond.instanceMethod yX0_canSwap, Cond.selects RX0 yX0_canSwap yX0_canSwap, Cond.code yX0_canSwap cX0_canSwap 4 (some .boolean)]
def wsL_chained : List Cond := .code yL_chained cL_chained 5 (some .boolean) :: ((wsL_chained_r1 ++ (wsL_chained_r2 ++ wsL_chained_r3)) ++ wsX00 ++ (vx_atS RX0 178 "java/lang/IndexOutOfBoundsException" ["java/lang/RuntimeException", "java/lang/Exception"]).filter goodWord)
def wsL_count : List Cond := .code yL_count cL_count 4 (some .int) :: ([.methodLink RL 30 yX0_cues, .instanceMethod yX0_cues, .selects RX0 yX0_cues yX0_cues, .initialized RX0, .code yX0_cues cX0_cues 1 (some .int), .fieldLink RX0 104 "Clockmask" "cueCount" "I", .methodLink RL 34 yX0_stateOf, .instanceMethod yX0_stateOf, .selects RX0 yX0_stateOf yX0_stateOf, .code yX0_stateOf cX0_stateOf 2 (some .int), .fieldLink RX0 35 "Clockmask" "cueState" "[I", .methodLink RX0 101 yX0_requireCue, .instanceMethod yX0_requireCue, .selects RX0 yX0_requireCue yX0_requireCue, .code yX0_requireCue cX0_requireCue 2 none, .classLink RX0 174 "java/lang/IndexOutOfBoundsException", .initialized "java/lang/IndexOutOfBoundsException", .methodLink RX0 171 yX0_isWithin, .static yX0_isWithin, .code yX0_isWithin cX0_isWithin 2 (some .boolean)] ++ wsX00 ++ (vx_atS RX0 178 "java/lang/IndexOutOfBoundsException" ["java/lang/RuntimeException", "java/lang/Exception"]).filter goodWord)
def wsL_act_r1 : List Cond := [Cond.methodLink RL 40 yL_at, Cond.static yL_at, Cond.initialized RL, Cond.code yL_at cL_at 2 (some .int), Cond.methodLink RL 14 yX0_costumeOf, Cond.instanceMethod yX0_costumeOf, Cond.selects RX0 yX0_costumeOf yX0_costumeOf, Cond.initialized RX0, Cond.code yX0_costumeOf cX0_costumeOf 2 (some .int), Cond.fieldLink RX0 9 "Clockmask" "costumeOfPlayer" "[I", Cond.methodLink RX0 60 yX0_requirePlayer, Cond.static yX0_requirePlayer, Cond.code yX0_requirePlayer cX0_requirePlayer 1 none, Cond.classLink RX0 174 "java/lang/IndexOutOfBoundsException", Cond.initialized "java/lang/IndexOutOfBoundsException", Cond.methodLink RX0 171 yX0_isWithin, Cond.static yX0_isWithin, Cond.code yX0_isWithin cX0_isWithin 2 (some .boolean), Cond.methodLink RL 23 yX0_isOn, Cond.instanceMethod yX0_isOn, Cond.selects RX0 yX0_isOn yX0_isOn, Cond.code yX0_isOn cX0_isOn 2 (some .boolean), Cond.fieldLink RX0 16 "Clockmask" "onStage" "[Z", Cond.methodLink RL 27 yX0_wear]
def wsL_act_r2 : List Cond := [Cond.instanceMethod yX0_wear, Cond.selects RX0 yX0_wear yX0_wear, Cond.code yX0_wear cX0_wear 2 (some .int), Cond.fieldLink RX0 20 "Clockmask" "wearOfCostume" "[I", Cond.methodLink RX0 64 yX0_requireCostume, Cond.static yX0_requireCostume, Cond.code yX0_requireCostume cX0_requireCostume 1 none, Cond.methodLink RL 46 yX0_dress, Cond.instanceMethod yX0_dress, Cond.selects RX0 yX0_dress yX0_dress, Cond.code yX0_dress cX0_dress 5 (some .int), Cond.classLink RX0 71 "java/lang/IllegalArgumentException", Cond.initialized "java/lang/IllegalArgumentException", Cond.classLink RX0 78 "java/lang/IllegalStateException", Cond.initialized "java/lang/IllegalStateException", Cond.methodLink RX0 67 yX0_fits, Cond.static yX0_fits, Cond.code yX0_fits cX0_fits 3 (some .boolean), Cond.methodLink RX0 187 Lib.Math.abs.name, Cond.static Lib.Math.abs.name, Cond.initialized "java/lang/Math", Cond.code Lib.Math.abs.name Lib.Math.abs.code 1 (some .int), Cond.methodLink RX0 83 yX0_playerIn, Cond.instanceMethod yX0_playerIn]
def wsL_act_r3 : List Cond := [Cond.selects RX0 yX0_playerIn yX0_playerIn, Cond.code yX0_playerIn cX0_playerIn 2 (some .int), Cond.methodLink RX0 190 yX0_indexOf, Cond.static yX0_indexOf, Cond.code yX0_indexOf cX0_indexOf 3 (some .int), Cond.methodLink RL 30 yX0_cues, Cond.instanceMethod yX0_cues, Cond.selects RX0 yX0_cues yX0_cues, Cond.code yX0_cues cX0_cues 1 (some .int), Cond.fieldLink RX0 104 "Clockmask" "cueCount" "I", Cond.methodLink RL 34 yX0_stateOf, Cond.instanceMethod yX0_stateOf, Cond.selects RX0 yX0_stateOf yX0_stateOf, Cond.code yX0_stateOf cX0_stateOf 2 (some .int), Cond.fieldLink RX0 35 "Clockmask" "cueState" "[I", Cond.methodLink RX0 101 yX0_requireCue, Cond.instanceMethod yX0_requireCue, Cond.selects RX0 yX0_requireCue yX0_requireCue, Cond.code yX0_requireCue cX0_requireCue 2 none, Cond.methodLink RL 49 yX0_addCue, Cond.instanceMethod yX0_addCue, Cond.selects RX0 yX0_addCue yX0_addCue, Cond.code yX0_addCue cX0_addCue 6 (some .int), Cond.fieldLink RX0 23 "Clockmask" "cueKind" "[I"]
def wsL_act_r4 : List Cond := [Cond.fieldLink RX0 26 "Clockmask" "cuePlayer" "[I", Cond.fieldLink RX0 29 "Clockmask" "cueOther" "[I", Cond.fieldLink RX0 32 "Clockmask" "cueWaits" "[I", Cond.methodLink RX0 97 yX0_requireOther, Cond.static yX0_requireOther, Cond.code yX0_requireOther cX0_requireOther 2 none, Cond.methodLink RX0 138 yX0_requireMask, Cond.static yX0_requireMask, Cond.code yX0_requireMask cX0_requireMask 1 none, Cond.methodLink RL 53 yX0_run, Cond.instanceMethod yX0_run, Cond.selects RX0 yX0_run yX0_run, Cond.code yX0_run cX0_run 4 (some .int), Cond.fieldLink RX0 122 "Clockmask" "calledCount" "I", Cond.methodLink RX0 125 yX0_firstCallable, Cond.instanceMethod yX0_firstCallable, Cond.selects RX0 yX0_firstCallable yX0_firstCallable, Cond.code yX0_firstCallable cX0_firstCallable 2 (some .int), Cond.methodLink RX0 113 yX0_isCallable, Cond.instanceMethod yX0_isCallable, Cond.selects RX0 yX0_isCallable yX0_isCallable, Cond.code yX0_isCallable cX0_isCallable 2 (some .boolean), Cond.methodLink RX0 194 yX0_isReleased, Cond.instanceMethod yX0_isReleased]
def wsL_act_r5 : List Cond := [Cond.selects RX0 yX0_isReleased yX0_isReleased, Cond.code yX0_isReleased cX0_isReleased 3 (some .boolean), Cond.methodLink RX0 197 yX0_canBeDone, Cond.instanceMethod yX0_canBeDone, Cond.selects RX0 yX0_canBeDone yX0_canBeDone, Cond.code yX0_canBeDone cX0_canBeDone 4 (some .boolean), Cond.fieldLink RX0 13 "Clockmask" "maskOfPlayer" "[I", Cond.methodLink RX0 141 yX0_playerBehind, Cond.instanceMethod yX0_playerBehind, Cond.selects RX0 yX0_playerBehind yX0_playerBehind, Cond.code yX0_playerBehind cX0_playerBehind 2 (some .int), Cond.methodLink RX0 200 yX0_canSwap, Cond.instanceMethod yX0_canSwap, Cond.selects RX0 yX0_canSwap yX0_canSwap, Cond.code yX0_canSwap cX0_canSwap 4 (some .boolean), Cond.methodLink RX0 119 yX0_carryOut, Cond.instanceMethod yX0_carryOut, Cond.selects RX0 yX0_carryOut yX0_carryOut, Cond.code yX0_carryOut cX0_carryOut 3 none, Cond.methodLink RX0 203 yX0_leaveStage, Cond.instanceMethod yX0_leaveStage, Cond.selects RX0 yX0_leaveStage yX0_leaveStage, Cond.code yX0_leaveStage cX0_leaveStage 3 none, Cond.methodLink RX0 134 yX0_moveMasks]
def wsL_act_r6 : List Cond := [Cond.instanceMethod yX0_moveMasks, Cond.selects RX0 yX0_moveMasks yX0_moveMasks, Cond.code yX0_moveMasks cX0_moveMasks 6 none, Cond.methodLink RX0 206 yX0_noteCalled, Cond.instanceMethod yX0_noteCalled, Cond.selects RX0 yX0_noteCalled yX0_noteCalled, Cond.code yX0_noteCalled cX0_noteCalled 2 none, Cond.fieldLink RX0 38 "Clockmask" "calledCues" "[I", Cond.methodLink RL 56 yL_count, Cond.static yL_count, Cond.code yL_count cL_count 4 (some .int), Cond.methodLink RL 60 yX0_miss, Cond.instanceMethod yX0_miss, Cond.selects RX0 yX0_miss yX0_miss, Cond.code yX0_miss cX0_miss 4 (some .int), Cond.methodLink RX0 131 yX0_waitsForMissed, Cond.instanceMethod yX0_waitsForMissed, Cond.selects RX0 yX0_waitsForMissed yX0_waitsForMissed, Cond.code yX0_waitsForMissed cX0_waitsForMissed 3 (some .boolean), Cond.methodLink RL 37 yX0_canCall, Cond.instanceMethod yX0_canCall, Cond.selects RX0 yX0_canCall yX0_canCall, Cond.code yX0_canCall cX0_canCall 2 (some .boolean), Cond.methodLink RL 63 yX0_call]
def wsL_act_r7 : List Cond := [Cond.instanceMethod yX0_call, Cond.selects RX0 yX0_call yX0_call, Cond.code yX0_call cX0_call 2 (some .int), Cond.methodLink RL 66 yX0_purse, Cond.instanceMethod yX0_purse, Cond.selects RX0 yX0_purse yX0_purse, Cond.code yX0_purse cX0_purse 1 (some .int), Cond.fieldLink RX0 47 "Clockmask" "purse" "I", Cond.methodLink RL 69 yX0_plays, Cond.instanceMethod yX0_plays, Cond.selects RX0 yX0_plays yX0_plays, Cond.code yX0_plays cX0_plays 1 (some .int), Cond.fieldLink RX0 162 "Clockmask" "endedPlays" "I", Cond.methodLink RL 72 yX0_endPlay, Cond.instanceMethod yX0_endPlay, Cond.selects RX0 yX0_endPlay yX0_endPlay, Cond.code yX0_endPlay cX0_endPlay 1 (some .int), Cond.methodLink RX0 156 Lib.Math.max.name, Cond.static Lib.Math.max.name, Cond.code Lib.Math.max.name Lib.Math.max.code 2 (some .int), Cond.methodLink RX0 151 yX0_countCues, Cond.instanceMethod yX0_countCues, Cond.selects RX0 yX0_countCues yX0_countCues, Cond.code yX0_countCues cX0_countCues 4 (some .int)]
def wsL_act_r8 : List Cond := [Cond.methodLink RX0 165 yX0_clearStage, Cond.instanceMethod yX0_clearStage, Cond.selects RX0 yX0_clearStage yX0_clearStage, Cond.code yX0_clearStage cX0_clearStage 2 none, Cond.methodLink RX0 168 yX0_clearGuesses, Cond.instanceMethod yX0_clearGuesses, Cond.selects RX0 yX0_clearGuesses yX0_clearGuesses, Cond.code yX0_clearGuesses cX0_clearGuesses 2 none, Cond.fieldLink RX0 44 "Clockmask" "guessed" "[Z"]
def wsL_act : List Cond := .code yL_act cL_act 12 (some .boolean) :: ((wsL_act_r1 ++ (wsL_act_r2 ++ (wsL_act_r3 ++ (wsL_act_r4 ++ (wsL_act_r5 ++ (wsL_act_r6 ++ (wsL_act_r7 ++ wsL_act_r8))))))) ++ wsX00 ++ (vx_atS RX0 178 "java/lang/IndexOutOfBoundsException" ["java/lang/RuntimeException", "java/lang/Exception"]).filter goodWord ++ (vx_atS RX0 75 "java/lang/IllegalArgumentException" ["java/lang/RuntimeException", "java/lang/Exception"]).filter goodWord ++ (vx_atS RX0 82 "java/lang/IllegalStateException" ["java/lang/RuntimeException", "java/lang/Exception"]).filter goodWord)
def wsL_guessed_r1 : List Cond := [Cond.methodLink RL 23 yX0_isOn, Cond.instanceMethod yX0_isOn, Cond.selects RX0 yX0_isOn yX0_isOn, Cond.initialized RX0, Cond.code yX0_isOn cX0_isOn 2 (some .boolean), Cond.fieldLink RX0 16 "Clockmask" "onStage" "[Z", Cond.methodLink RX0 60 yX0_requirePlayer, Cond.static yX0_requirePlayer, Cond.code yX0_requirePlayer cX0_requirePlayer 1 none, Cond.classLink RX0 174 "java/lang/IndexOutOfBoundsException", Cond.initialized "java/lang/IndexOutOfBoundsException", Cond.methodLink RX0 171 yX0_isWithin, Cond.static yX0_isWithin, Cond.code yX0_isWithin cX0_isWithin 2 (some .boolean), Cond.methodLink RL 8 yX0_maskOf, Cond.instanceMethod yX0_maskOf, Cond.selects RX0 yX0_maskOf yX0_maskOf, Cond.code yX0_maskOf cX0_maskOf 2 (some .int), Cond.fieldLink RX0 13 "Clockmask" "maskOfPlayer" "[I", Cond.methodLink RL 40 yL_at, Cond.static yL_at, Cond.initialized RL, Cond.code yL_at cL_at 2 (some .int), Cond.methodLink RL 75 yX0_points]
def wsL_guessed_r2 : List Cond := [Cond.instanceMethod yX0_points, Cond.selects RX0 yX0_points yX0_points, Cond.code yX0_points cX0_points 2 (some .int), Cond.fieldLink RX0 41 "Clockmask" "pointsOfGuesser" "[I", Cond.methodLink RX0 144 yX0_requireGuesser, Cond.static yX0_requireGuesser, Cond.code yX0_requireGuesser cX0_requireGuesser 1 none, Cond.methodLink RL 69 yX0_plays, Cond.instanceMethod yX0_plays, Cond.selects RX0 yX0_plays yX0_plays, Cond.code yX0_plays cX0_plays 1 (some .int), Cond.fieldLink RX0 162 "Clockmask" "endedPlays" "I", Cond.methodLink RL 78 yX0_guess, Cond.instanceMethod yX0_guess, Cond.selects RX0 yX0_guess yX0_guess, Cond.code yX0_guess cX0_guess 6 (some .boolean), Cond.classLink RX0 78 "java/lang/IllegalStateException", Cond.initialized "java/lang/IllegalStateException", Cond.fieldLink RX0 44 "Clockmask" "guessed" "[Z", Cond.methodLink RX0 138 yX0_requireMask, Cond.static yX0_requireMask, Cond.code yX0_requireMask cX0_requireMask 1 none]
def wsL_guessed : List Cond := .code yL_guessed cL_guessed 7 (some .boolean) :: ((wsL_guessed_r1 ++ wsL_guessed_r2) ++ wsX00 ++ (vx_atS RX0 178 "java/lang/IndexOutOfBoundsException" ["java/lang/RuntimeException", "java/lang/Exception"]).filter goodWord ++ (vx_atS RX0 82 "java/lang/IllegalStateException" ["java/lang/RuntimeException", "java/lang/Exception"]).filter goodWord)
def wsL_law0_r1 : List Cond := [Cond.classLink RL 9 RX0, Cond.instantiable RX0 17, Cond.initialized RX0, Cond.arrayClass .int, Cond.constant RL 87 (2147483647), Cond.methodLink RL 82 yX0_init, Cond.instanceMethod yX0_init, Cond.code yX0_init cX0_init 1 none, Cond.methodLink RX0 1 objectInit, Cond.instanceMethod objectInit, Cond.code objectInit ⟨#[0xb1]⟩ 1 none, Cond.fieldLink RX0 9 "Clockmask" "costumeOfPlayer" "[I", Cond.fieldLink RX0 13 "Clockmask" "maskOfPlayer" "[I", Cond.arrayClass .boolean, Cond.fieldLink RX0 16 "Clockmask" "onStage" "[Z", Cond.fieldLink RX0 20 "Clockmask" "wearOfCostume" "[I", Cond.fieldLink RX0 23 "Clockmask" "cueKind" "[I", Cond.fieldLink RX0 26 "Clockmask" "cuePlayer" "[I", Cond.fieldLink RX0 29 "Clockmask" "cueOther" "[I", Cond.fieldLink RX0 32 "Clockmask" "cueWaits" "[I", Cond.fieldLink RX0 35 "Clockmask" "cueState" "[I", Cond.fieldLink RX0 38 "Clockmask" "calledCues" "[I", Cond.fieldLink RX0 41 "Clockmask" "pointsOfGuesser" "[I", Cond.fieldLink RX0 44 "Clockmask" "guessed" "[Z"]
def wsL_law0_r2 : List Cond := [Cond.fieldLink RX0 47 "Clockmask" "purse" "I", Cond.fieldLink RX0 51 "Clockmask" "replayedMasks" "[I", Cond.methodLink RX0 54 yJ7_fill_53178, Cond.static yJ7_fill_53178, Cond.initialized RJ7, Cond.code yJ7_fill_53178 cJ7_fill_53178 4 none, Cond.methodLink RL 83 yL_cell, Cond.static yL_cell, Cond.initialized RL, Cond.code yL_cell cL_cell 2 (some .int), Cond.constant RL 7 (903460835), Cond.methodLink RL 88 yL_act, Cond.static yL_act, Cond.code yL_act cL_act 12 (some .boolean), Cond.methodLink RL 40 yL_at, Cond.static yL_at, Cond.code yL_at cL_at 2 (some .int), Cond.methodLink RL 14 yX0_costumeOf, Cond.instanceMethod yX0_costumeOf, Cond.selects RX0 yX0_costumeOf yX0_costumeOf, Cond.code yX0_costumeOf cX0_costumeOf 2 (some .int), Cond.methodLink RX0 60 yX0_requirePlayer, Cond.static yX0_requirePlayer, Cond.code yX0_requirePlayer cX0_requirePlayer 1 none]
def wsL_law0_r3 : List Cond := [Cond.classLink RX0 174 "java/lang/IndexOutOfBoundsException", Cond.initialized "java/lang/IndexOutOfBoundsException", Cond.methodLink RX0 171 yX0_isWithin, Cond.static yX0_isWithin, Cond.code yX0_isWithin cX0_isWithin 2 (some .boolean), Cond.methodLink RL 23 yX0_isOn, Cond.instanceMethod yX0_isOn, Cond.selects RX0 yX0_isOn yX0_isOn, Cond.code yX0_isOn cX0_isOn 2 (some .boolean), Cond.methodLink RL 27 yX0_wear, Cond.instanceMethod yX0_wear, Cond.selects RX0 yX0_wear yX0_wear, Cond.code yX0_wear cX0_wear 2 (some .int), Cond.methodLink RX0 64 yX0_requireCostume, Cond.static yX0_requireCostume, Cond.code yX0_requireCostume cX0_requireCostume 1 none, Cond.methodLink RL 46 yX0_dress, Cond.instanceMethod yX0_dress, Cond.selects RX0 yX0_dress yX0_dress, Cond.code yX0_dress cX0_dress 5 (some .int), Cond.classLink RX0 71 "java/lang/IllegalArgumentException", Cond.initialized "java/lang/IllegalArgumentException", Cond.classLink RX0 78 "java/lang/IllegalStateException", Cond.initialized "java/lang/IllegalStateException"]
def wsL_law0_r4 : List Cond := [Cond.methodLink RX0 67 yX0_fits, Cond.static yX0_fits, Cond.code yX0_fits cX0_fits 3 (some .boolean), Cond.methodLink RX0 187 Lib.Math.abs.name, Cond.static Lib.Math.abs.name, Cond.initialized "java/lang/Math", Cond.code Lib.Math.abs.name Lib.Math.abs.code 1 (some .int), Cond.methodLink RX0 83 yX0_playerIn, Cond.instanceMethod yX0_playerIn, Cond.selects RX0 yX0_playerIn yX0_playerIn, Cond.code yX0_playerIn cX0_playerIn 2 (some .int), Cond.methodLink RX0 190 yX0_indexOf, Cond.static yX0_indexOf, Cond.code yX0_indexOf cX0_indexOf 3 (some .int), Cond.methodLink RL 30 yX0_cues, Cond.instanceMethod yX0_cues, Cond.selects RX0 yX0_cues yX0_cues, Cond.code yX0_cues cX0_cues 1 (some .int), Cond.fieldLink RX0 104 "Clockmask" "cueCount" "I", Cond.methodLink RL 34 yX0_stateOf, Cond.instanceMethod yX0_stateOf, Cond.selects RX0 yX0_stateOf yX0_stateOf, Cond.code yX0_stateOf cX0_stateOf 2 (some .int), Cond.methodLink RX0 101 yX0_requireCue]
def wsL_law0_r5 : List Cond := [Cond.instanceMethod yX0_requireCue, Cond.selects RX0 yX0_requireCue yX0_requireCue, Cond.code yX0_requireCue cX0_requireCue 2 none, Cond.methodLink RL 49 yX0_addCue, Cond.instanceMethod yX0_addCue, Cond.selects RX0 yX0_addCue yX0_addCue, Cond.code yX0_addCue cX0_addCue 6 (some .int), Cond.methodLink RX0 97 yX0_requireOther, Cond.static yX0_requireOther, Cond.code yX0_requireOther cX0_requireOther 2 none, Cond.methodLink RX0 138 yX0_requireMask, Cond.static yX0_requireMask, Cond.code yX0_requireMask cX0_requireMask 1 none, Cond.methodLink RL 53 yX0_run, Cond.instanceMethod yX0_run, Cond.selects RX0 yX0_run yX0_run, Cond.code yX0_run cX0_run 4 (some .int), Cond.fieldLink RX0 122 "Clockmask" "calledCount" "I", Cond.methodLink RX0 125 yX0_firstCallable, Cond.instanceMethod yX0_firstCallable, Cond.selects RX0 yX0_firstCallable yX0_firstCallable, Cond.code yX0_firstCallable cX0_firstCallable 2 (some .int), Cond.methodLink RX0 113 yX0_isCallable, Cond.instanceMethod yX0_isCallable]
def wsL_law0_r6 : List Cond := [Cond.selects RX0 yX0_isCallable yX0_isCallable, Cond.code yX0_isCallable cX0_isCallable 2 (some .boolean), Cond.methodLink RX0 194 yX0_isReleased, Cond.instanceMethod yX0_isReleased, Cond.selects RX0 yX0_isReleased yX0_isReleased, Cond.code yX0_isReleased cX0_isReleased 3 (some .boolean), Cond.methodLink RX0 197 yX0_canBeDone, Cond.instanceMethod yX0_canBeDone, Cond.selects RX0 yX0_canBeDone yX0_canBeDone, Cond.code yX0_canBeDone cX0_canBeDone 4 (some .boolean), Cond.methodLink RX0 141 yX0_playerBehind, Cond.instanceMethod yX0_playerBehind, Cond.selects RX0 yX0_playerBehind yX0_playerBehind, Cond.code yX0_playerBehind cX0_playerBehind 2 (some .int), Cond.methodLink RX0 200 yX0_canSwap, Cond.instanceMethod yX0_canSwap, Cond.selects RX0 yX0_canSwap yX0_canSwap, Cond.code yX0_canSwap cX0_canSwap 4 (some .boolean), Cond.methodLink RX0 119 yX0_carryOut, Cond.instanceMethod yX0_carryOut, Cond.selects RX0 yX0_carryOut yX0_carryOut, Cond.code yX0_carryOut cX0_carryOut 3 none, Cond.methodLink RX0 203 yX0_leaveStage, Cond.instanceMethod yX0_leaveStage]
def wsL_law0_r7 : List Cond := [Cond.selects RX0 yX0_leaveStage yX0_leaveStage, Cond.code yX0_leaveStage cX0_leaveStage 3 none, Cond.methodLink RX0 134 yX0_moveMasks, Cond.instanceMethod yX0_moveMasks, Cond.selects RX0 yX0_moveMasks yX0_moveMasks, Cond.code yX0_moveMasks cX0_moveMasks 6 none, Cond.methodLink RX0 206 yX0_noteCalled, Cond.instanceMethod yX0_noteCalled, Cond.selects RX0 yX0_noteCalled yX0_noteCalled, Cond.code yX0_noteCalled cX0_noteCalled 2 none, Cond.methodLink RL 56 yL_count, Cond.static yL_count, Cond.code yL_count cL_count 4 (some .int), Cond.methodLink RL 60 yX0_miss, Cond.instanceMethod yX0_miss, Cond.selects RX0 yX0_miss yX0_miss, Cond.code yX0_miss cX0_miss 4 (some .int), Cond.methodLink RX0 131 yX0_waitsForMissed, Cond.instanceMethod yX0_waitsForMissed, Cond.selects RX0 yX0_waitsForMissed yX0_waitsForMissed, Cond.code yX0_waitsForMissed cX0_waitsForMissed 3 (some .boolean), Cond.methodLink RL 37 yX0_canCall, Cond.instanceMethod yX0_canCall, Cond.selects RX0 yX0_canCall yX0_canCall]
def wsL_law0_r8 : List Cond := [Cond.code yX0_canCall cX0_canCall 2 (some .boolean), Cond.methodLink RL 63 yX0_call, Cond.instanceMethod yX0_call, Cond.selects RX0 yX0_call yX0_call, Cond.code yX0_call cX0_call 2 (some .int), Cond.methodLink RL 66 yX0_purse, Cond.instanceMethod yX0_purse, Cond.selects RX0 yX0_purse yX0_purse, Cond.code yX0_purse cX0_purse 1 (some .int), Cond.methodLink RL 69 yX0_plays, Cond.instanceMethod yX0_plays, Cond.selects RX0 yX0_plays yX0_plays, Cond.code yX0_plays cX0_plays 1 (some .int), Cond.fieldLink RX0 162 "Clockmask" "endedPlays" "I", Cond.methodLink RL 72 yX0_endPlay, Cond.instanceMethod yX0_endPlay, Cond.selects RX0 yX0_endPlay yX0_endPlay, Cond.code yX0_endPlay cX0_endPlay 1 (some .int), Cond.methodLink RX0 156 Lib.Math.max.name, Cond.static Lib.Math.max.name, Cond.code Lib.Math.max.name Lib.Math.max.code 2 (some .int), Cond.methodLink RX0 151 yX0_countCues, Cond.instanceMethod yX0_countCues, Cond.selects RX0 yX0_countCues yX0_countCues]
def wsL_law0_r9 : List Cond := [Cond.code yX0_countCues cX0_countCues 4 (some .int), Cond.methodLink RX0 165 yX0_clearStage, Cond.instanceMethod yX0_clearStage, Cond.selects RX0 yX0_clearStage yX0_clearStage, Cond.code yX0_clearStage cX0_clearStage 2 none, Cond.methodLink RX0 168 yX0_clearGuesses, Cond.instanceMethod yX0_clearGuesses, Cond.selects RX0 yX0_clearGuesses yX0_clearGuesses, Cond.code yX0_clearGuesses cX0_clearGuesses 2 none, Cond.methodLink RL 75 yX0_points, Cond.instanceMethod yX0_points, Cond.selects RX0 yX0_points yX0_points, Cond.code yX0_points cX0_points 2 (some .int), Cond.methodLink RX0 144 yX0_requireGuesser, Cond.static yX0_requireGuesser, Cond.code yX0_requireGuesser cX0_requireGuesser 1 none, Cond.methodLink RL 92 yL_guessed, Cond.static yL_guessed, Cond.code yL_guessed cL_guessed 7 (some .boolean), Cond.methodLink RL 8 yX0_maskOf, Cond.instanceMethod yX0_maskOf, Cond.selects RX0 yX0_maskOf yX0_maskOf, Cond.code yX0_maskOf cX0_maskOf 2 (some .int), Cond.methodLink RL 78 yX0_guess]
def wsL_law0_r10 : List Cond := [Cond.instanceMethod yX0_guess, Cond.selects RX0 yX0_guess yX0_guess, Cond.code yX0_guess cX0_guess 6 (some .boolean), Cond.methodLink RL 96 yL_sound, Cond.static yL_sound, Cond.code yL_sound cL_sound 5 (some .boolean), Cond.methodLink RL 17 yX0_maskByCues, Cond.instanceMethod yX0_maskByCues, Cond.selects RX0 yX0_maskByCues yX0_maskByCues, Cond.code yX0_maskByCues cX0_maskByCues 3 (some .int), Cond.methodLink RL 20 yX0_wearerOf, Cond.instanceMethod yX0_wearerOf, Cond.selects RX0 yX0_wearerOf yX0_wearerOf, Cond.code yX0_wearerOf cX0_wearerOf 2 (some .int), Cond.methodLink RL 100 yL_chained, Cond.static yL_chained, Cond.code yL_chained cL_chained 5 (some .boolean)]
def wsL_law0 : List Cond := (wsL_law0_r1 ++ (wsL_law0_r2 ++ (wsL_law0_r3 ++ (wsL_law0_r4 ++ (wsL_law0_r5 ++ (wsL_law0_r6 ++ (wsL_law0_r7 ++ (wsL_law0_r8 ++ (wsL_law0_r9 ++ wsL_law0_r10))))))))) ++ wsX00 ++ ([] : List Cond)
def wsL_law : List Cond := wsL_law0 ++ (vx_atS RX0 178 "java/lang/IndexOutOfBoundsException" ["java/lang/RuntimeException", "java/lang/Exception"]).filter goodWord ++ (vx_atS RX0 75 "java/lang/IllegalArgumentException" ["java/lang/RuntimeException", "java/lang/Exception"]).filter goodWord ++ (vx_atS RX0 82 "java/lang/IllegalStateException" ["java/lang/RuntimeException", "java/lang/Exception"]).filter goodWord
abbrev vwCl : List vw_C := [(RX0, TX0, 17)]
end
section
set_option maxRecDepth 20000 in
theorem ggX0_init_J7_fill_53178 : GoodIn wsX0_init wsJ7_fill_53178 := goodIn_r _ [23] (by decide +kernel) (by decide +kernel)
set_option maxRecDepth 20000 in
theorem gX0_init_J7_fill_53178 : GoodIn wsX0_init (va_wsS RX0 54 yJ7_fill_53178 wsJ7_fill_53178) := goodIn_app (goodIn_of _ (by decide +kernel)) ggX0_init_J7_fill_53178
theorem dX0_init_0 : decode cX0_init 0 = .ok (.aload_n 0, 1) := by decide +kernel
theorem dX0_init_1 : decode cX0_init 1 = .ok (.invokespecial 1, 3) := by decide +kernel
theorem dX0_init_4 : decode cX0_init 4 = .ok (.aload_n 0, 1) := by decide +kernel
theorem dX0_init_5 : decode cX0_init 5 = .ok (.bipush 6, 2) := by decide +kernel
theorem dX0_init_7 : decode cX0_init 7 = .ok (.newarray .int, 2) := by decide +kernel
theorem dX0_init_9 : decode cX0_init 9 = .ok (.putfield 9, 3) := by decide +kernel
theorem dX0_init_12 : decode cX0_init 12 = .ok (.aload_n 0, 1) := by decide +kernel
theorem dX0_init_13 : decode cX0_init 13 = .ok (.bipush 6, 2) := by decide +kernel
theorem dX0_init_15 : decode cX0_init 15 = .ok (.newarray .int, 2) := by decide +kernel
theorem dX0_init_17 : decode cX0_init 17 = .ok (.putfield 13, 3) := by decide +kernel
theorem dX0_init_20 : decode cX0_init 20 = .ok (.aload_n 0, 1) := by decide +kernel
theorem dX0_init_21 : decode cX0_init 21 = .ok (.bipush 6, 2) := by decide +kernel
theorem dX0_init_23 : decode cX0_init 23 = .ok (.newarray .boolean, 2) := by decide +kernel
theorem dX0_init_25 : decode cX0_init 25 = .ok (.putfield 16, 3) := by decide +kernel
theorem dX0_init_28 : decode cX0_init 28 = .ok (.aload_n 0, 1) := by decide +kernel
theorem dX0_init_29 : decode cX0_init 29 = .ok (.bipush 8, 2) := by decide +kernel
theorem dX0_init_31 : decode cX0_init 31 = .ok (.newarray .int, 2) := by decide +kernel
theorem dX0_init_33 : decode cX0_init 33 = .ok (.putfield 20, 3) := by decide +kernel
theorem dX0_init_36 : decode cX0_init 36 = .ok (.aload_n 0, 1) := by decide +kernel
theorem dX0_init_37 : decode cX0_init 37 = .ok (.bipush 24, 2) := by decide +kernel
theorem dX0_init_39 : decode cX0_init 39 = .ok (.newarray .int, 2) := by decide +kernel
theorem dX0_init_41 : decode cX0_init 41 = .ok (.putfield 23, 3) := by decide +kernel
theorem dX0_init_44 : decode cX0_init 44 = .ok (.aload_n 0, 1) := by decide +kernel
theorem dX0_init_45 : decode cX0_init 45 = .ok (.bipush 24, 2) := by decide +kernel
theorem dX0_init_47 : decode cX0_init 47 = .ok (.newarray .int, 2) := by decide +kernel
theorem dX0_init_49 : decode cX0_init 49 = .ok (.putfield 26, 3) := by decide +kernel
theorem dX0_init_52 : decode cX0_init 52 = .ok (.aload_n 0, 1) := by decide +kernel
theorem dX0_init_53 : decode cX0_init 53 = .ok (.bipush 24, 2) := by decide +kernel
theorem dX0_init_55 : decode cX0_init 55 = .ok (.newarray .int, 2) := by decide +kernel
theorem dX0_init_57 : decode cX0_init 57 = .ok (.putfield 29, 3) := by decide +kernel
theorem dX0_init_60 : decode cX0_init 60 = .ok (.aload_n 0, 1) := by decide +kernel
theorem dX0_init_61 : decode cX0_init 61 = .ok (.bipush 24, 2) := by decide +kernel
theorem dX0_init_63 : decode cX0_init 63 = .ok (.newarray .int, 2) := by decide +kernel
theorem dX0_init_65 : decode cX0_init 65 = .ok (.putfield 32, 3) := by decide +kernel
theorem dX0_init_68 : decode cX0_init 68 = .ok (.aload_n 0, 1) := by decide +kernel
theorem dX0_init_69 : decode cX0_init 69 = .ok (.bipush 24, 2) := by decide +kernel
theorem dX0_init_71 : decode cX0_init 71 = .ok (.newarray .int, 2) := by decide +kernel
theorem dX0_init_73 : decode cX0_init 73 = .ok (.putfield 35, 3) := by decide +kernel
theorem dX0_init_76 : decode cX0_init 76 = .ok (.aload_n 0, 1) := by decide +kernel
theorem dX0_init_77 : decode cX0_init 77 = .ok (.bipush 24, 2) := by decide +kernel
theorem dX0_init_79 : decode cX0_init 79 = .ok (.newarray .int, 2) := by decide +kernel
theorem dX0_init_81 : decode cX0_init 81 = .ok (.putfield 38, 3) := by decide +kernel
theorem dX0_init_84 : decode cX0_init 84 = .ok (.aload_n 0, 1) := by decide +kernel
theorem dX0_init_85 : decode cX0_init 85 = .ok (.iconst 3, 1) := by decide +kernel
theorem dX0_init_86 : decode cX0_init 86 = .ok (.newarray .int, 2) := by decide +kernel
theorem dX0_init_88 : decode cX0_init 88 = .ok (.putfield 41, 3) := by decide +kernel
theorem dX0_init_91 : decode cX0_init 91 = .ok (.aload_n 0, 1) := by decide +kernel
theorem dX0_init_92 : decode cX0_init 92 = .ok (.bipush 18, 2) := by decide +kernel
theorem dX0_init_94 : decode cX0_init 94 = .ok (.newarray .boolean, 2) := by decide +kernel
theorem dX0_init_96 : decode cX0_init 96 = .ok (.putfield 44, 3) := by decide +kernel
theorem dX0_init_99 : decode cX0_init 99 = .ok (.aload_n 0, 1) := by decide +kernel
theorem dX0_init_100 : decode cX0_init 100 = .ok (.bipush 10, 2) := by decide +kernel
theorem dX0_init_102 : decode cX0_init 102 = .ok (.putfield 47, 3) := by decide +kernel
theorem dX0_init_105 : decode cX0_init 105 = .ok (.aload_n 0, 1) := by decide +kernel
theorem dX0_init_106 : decode cX0_init 106 = .ok (.bipush 6, 2) := by decide +kernel
theorem dX0_init_108 : decode cX0_init 108 = .ok (.newarray .int, 2) := by decide +kernel
theorem dX0_init_110 : decode cX0_init 110 = .ok (.putfield 51, 3) := by decide +kernel
theorem dX0_init_113 : decode cX0_init 113 = .ok (.aload_n 0, 1) := by decide +kernel
theorem dX0_init_114 : decode cX0_init 114 = .ok (.getfield 9, 3) := by decide +kernel
theorem dX0_init_117 : decode cX0_init 117 = .ok (.iconst (-1), 1) := by decide +kernel
theorem dX0_init_118 : decode cX0_init 118 = .ok (.invokestatic 54, 3) := by decide +kernel
theorem dX0_init_121 : decode cX0_init 121 = .ok (.aload_n 0, 1) := by decide +kernel
theorem dX0_init_122 : decode cX0_init 122 = .ok (.getfield 13, 3) := by decide +kernel
theorem dX0_init_125 : decode cX0_init 125 = .ok (.iconst (-1), 1) := by decide +kernel
theorem dX0_init_126 : decode cX0_init 126 = .ok (.invokestatic 54, 3) := by decide +kernel
theorem dX0_init_129 : decode cX0_init 129 = .ok (.return_, 1) := by decide +kernel
set_option maxRecDepth 20000 in
theorem ggX0_dress_X0_requirePlayer : GoodIn wsX0_dress wsX0_requirePlayer := goodIn_ca (goodIn_r _ [11, 12, 13, 14, 15, 10, 16] (by decide +kernel) (by decide +kernel)) (goodIn_sub (fun _ h => List.mem_cons_of_mem _ (List.mem_append_right _ h)) (by decide +kernel))
set_option maxRecDepth 20000 in
theorem gX0_dress_X0_requirePlayer : GoodIn wsX0_dress (va_wsS RX0 60 yX0_requirePlayer wsX0_requirePlayer) := goodIn_app (goodIn_of _ (by decide +kernel)) ggX0_dress_X0_requirePlayer
set_option maxRecDepth 20000 in
theorem ggX0_dress_X0_requireCostume : GoodIn wsX0_dress wsX0_requireCostume := goodIn_ca (goodIn_r _ [19, 12, 13, 14, 15, 10, 16] (by decide +kernel) (by decide +kernel)) (goodIn_sub (fun _ h => List.mem_cons_of_mem _ (List.mem_append_right _ h)) (by decide +kernel))
set_option maxRecDepth 20000 in
theorem gX0_dress_X0_requireCostume : GoodIn wsX0_dress (va_wsS RX0 64 yX0_requireCostume wsX0_requireCostume) := goodIn_app (goodIn_of _ (by decide +kernel)) ggX0_dress_X0_requireCostume
set_option maxRecDepth 20000 in
theorem ggX0_dress_X0_fits : GoodIn wsX0_dress wsX0_fits := goodIn_r _ [22, 23, 24, 25, 26] (by decide +kernel) (by decide +kernel)
set_option maxRecDepth 20000 in
theorem gX0_dress_X0_fits : GoodIn wsX0_dress (va_wsS RX0 67 yX0_fits wsX0_fits) := goodIn_app (goodIn_of _ (by decide +kernel)) ggX0_dress_X0_fits
set_option maxRecDepth 20000 in
theorem ggX0_dress_X0_playerIn : GoodIn wsX0_dress wsX0_playerIn := goodIn_r _ [30, 7, 31, 32, 10, 33, 34, 35, 36, 37, 38, 39, 40, 41, 42, 43, 44, 45, 46, 47, 48, 49, 50] (by decide +kernel) (by decide +kernel)
set_option maxRecDepth 20000 in
theorem gX0_dress_X0_playerIn : GoodIn wsX0_dress (wsV RX0 83 RX0 yX0_playerIn wsX0_playerIn) := goodIn_app (goodIn_of _ (by decide +kernel)) ggX0_dress_X0_playerIn
theorem dX0_dress_0 : decode cX0_dress 0 = .ok (.iload_n 1, 1) := by decide +kernel
theorem dX0_dress_1 : decode cX0_dress 1 = .ok (.invokestatic 60, 3) := by decide +kernel
theorem dX0_dress_4 : decode cX0_dress 4 = .ok (.iload_n 2, 1) := by decide +kernel
theorem dX0_dress_5 : decode cX0_dress 5 = .ok (.invokestatic 64, 3) := by decide +kernel
theorem dX0_dress_8 : decode cX0_dress 8 = .ok (.iload_n 2, 1) := by decide +kernel
theorem dX0_dress_9 : decode cX0_dress 9 = .ok (.iload_n 1, 1) := by decide +kernel
theorem dX0_dress_10 : decode cX0_dress 10 = .ok (.invokestatic 67, 3) := by decide +kernel
theorem dX0_dress_13 : decode cX0_dress 13 = .ok (.ifCond .ne 13, 3) := by decide +kernel
theorem dX0_dress_16 : decode cX0_dress 16 = .ok (.new 71, 3) := by decide +kernel
theorem dX0_dress_19 : decode cX0_dress 19 = .ok (.dup, 1) := by decide +kernel
theorem dX0_dress_20 : decode cX0_dress 20 = .ok (.ldc 73, 2) := by decide +kernel
theorem dX0_dress_22 : decode cX0_dress 22 = .ok (.invokespecial 75, 3) := by decide +kernel
theorem dX0_dress_25 : decode cX0_dress 25 = .ok (.athrow, 1) := by decide +kernel
theorem dX0_dress_26 : decode cX0_dress 26 = .ok (.aload_n 0, 1) := by decide +kernel
theorem dX0_dress_27 : decode cX0_dress 27 = .ok (.getfield 16, 3) := by decide +kernel
theorem dX0_dress_30 : decode cX0_dress 30 = .ok (.iload_n 1, 1) := by decide +kernel
theorem dX0_dress_31 : decode cX0_dress 31 = .ok (.baload, 1) := by decide +kernel
theorem dX0_dress_32 : decode cX0_dress 32 = .ok (.ifCond .eq 13, 3) := by decide +kernel
theorem dX0_dress_35 : decode cX0_dress 35 = .ok (.new 78, 3) := by decide +kernel
theorem dX0_dress_38 : decode cX0_dress 38 = .ok (.dup, 1) := by decide +kernel
theorem dX0_dress_39 : decode cX0_dress 39 = .ok (.ldc 80, 2) := by decide +kernel
theorem dX0_dress_41 : decode cX0_dress 41 = .ok (.invokespecial 82, 3) := by decide +kernel
theorem dX0_dress_44 : decode cX0_dress 44 = .ok (.athrow, 1) := by decide +kernel
theorem dX0_dress_45 : decode cX0_dress 45 = .ok (.aload_n 0, 1) := by decide +kernel
theorem dX0_dress_46 : decode cX0_dress 46 = .ok (.iload_n 2, 1) := by decide +kernel
theorem dX0_dress_47 : decode cX0_dress 47 = .ok (.invokevirtual 83, 3) := by decide +kernel
theorem dX0_dress_50 : decode cX0_dress 50 = .ok (.istore_n 3, 1) := by decide +kernel
theorem dX0_dress_51 : decode cX0_dress 51 = .ok (.iload_n 3, 1) := by decide +kernel
theorem dX0_dress_52 : decode cX0_dress 52 = .ok (.iconst (-1), 1) := by decide +kernel
theorem dX0_dress_53 : decode cX0_dress 53 = .ok (.if_icmp .eq 18, 3) := by decide +kernel
theorem dX0_dress_56 : decode cX0_dress 56 = .ok (.iload_n 3, 1) := by decide +kernel
theorem dX0_dress_57 : decode cX0_dress 57 = .ok (.iload_n 1, 1) := by decide +kernel
theorem dX0_dress_58 : decode cX0_dress 58 = .ok (.if_icmp .eq 13, 3) := by decide +kernel
theorem dX0_dress_61 : decode cX0_dress 61 = .ok (.new 78, 3) := by decide +kernel
theorem dX0_dress_64 : decode cX0_dress 64 = .ok (.dup, 1) := by decide +kernel
theorem dX0_dress_65 : decode cX0_dress 65 = .ok (.ldc 87, 2) := by decide +kernel
theorem dX0_dress_67 : decode cX0_dress 67 = .ok (.invokespecial 82, 3) := by decide +kernel
theorem dX0_dress_70 : decode cX0_dress 70 = .ok (.athrow, 1) := by decide +kernel
theorem dX0_dress_71 : decode cX0_dress 71 = .ok (.aload_n 0, 1) := by decide +kernel
theorem dX0_dress_72 : decode cX0_dress 72 = .ok (.getfield 20, 3) := by decide +kernel
theorem dX0_dress_75 : decode cX0_dress 75 = .ok (.iload_n 2, 1) := by decide +kernel
theorem dX0_dress_76 : decode cX0_dress 76 = .ok (.iaload, 1) := by decide +kernel
theorem dX0_dress_77 : decode cX0_dress 77 = .ok (.iconst 3, 1) := by decide +kernel
theorem dX0_dress_78 : decode cX0_dress 78 = .ok (.if_icmp .lt 13, 3) := by decide +kernel
theorem dX0_dress_81 : decode cX0_dress 81 = .ok (.new 78, 3) := by decide +kernel
theorem dX0_dress_84 : decode cX0_dress 84 = .ok (.dup, 1) := by decide +kernel
theorem dX0_dress_85 : decode cX0_dress 85 = .ok (.ldc 89, 2) := by decide +kernel
theorem dX0_dress_87 : decode cX0_dress 87 = .ok (.invokespecial 82, 3) := by decide +kernel
theorem dX0_dress_90 : decode cX0_dress 90 = .ok (.athrow, 1) := by decide +kernel
theorem dX0_dress_91 : decode cX0_dress 91 = .ok (.aload_n 0, 1) := by decide +kernel
theorem dX0_dress_92 : decode cX0_dress 92 = .ok (.getfield 9, 3) := by decide +kernel
theorem dX0_dress_95 : decode cX0_dress 95 = .ok (.iload_n 1, 1) := by decide +kernel
theorem dX0_dress_96 : decode cX0_dress 96 = .ok (.iaload, 1) := by decide +kernel
theorem dX0_dress_97 : decode cX0_dress 97 = .ok (.istore 4, 2) := by decide +kernel
theorem dX0_dress_99 : decode cX0_dress 99 = .ok (.aload_n 0, 1) := by decide +kernel
theorem dX0_dress_100 : decode cX0_dress 100 = .ok (.getfield 9, 3) := by decide +kernel
theorem dX0_dress_103 : decode cX0_dress 103 = .ok (.iload_n 1, 1) := by decide +kernel
theorem dX0_dress_104 : decode cX0_dress 104 = .ok (.iload_n 2, 1) := by decide +kernel
theorem dX0_dress_105 : decode cX0_dress 105 = .ok (.iastore, 1) := by decide +kernel
theorem dX0_dress_106 : decode cX0_dress 106 = .ok (.iload 4, 2) := by decide +kernel
theorem dX0_dress_108 : decode cX0_dress 108 = .ok (.ireturn, 1) := by decide +kernel
set_option maxRecDepth 20000 in
theorem ggX0_costumeOf_X0_requirePlayer : GoodIn wsX0_costumeOf wsX0_requirePlayer := goodIn_ca (goodIn_r _ [5, 6, 7, 8, 9, 4, 10] (by decide +kernel) (by decide +kernel)) (goodIn_sub (fun _ h => List.mem_cons_of_mem _ (List.mem_append_right _ h)) (by decide +kernel))
set_option maxRecDepth 20000 in
theorem gX0_costumeOf_X0_requirePlayer : GoodIn wsX0_costumeOf (va_wsS RX0 60 yX0_requirePlayer wsX0_requirePlayer) := goodIn_app (goodIn_of _ (by decide +kernel)) ggX0_costumeOf_X0_requirePlayer
theorem dX0_costumeOf_0 : decode cX0_costumeOf 0 = .ok (.iload_n 1, 1) := by decide +kernel
theorem dX0_costumeOf_1 : decode cX0_costumeOf 1 = .ok (.invokestatic 60, 3) := by decide +kernel
theorem dX0_costumeOf_4 : decode cX0_costumeOf 4 = .ok (.aload_n 0, 1) := by decide +kernel
theorem dX0_costumeOf_5 : decode cX0_costumeOf 5 = .ok (.getfield 9, 3) := by decide +kernel
theorem dX0_costumeOf_8 : decode cX0_costumeOf 8 = .ok (.iload_n 1, 1) := by decide +kernel
theorem dX0_costumeOf_9 : decode cX0_costumeOf 9 = .ok (.iaload, 1) := by decide +kernel
theorem dX0_costumeOf_10 : decode cX0_costumeOf 10 = .ok (.ireturn, 1) := by decide +kernel
set_option maxRecDepth 20000 in
theorem ggX0_wear_X0_requireCostume : GoodIn wsX0_wear wsX0_requireCostume := goodIn_ca (goodIn_r _ [5, 6, 7, 8, 9, 4, 10] (by decide +kernel) (by decide +kernel)) (goodIn_sub (fun _ h => List.mem_cons_of_mem _ (List.mem_append_right _ h)) (by decide +kernel))
set_option maxRecDepth 20000 in
theorem gX0_wear_X0_requireCostume : GoodIn wsX0_wear (va_wsS RX0 64 yX0_requireCostume wsX0_requireCostume) := goodIn_app (goodIn_of _ (by decide +kernel)) ggX0_wear_X0_requireCostume
theorem dX0_wear_0 : decode cX0_wear 0 = .ok (.iload_n 1, 1) := by decide +kernel
theorem dX0_wear_1 : decode cX0_wear 1 = .ok (.invokestatic 64, 3) := by decide +kernel
theorem dX0_wear_4 : decode cX0_wear 4 = .ok (.aload_n 0, 1) := by decide +kernel
theorem dX0_wear_5 : decode cX0_wear 5 = .ok (.getfield 20, 3) := by decide +kernel
theorem dX0_wear_8 : decode cX0_wear 8 = .ok (.iload_n 1, 1) := by decide +kernel
theorem dX0_wear_9 : decode cX0_wear 9 = .ok (.iaload, 1) := by decide +kernel
theorem dX0_wear_10 : decode cX0_wear 10 = .ok (.ireturn, 1) := by decide +kernel
theorem dX0_purse_0 : decode cX0_purse 0 = .ok (.aload_n 0, 1) := by decide +kernel
theorem dX0_purse_1 : decode cX0_purse 1 = .ok (.getfield 47, 3) := by decide +kernel
theorem dX0_purse_4 : decode cX0_purse 4 = .ok (.ireturn, 1) := by decide +kernel
set_option maxRecDepth 20000 in
theorem ggX0_addCue_X0_requirePlayer : GoodIn wsX0_addCue wsX0_requirePlayer := goodIn_ca (goodIn_r _ [14, 15, 16, 17, 18, 13, 19] (by decide +kernel) (by decide +kernel)) (goodIn_sub (fun _ h => List.mem_cons_of_mem _ (List.mem_append_right _ h)) (by decide +kernel))
set_option maxRecDepth 20000 in
theorem gX0_addCue_X0_requirePlayer : GoodIn wsX0_addCue (va_wsS RX0 60 yX0_requirePlayer wsX0_requirePlayer) := goodIn_app (goodIn_of _ (by decide +kernel)) ggX0_addCue_X0_requirePlayer
set_option maxRecDepth 20000 in
theorem ggX0_addCue_X0_requireOther : GoodIn wsX0_addCue wsX0_requireOther := goodIn_ca (goodIn_r _ [22, 23, 24, 13, 25, 15, 16, 17, 18, 19, 11, 12, 14] (by decide +kernel) (by decide +kernel)) (goodIn_sub (fun _ h => List.mem_cons_of_mem _ (List.mem_append_right _ h)) (by decide +kernel))
set_option maxRecDepth 20000 in
theorem gX0_addCue_X0_requireOther : GoodIn wsX0_addCue (va_wsS RX0 97 yX0_requireOther wsX0_requireOther) := goodIn_app (goodIn_of _ (by decide +kernel)) ggX0_addCue_X0_requireOther
set_option maxRecDepth 20000 in
theorem ggX0_addCue_X0_requireCue : GoodIn wsX0_addCue wsX0_requireCue := goodIn_ca (goodIn_r _ [29, 15, 16, 5, 17, 18, 13, 19, 30, 31, 32, 33, 34, 35, 36, 37, 38, 39, 40, 41, 42, 43, 44, 45, 46] (by decide +kernel) (by decide +kernel)) (goodIn_sub (fun _ h => List.mem_cons_of_mem _ (List.mem_append_right _ h)) (by decide +kernel))
set_option maxRecDepth 20000 in
theorem gX0_addCue_X0_requireCue : GoodIn wsX0_addCue (wsV RX0 101 RX0 yX0_requireCue wsX0_requireCue) := goodIn_app (goodIn_of _ (by decide +kernel)) ggX0_addCue_X0_requireCue
theorem dX0_addCue_0 : decode cX0_addCue 0 = .ok (.iload_n 1, 1) := by decide +kernel
theorem dX0_addCue_1 : decode cX0_addCue 1 = .ok (.ifCond .lt 8, 3) := by decide +kernel
theorem dX0_addCue_4 : decode cX0_addCue 4 = .ok (.iload_n 1, 1) := by decide +kernel
theorem dX0_addCue_5 : decode cX0_addCue 5 = .ok (.iconst 4, 1) := by decide +kernel
theorem dX0_addCue_6 : decode cX0_addCue 6 = .ok (.if_icmp .le 13, 3) := by decide +kernel
theorem dX0_addCue_9 : decode cX0_addCue 9 = .ok (.new 71, 3) := by decide +kernel
theorem dX0_addCue_12 : decode cX0_addCue 12 = .ok (.dup, 1) := by decide +kernel
theorem dX0_addCue_13 : decode cX0_addCue 13 = .ok (.ldc 95, 2) := by decide +kernel
theorem dX0_addCue_15 : decode cX0_addCue 15 = .ok (.invokespecial 75, 3) := by decide +kernel
theorem dX0_addCue_18 : decode cX0_addCue 18 = .ok (.athrow, 1) := by decide +kernel
theorem dX0_addCue_19 : decode cX0_addCue 19 = .ok (.iload_n 2, 1) := by decide +kernel
theorem dX0_addCue_20 : decode cX0_addCue 20 = .ok (.invokestatic 60, 3) := by decide +kernel
theorem dX0_addCue_23 : decode cX0_addCue 23 = .ok (.iload_n 1, 1) := by decide +kernel
theorem dX0_addCue_24 : decode cX0_addCue 24 = .ok (.iload_n 3, 1) := by decide +kernel
theorem dX0_addCue_25 : decode cX0_addCue 25 = .ok (.invokestatic 97, 3) := by decide +kernel
theorem dX0_addCue_28 : decode cX0_addCue 28 = .ok (.iload 4, 2) := by decide +kernel
theorem dX0_addCue_30 : decode cX0_addCue 30 = .ok (.iconst (-1), 1) := by decide +kernel
theorem dX0_addCue_31 : decode cX0_addCue 31 = .ok (.if_icmp .eq 9, 3) := by decide +kernel
theorem dX0_addCue_34 : decode cX0_addCue 34 = .ok (.aload_n 0, 1) := by decide +kernel
theorem dX0_addCue_35 : decode cX0_addCue 35 = .ok (.iload 4, 2) := by decide +kernel
theorem dX0_addCue_37 : decode cX0_addCue 37 = .ok (.invokevirtual 101, 3) := by decide +kernel
theorem dX0_addCue_40 : decode cX0_addCue 40 = .ok (.aload_n 0, 1) := by decide +kernel
theorem dX0_addCue_41 : decode cX0_addCue 41 = .ok (.getfield 104, 3) := by decide +kernel
theorem dX0_addCue_44 : decode cX0_addCue 44 = .ok (.bipush 24, 2) := by decide +kernel
theorem dX0_addCue_46 : decode cX0_addCue 46 = .ok (.if_icmp .lt 13, 3) := by decide +kernel
theorem dX0_addCue_49 : decode cX0_addCue 49 = .ok (.new 78, 3) := by decide +kernel
theorem dX0_addCue_52 : decode cX0_addCue 52 = .ok (.dup, 1) := by decide +kernel
theorem dX0_addCue_53 : decode cX0_addCue 53 = .ok (.ldc 107, 2) := by decide +kernel
theorem dX0_addCue_55 : decode cX0_addCue 55 = .ok (.invokespecial 82, 3) := by decide +kernel
theorem dX0_addCue_58 : decode cX0_addCue 58 = .ok (.athrow, 1) := by decide +kernel
theorem dX0_addCue_59 : decode cX0_addCue 59 = .ok (.iload_n 1, 1) := by decide +kernel
theorem dX0_addCue_60 : decode cX0_addCue 60 = .ok (.iconst 4, 1) := by decide +kernel
theorem dX0_addCue_61 : decode cX0_addCue 61 = .ok (.if_icmp .ne 18, 3) := by decide +kernel
theorem dX0_addCue_64 : decode cX0_addCue 64 = .ok (.iload_n 2, 1) := by decide +kernel
theorem dX0_addCue_65 : decode cX0_addCue 65 = .ok (.iload_n 3, 1) := by decide +kernel
theorem dX0_addCue_66 : decode cX0_addCue 66 = .ok (.if_icmp .ne 13, 3) := by decide +kernel
theorem dX0_addCue_69 : decode cX0_addCue 69 = .ok (.new 78, 3) := by decide +kernel
theorem dX0_addCue_72 : decode cX0_addCue 72 = .ok (.dup, 1) := by decide +kernel
theorem dX0_addCue_73 : decode cX0_addCue 73 = .ok (.ldc 109, 2) := by decide +kernel
theorem dX0_addCue_75 : decode cX0_addCue 75 = .ok (.invokespecial 82, 3) := by decide +kernel
theorem dX0_addCue_78 : decode cX0_addCue 78 = .ok (.athrow, 1) := by decide +kernel
theorem dX0_addCue_79 : decode cX0_addCue 79 = .ok (.iload 4, 2) := by decide +kernel
theorem dX0_addCue_81 : decode cX0_addCue 81 = .ok (.iconst (-1), 1) := by decide +kernel
theorem dX0_addCue_82 : decode cX0_addCue 82 = .ok (.if_icmp .eq 24, 3) := by decide +kernel
theorem dX0_addCue_85 : decode cX0_addCue 85 = .ok (.aload_n 0, 1) := by decide +kernel
theorem dX0_addCue_86 : decode cX0_addCue 86 = .ok (.getfield 35, 3) := by decide +kernel
theorem dX0_addCue_89 : decode cX0_addCue 89 = .ok (.iload 4, 2) := by decide +kernel
theorem dX0_addCue_91 : decode cX0_addCue 91 = .ok (.iaload, 1) := by decide +kernel
theorem dX0_addCue_92 : decode cX0_addCue 92 = .ok (.iconst 2, 1) := by decide +kernel
theorem dX0_addCue_93 : decode cX0_addCue 93 = .ok (.if_icmp .ne 13, 3) := by decide +kernel
theorem dX0_addCue_96 : decode cX0_addCue 96 = .ok (.new 78, 3) := by decide +kernel
theorem dX0_addCue_99 : decode cX0_addCue 99 = .ok (.dup, 1) := by decide +kernel
theorem dX0_addCue_100 : decode cX0_addCue 100 = .ok (.ldc 111, 2) := by decide +kernel
theorem dX0_addCue_102 : decode cX0_addCue 102 = .ok (.invokespecial 82, 3) := by decide +kernel
theorem dX0_addCue_105 : decode cX0_addCue 105 = .ok (.athrow, 1) := by decide +kernel
theorem dX0_addCue_106 : decode cX0_addCue 106 = .ok (.aload_n 0, 1) := by decide +kernel
theorem dX0_addCue_107 : decode cX0_addCue 107 = .ok (.getfield 104, 3) := by decide +kernel
theorem dX0_addCue_110 : decode cX0_addCue 110 = .ok (.istore 5, 2) := by decide +kernel
theorem dX0_addCue_112 : decode cX0_addCue 112 = .ok (.aload_n 0, 1) := by decide +kernel
theorem dX0_addCue_113 : decode cX0_addCue 113 = .ok (.getfield 23, 3) := by decide +kernel
theorem dX0_addCue_116 : decode cX0_addCue 116 = .ok (.iload 5, 2) := by decide +kernel
theorem dX0_addCue_118 : decode cX0_addCue 118 = .ok (.iload_n 1, 1) := by decide +kernel
theorem dX0_addCue_119 : decode cX0_addCue 119 = .ok (.iastore, 1) := by decide +kernel
theorem dX0_addCue_120 : decode cX0_addCue 120 = .ok (.aload_n 0, 1) := by decide +kernel
theorem dX0_addCue_121 : decode cX0_addCue 121 = .ok (.getfield 26, 3) := by decide +kernel
theorem dX0_addCue_124 : decode cX0_addCue 124 = .ok (.iload 5, 2) := by decide +kernel
theorem dX0_addCue_126 : decode cX0_addCue 126 = .ok (.iload_n 2, 1) := by decide +kernel
theorem dX0_addCue_127 : decode cX0_addCue 127 = .ok (.iastore, 1) := by decide +kernel
theorem dX0_addCue_128 : decode cX0_addCue 128 = .ok (.aload_n 0, 1) := by decide +kernel
theorem dX0_addCue_129 : decode cX0_addCue 129 = .ok (.getfield 29, 3) := by decide +kernel
theorem dX0_addCue_132 : decode cX0_addCue 132 = .ok (.iload 5, 2) := by decide +kernel
theorem dX0_addCue_134 : decode cX0_addCue 134 = .ok (.iload_n 3, 1) := by decide +kernel
theorem dX0_addCue_135 : decode cX0_addCue 135 = .ok (.iastore, 1) := by decide +kernel
theorem dX0_addCue_136 : decode cX0_addCue 136 = .ok (.aload_n 0, 1) := by decide +kernel
theorem dX0_addCue_137 : decode cX0_addCue 137 = .ok (.getfield 32, 3) := by decide +kernel
theorem dX0_addCue_140 : decode cX0_addCue 140 = .ok (.iload 5, 2) := by decide +kernel
theorem dX0_addCue_142 : decode cX0_addCue 142 = .ok (.iload 4, 2) := by decide +kernel
theorem dX0_addCue_144 : decode cX0_addCue 144 = .ok (.iastore, 1) := by decide +kernel
theorem dX0_addCue_145 : decode cX0_addCue 145 = .ok (.aload_n 0, 1) := by decide +kernel
theorem dX0_addCue_146 : decode cX0_addCue 146 = .ok (.getfield 35, 3) := by decide +kernel
theorem dX0_addCue_149 : decode cX0_addCue 149 = .ok (.iload 5, 2) := by decide +kernel
theorem dX0_addCue_151 : decode cX0_addCue 151 = .ok (.iconst 0, 1) := by decide +kernel
theorem dX0_addCue_152 : decode cX0_addCue 152 = .ok (.iastore, 1) := by decide +kernel
theorem dX0_addCue_153 : decode cX0_addCue 153 = .ok (.aload_n 0, 1) := by decide +kernel
theorem dX0_addCue_154 : decode cX0_addCue 154 = .ok (.dup, 1) := by decide +kernel
theorem dX0_addCue_155 : decode cX0_addCue 155 = .ok (.getfield 104, 3) := by decide +kernel
theorem dX0_addCue_158 : decode cX0_addCue 158 = .ok (.iconst 1, 1) := by decide +kernel
theorem dX0_addCue_159 : decode cX0_addCue 159 = .ok (.iadd, 1) := by decide +kernel
theorem dX0_addCue_160 : decode cX0_addCue 160 = .ok (.putfield 104, 3) := by decide +kernel
theorem dX0_addCue_163 : decode cX0_addCue 163 = .ok (.iload 5, 2) := by decide +kernel
theorem dX0_addCue_165 : decode cX0_addCue 165 = .ok (.ireturn, 1) := by decide +kernel
set_option maxRecDepth 20000 in
theorem ggX0_canCall_X0_requireCue : GoodIn wsX0_canCall wsX0_requireCue := goodIn_ca (goodIn_r _ [5, 6, 7, 8, 9, 10, 4, 11, 43, 44, 45, 46, 47, 48, 49, 50, 51, 52, 53, 54, 55, 56, 57, 58, 59] (by decide +kernel) (by decide +kernel)) (goodIn_sub (fun _ h => List.mem_cons_of_mem _ (List.mem_append_right _ h)) (by decide +kernel))
set_option maxRecDepth 20000 in
theorem gX0_canCall_X0_requireCue : GoodIn wsX0_canCall (wsV RX0 101 RX0 yX0_requireCue wsX0_requireCue) := goodIn_app (goodIn_of _ (by decide +kernel)) ggX0_canCall_X0_requireCue
set_option maxRecDepth 20000 in
theorem ggX0_canCall_X0_isCallable : GoodIn wsX0_canCall wsX0_isCallable := goodIn_r _ [15, 16, 17, 18, 19, 4, 20, 21, 22, 23, 24, 25, 26, 27, 28, 29, 30, 31, 32, 33, 34, 35, 36, 37, 38, 39, 40, 41, 42, 43, 44, 45, 46, 47, 48, 49, 50, 51, 52, 53, 54, 55, 56, 57, 58, 59] (by decide +kernel) (by decide +kernel)
set_option maxRecDepth 20000 in
theorem gX0_canCall_X0_isCallable : GoodIn wsX0_canCall (wsV RX0 113 RX0 yX0_isCallable wsX0_isCallable) := goodIn_app (goodIn_of _ (by decide +kernel)) ggX0_canCall_X0_isCallable
theorem dX0_canCall_0 : decode cX0_canCall 0 = .ok (.aload_n 0, 1) := by decide +kernel
theorem dX0_canCall_1 : decode cX0_canCall 1 = .ok (.iload_n 1, 1) := by decide +kernel
theorem dX0_canCall_2 : decode cX0_canCall 2 = .ok (.invokevirtual 101, 3) := by decide +kernel
theorem dX0_canCall_5 : decode cX0_canCall 5 = .ok (.aload_n 0, 1) := by decide +kernel
theorem dX0_canCall_6 : decode cX0_canCall 6 = .ok (.iload_n 1, 1) := by decide +kernel
theorem dX0_canCall_7 : decode cX0_canCall 7 = .ok (.invokevirtual 113, 3) := by decide +kernel
theorem dX0_canCall_10 : decode cX0_canCall 10 = .ok (.ireturn, 1) := by decide +kernel
set_option maxRecDepth 20000 in
theorem ggX0_call_X0_requireCue : GoodIn wsX0_call wsX0_requireCue := goodIn_ca (goodIn_r _ [8, 9, 10, 11, 12, 13, 7, 14, 64, 65, 66, 67, 68, 69, 70, 71, 72, 73, 74, 75, 76, 77, 78, 79, 80] (by decide +kernel) (by decide +kernel)) (goodIn_sub (fun _ h => List.mem_cons_of_mem _ (List.mem_append_right _ h)) (by decide +kernel))
set_option maxRecDepth 20000 in
theorem gX0_call_X0_requireCue : GoodIn wsX0_call (wsV RX0 101 RX0 yX0_requireCue wsX0_requireCue) := goodIn_app (goodIn_of _ (by decide +kernel)) ggX0_call_X0_requireCue
set_option maxRecDepth 20000 in
theorem ggX0_call_X0_isCallable : GoodIn wsX0_call wsX0_isCallable := goodIn_r _ [18, 19, 20, 21, 22, 7, 23, 24, 25, 26, 27, 28, 29, 30, 31, 32, 33, 34, 35, 36, 37, 38, 39, 40, 41, 42, 43, 44, 45, 64, 65, 66, 67, 68, 69, 70, 71, 72, 73, 74, 75, 76, 77, 78, 79, 80] (by decide +kernel) (by decide +kernel)
set_option maxRecDepth 20000 in
theorem gX0_call_X0_isCallable : GoodIn wsX0_call (wsV RX0 113 RX0 yX0_isCallable wsX0_isCallable) := goodIn_app (goodIn_of _ (by decide +kernel)) ggX0_call_X0_isCallable
set_option maxRecDepth 20000 in
theorem ggX0_call_X0_carryOut : GoodIn wsX0_call wsX0_carryOut := goodIn_r _ [49, 29, 31, 32, 34, 19, 50, 51, 52, 7, 53, 33, 54, 55, 56, 57, 58, 30, 59, 60, 61, 62, 3, 63, 64, 65, 66, 67, 68, 69, 70, 71, 72, 73, 74, 75, 76, 77, 78, 79, 80] (by decide +kernel) (by decide +kernel)
set_option maxRecDepth 20000 in
theorem gX0_call_X0_carryOut : GoodIn wsX0_call (wsV RX0 119 RX0 yX0_carryOut wsX0_carryOut) := goodIn_app (goodIn_of _ (by decide +kernel)) ggX0_call_X0_carryOut
theorem dX0_call_0 : decode cX0_call 0 = .ok (.aload_n 0, 1) := by decide +kernel
theorem dX0_call_1 : decode cX0_call 1 = .ok (.iload_n 1, 1) := by decide +kernel
theorem dX0_call_2 : decode cX0_call 2 = .ok (.invokevirtual 101, 3) := by decide +kernel
theorem dX0_call_5 : decode cX0_call 5 = .ok (.aload_n 0, 1) := by decide +kernel
theorem dX0_call_6 : decode cX0_call 6 = .ok (.iload_n 1, 1) := by decide +kernel
theorem dX0_call_7 : decode cX0_call 7 = .ok (.invokevirtual 113, 3) := by decide +kernel
theorem dX0_call_10 : decode cX0_call 10 = .ok (.ifCond .ne 13, 3) := by decide +kernel
theorem dX0_call_13 : decode cX0_call 13 = .ok (.new 78, 3) := by decide +kernel
theorem dX0_call_16 : decode cX0_call 16 = .ok (.dup, 1) := by decide +kernel
theorem dX0_call_17 : decode cX0_call 17 = .ok (.ldc 117, 2) := by decide +kernel
theorem dX0_call_19 : decode cX0_call 19 = .ok (.invokespecial 82, 3) := by decide +kernel
theorem dX0_call_22 : decode cX0_call 22 = .ok (.athrow, 1) := by decide +kernel
theorem dX0_call_23 : decode cX0_call 23 = .ok (.aload_n 0, 1) := by decide +kernel
theorem dX0_call_24 : decode cX0_call 24 = .ok (.iload_n 1, 1) := by decide +kernel
theorem dX0_call_25 : decode cX0_call 25 = .ok (.invokevirtual 119, 3) := by decide +kernel
theorem dX0_call_28 : decode cX0_call 28 = .ok (.aload_n 0, 1) := by decide +kernel
theorem dX0_call_29 : decode cX0_call 29 = .ok (.getfield 122, 3) := by decide +kernel
theorem dX0_call_32 : decode cX0_call 32 = .ok (.ireturn, 1) := by decide +kernel
set_option maxRecDepth 20000 in
theorem ggX0_run_X0_firstCallable : GoodIn wsX0_run wsX0_firstCallable := goodIn_r _ [6, 7, 8, 9, 10, 5, 11, 12, 13, 14, 15, 16, 17, 18, 19, 20, 21, 22, 23, 24, 25, 26, 27, 28, 29, 30, 31, 32, 33, 34, 35, 36, 37, 38, 57, 58, 59, 60, 61, 62, 63, 64, 65, 66, 67, 68, 69, 70, 71, 72, 73] (by decide +kernel) (by decide +kernel)
set_option maxRecDepth 20000 in
theorem gX0_run_X0_firstCallable : GoodIn wsX0_run (wsV RX0 125 RX0 yX0_firstCallable wsX0_firstCallable) := goodIn_app (goodIn_of _ (by decide +kernel)) ggX0_run_X0_firstCallable
set_option maxRecDepth 20000 in
theorem ggX0_run_X0_carryOut : GoodIn wsX0_run wsX0_carryOut := goodIn_r _ [42, 22, 24, 25, 27, 12, 43, 44, 45, 5, 46, 26, 47, 48, 49, 50, 51, 23, 52, 53, 54, 55, 1, 56, 57, 58, 59, 60, 61, 62, 63, 64, 65, 66, 67, 68, 69, 70, 71, 72, 73] (by decide +kernel) (by decide +kernel)
set_option maxRecDepth 20000 in
theorem gX0_run_X0_carryOut : GoodIn wsX0_run (wsV RX0 119 RX0 yX0_carryOut wsX0_carryOut) := goodIn_app (goodIn_of _ (by decide +kernel)) ggX0_run_X0_carryOut
theorem dX0_run_0 : decode cX0_run 0 = .ok (.aload_n 0, 1) := by decide +kernel
theorem dX0_run_1 : decode cX0_run 1 = .ok (.getfield 122, 3) := by decide +kernel
theorem dX0_run_4 : decode cX0_run 4 = .ok (.istore_n 1, 1) := by decide +kernel
theorem dX0_run_5 : decode cX0_run 5 = .ok (.aload_n 0, 1) := by decide +kernel
theorem dX0_run_6 : decode cX0_run 6 = .ok (.invokevirtual 125, 3) := by decide +kernel
theorem dX0_run_9 : decode cX0_run 9 = .ok (.istore_n 2, 1) := by decide +kernel
theorem dX0_run_10 : decode cX0_run 10 = .ok (.iconst 0, 1) := by decide +kernel
theorem dX0_run_11 : decode cX0_run 11 = .ok (.istore_n 3, 1) := by decide +kernel
theorem dX0_run_12 : decode cX0_run 12 = .ok (.iload_n 3, 1) := by decide +kernel
theorem dX0_run_13 : decode cX0_run 13 = .ok (.bipush 24, 2) := by decide +kernel
theorem dX0_run_15 : decode cX0_run 15 = .ok (.if_icmp .ge 24, 3) := by decide +kernel
theorem dX0_run_18 : decode cX0_run 18 = .ok (.iload_n 2, 1) := by decide +kernel
theorem dX0_run_19 : decode cX0_run 19 = .ok (.iconst (-1), 1) := by decide +kernel
theorem dX0_run_20 : decode cX0_run 20 = .ok (.if_icmp .eq 19, 3) := by decide +kernel
theorem dX0_run_23 : decode cX0_run 23 = .ok (.aload_n 0, 1) := by decide +kernel
theorem dX0_run_24 : decode cX0_run 24 = .ok (.iload_n 2, 1) := by decide +kernel
theorem dX0_run_25 : decode cX0_run 25 = .ok (.invokevirtual 119, 3) := by decide +kernel
theorem dX0_run_28 : decode cX0_run 28 = .ok (.aload_n 0, 1) := by decide +kernel
theorem dX0_run_29 : decode cX0_run 29 = .ok (.invokevirtual 125, 3) := by decide +kernel
theorem dX0_run_32 : decode cX0_run 32 = .ok (.istore_n 2, 1) := by decide +kernel
theorem dX0_run_33 : decode cX0_run 33 = .ok (.iinc 3 1, 3) := by decide +kernel
theorem dX0_run_36 : decode cX0_run 36 = .ok (.goto (-24), 3) := by decide +kernel
theorem dX0_run_39 : decode cX0_run 39 = .ok (.aload_n 0, 1) := by decide +kernel
theorem dX0_run_40 : decode cX0_run 40 = .ok (.getfield 122, 3) := by decide +kernel
theorem dX0_run_43 : decode cX0_run 43 = .ok (.iload_n 1, 1) := by decide +kernel
theorem dX0_run_44 : decode cX0_run 44 = .ok (.isub, 1) := by decide +kernel
theorem dX0_run_45 : decode cX0_run 45 = .ok (.ireturn, 1) := by decide +kernel
set_option maxRecDepth 20000 in
theorem ggX0_miss_X0_requireCue : GoodIn wsX0_miss wsX0_requireCue := goodIn_ca (goodIn_r _ [9, 10, 11, 4, 12, 13, 8, 14, 20, 21, 22, 23, 24, 25, 26, 27, 28, 29, 30, 31, 32, 33, 34, 35, 36] (by decide +kernel) (by decide +kernel)) (goodIn_sub (fun _ h => List.mem_cons_of_mem _ (List.mem_append_right _ h)) (by decide +kernel))
set_option maxRecDepth 20000 in
theorem gX0_miss_X0_requireCue : GoodIn wsX0_miss (wsV RX0 101 RX0 yX0_requireCue wsX0_requireCue) := goodIn_app (goodIn_of _ (by decide +kernel)) ggX0_miss_X0_requireCue
set_option maxRecDepth 20000 in
theorem ggX0_miss_X0_waitsForMissed : GoodIn wsX0_miss wsX0_waitsForMissed := goodIn_r _ [18, 19, 3, 20, 21, 22, 23, 24, 25, 26, 27, 28, 29, 30, 31, 32, 33, 34, 35, 36] (by decide +kernel) (by decide +kernel)
set_option maxRecDepth 20000 in
theorem gX0_miss_X0_waitsForMissed : GoodIn wsX0_miss (wsV RX0 131 RX0 yX0_waitsForMissed wsX0_waitsForMissed) := goodIn_app (goodIn_of _ (by decide +kernel)) ggX0_miss_X0_waitsForMissed
theorem dX0_miss_0 : decode cX0_miss 0 = .ok (.aload_n 0, 1) := by decide +kernel
theorem dX0_miss_1 : decode cX0_miss 1 = .ok (.iload_n 1, 1) := by decide +kernel
theorem dX0_miss_2 : decode cX0_miss 2 = .ok (.invokevirtual 101, 3) := by decide +kernel
theorem dX0_miss_5 : decode cX0_miss 5 = .ok (.aload_n 0, 1) := by decide +kernel
theorem dX0_miss_6 : decode cX0_miss 6 = .ok (.getfield 35, 3) := by decide +kernel
theorem dX0_miss_9 : decode cX0_miss 9 = .ok (.iload_n 1, 1) := by decide +kernel
theorem dX0_miss_10 : decode cX0_miss 10 = .ok (.iaload, 1) := by decide +kernel
theorem dX0_miss_11 : decode cX0_miss 11 = .ok (.ifCond .eq 13, 3) := by decide +kernel
theorem dX0_miss_14 : decode cX0_miss 14 = .ok (.new 78, 3) := by decide +kernel
theorem dX0_miss_17 : decode cX0_miss 17 = .ok (.dup, 1) := by decide +kernel
theorem dX0_miss_18 : decode cX0_miss 18 = .ok (.ldc 129, 2) := by decide +kernel
theorem dX0_miss_20 : decode cX0_miss 20 = .ok (.invokespecial 82, 3) := by decide +kernel
theorem dX0_miss_23 : decode cX0_miss 23 = .ok (.athrow, 1) := by decide +kernel
theorem dX0_miss_24 : decode cX0_miss 24 = .ok (.aload_n 0, 1) := by decide +kernel
theorem dX0_miss_25 : decode cX0_miss 25 = .ok (.getfield 35, 3) := by decide +kernel
theorem dX0_miss_28 : decode cX0_miss 28 = .ok (.iload_n 1, 1) := by decide +kernel
theorem dX0_miss_29 : decode cX0_miss 29 = .ok (.iconst 2, 1) := by decide +kernel
theorem dX0_miss_30 : decode cX0_miss 30 = .ok (.iastore, 1) := by decide +kernel
theorem dX0_miss_31 : decode cX0_miss 31 = .ok (.iconst 1, 1) := by decide +kernel
theorem dX0_miss_32 : decode cX0_miss 32 = .ok (.istore_n 2, 1) := by decide +kernel
theorem dX0_miss_33 : decode cX0_miss 33 = .ok (.iload_n 1, 1) := by decide +kernel
theorem dX0_miss_34 : decode cX0_miss 34 = .ok (.iconst 1, 1) := by decide +kernel
theorem dX0_miss_35 : decode cX0_miss 35 = .ok (.iadd, 1) := by decide +kernel
theorem dX0_miss_36 : decode cX0_miss 36 = .ok (.istore_n 3, 1) := by decide +kernel
theorem dX0_miss_37 : decode cX0_miss 37 = .ok (.iload_n 3, 1) := by decide +kernel
theorem dX0_miss_38 : decode cX0_miss 38 = .ok (.aload_n 0, 1) := by decide +kernel
theorem dX0_miss_39 : decode cX0_miss 39 = .ok (.getfield 104, 3) := by decide +kernel
theorem dX0_miss_42 : decode cX0_miss 42 = .ok (.if_icmp .ge 36, 3) := by decide +kernel
theorem dX0_miss_45 : decode cX0_miss 45 = .ok (.aload_n 0, 1) := by decide +kernel
theorem dX0_miss_46 : decode cX0_miss 46 = .ok (.getfield 35, 3) := by decide +kernel
theorem dX0_miss_49 : decode cX0_miss 49 = .ok (.iload_n 3, 1) := by decide +kernel
theorem dX0_miss_50 : decode cX0_miss 50 = .ok (.iaload, 1) := by decide +kernel
theorem dX0_miss_51 : decode cX0_miss 51 = .ok (.ifCond .ne 21, 3) := by decide +kernel
theorem dX0_miss_54 : decode cX0_miss 54 = .ok (.aload_n 0, 1) := by decide +kernel
theorem dX0_miss_55 : decode cX0_miss 55 = .ok (.iload_n 3, 1) := by decide +kernel
theorem dX0_miss_56 : decode cX0_miss 56 = .ok (.invokevirtual 131, 3) := by decide +kernel
theorem dX0_miss_59 : decode cX0_miss 59 = .ok (.ifCond .eq 13, 3) := by decide +kernel
theorem dX0_miss_62 : decode cX0_miss 62 = .ok (.aload_n 0, 1) := by decide +kernel
theorem dX0_miss_63 : decode cX0_miss 63 = .ok (.getfield 35, 3) := by decide +kernel
theorem dX0_miss_66 : decode cX0_miss 66 = .ok (.iload_n 3, 1) := by decide +kernel
theorem dX0_miss_67 : decode cX0_miss 67 = .ok (.iconst 2, 1) := by decide +kernel
theorem dX0_miss_68 : decode cX0_miss 68 = .ok (.iastore, 1) := by decide +kernel
theorem dX0_miss_69 : decode cX0_miss 69 = .ok (.iinc 2 1, 3) := by decide +kernel
theorem dX0_miss_72 : decode cX0_miss 72 = .ok (.iinc 3 1, 3) := by decide +kernel
theorem dX0_miss_75 : decode cX0_miss 75 = .ok (.goto (-38), 3) := by decide +kernel
theorem dX0_miss_78 : decode cX0_miss 78 = .ok (.iload_n 2, 1) := by decide +kernel
theorem dX0_miss_79 : decode cX0_miss 79 = .ok (.ireturn, 1) := by decide +kernel
set_option maxRecDepth 20000 in
theorem ggX0_stateOf_X0_requireCue : GoodIn wsX0_stateOf wsX0_requireCue := goodIn_ca (goodIn_r _ [6, 7, 8, 9, 10, 11, 5, 12, 13, 14, 15, 16, 17, 18, 19, 20, 21, 22, 23, 24, 25, 26, 27, 28, 29] (by decide +kernel) (by decide +kernel)) (goodIn_sub (fun _ h => List.mem_cons_of_mem _ (List.mem_append_right _ h)) (by decide +kernel))
set_option maxRecDepth 20000 in
theorem gX0_stateOf_X0_requireCue : GoodIn wsX0_stateOf (wsV RX0 101 RX0 yX0_requireCue wsX0_requireCue) := goodIn_app (goodIn_of _ (by decide +kernel)) ggX0_stateOf_X0_requireCue
theorem dX0_stateOf_0 : decode cX0_stateOf 0 = .ok (.aload_n 0, 1) := by decide +kernel
theorem dX0_stateOf_1 : decode cX0_stateOf 1 = .ok (.iload_n 1, 1) := by decide +kernel
theorem dX0_stateOf_2 : decode cX0_stateOf 2 = .ok (.invokevirtual 101, 3) := by decide +kernel
theorem dX0_stateOf_5 : decode cX0_stateOf 5 = .ok (.aload_n 0, 1) := by decide +kernel
theorem dX0_stateOf_6 : decode cX0_stateOf 6 = .ok (.getfield 35, 3) := by decide +kernel
theorem dX0_stateOf_9 : decode cX0_stateOf 9 = .ok (.iload_n 1, 1) := by decide +kernel
theorem dX0_stateOf_10 : decode cX0_stateOf 10 = .ok (.iaload, 1) := by decide +kernel
theorem dX0_stateOf_11 : decode cX0_stateOf 11 = .ok (.ireturn, 1) := by decide +kernel
theorem dX0_cues_0 : decode cX0_cues 0 = .ok (.aload_n 0, 1) := by decide +kernel
theorem dX0_cues_1 : decode cX0_cues 1 = .ok (.getfield 104, 3) := by decide +kernel
theorem dX0_cues_4 : decode cX0_cues 4 = .ok (.ireturn, 1) := by decide +kernel
set_option maxRecDepth 20000 in
theorem ggX0_maskOf_X0_requirePlayer : GoodIn wsX0_maskOf wsX0_requirePlayer := goodIn_ca (goodIn_r _ [5, 6, 7, 8, 9, 4, 10] (by decide +kernel) (by decide +kernel)) (goodIn_sub (fun _ h => List.mem_cons_of_mem _ (List.mem_append_right _ h)) (by decide +kernel))
set_option maxRecDepth 20000 in
theorem gX0_maskOf_X0_requirePlayer : GoodIn wsX0_maskOf (va_wsS RX0 60 yX0_requirePlayer wsX0_requirePlayer) := goodIn_app (goodIn_of _ (by decide +kernel)) ggX0_maskOf_X0_requirePlayer
theorem dX0_maskOf_0 : decode cX0_maskOf 0 = .ok (.iload_n 1, 1) := by decide +kernel
theorem dX0_maskOf_1 : decode cX0_maskOf 1 = .ok (.invokestatic 60, 3) := by decide +kernel
theorem dX0_maskOf_4 : decode cX0_maskOf 4 = .ok (.aload_n 0, 1) := by decide +kernel
theorem dX0_maskOf_5 : decode cX0_maskOf 5 = .ok (.getfield 13, 3) := by decide +kernel
theorem dX0_maskOf_8 : decode cX0_maskOf 8 = .ok (.iload_n 1, 1) := by decide +kernel
theorem dX0_maskOf_9 : decode cX0_maskOf 9 = .ok (.iaload, 1) := by decide +kernel
theorem dX0_maskOf_10 : decode cX0_maskOf 10 = .ok (.ireturn, 1) := by decide +kernel
set_option maxRecDepth 20000 in
theorem ggX0_maskByCues_X0_requirePlayer : GoodIn wsX0_maskByCues wsX0_requirePlayer := goodIn_ca (goodIn_r _ [7, 8, 9, 10, 11, 6, 12] (by decide +kernel) (by decide +kernel)) (goodIn_sub (fun _ h => List.mem_cons_of_mem _ (List.mem_append_right _ h)) (by decide +kernel))
set_option maxRecDepth 20000 in
theorem gX0_maskByCues_X0_requirePlayer : GoodIn wsX0_maskByCues (va_wsS RX0 60 yX0_requirePlayer wsX0_requirePlayer) := goodIn_app (goodIn_of _ (by decide +kernel)) ggX0_maskByCues_X0_requirePlayer
set_option maxRecDepth 20000 in
theorem ggX0_maskByCues_J7_fill_53178 : GoodIn wsX0_maskByCues wsJ7_fill_53178 := goodIn_r _ [16] (by decide +kernel) (by decide +kernel)
set_option maxRecDepth 20000 in
theorem gX0_maskByCues_J7_fill_53178 : GoodIn wsX0_maskByCues (va_wsS RX0 54 yJ7_fill_53178 wsJ7_fill_53178) := goodIn_app (goodIn_of _ (by decide +kernel)) ggX0_maskByCues_J7_fill_53178
set_option maxRecDepth 20000 in
theorem ggX0_maskByCues_X0_moveMasks : GoodIn wsX0_maskByCues wsX0_moveMasks := goodIn_r _ [20, 21, 22, 23, 24, 25, 26, 27, 28, 29, 30, 31, 32, 33, 34, 35, 36, 37, 38, 39, 40] (by decide +kernel) (by decide +kernel)
set_option maxRecDepth 20000 in
theorem gX0_maskByCues_X0_moveMasks : GoodIn wsX0_maskByCues (wsV RX0 134 RX0 yX0_moveMasks wsX0_moveMasks) := goodIn_app (goodIn_of _ (by decide +kernel)) ggX0_maskByCues_X0_moveMasks
theorem dX0_maskByCues_0 : decode cX0_maskByCues 0 = .ok (.iload_n 1, 1) := by decide +kernel
theorem dX0_maskByCues_1 : decode cX0_maskByCues 1 = .ok (.invokestatic 60, 3) := by decide +kernel
theorem dX0_maskByCues_4 : decode cX0_maskByCues 4 = .ok (.aload_n 0, 1) := by decide +kernel
theorem dX0_maskByCues_5 : decode cX0_maskByCues 5 = .ok (.getfield 51, 3) := by decide +kernel
theorem dX0_maskByCues_8 : decode cX0_maskByCues 8 = .ok (.iconst (-1), 1) := by decide +kernel
theorem dX0_maskByCues_9 : decode cX0_maskByCues 9 = .ok (.invokestatic 54, 3) := by decide +kernel
theorem dX0_maskByCues_12 : decode cX0_maskByCues 12 = .ok (.iconst 0, 1) := by decide +kernel
theorem dX0_maskByCues_13 : decode cX0_maskByCues 13 = .ok (.istore_n 2, 1) := by decide +kernel
theorem dX0_maskByCues_14 : decode cX0_maskByCues 14 = .ok (.iload_n 2, 1) := by decide +kernel
theorem dX0_maskByCues_15 : decode cX0_maskByCues 15 = .ok (.aload_n 0, 1) := by decide +kernel
theorem dX0_maskByCues_16 : decode cX0_maskByCues 16 = .ok (.getfield 122, 3) := by decide +kernel
theorem dX0_maskByCues_19 : decode cX0_maskByCues 19 = .ok (.if_icmp .ge 23, 3) := by decide +kernel
theorem dX0_maskByCues_22 : decode cX0_maskByCues 22 = .ok (.aload_n 0, 1) := by decide +kernel
theorem dX0_maskByCues_23 : decode cX0_maskByCues 23 = .ok (.aload_n 0, 1) := by decide +kernel
theorem dX0_maskByCues_24 : decode cX0_maskByCues 24 = .ok (.getfield 38, 3) := by decide +kernel
theorem dX0_maskByCues_27 : decode cX0_maskByCues 27 = .ok (.iload_n 2, 1) := by decide +kernel
theorem dX0_maskByCues_28 : decode cX0_maskByCues 28 = .ok (.iaload, 1) := by decide +kernel
theorem dX0_maskByCues_29 : decode cX0_maskByCues 29 = .ok (.aload_n 0, 1) := by decide +kernel
theorem dX0_maskByCues_30 : decode cX0_maskByCues 30 = .ok (.getfield 51, 3) := by decide +kernel
theorem dX0_maskByCues_33 : decode cX0_maskByCues 33 = .ok (.invokevirtual 134, 3) := by decide +kernel
theorem dX0_maskByCues_36 : decode cX0_maskByCues 36 = .ok (.iinc 2 1, 3) := by decide +kernel
theorem dX0_maskByCues_39 : decode cX0_maskByCues 39 = .ok (.goto (-25), 3) := by decide +kernel
theorem dX0_maskByCues_42 : decode cX0_maskByCues 42 = .ok (.aload_n 0, 1) := by decide +kernel
theorem dX0_maskByCues_43 : decode cX0_maskByCues 43 = .ok (.getfield 51, 3) := by decide +kernel
theorem dX0_maskByCues_46 : decode cX0_maskByCues 46 = .ok (.iload_n 1, 1) := by decide +kernel
theorem dX0_maskByCues_47 : decode cX0_maskByCues 47 = .ok (.iaload, 1) := by decide +kernel
theorem dX0_maskByCues_48 : decode cX0_maskByCues 48 = .ok (.ireturn, 1) := by decide +kernel
set_option maxRecDepth 20000 in
theorem ggX0_wearerOf_X0_requireMask : GoodIn wsX0_wearerOf wsX0_requireMask := goodIn_ca (goodIn_r _ [4, 5, 6, 7, 8, 3, 9] (by decide +kernel) (by decide +kernel)) (goodIn_sub (fun _ h => List.mem_cons_of_mem _ (List.mem_append_right _ h)) (by decide +kernel))
set_option maxRecDepth 20000 in
theorem gX0_wearerOf_X0_requireMask : GoodIn wsX0_wearerOf (va_wsS RX0 138 yX0_requireMask wsX0_requireMask) := goodIn_app (goodIn_of _ (by decide +kernel)) ggX0_wearerOf_X0_requireMask
set_option maxRecDepth 20000 in
theorem ggX0_wearerOf_X0_playerBehind : GoodIn wsX0_wearerOf wsX0_playerBehind := goodIn_r _ [13, 14, 15, 16, 3, 17, 18, 19, 20, 21, 22, 23, 24, 25, 26, 27, 28, 29, 30, 31, 32, 33, 34] (by decide +kernel) (by decide +kernel)
set_option maxRecDepth 20000 in
theorem gX0_wearerOf_X0_playerBehind : GoodIn wsX0_wearerOf (wsV RX0 141 RX0 yX0_playerBehind wsX0_playerBehind) := goodIn_app (goodIn_of _ (by decide +kernel)) ggX0_wearerOf_X0_playerBehind
theorem dX0_wearerOf_0 : decode cX0_wearerOf 0 = .ok (.iload_n 1, 1) := by decide +kernel
theorem dX0_wearerOf_1 : decode cX0_wearerOf 1 = .ok (.invokestatic 138, 3) := by decide +kernel
theorem dX0_wearerOf_4 : decode cX0_wearerOf 4 = .ok (.aload_n 0, 1) := by decide +kernel
theorem dX0_wearerOf_5 : decode cX0_wearerOf 5 = .ok (.iload_n 1, 1) := by decide +kernel
theorem dX0_wearerOf_6 : decode cX0_wearerOf 6 = .ok (.invokevirtual 141, 3) := by decide +kernel
theorem dX0_wearerOf_9 : decode cX0_wearerOf 9 = .ok (.ireturn, 1) := by decide +kernel
set_option maxRecDepth 20000 in
theorem ggX0_isOn_X0_requirePlayer : GoodIn wsX0_isOn wsX0_requirePlayer := goodIn_ca (goodIn_r _ [5, 6, 7, 8, 9, 4, 10] (by decide +kernel) (by decide +kernel)) (goodIn_sub (fun _ h => List.mem_cons_of_mem _ (List.mem_append_right _ h)) (by decide +kernel))
set_option maxRecDepth 20000 in
theorem gX0_isOn_X0_requirePlayer : GoodIn wsX0_isOn (va_wsS RX0 60 yX0_requirePlayer wsX0_requirePlayer) := goodIn_app (goodIn_of _ (by decide +kernel)) ggX0_isOn_X0_requirePlayer
theorem dX0_isOn_0 : decode cX0_isOn 0 = .ok (.iload_n 1, 1) := by decide +kernel
theorem dX0_isOn_1 : decode cX0_isOn 1 = .ok (.invokestatic 60, 3) := by decide +kernel
theorem dX0_isOn_4 : decode cX0_isOn 4 = .ok (.aload_n 0, 1) := by decide +kernel
theorem dX0_isOn_5 : decode cX0_isOn 5 = .ok (.getfield 16, 3) := by decide +kernel
theorem dX0_isOn_8 : decode cX0_isOn 8 = .ok (.iload_n 1, 1) := by decide +kernel
theorem dX0_isOn_9 : decode cX0_isOn 9 = .ok (.baload, 1) := by decide +kernel
theorem dX0_isOn_10 : decode cX0_isOn 10 = .ok (.ireturn, 1) := by decide +kernel
set_option maxRecDepth 20000 in
theorem ggX0_guess_X0_requireGuesser : GoodIn wsX0_guess wsX0_requireGuesser := goodIn_ca (goodIn_r _ [10, 11, 12, 13, 14, 9, 15] (by decide +kernel) (by decide +kernel)) (goodIn_sub (fun _ h => List.mem_cons_of_mem _ (List.mem_append_right _ h)) (by decide +kernel))
set_option maxRecDepth 20000 in
theorem gX0_guess_X0_requireGuesser : GoodIn wsX0_guess (va_wsS RX0 144 yX0_requireGuesser wsX0_requireGuesser) := goodIn_app (goodIn_of _ (by decide +kernel)) ggX0_guess_X0_requireGuesser
set_option maxRecDepth 20000 in
theorem ggX0_guess_X0_requirePlayer : GoodIn wsX0_guess wsX0_requirePlayer := goodIn_ca (goodIn_r _ [18, 11, 12, 13, 14, 9, 15] (by decide +kernel) (by decide +kernel)) (goodIn_sub (fun _ h => List.mem_cons_of_mem _ (List.mem_append_right _ h)) (by decide +kernel))
set_option maxRecDepth 20000 in
theorem gX0_guess_X0_requirePlayer : GoodIn wsX0_guess (va_wsS RX0 60 yX0_requirePlayer wsX0_requirePlayer) := goodIn_app (goodIn_of _ (by decide +kernel)) ggX0_guess_X0_requirePlayer
set_option maxRecDepth 20000 in
theorem ggX0_guess_X0_requireMask : GoodIn wsX0_guess wsX0_requireMask := goodIn_ca (goodIn_r _ [21, 11, 12, 13, 14, 9, 15] (by decide +kernel) (by decide +kernel)) (goodIn_sub (fun _ h => List.mem_cons_of_mem _ (List.mem_append_right _ h)) (by decide +kernel))
set_option maxRecDepth 20000 in
theorem gX0_guess_X0_requireMask : GoodIn wsX0_guess (va_wsS RX0 138 yX0_requireMask wsX0_requireMask) := goodIn_app (goodIn_of _ (by decide +kernel)) ggX0_guess_X0_requireMask
theorem dX0_guess_0 : decode cX0_guess 0 = .ok (.iload_n 1, 1) := by decide +kernel
theorem dX0_guess_1 : decode cX0_guess 1 = .ok (.invokestatic 144, 3) := by decide +kernel
theorem dX0_guess_4 : decode cX0_guess 4 = .ok (.iload_n 2, 1) := by decide +kernel
theorem dX0_guess_5 : decode cX0_guess 5 = .ok (.invokestatic 60, 3) := by decide +kernel
theorem dX0_guess_8 : decode cX0_guess 8 = .ok (.iload_n 3, 1) := by decide +kernel
theorem dX0_guess_9 : decode cX0_guess 9 = .ok (.invokestatic 138, 3) := by decide +kernel
theorem dX0_guess_12 : decode cX0_guess 12 = .ok (.aload_n 0, 1) := by decide +kernel
theorem dX0_guess_13 : decode cX0_guess 13 = .ok (.getfield 16, 3) := by decide +kernel
theorem dX0_guess_16 : decode cX0_guess 16 = .ok (.iload_n 2, 1) := by decide +kernel
theorem dX0_guess_17 : decode cX0_guess 17 = .ok (.baload, 1) := by decide +kernel
theorem dX0_guess_18 : decode cX0_guess 18 = .ok (.ifCond .eq 13, 3) := by decide +kernel
theorem dX0_guess_21 : decode cX0_guess 21 = .ok (.aload_n 0, 1) := by decide +kernel
theorem dX0_guess_22 : decode cX0_guess 22 = .ok (.getfield 13, 3) := by decide +kernel
theorem dX0_guess_25 : decode cX0_guess 25 = .ok (.iload_n 2, 1) := by decide +kernel
theorem dX0_guess_26 : decode cX0_guess 26 = .ok (.iaload, 1) := by decide +kernel
theorem dX0_guess_27 : decode cX0_guess 27 = .ok (.iconst (-1), 1) := by decide +kernel
theorem dX0_guess_28 : decode cX0_guess 28 = .ok (.if_icmp .ne 13, 3) := by decide +kernel
theorem dX0_guess_31 : decode cX0_guess 31 = .ok (.new 78, 3) := by decide +kernel
theorem dX0_guess_34 : decode cX0_guess 34 = .ok (.dup, 1) := by decide +kernel
theorem dX0_guess_35 : decode cX0_guess 35 = .ok (.ldc 147, 2) := by decide +kernel
theorem dX0_guess_37 : decode cX0_guess 37 = .ok (.invokespecial 82, 3) := by decide +kernel
theorem dX0_guess_40 : decode cX0_guess 40 = .ok (.athrow, 1) := by decide +kernel
theorem dX0_guess_41 : decode cX0_guess 41 = .ok (.iload_n 1, 1) := by decide +kernel
theorem dX0_guess_42 : decode cX0_guess 42 = .ok (.bipush 6, 2) := by decide +kernel
theorem dX0_guess_44 : decode cX0_guess 44 = .ok (.imul, 1) := by decide +kernel
theorem dX0_guess_45 : decode cX0_guess 45 = .ok (.iload_n 2, 1) := by decide +kernel
theorem dX0_guess_46 : decode cX0_guess 46 = .ok (.iadd, 1) := by decide +kernel
theorem dX0_guess_47 : decode cX0_guess 47 = .ok (.istore 4, 2) := by decide +kernel
theorem dX0_guess_49 : decode cX0_guess 49 = .ok (.aload_n 0, 1) := by decide +kernel
theorem dX0_guess_50 : decode cX0_guess 50 = .ok (.getfield 44, 3) := by decide +kernel
theorem dX0_guess_53 : decode cX0_guess 53 = .ok (.iload 4, 2) := by decide +kernel
theorem dX0_guess_55 : decode cX0_guess 55 = .ok (.baload, 1) := by decide +kernel
theorem dX0_guess_56 : decode cX0_guess 56 = .ok (.ifCond .eq 13, 3) := by decide +kernel
theorem dX0_guess_59 : decode cX0_guess 59 = .ok (.new 78, 3) := by decide +kernel
theorem dX0_guess_62 : decode cX0_guess 62 = .ok (.dup, 1) := by decide +kernel
theorem dX0_guess_63 : decode cX0_guess 63 = .ok (.ldc 149, 2) := by decide +kernel
theorem dX0_guess_65 : decode cX0_guess 65 = .ok (.invokespecial 82, 3) := by decide +kernel
theorem dX0_guess_68 : decode cX0_guess 68 = .ok (.athrow, 1) := by decide +kernel
theorem dX0_guess_69 : decode cX0_guess 69 = .ok (.aload_n 0, 1) := by decide +kernel
theorem dX0_guess_70 : decode cX0_guess 70 = .ok (.getfield 44, 3) := by decide +kernel
theorem dX0_guess_73 : decode cX0_guess 73 = .ok (.iload 4, 2) := by decide +kernel
theorem dX0_guess_75 : decode cX0_guess 75 = .ok (.iconst 1, 1) := by decide +kernel
theorem dX0_guess_76 : decode cX0_guess 76 = .ok (.bastore, 1) := by decide +kernel
theorem dX0_guess_77 : decode cX0_guess 77 = .ok (.aload_n 0, 1) := by decide +kernel
theorem dX0_guess_78 : decode cX0_guess 78 = .ok (.getfield 13, 3) := by decide +kernel
theorem dX0_guess_81 : decode cX0_guess 81 = .ok (.iload_n 2, 1) := by decide +kernel
theorem dX0_guess_82 : decode cX0_guess 82 = .ok (.iaload, 1) := by decide +kernel
theorem dX0_guess_83 : decode cX0_guess 83 = .ok (.iload_n 3, 1) := by decide +kernel
theorem dX0_guess_84 : decode cX0_guess 84 = .ok (.if_icmp .ne 7, 3) := by decide +kernel
theorem dX0_guess_87 : decode cX0_guess 87 = .ok (.iconst 1, 1) := by decide +kernel
theorem dX0_guess_88 : decode cX0_guess 88 = .ok (.goto 4, 3) := by decide +kernel
theorem dX0_guess_91 : decode cX0_guess 91 = .ok (.iconst 0, 1) := by decide +kernel
theorem dX0_guess_92 : decode cX0_guess 92 = .ok (.istore 5, 2) := by decide +kernel
theorem dX0_guess_94 : decode cX0_guess 94 = .ok (.aload_n 0, 1) := by decide +kernel
theorem dX0_guess_95 : decode cX0_guess 95 = .ok (.getfield 41, 3) := by decide +kernel
theorem dX0_guess_98 : decode cX0_guess 98 = .ok (.iload_n 1, 1) := by decide +kernel
theorem dX0_guess_99 : decode cX0_guess 99 = .ok (.dup2, 1) := by decide +kernel
theorem dX0_guess_100 : decode cX0_guess 100 = .ok (.iaload, 1) := by decide +kernel
theorem dX0_guess_101 : decode cX0_guess 101 = .ok (.iload 5, 2) := by decide +kernel
theorem dX0_guess_103 : decode cX0_guess 103 = .ok (.ifCond .eq 7, 3) := by decide +kernel
theorem dX0_guess_106 : decode cX0_guess 106 = .ok (.iconst 3, 1) := by decide +kernel
theorem dX0_guess_107 : decode cX0_guess 107 = .ok (.goto 4, 3) := by decide +kernel
theorem dX0_guess_110 : decode cX0_guess 110 = .ok (.iconst (-1), 1) := by decide +kernel
theorem dX0_guess_111 : decode cX0_guess 111 = .ok (.iadd, 1) := by decide +kernel
theorem dX0_guess_112 : decode cX0_guess 112 = .ok (.iastore, 1) := by decide +kernel
theorem dX0_guess_113 : decode cX0_guess 113 = .ok (.iload 5, 2) := by decide +kernel
theorem dX0_guess_115 : decode cX0_guess 115 = .ok (.ireturn, 1) := by decide +kernel
set_option maxRecDepth 20000 in
theorem ggX0_points_X0_requireGuesser : GoodIn wsX0_points wsX0_requireGuesser := goodIn_ca (goodIn_r _ [5, 6, 7, 8, 9, 4, 10] (by decide +kernel) (by decide +kernel)) (goodIn_sub (fun _ h => List.mem_cons_of_mem _ (List.mem_append_right _ h)) (by decide +kernel))
set_option maxRecDepth 20000 in
theorem gX0_points_X0_requireGuesser : GoodIn wsX0_points (va_wsS RX0 144 yX0_requireGuesser wsX0_requireGuesser) := goodIn_app (goodIn_of _ (by decide +kernel)) ggX0_points_X0_requireGuesser
theorem dX0_points_0 : decode cX0_points 0 = .ok (.iload_n 1, 1) := by decide +kernel
theorem dX0_points_1 : decode cX0_points 1 = .ok (.invokestatic 144, 3) := by decide +kernel
theorem dX0_points_4 : decode cX0_points 4 = .ok (.aload_n 0, 1) := by decide +kernel
theorem dX0_points_5 : decode cX0_points 5 = .ok (.getfield 41, 3) := by decide +kernel
theorem dX0_points_8 : decode cX0_points 8 = .ok (.iload_n 1, 1) := by decide +kernel
theorem dX0_points_9 : decode cX0_points 9 = .ok (.iaload, 1) := by decide +kernel
theorem dX0_points_10 : decode cX0_points 10 = .ok (.ireturn, 1) := by decide +kernel
set_option maxRecDepth 20000 in
theorem ggX0_endPlay_X0_countCues : GoodIn wsX0_endPlay wsX0_countCues := goodIn_r _ [15, 9, 16, 28, 29, 30, 31, 32, 33, 34, 35, 36, 37, 38, 39, 40, 41, 42, 43, 44] (by decide +kernel) (by decide +kernel)
set_option maxRecDepth 20000 in
theorem gX0_endPlay_X0_countCues : GoodIn wsX0_endPlay (wsV RX0 151 RX0 yX0_countCues wsX0_countCues) := goodIn_app (goodIn_of _ (by decide +kernel)) ggX0_endPlay_X0_countCues
set_option maxRecDepth 20000 in
theorem ggX0_endPlay_X0_clearStage : GoodIn wsX0_endPlay wsX0_clearStage := goodIn_r _ [20, 21, 22, 28, 29, 30, 31, 32, 33, 34, 35, 36, 37, 38, 39, 40, 41, 42, 43, 44] (by decide +kernel) (by decide +kernel)
set_option maxRecDepth 20000 in
theorem gX0_endPlay_X0_clearStage : GoodIn wsX0_endPlay (wsV RX0 165 RX0 yX0_clearStage wsX0_clearStage) := goodIn_app (goodIn_of _ (by decide +kernel)) ggX0_endPlay_X0_clearStage
set_option maxRecDepth 20000 in
theorem ggX0_endPlay_X0_clearGuesses : GoodIn wsX0_endPlay wsX0_clearGuesses := goodIn_r _ [26, 27, 28, 29, 30, 31, 32, 33, 34, 35, 36, 37, 38, 39, 40, 41, 42, 43, 44] (by decide +kernel) (by decide +kernel)
set_option maxRecDepth 20000 in
theorem gX0_endPlay_X0_clearGuesses : GoodIn wsX0_endPlay (wsV RX0 168 RX0 yX0_clearGuesses wsX0_clearGuesses) := goodIn_app (goodIn_of _ (by decide +kernel)) ggX0_endPlay_X0_clearGuesses
theorem dX0_endPlay_0 : decode cX0_endPlay 0 = .ok (.aload_n 0, 1) := by decide +kernel
theorem dX0_endPlay_1 : decode cX0_endPlay 1 = .ok (.iconst 0, 1) := by decide +kernel
theorem dX0_endPlay_2 : decode cX0_endPlay 2 = .ok (.invokevirtual 151, 3) := by decide +kernel
theorem dX0_endPlay_5 : decode cX0_endPlay 5 = .ok (.ifCond .le 13, 3) := by decide +kernel
theorem dX0_endPlay_8 : decode cX0_endPlay 8 = .ok (.new 78, 3) := by decide +kernel
theorem dX0_endPlay_11 : decode cX0_endPlay 11 = .ok (.dup, 1) := by decide +kernel
theorem dX0_endPlay_12 : decode cX0_endPlay 12 = .ok (.ldc 154, 2) := by decide +kernel
theorem dX0_endPlay_14 : decode cX0_endPlay 14 = .ok (.invokespecial 82, 3) := by decide +kernel
theorem dX0_endPlay_17 : decode cX0_endPlay 17 = .ok (.athrow, 1) := by decide +kernel
theorem dX0_endPlay_18 : decode cX0_endPlay 18 = .ok (.aload_n 0, 1) := by decide +kernel
theorem dX0_endPlay_19 : decode cX0_endPlay 19 = .ok (.iconst 0, 1) := by decide +kernel
theorem dX0_endPlay_20 : decode cX0_endPlay 20 = .ok (.aload_n 0, 1) := by decide +kernel
theorem dX0_endPlay_21 : decode cX0_endPlay 21 = .ok (.getfield 47, 3) := by decide +kernel
theorem dX0_endPlay_24 : decode cX0_endPlay 24 = .ok (.aload_n 0, 1) := by decide +kernel
theorem dX0_endPlay_25 : decode cX0_endPlay 25 = .ok (.iconst 1, 1) := by decide +kernel
theorem dX0_endPlay_26 : decode cX0_endPlay 26 = .ok (.invokevirtual 151, 3) := by decide +kernel
theorem dX0_endPlay_29 : decode cX0_endPlay 29 = .ok (.iadd, 1) := by decide +kernel
theorem dX0_endPlay_30 : decode cX0_endPlay 30 = .ok (.aload_n 0, 1) := by decide +kernel
theorem dX0_endPlay_31 : decode cX0_endPlay 31 = .ok (.iconst 2, 1) := by decide +kernel
theorem dX0_endPlay_32 : decode cX0_endPlay 32 = .ok (.invokevirtual 151, 3) := by decide +kernel
theorem dX0_endPlay_35 : decode cX0_endPlay 35 = .ok (.isub, 1) := by decide +kernel
theorem dX0_endPlay_36 : decode cX0_endPlay 36 = .ok (.invokestatic 156, 3) := by decide +kernel
theorem dX0_endPlay_39 : decode cX0_endPlay 39 = .ok (.putfield 47, 3) := by decide +kernel
theorem dX0_endPlay_42 : decode cX0_endPlay 42 = .ok (.aload_n 0, 1) := by decide +kernel
theorem dX0_endPlay_43 : decode cX0_endPlay 43 = .ok (.dup, 1) := by decide +kernel
theorem dX0_endPlay_44 : decode cX0_endPlay 44 = .ok (.getfield 162, 3) := by decide +kernel
theorem dX0_endPlay_47 : decode cX0_endPlay 47 = .ok (.iconst 1, 1) := by decide +kernel
theorem dX0_endPlay_48 : decode cX0_endPlay 48 = .ok (.iadd, 1) := by decide +kernel
theorem dX0_endPlay_49 : decode cX0_endPlay 49 = .ok (.putfield 162, 3) := by decide +kernel
theorem dX0_endPlay_52 : decode cX0_endPlay 52 = .ok (.aload_n 0, 1) := by decide +kernel
theorem dX0_endPlay_53 : decode cX0_endPlay 53 = .ok (.invokevirtual 165, 3) := by decide +kernel
theorem dX0_endPlay_56 : decode cX0_endPlay 56 = .ok (.aload_n 0, 1) := by decide +kernel
theorem dX0_endPlay_57 : decode cX0_endPlay 57 = .ok (.invokevirtual 168, 3) := by decide +kernel
theorem dX0_endPlay_60 : decode cX0_endPlay 60 = .ok (.aload_n 0, 1) := by decide +kernel
theorem dX0_endPlay_61 : decode cX0_endPlay 61 = .ok (.iconst 0, 1) := by decide +kernel
theorem dX0_endPlay_62 : decode cX0_endPlay 62 = .ok (.putfield 104, 3) := by decide +kernel
theorem dX0_endPlay_65 : decode cX0_endPlay 65 = .ok (.aload_n 0, 1) := by decide +kernel
theorem dX0_endPlay_66 : decode cX0_endPlay 66 = .ok (.iconst 0, 1) := by decide +kernel
theorem dX0_endPlay_67 : decode cX0_endPlay 67 = .ok (.putfield 122, 3) := by decide +kernel
theorem dX0_endPlay_70 : decode cX0_endPlay 70 = .ok (.aload_n 0, 1) := by decide +kernel
theorem dX0_endPlay_71 : decode cX0_endPlay 71 = .ok (.getfield 47, 3) := by decide +kernel
theorem dX0_endPlay_74 : decode cX0_endPlay 74 = .ok (.ireturn, 1) := by decide +kernel
theorem dX0_plays_0 : decode cX0_plays 0 = .ok (.aload_n 0, 1) := by decide +kernel
theorem dX0_plays_1 : decode cX0_plays 1 = .ok (.getfield 162, 3) := by decide +kernel
theorem dX0_plays_4 : decode cX0_plays 4 = .ok (.ireturn, 1) := by decide +kernel
theorem dX0_isWithin_0 : decode cX0_isWithin 0 = .ok (.iload_n 0, 1) := by decide +kernel
theorem dX0_isWithin_1 : decode cX0_isWithin 1 = .ok (.ifCond .lt 12, 3) := by decide +kernel
theorem dX0_isWithin_4 : decode cX0_isWithin 4 = .ok (.iload_n 0, 1) := by decide +kernel
theorem dX0_isWithin_5 : decode cX0_isWithin 5 = .ok (.iload_n 1, 1) := by decide +kernel
theorem dX0_isWithin_6 : decode cX0_isWithin 6 = .ok (.if_icmp .ge 7, 3) := by decide +kernel
theorem dX0_isWithin_9 : decode cX0_isWithin 9 = .ok (.iconst 1, 1) := by decide +kernel
theorem dX0_isWithin_10 : decode cX0_isWithin 10 = .ok (.goto 4, 3) := by decide +kernel
theorem dX0_isWithin_13 : decode cX0_isWithin 13 = .ok (.iconst 0, 1) := by decide +kernel
theorem dX0_isWithin_14 : decode cX0_isWithin 14 = .ok (.ireturn, 1) := by decide +kernel
set_option maxRecDepth 20000 in
theorem ggX0_requirePlayer_X0_isWithin : GoodIn wsX0_requirePlayer wsX0_isWithin := goodIn_r _ [6] (by decide +kernel) (by decide +kernel)
set_option maxRecDepth 20000 in
theorem gX0_requirePlayer_X0_isWithin : GoodIn wsX0_requirePlayer (va_wsS RX0 171 yX0_isWithin wsX0_isWithin) := goodIn_app (goodIn_of _ (by decide +kernel)) ggX0_requirePlayer_X0_isWithin
theorem dX0_requirePlayer_0 : decode cX0_requirePlayer 0 = .ok (.iload_n 0, 1) := by decide +kernel
theorem dX0_requirePlayer_1 : decode cX0_requirePlayer 1 = .ok (.bipush 6, 2) := by decide +kernel
theorem dX0_requirePlayer_3 : decode cX0_requirePlayer 3 = .ok (.invokestatic 171, 3) := by decide +kernel
theorem dX0_requirePlayer_6 : decode cX0_requirePlayer 6 = .ok (.ifCond .ne 13, 3) := by decide +kernel
theorem dX0_requirePlayer_9 : decode cX0_requirePlayer 9 = .ok (.new 174, 3) := by decide +kernel
theorem dX0_requirePlayer_12 : decode cX0_requirePlayer 12 = .ok (.dup, 1) := by decide +kernel
theorem dX0_requirePlayer_13 : decode cX0_requirePlayer 13 = .ok (.ldc 176, 2) := by decide +kernel
theorem dX0_requirePlayer_15 : decode cX0_requirePlayer 15 = .ok (.invokespecial 178, 3) := by decide +kernel
theorem dX0_requirePlayer_18 : decode cX0_requirePlayer 18 = .ok (.athrow, 1) := by decide +kernel
theorem dX0_requirePlayer_19 : decode cX0_requirePlayer 19 = .ok (.return_, 1) := by decide +kernel
set_option maxRecDepth 20000 in
theorem ggX0_requireMask_X0_isWithin : GoodIn wsX0_requireMask wsX0_isWithin := goodIn_r _ [6] (by decide +kernel) (by decide +kernel)
set_option maxRecDepth 20000 in
theorem gX0_requireMask_X0_isWithin : GoodIn wsX0_requireMask (va_wsS RX0 171 yX0_isWithin wsX0_isWithin) := goodIn_app (goodIn_of _ (by decide +kernel)) ggX0_requireMask_X0_isWithin
theorem dX0_requireMask_0 : decode cX0_requireMask 0 = .ok (.iload_n 0, 1) := by decide +kernel
theorem dX0_requireMask_1 : decode cX0_requireMask 1 = .ok (.bipush 6, 2) := by decide +kernel
theorem dX0_requireMask_3 : decode cX0_requireMask 3 = .ok (.invokestatic 171, 3) := by decide +kernel
theorem dX0_requireMask_6 : decode cX0_requireMask 6 = .ok (.ifCond .ne 13, 3) := by decide +kernel
theorem dX0_requireMask_9 : decode cX0_requireMask 9 = .ok (.new 174, 3) := by decide +kernel
theorem dX0_requireMask_12 : decode cX0_requireMask 12 = .ok (.dup, 1) := by decide +kernel
theorem dX0_requireMask_13 : decode cX0_requireMask 13 = .ok (.ldc 179, 2) := by decide +kernel
theorem dX0_requireMask_15 : decode cX0_requireMask 15 = .ok (.invokespecial 178, 3) := by decide +kernel
theorem dX0_requireMask_18 : decode cX0_requireMask 18 = .ok (.athrow, 1) := by decide +kernel
theorem dX0_requireMask_19 : decode cX0_requireMask 19 = .ok (.return_, 1) := by decide +kernel
set_option maxRecDepth 20000 in
theorem ggX0_requireCostume_X0_isWithin : GoodIn wsX0_requireCostume wsX0_isWithin := goodIn_r _ [6] (by decide +kernel) (by decide +kernel)
set_option maxRecDepth 20000 in
theorem gX0_requireCostume_X0_isWithin : GoodIn wsX0_requireCostume (va_wsS RX0 171 yX0_isWithin wsX0_isWithin) := goodIn_app (goodIn_of _ (by decide +kernel)) ggX0_requireCostume_X0_isWithin
theorem dX0_requireCostume_0 : decode cX0_requireCostume 0 = .ok (.iload_n 0, 1) := by decide +kernel
theorem dX0_requireCostume_1 : decode cX0_requireCostume 1 = .ok (.bipush 8, 2) := by decide +kernel
theorem dX0_requireCostume_3 : decode cX0_requireCostume 3 = .ok (.invokestatic 171, 3) := by decide +kernel
theorem dX0_requireCostume_6 : decode cX0_requireCostume 6 = .ok (.ifCond .ne 13, 3) := by decide +kernel
theorem dX0_requireCostume_9 : decode cX0_requireCostume 9 = .ok (.new 174, 3) := by decide +kernel
theorem dX0_requireCostume_12 : decode cX0_requireCostume 12 = .ok (.dup, 1) := by decide +kernel
theorem dX0_requireCostume_13 : decode cX0_requireCostume 13 = .ok (.ldc 181, 2) := by decide +kernel
theorem dX0_requireCostume_15 : decode cX0_requireCostume 15 = .ok (.invokespecial 178, 3) := by decide +kernel
theorem dX0_requireCostume_18 : decode cX0_requireCostume 18 = .ok (.athrow, 1) := by decide +kernel
theorem dX0_requireCostume_19 : decode cX0_requireCostume 19 = .ok (.return_, 1) := by decide +kernel
set_option maxRecDepth 20000 in
theorem ggX0_requireGuesser_X0_isWithin : GoodIn wsX0_requireGuesser wsX0_isWithin := goodIn_r _ [6] (by decide +kernel) (by decide +kernel)
set_option maxRecDepth 20000 in
theorem gX0_requireGuesser_X0_isWithin : GoodIn wsX0_requireGuesser (va_wsS RX0 171 yX0_isWithin wsX0_isWithin) := goodIn_app (goodIn_of _ (by decide +kernel)) ggX0_requireGuesser_X0_isWithin
theorem dX0_requireGuesser_0 : decode cX0_requireGuesser 0 = .ok (.iload_n 0, 1) := by decide +kernel
theorem dX0_requireGuesser_1 : decode cX0_requireGuesser 1 = .ok (.iconst 3, 1) := by decide +kernel
theorem dX0_requireGuesser_2 : decode cX0_requireGuesser 2 = .ok (.invokestatic 171, 3) := by decide +kernel
theorem dX0_requireGuesser_5 : decode cX0_requireGuesser 5 = .ok (.ifCond .ne 13, 3) := by decide +kernel
theorem dX0_requireGuesser_8 : decode cX0_requireGuesser 8 = .ok (.new 174, 3) := by decide +kernel
theorem dX0_requireGuesser_11 : decode cX0_requireGuesser 11 = .ok (.dup, 1) := by decide +kernel
theorem dX0_requireGuesser_12 : decode cX0_requireGuesser 12 = .ok (.ldc 183, 2) := by decide +kernel
theorem dX0_requireGuesser_14 : decode cX0_requireGuesser 14 = .ok (.invokespecial 178, 3) := by decide +kernel
theorem dX0_requireGuesser_17 : decode cX0_requireGuesser 17 = .ok (.athrow, 1) := by decide +kernel
theorem dX0_requireGuesser_18 : decode cX0_requireGuesser 18 = .ok (.return_, 1) := by decide +kernel
set_option maxRecDepth 20000 in
theorem ggX0_requireCue_X0_isWithin : GoodIn wsX0_requireCue wsX0_isWithin := goodIn_r _ [7] (by decide +kernel) (by decide +kernel)
set_option maxRecDepth 20000 in
theorem gX0_requireCue_X0_isWithin : GoodIn wsX0_requireCue (va_wsS RX0 171 yX0_isWithin wsX0_isWithin) := goodIn_app (goodIn_of _ (by decide +kernel)) ggX0_requireCue_X0_isWithin
theorem dX0_requireCue_0 : decode cX0_requireCue 0 = .ok (.iload_n 1, 1) := by decide +kernel
theorem dX0_requireCue_1 : decode cX0_requireCue 1 = .ok (.aload_n 0, 1) := by decide +kernel
theorem dX0_requireCue_2 : decode cX0_requireCue 2 = .ok (.getfield 104, 3) := by decide +kernel
theorem dX0_requireCue_5 : decode cX0_requireCue 5 = .ok (.invokestatic 171, 3) := by decide +kernel
theorem dX0_requireCue_8 : decode cX0_requireCue 8 = .ok (.ifCond .ne 13, 3) := by decide +kernel
theorem dX0_requireCue_11 : decode cX0_requireCue 11 = .ok (.new 174, 3) := by decide +kernel
theorem dX0_requireCue_14 : decode cX0_requireCue 14 = .ok (.dup, 1) := by decide +kernel
theorem dX0_requireCue_15 : decode cX0_requireCue 15 = .ok (.ldc 185, 2) := by decide +kernel
theorem dX0_requireCue_17 : decode cX0_requireCue 17 = .ok (.invokespecial 178, 3) := by decide +kernel
theorem dX0_requireCue_20 : decode cX0_requireCue 20 = .ok (.athrow, 1) := by decide +kernel
theorem dX0_requireCue_21 : decode cX0_requireCue 21 = .ok (.return_, 1) := by decide +kernel
set_option maxRecDepth 20000 in
theorem ggX0_requireOther_X0_requireMask : GoodIn wsX0_requireOther wsX0_requireMask := goodIn_ca (goodIn_r _ [4, 5, 6, 7, 8, 3, 9] (by decide +kernel) (by decide +kernel)) (goodIn_sub (fun _ h => List.mem_cons_of_mem _ (List.mem_append_right _ h)) (by decide +kernel))
set_option maxRecDepth 20000 in
theorem gX0_requireOther_X0_requireMask : GoodIn wsX0_requireOther (va_wsS RX0 138 yX0_requireMask wsX0_requireMask) := goodIn_app (goodIn_of _ (by decide +kernel)) ggX0_requireOther_X0_requireMask
set_option maxRecDepth 20000 in
theorem ggX0_requireOther_X0_requirePlayer : GoodIn wsX0_requireOther wsX0_requirePlayer := goodIn_ca (goodIn_r _ [12, 5, 6, 7, 8, 3, 9] (by decide +kernel) (by decide +kernel)) (goodIn_sub (fun _ h => List.mem_cons_of_mem _ (List.mem_append_right _ h)) (by decide +kernel))
set_option maxRecDepth 20000 in
theorem gX0_requireOther_X0_requirePlayer : GoodIn wsX0_requireOther (va_wsS RX0 60 yX0_requirePlayer wsX0_requirePlayer) := goodIn_app (goodIn_of _ (by decide +kernel)) ggX0_requireOther_X0_requirePlayer
theorem dX0_requireOther_0 : decode cX0_requireOther 0 = .ok (.iload_n 0, 1) := by decide +kernel
theorem dX0_requireOther_1 : decode cX0_requireOther 1 = .ok (.iconst 2, 1) := by decide +kernel
theorem dX0_requireOther_2 : decode cX0_requireOther 2 = .ok (.if_icmp .ne 10, 3) := by decide +kernel
theorem dX0_requireOther_5 : decode cX0_requireOther 5 = .ok (.iload_n 1, 1) := by decide +kernel
theorem dX0_requireOther_6 : decode cX0_requireOther 6 = .ok (.invokestatic 138, 3) := by decide +kernel
theorem dX0_requireOther_9 : decode cX0_requireOther 9 = .ok (.goto 12, 3) := by decide +kernel
theorem dX0_requireOther_12 : decode cX0_requireOther 12 = .ok (.iload_n 0, 1) := by decide +kernel
theorem dX0_requireOther_13 : decode cX0_requireOther 13 = .ok (.iconst 4, 1) := by decide +kernel
theorem dX0_requireOther_14 : decode cX0_requireOther 14 = .ok (.if_icmp .ne 7, 3) := by decide +kernel
theorem dX0_requireOther_17 : decode cX0_requireOther 17 = .ok (.iload_n 1, 1) := by decide +kernel
theorem dX0_requireOther_18 : decode cX0_requireOther 18 = .ok (.invokestatic 60, 3) := by decide +kernel
theorem dX0_requireOther_21 : decode cX0_requireOther 21 = .ok (.return_, 1) := by decide +kernel
theorem dX0_fits_0 : decode cX0_fits 0 = .ok (.iload_n 0, 1) := by decide +kernel
theorem dX0_fits_1 : decode cX0_fits 1 = .ok (.iconst 1, 1) := by decide +kernel
theorem dX0_fits_2 : decode cX0_fits 2 = .ok (.isub, 1) := by decide +kernel
theorem dX0_fits_3 : decode cX0_fits 3 = .ok (.istore_n 2, 1) := by decide +kernel
theorem dX0_fits_4 : decode cX0_fits 4 = .ok (.iload_n 2, 1) := by decide +kernel
theorem dX0_fits_5 : decode cX0_fits 5 = .ok (.iload_n 1, 1) := by decide +kernel
theorem dX0_fits_6 : decode cX0_fits 6 = .ok (.isub, 1) := by decide +kernel
theorem dX0_fits_7 : decode cX0_fits 7 = .ok (.invokestatic 187, 3) := by decide +kernel
theorem dX0_fits_10 : decode cX0_fits 10 = .ok (.iconst 1, 1) := by decide +kernel
theorem dX0_fits_11 : decode cX0_fits 11 = .ok (.if_icmp .gt 7, 3) := by decide +kernel
theorem dX0_fits_14 : decode cX0_fits 14 = .ok (.iconst 1, 1) := by decide +kernel
theorem dX0_fits_15 : decode cX0_fits 15 = .ok (.goto 4, 3) := by decide +kernel
theorem dX0_fits_18 : decode cX0_fits 18 = .ok (.iconst 0, 1) := by decide +kernel
theorem dX0_fits_19 : decode cX0_fits 19 = .ok (.ireturn, 1) := by decide +kernel
set_option maxRecDepth 20000 in
theorem ggX0_playerIn_X0_indexOf : GoodIn wsX0_playerIn wsX0_indexOf := goodIn_r _ [5] (by decide +kernel) (by decide +kernel)
set_option maxRecDepth 20000 in
theorem gX0_playerIn_X0_indexOf : GoodIn wsX0_playerIn (va_wsS RX0 190 yX0_indexOf wsX0_indexOf) := goodIn_app (goodIn_of _ (by decide +kernel)) ggX0_playerIn_X0_indexOf
theorem dX0_playerIn_0 : decode cX0_playerIn 0 = .ok (.iload_n 1, 1) := by decide +kernel
theorem dX0_playerIn_1 : decode cX0_playerIn 1 = .ok (.aload_n 0, 1) := by decide +kernel
theorem dX0_playerIn_2 : decode cX0_playerIn 2 = .ok (.getfield 9, 3) := by decide +kernel
theorem dX0_playerIn_5 : decode cX0_playerIn 5 = .ok (.invokestatic 190, 3) := by decide +kernel
theorem dX0_playerIn_8 : decode cX0_playerIn 8 = .ok (.ireturn, 1) := by decide +kernel
set_option maxRecDepth 20000 in
theorem ggX0_playerBehind_X0_indexOf : GoodIn wsX0_playerBehind wsX0_indexOf := goodIn_r _ [5] (by decide +kernel) (by decide +kernel)
set_option maxRecDepth 20000 in
theorem gX0_playerBehind_X0_indexOf : GoodIn wsX0_playerBehind (va_wsS RX0 190 yX0_indexOf wsX0_indexOf) := goodIn_app (goodIn_of _ (by decide +kernel)) ggX0_playerBehind_X0_indexOf
theorem dX0_playerBehind_0 : decode cX0_playerBehind 0 = .ok (.iload_n 1, 1) := by decide +kernel
theorem dX0_playerBehind_1 : decode cX0_playerBehind 1 = .ok (.aload_n 0, 1) := by decide +kernel
theorem dX0_playerBehind_2 : decode cX0_playerBehind 2 = .ok (.getfield 13, 3) := by decide +kernel
theorem dX0_playerBehind_5 : decode cX0_playerBehind 5 = .ok (.invokestatic 190, 3) := by decide +kernel
theorem dX0_playerBehind_8 : decode cX0_playerBehind 8 = .ok (.ireturn, 1) := by decide +kernel
theorem dX0_indexOf_0 : decode cX0_indexOf 0 = .ok (.iconst 0, 1) := by decide +kernel
theorem dX0_indexOf_1 : decode cX0_indexOf 1 = .ok (.istore_n 2, 1) := by decide +kernel
theorem dX0_indexOf_2 : decode cX0_indexOf 2 = .ok (.iload_n 2, 1) := by decide +kernel
theorem dX0_indexOf_3 : decode cX0_indexOf 3 = .ok (.aload_n 1, 1) := by decide +kernel
theorem dX0_indexOf_4 : decode cX0_indexOf 4 = .ok (.arraylength, 1) := by decide +kernel
theorem dX0_indexOf_5 : decode cX0_indexOf 5 = .ok (.if_icmp .ge 18, 3) := by decide +kernel
theorem dX0_indexOf_8 : decode cX0_indexOf 8 = .ok (.aload_n 1, 1) := by decide +kernel
theorem dX0_indexOf_9 : decode cX0_indexOf 9 = .ok (.iload_n 2, 1) := by decide +kernel
theorem dX0_indexOf_10 : decode cX0_indexOf 10 = .ok (.iaload, 1) := by decide +kernel
theorem dX0_indexOf_11 : decode cX0_indexOf 11 = .ok (.iload_n 0, 1) := by decide +kernel
theorem dX0_indexOf_12 : decode cX0_indexOf 12 = .ok (.if_icmp .ne 5, 3) := by decide +kernel
theorem dX0_indexOf_15 : decode cX0_indexOf 15 = .ok (.iload_n 2, 1) := by decide +kernel
theorem dX0_indexOf_16 : decode cX0_indexOf 16 = .ok (.ireturn, 1) := by decide +kernel
theorem dX0_indexOf_17 : decode cX0_indexOf 17 = .ok (.iinc 2 1, 3) := by decide +kernel
theorem dX0_indexOf_20 : decode cX0_indexOf 20 = .ok (.goto (-18), 3) := by decide +kernel
theorem dX0_indexOf_23 : decode cX0_indexOf 23 = .ok (.iconst (-1), 1) := by decide +kernel
theorem dX0_indexOf_24 : decode cX0_indexOf 24 = .ok (.ireturn, 1) := by decide +kernel
set_option maxRecDepth 20000 in
theorem ggX0_firstCallable_X0_isCallable : GoodIn wsX0_firstCallable wsX0_isCallable := goodIn_r _ [6, 7, 8, 9, 10, 5, 11, 12, 13, 14, 15, 16, 17, 18, 19, 20, 21, 22, 23, 24, 25, 26, 27, 28, 29, 30, 31, 32, 33, 34, 35, 36, 37, 38, 39, 40, 41, 42, 43, 44, 45, 46, 47, 48, 49, 50] (by decide +kernel) (by decide +kernel)
set_option maxRecDepth 20000 in
theorem gX0_firstCallable_X0_isCallable : GoodIn wsX0_firstCallable (wsV RX0 113 RX0 yX0_isCallable wsX0_isCallable) := goodIn_app (goodIn_of _ (by decide +kernel)) ggX0_firstCallable_X0_isCallable
theorem dX0_firstCallable_0 : decode cX0_firstCallable 0 = .ok (.iconst 0, 1) := by decide +kernel
theorem dX0_firstCallable_1 : decode cX0_firstCallable 1 = .ok (.istore_n 1, 1) := by decide +kernel
theorem dX0_firstCallable_2 : decode cX0_firstCallable 2 = .ok (.iload_n 1, 1) := by decide +kernel
theorem dX0_firstCallable_3 : decode cX0_firstCallable 3 = .ok (.aload_n 0, 1) := by decide +kernel
theorem dX0_firstCallable_4 : decode cX0_firstCallable 4 = .ok (.getfield 104, 3) := by decide +kernel
theorem dX0_firstCallable_7 : decode cX0_firstCallable 7 = .ok (.if_icmp .ge 19, 3) := by decide +kernel
theorem dX0_firstCallable_10 : decode cX0_firstCallable 10 = .ok (.aload_n 0, 1) := by decide +kernel
theorem dX0_firstCallable_11 : decode cX0_firstCallable 11 = .ok (.iload_n 1, 1) := by decide +kernel
theorem dX0_firstCallable_12 : decode cX0_firstCallable 12 = .ok (.invokevirtual 113, 3) := by decide +kernel
theorem dX0_firstCallable_15 : decode cX0_firstCallable 15 = .ok (.ifCond .eq 5, 3) := by decide +kernel
theorem dX0_firstCallable_18 : decode cX0_firstCallable 18 = .ok (.iload_n 1, 1) := by decide +kernel
theorem dX0_firstCallable_19 : decode cX0_firstCallable 19 = .ok (.ireturn, 1) := by decide +kernel
theorem dX0_firstCallable_20 : decode cX0_firstCallable 20 = .ok (.iinc 1 1, 3) := by decide +kernel
theorem dX0_firstCallable_23 : decode cX0_firstCallable 23 = .ok (.goto (-21), 3) := by decide +kernel
theorem dX0_firstCallable_26 : decode cX0_firstCallable 26 = .ok (.iconst (-1), 1) := by decide +kernel
theorem dX0_firstCallable_27 : decode cX0_firstCallable 27 = .ok (.ireturn, 1) := by decide +kernel
set_option maxRecDepth 20000 in
theorem ggX0_isCallable_X0_isReleased : GoodIn wsX0_isCallable wsX0_isReleased := goodIn_r _ [6, 7, 1, 29, 30, 31, 32, 33, 34, 35, 36, 37, 38, 39, 40, 41, 42, 43, 44, 45] (by decide +kernel) (by decide +kernel)
set_option maxRecDepth 20000 in
theorem gX0_isCallable_X0_isReleased : GoodIn wsX0_isCallable (wsV RX0 194 RX0 yX0_isReleased wsX0_isReleased) := goodIn_app (goodIn_of _ (by decide +kernel)) ggX0_isCallable_X0_isReleased
set_option maxRecDepth 20000 in
theorem ggX0_isCallable_X0_canBeDone : GoodIn wsX0_isCallable wsX0_canBeDone := goodIn_r _ [11, 12, 13, 14, 15, 16, 17, 18, 19, 20, 5, 21, 22, 23, 24, 25, 26, 27, 28, 29, 30, 31, 32, 33, 34, 35, 36, 37, 38, 39, 40, 41, 42, 43, 44, 45] (by decide +kernel) (by decide +kernel)
set_option maxRecDepth 20000 in
theorem gX0_isCallable_X0_canBeDone : GoodIn wsX0_isCallable (wsV RX0 197 RX0 yX0_canBeDone wsX0_canBeDone) := goodIn_app (goodIn_of _ (by decide +kernel)) ggX0_isCallable_X0_canBeDone
theorem dX0_isCallable_0 : decode cX0_isCallable 0 = .ok (.aload_n 0, 1) := by decide +kernel
theorem dX0_isCallable_1 : decode cX0_isCallable 1 = .ok (.getfield 35, 3) := by decide +kernel
theorem dX0_isCallable_4 : decode cX0_isCallable 4 = .ok (.iload_n 1, 1) := by decide +kernel
theorem dX0_isCallable_5 : decode cX0_isCallable 5 = .ok (.iaload, 1) := by decide +kernel
theorem dX0_isCallable_6 : decode cX0_isCallable 6 = .ok (.ifCond .ne 23, 3) := by decide +kernel
theorem dX0_isCallable_9 : decode cX0_isCallable 9 = .ok (.aload_n 0, 1) := by decide +kernel
theorem dX0_isCallable_10 : decode cX0_isCallable 10 = .ok (.iload_n 1, 1) := by decide +kernel
theorem dX0_isCallable_11 : decode cX0_isCallable 11 = .ok (.invokevirtual 194, 3) := by decide +kernel
theorem dX0_isCallable_14 : decode cX0_isCallable 14 = .ok (.ifCond .eq 15, 3) := by decide +kernel
theorem dX0_isCallable_17 : decode cX0_isCallable 17 = .ok (.aload_n 0, 1) := by decide +kernel
theorem dX0_isCallable_18 : decode cX0_isCallable 18 = .ok (.iload_n 1, 1) := by decide +kernel
theorem dX0_isCallable_19 : decode cX0_isCallable 19 = .ok (.invokevirtual 197, 3) := by decide +kernel
theorem dX0_isCallable_22 : decode cX0_isCallable 22 = .ok (.ifCond .eq 7, 3) := by decide +kernel
theorem dX0_isCallable_25 : decode cX0_isCallable 25 = .ok (.iconst 1, 1) := by decide +kernel
theorem dX0_isCallable_26 : decode cX0_isCallable 26 = .ok (.goto 4, 3) := by decide +kernel
theorem dX0_isCallable_29 : decode cX0_isCallable 29 = .ok (.iconst 0, 1) := by decide +kernel
theorem dX0_isCallable_30 : decode cX0_isCallable 30 = .ok (.ireturn, 1) := by decide +kernel
theorem dX0_isReleased_0 : decode cX0_isReleased 0 = .ok (.aload_n 0, 1) := by decide +kernel
theorem dX0_isReleased_1 : decode cX0_isReleased 1 = .ok (.getfield 32, 3) := by decide +kernel
theorem dX0_isReleased_4 : decode cX0_isReleased 4 = .ok (.iload_n 1, 1) := by decide +kernel
theorem dX0_isReleased_5 : decode cX0_isReleased 5 = .ok (.iaload, 1) := by decide +kernel
theorem dX0_isReleased_6 : decode cX0_isReleased 6 = .ok (.istore_n 2, 1) := by decide +kernel
theorem dX0_isReleased_7 : decode cX0_isReleased 7 = .ok (.iload_n 2, 1) := by decide +kernel
theorem dX0_isReleased_8 : decode cX0_isReleased 8 = .ok (.iconst (-1), 1) := by decide +kernel
theorem dX0_isReleased_9 : decode cX0_isReleased 9 = .ok (.if_icmp .eq 13, 3) := by decide +kernel
theorem dX0_isReleased_12 : decode cX0_isReleased 12 = .ok (.aload_n 0, 1) := by decide +kernel
theorem dX0_isReleased_13 : decode cX0_isReleased 13 = .ok (.getfield 35, 3) := by decide +kernel
theorem dX0_isReleased_16 : decode cX0_isReleased 16 = .ok (.iload_n 2, 1) := by decide +kernel
theorem dX0_isReleased_17 : decode cX0_isReleased 17 = .ok (.iaload, 1) := by decide +kernel
theorem dX0_isReleased_18 : decode cX0_isReleased 18 = .ok (.iconst 1, 1) := by decide +kernel
theorem dX0_isReleased_19 : decode cX0_isReleased 19 = .ok (.if_icmp .ne 7, 3) := by decide +kernel
theorem dX0_isReleased_22 : decode cX0_isReleased 22 = .ok (.iconst 1, 1) := by decide +kernel
theorem dX0_isReleased_23 : decode cX0_isReleased 23 = .ok (.goto 4, 3) := by decide +kernel
theorem dX0_isReleased_26 : decode cX0_isReleased 26 = .ok (.iconst 0, 1) := by decide +kernel
theorem dX0_isReleased_27 : decode cX0_isReleased 27 = .ok (.ireturn, 1) := by decide +kernel
theorem dX0_waitsForMissed_0 : decode cX0_waitsForMissed 0 = .ok (.aload_n 0, 1) := by decide +kernel
theorem dX0_waitsForMissed_1 : decode cX0_waitsForMissed 1 = .ok (.getfield 32, 3) := by decide +kernel
theorem dX0_waitsForMissed_4 : decode cX0_waitsForMissed 4 = .ok (.iload_n 1, 1) := by decide +kernel
theorem dX0_waitsForMissed_5 : decode cX0_waitsForMissed 5 = .ok (.iaload, 1) := by decide +kernel
theorem dX0_waitsForMissed_6 : decode cX0_waitsForMissed 6 = .ok (.istore_n 2, 1) := by decide +kernel
theorem dX0_waitsForMissed_7 : decode cX0_waitsForMissed 7 = .ok (.iload_n 2, 1) := by decide +kernel
theorem dX0_waitsForMissed_8 : decode cX0_waitsForMissed 8 = .ok (.iconst (-1), 1) := by decide +kernel
theorem dX0_waitsForMissed_9 : decode cX0_waitsForMissed 9 = .ok (.if_icmp .eq 17, 3) := by decide +kernel
theorem dX0_waitsForMissed_12 : decode cX0_waitsForMissed 12 = .ok (.aload_n 0, 1) := by decide +kernel
theorem dX0_waitsForMissed_13 : decode cX0_waitsForMissed 13 = .ok (.getfield 35, 3) := by decide +kernel
theorem dX0_waitsForMissed_16 : decode cX0_waitsForMissed 16 = .ok (.iload_n 2, 1) := by decide +kernel
theorem dX0_waitsForMissed_17 : decode cX0_waitsForMissed 17 = .ok (.iaload, 1) := by decide +kernel
theorem dX0_waitsForMissed_18 : decode cX0_waitsForMissed 18 = .ok (.iconst 2, 1) := by decide +kernel
theorem dX0_waitsForMissed_19 : decode cX0_waitsForMissed 19 = .ok (.if_icmp .ne 7, 3) := by decide +kernel
theorem dX0_waitsForMissed_22 : decode cX0_waitsForMissed 22 = .ok (.iconst 1, 1) := by decide +kernel
theorem dX0_waitsForMissed_23 : decode cX0_waitsForMissed 23 = .ok (.goto 4, 3) := by decide +kernel
theorem dX0_waitsForMissed_26 : decode cX0_waitsForMissed 26 = .ok (.iconst 0, 1) := by decide +kernel
theorem dX0_waitsForMissed_27 : decode cX0_waitsForMissed 27 = .ok (.ireturn, 1) := by decide +kernel
set_option maxRecDepth 20000 in
theorem ggX0_canBeDone_X0_playerBehind : GoodIn wsX0_canBeDone wsX0_playerBehind := goodIn_r _ [11, 6, 12, 13, 10, 14, 19, 20, 21, 22, 23, 24, 25, 26, 27, 28, 29, 30, 31, 32, 33, 34, 35] (by decide +kernel) (by decide +kernel)
set_option maxRecDepth 20000 in
theorem gX0_canBeDone_X0_playerBehind : GoodIn wsX0_canBeDone (wsV RX0 141 RX0 yX0_playerBehind wsX0_playerBehind) := goodIn_app (goodIn_of _ (by decide +kernel)) ggX0_canBeDone_X0_playerBehind
set_option maxRecDepth 20000 in
theorem ggX0_canBeDone_X0_canSwap : GoodIn wsX0_canBeDone wsX0_canSwap := goodIn_r _ [18, 4, 6, 19, 20, 21, 22, 23, 24, 25, 26, 27, 28, 29, 30, 31, 32, 33, 34, 35] (by decide +kernel) (by decide +kernel)
set_option maxRecDepth 20000 in
theorem gX0_canBeDone_X0_canSwap : GoodIn wsX0_canBeDone (wsV RX0 200 RX0 yX0_canSwap wsX0_canSwap) := goodIn_app (goodIn_of _ (by decide +kernel)) ggX0_canBeDone_X0_canSwap
theorem dX0_canBeDone_0 : decode cX0_canBeDone 0 = .ok (.aload_n 0, 1) := by decide +kernel
theorem dX0_canBeDone_1 : decode cX0_canBeDone 1 = .ok (.getfield 26, 3) := by decide +kernel
theorem dX0_canBeDone_4 : decode cX0_canBeDone 4 = .ok (.iload_n 1, 1) := by decide +kernel
theorem dX0_canBeDone_5 : decode cX0_canBeDone 5 = .ok (.iaload, 1) := by decide +kernel
theorem dX0_canBeDone_6 : decode cX0_canBeDone 6 = .ok (.istore_n 2, 1) := by decide +kernel
theorem dX0_canBeDone_7 : decode cX0_canBeDone 7 = .ok (.aload_n 0, 1) := by decide +kernel
theorem dX0_canBeDone_8 : decode cX0_canBeDone 8 = .ok (.getfield 29, 3) := by decide +kernel
theorem dX0_canBeDone_11 : decode cX0_canBeDone 11 = .ok (.iload_n 1, 1) := by decide +kernel
theorem dX0_canBeDone_12 : decode cX0_canBeDone 12 = .ok (.iaload, 1) := by decide +kernel
theorem dX0_canBeDone_13 : decode cX0_canBeDone 13 = .ok (.istore_n 3, 1) := by decide +kernel
theorem dX0_canBeDone_14 : decode cX0_canBeDone 14 = .ok (.aload_n 0, 1) := by decide +kernel
theorem dX0_canBeDone_15 : decode cX0_canBeDone 15 = .ok (.getfield 23, 3) := by decide +kernel
theorem dX0_canBeDone_18 : decode cX0_canBeDone 18 = .ok (.iload_n 1, 1) := by decide +kernel
theorem dX0_canBeDone_19 : decode cX0_canBeDone 19 = .ok (.iaload, 1) := by decide +kernel
theorem dX0_canBeDone_20 : decode cX0_canBeDone 20 = .ok (.tableswitch 105 0 3 #[32, 57, 64, 89], 32) := by decide +kernel
theorem dX0_canBeDone_52 : decode cX0_canBeDone 52 = .ok (.aload_n 0, 1) := by decide +kernel
theorem dX0_canBeDone_53 : decode cX0_canBeDone 53 = .ok (.getfield 16, 3) := by decide +kernel
theorem dX0_canBeDone_56 : decode cX0_canBeDone 56 = .ok (.iload_n 2, 1) := by decide +kernel
theorem dX0_canBeDone_57 : decode cX0_canBeDone 57 = .ok (.baload, 1) := by decide +kernel
theorem dX0_canBeDone_58 : decode cX0_canBeDone 58 = .ok (.ifCond .ne 17, 3) := by decide +kernel
theorem dX0_canBeDone_61 : decode cX0_canBeDone 61 = .ok (.aload_n 0, 1) := by decide +kernel
theorem dX0_canBeDone_62 : decode cX0_canBeDone 62 = .ok (.getfield 9, 3) := by decide +kernel
theorem dX0_canBeDone_65 : decode cX0_canBeDone 65 = .ok (.iload_n 2, 1) := by decide +kernel
theorem dX0_canBeDone_66 : decode cX0_canBeDone 66 = .ok (.iaload, 1) := by decide +kernel
theorem dX0_canBeDone_67 : decode cX0_canBeDone 67 = .ok (.iconst (-1), 1) := by decide +kernel
theorem dX0_canBeDone_68 : decode cX0_canBeDone 68 = .ok (.if_icmp .eq 7, 3) := by decide +kernel
theorem dX0_canBeDone_71 : decode cX0_canBeDone 71 = .ok (.iconst 1, 1) := by decide +kernel
theorem dX0_canBeDone_72 : decode cX0_canBeDone 72 = .ok (.goto 4, 3) := by decide +kernel
theorem dX0_canBeDone_75 : decode cX0_canBeDone 75 = .ok (.iconst 0, 1) := by decide +kernel
theorem dX0_canBeDone_76 : decode cX0_canBeDone 76 = .ok (.ireturn, 1) := by decide +kernel
theorem dX0_canBeDone_77 : decode cX0_canBeDone 77 = .ok (.aload_n 0, 1) := by decide +kernel
theorem dX0_canBeDone_78 : decode cX0_canBeDone 78 = .ok (.getfield 16, 3) := by decide +kernel
theorem dX0_canBeDone_81 : decode cX0_canBeDone 81 = .ok (.iload_n 2, 1) := by decide +kernel
theorem dX0_canBeDone_82 : decode cX0_canBeDone 82 = .ok (.baload, 1) := by decide +kernel
theorem dX0_canBeDone_83 : decode cX0_canBeDone 83 = .ok (.ireturn, 1) := by decide +kernel
theorem dX0_canBeDone_84 : decode cX0_canBeDone 84 = .ok (.aload_n 0, 1) := by decide +kernel
theorem dX0_canBeDone_85 : decode cX0_canBeDone 85 = .ok (.getfield 13, 3) := by decide +kernel
theorem dX0_canBeDone_88 : decode cX0_canBeDone 88 = .ok (.iload_n 2, 1) := by decide +kernel
theorem dX0_canBeDone_89 : decode cX0_canBeDone 89 = .ok (.iaload, 1) := by decide +kernel
theorem dX0_canBeDone_90 : decode cX0_canBeDone 90 = .ok (.iconst (-1), 1) := by decide +kernel
theorem dX0_canBeDone_91 : decode cX0_canBeDone 91 = .ok (.if_icmp .ne 16, 3) := by decide +kernel
theorem dX0_canBeDone_94 : decode cX0_canBeDone 94 = .ok (.aload_n 0, 1) := by decide +kernel
theorem dX0_canBeDone_95 : decode cX0_canBeDone 95 = .ok (.iload_n 3, 1) := by decide +kernel
theorem dX0_canBeDone_96 : decode cX0_canBeDone 96 = .ok (.invokevirtual 141, 3) := by decide +kernel
theorem dX0_canBeDone_99 : decode cX0_canBeDone 99 = .ok (.iconst (-1), 1) := by decide +kernel
theorem dX0_canBeDone_100 : decode cX0_canBeDone 100 = .ok (.if_icmp .ne 7, 3) := by decide +kernel
theorem dX0_canBeDone_103 : decode cX0_canBeDone 103 = .ok (.iconst 1, 1) := by decide +kernel
theorem dX0_canBeDone_104 : decode cX0_canBeDone 104 = .ok (.goto 4, 3) := by decide +kernel
theorem dX0_canBeDone_107 : decode cX0_canBeDone 107 = .ok (.iconst 0, 1) := by decide +kernel
theorem dX0_canBeDone_108 : decode cX0_canBeDone 108 = .ok (.ireturn, 1) := by decide +kernel
theorem dX0_canBeDone_109 : decode cX0_canBeDone 109 = .ok (.aload_n 0, 1) := by decide +kernel
theorem dX0_canBeDone_110 : decode cX0_canBeDone 110 = .ok (.getfield 13, 3) := by decide +kernel
theorem dX0_canBeDone_113 : decode cX0_canBeDone 113 = .ok (.iload_n 2, 1) := by decide +kernel
theorem dX0_canBeDone_114 : decode cX0_canBeDone 114 = .ok (.iaload, 1) := by decide +kernel
theorem dX0_canBeDone_115 : decode cX0_canBeDone 115 = .ok (.iconst (-1), 1) := by decide +kernel
theorem dX0_canBeDone_116 : decode cX0_canBeDone 116 = .ok (.if_icmp .eq 7, 3) := by decide +kernel
theorem dX0_canBeDone_119 : decode cX0_canBeDone 119 = .ok (.iconst 1, 1) := by decide +kernel
theorem dX0_canBeDone_120 : decode cX0_canBeDone 120 = .ok (.goto 4, 3) := by decide +kernel
theorem dX0_canBeDone_123 : decode cX0_canBeDone 123 = .ok (.iconst 0, 1) := by decide +kernel
theorem dX0_canBeDone_124 : decode cX0_canBeDone 124 = .ok (.ireturn, 1) := by decide +kernel
theorem dX0_canBeDone_125 : decode cX0_canBeDone 125 = .ok (.aload_n 0, 1) := by decide +kernel
theorem dX0_canBeDone_126 : decode cX0_canBeDone 126 = .ok (.iload_n 2, 1) := by decide +kernel
theorem dX0_canBeDone_127 : decode cX0_canBeDone 127 = .ok (.iload_n 3, 1) := by decide +kernel
theorem dX0_canBeDone_128 : decode cX0_canBeDone 128 = .ok (.invokevirtual 200, 3) := by decide +kernel
theorem dX0_canBeDone_131 : decode cX0_canBeDone 131 = .ok (.ireturn, 1) := by decide +kernel
theorem dX0_canSwap_0 : decode cX0_canSwap 0 = .ok (.aload_n 0, 1) := by decide +kernel
theorem dX0_canSwap_1 : decode cX0_canSwap 1 = .ok (.getfield 16, 3) := by decide +kernel
theorem dX0_canSwap_4 : decode cX0_canSwap 4 = .ok (.iload_n 1, 1) := by decide +kernel
theorem dX0_canSwap_5 : decode cX0_canSwap 5 = .ok (.baload, 1) := by decide +kernel
theorem dX0_canSwap_6 : decode cX0_canSwap 6 = .ok (.ifCond .eq 16, 3) := by decide +kernel
theorem dX0_canSwap_9 : decode cX0_canSwap 9 = .ok (.aload_n 0, 1) := by decide +kernel
theorem dX0_canSwap_10 : decode cX0_canSwap 10 = .ok (.getfield 16, 3) := by decide +kernel
theorem dX0_canSwap_13 : decode cX0_canSwap 13 = .ok (.iload_n 2, 1) := by decide +kernel
theorem dX0_canSwap_14 : decode cX0_canSwap 14 = .ok (.baload, 1) := by decide +kernel
theorem dX0_canSwap_15 : decode cX0_canSwap 15 = .ok (.ifCond .eq 7, 3) := by decide +kernel
theorem dX0_canSwap_18 : decode cX0_canSwap 18 = .ok (.iconst 1, 1) := by decide +kernel
theorem dX0_canSwap_19 : decode cX0_canSwap 19 = .ok (.goto 4, 3) := by decide +kernel
theorem dX0_canSwap_22 : decode cX0_canSwap 22 = .ok (.iconst 0, 1) := by decide +kernel
theorem dX0_canSwap_23 : decode cX0_canSwap 23 = .ok (.istore_n 3, 1) := by decide +kernel
theorem dX0_canSwap_24 : decode cX0_canSwap 24 = .ok (.iload_n 3, 1) := by decide +kernel
theorem dX0_canSwap_25 : decode cX0_canSwap 25 = .ok (.ifCond .eq 27, 3) := by decide +kernel
theorem dX0_canSwap_28 : decode cX0_canSwap 28 = .ok (.aload_n 0, 1) := by decide +kernel
theorem dX0_canSwap_29 : decode cX0_canSwap 29 = .ok (.getfield 13, 3) := by decide +kernel
theorem dX0_canSwap_32 : decode cX0_canSwap 32 = .ok (.iload_n 1, 1) := by decide +kernel
theorem dX0_canSwap_33 : decode cX0_canSwap 33 = .ok (.iaload, 1) := by decide +kernel
theorem dX0_canSwap_34 : decode cX0_canSwap 34 = .ok (.iconst (-1), 1) := by decide +kernel
theorem dX0_canSwap_35 : decode cX0_canSwap 35 = .ok (.if_icmp .ne 13, 3) := by decide +kernel
theorem dX0_canSwap_38 : decode cX0_canSwap 38 = .ok (.aload_n 0, 1) := by decide +kernel
theorem dX0_canSwap_39 : decode cX0_canSwap 39 = .ok (.getfield 13, 3) := by decide +kernel
theorem dX0_canSwap_42 : decode cX0_canSwap 42 = .ok (.iload_n 2, 1) := by decide +kernel
theorem dX0_canSwap_43 : decode cX0_canSwap 43 = .ok (.iaload, 1) := by decide +kernel
theorem dX0_canSwap_44 : decode cX0_canSwap 44 = .ok (.iconst (-1), 1) := by decide +kernel
theorem dX0_canSwap_45 : decode cX0_canSwap 45 = .ok (.if_icmp .eq 7, 3) := by decide +kernel
theorem dX0_canSwap_48 : decode cX0_canSwap 48 = .ok (.iconst 1, 1) := by decide +kernel
theorem dX0_canSwap_49 : decode cX0_canSwap 49 = .ok (.goto 4, 3) := by decide +kernel
theorem dX0_canSwap_52 : decode cX0_canSwap 52 = .ok (.iconst 0, 1) := by decide +kernel
theorem dX0_canSwap_53 : decode cX0_canSwap 53 = .ok (.ireturn, 1) := by decide +kernel
set_option maxRecDepth 20000 in
theorem ggX0_carryOut_X0_leaveStage : GoodIn wsX0_carryOut wsX0_leaveStage := goodIn_r _ [10, 3, 11, 12, 24, 25, 26, 27, 28, 29, 30, 31, 32, 33, 34, 35, 36, 37, 38, 39, 40] (by decide +kernel) (by decide +kernel)
set_option maxRecDepth 20000 in
theorem gX0_carryOut_X0_leaveStage : GoodIn wsX0_carryOut (wsV RX0 203 RX0 yX0_leaveStage wsX0_leaveStage) := goodIn_app (goodIn_of _ (by decide +kernel)) ggX0_carryOut_X0_leaveStage
set_option maxRecDepth 20000 in
theorem ggX0_carryOut_X0_moveMasks : GoodIn wsX0_carryOut wsX0_moveMasks := goodIn_r _ [16, 1, 17, 2, 24, 25, 26, 27, 28, 29, 30, 31, 32, 33, 34, 35, 36, 37, 38, 39, 40] (by decide +kernel) (by decide +kernel)
set_option maxRecDepth 20000 in
theorem gX0_carryOut_X0_moveMasks : GoodIn wsX0_carryOut (wsV RX0 134 RX0 yX0_moveMasks wsX0_moveMasks) := goodIn_app (goodIn_of _ (by decide +kernel)) ggX0_carryOut_X0_moveMasks
set_option maxRecDepth 20000 in
theorem ggX0_carryOut_X0_noteCalled : GoodIn wsX0_carryOut wsX0_noteCalled := goodIn_r _ [21, 22, 23, 24, 25, 26, 27, 28, 29, 30, 31, 32, 33, 34, 35, 36, 37, 38, 39, 40] (by decide +kernel) (by decide +kernel)
set_option maxRecDepth 20000 in
theorem gX0_carryOut_X0_noteCalled : GoodIn wsX0_carryOut (wsV RX0 206 RX0 yX0_noteCalled wsX0_noteCalled) := goodIn_app (goodIn_of _ (by decide +kernel)) ggX0_carryOut_X0_noteCalled
theorem dX0_carryOut_0 : decode cX0_carryOut 0 = .ok (.aload_n 0, 1) := by decide +kernel
theorem dX0_carryOut_1 : decode cX0_carryOut 1 = .ok (.getfield 26, 3) := by decide +kernel
theorem dX0_carryOut_4 : decode cX0_carryOut 4 = .ok (.iload_n 1, 1) := by decide +kernel
theorem dX0_carryOut_5 : decode cX0_carryOut 5 = .ok (.iaload, 1) := by decide +kernel
theorem dX0_carryOut_6 : decode cX0_carryOut 6 = .ok (.istore_n 2, 1) := by decide +kernel
theorem dX0_carryOut_7 : decode cX0_carryOut 7 = .ok (.aload_n 0, 1) := by decide +kernel
theorem dX0_carryOut_8 : decode cX0_carryOut 8 = .ok (.getfield 23, 3) := by decide +kernel
theorem dX0_carryOut_11 : decode cX0_carryOut 11 = .ok (.iload_n 1, 1) := by decide +kernel
theorem dX0_carryOut_12 : decode cX0_carryOut 12 = .ok (.iaload, 1) := by decide +kernel
theorem dX0_carryOut_13 : decode cX0_carryOut 13 = .ok (.ifCond .ne 13, 3) := by decide +kernel
theorem dX0_carryOut_16 : decode cX0_carryOut 16 = .ok (.aload_n 0, 1) := by decide +kernel
theorem dX0_carryOut_17 : decode cX0_carryOut 17 = .ok (.getfield 16, 3) := by decide +kernel
theorem dX0_carryOut_20 : decode cX0_carryOut 20 = .ok (.iload_n 2, 1) := by decide +kernel
theorem dX0_carryOut_21 : decode cX0_carryOut 21 = .ok (.iconst 1, 1) := by decide +kernel
theorem dX0_carryOut_22 : decode cX0_carryOut 22 = .ok (.bastore, 1) := by decide +kernel
theorem dX0_carryOut_23 : decode cX0_carryOut 23 = .ok (.goto 30, 3) := by decide +kernel
theorem dX0_carryOut_26 : decode cX0_carryOut 26 = .ok (.aload_n 0, 1) := by decide +kernel
theorem dX0_carryOut_27 : decode cX0_carryOut 27 = .ok (.getfield 23, 3) := by decide +kernel
theorem dX0_carryOut_30 : decode cX0_carryOut 30 = .ok (.iload_n 1, 1) := by decide +kernel
theorem dX0_carryOut_31 : decode cX0_carryOut 31 = .ok (.iaload, 1) := by decide +kernel
theorem dX0_carryOut_32 : decode cX0_carryOut 32 = .ok (.iconst 1, 1) := by decide +kernel
theorem dX0_carryOut_33 : decode cX0_carryOut 33 = .ok (.if_icmp .ne 11, 3) := by decide +kernel
theorem dX0_carryOut_36 : decode cX0_carryOut 36 = .ok (.aload_n 0, 1) := by decide +kernel
theorem dX0_carryOut_37 : decode cX0_carryOut 37 = .ok (.iload_n 2, 1) := by decide +kernel
theorem dX0_carryOut_38 : decode cX0_carryOut 38 = .ok (.invokevirtual 203, 3) := by decide +kernel
theorem dX0_carryOut_41 : decode cX0_carryOut 41 = .ok (.goto 12, 3) := by decide +kernel
theorem dX0_carryOut_44 : decode cX0_carryOut 44 = .ok (.aload_n 0, 1) := by decide +kernel
theorem dX0_carryOut_45 : decode cX0_carryOut 45 = .ok (.iload_n 1, 1) := by decide +kernel
theorem dX0_carryOut_46 : decode cX0_carryOut 46 = .ok (.aload_n 0, 1) := by decide +kernel
theorem dX0_carryOut_47 : decode cX0_carryOut 47 = .ok (.getfield 13, 3) := by decide +kernel
theorem dX0_carryOut_50 : decode cX0_carryOut 50 = .ok (.invokevirtual 134, 3) := by decide +kernel
theorem dX0_carryOut_53 : decode cX0_carryOut 53 = .ok (.aload_n 0, 1) := by decide +kernel
theorem dX0_carryOut_54 : decode cX0_carryOut 54 = .ok (.getfield 35, 3) := by decide +kernel
theorem dX0_carryOut_57 : decode cX0_carryOut 57 = .ok (.iload_n 1, 1) := by decide +kernel
theorem dX0_carryOut_58 : decode cX0_carryOut 58 = .ok (.iconst 1, 1) := by decide +kernel
theorem dX0_carryOut_59 : decode cX0_carryOut 59 = .ok (.iastore, 1) := by decide +kernel
theorem dX0_carryOut_60 : decode cX0_carryOut 60 = .ok (.aload_n 0, 1) := by decide +kernel
theorem dX0_carryOut_61 : decode cX0_carryOut 61 = .ok (.iload_n 1, 1) := by decide +kernel
theorem dX0_carryOut_62 : decode cX0_carryOut 62 = .ok (.invokevirtual 206, 3) := by decide +kernel
theorem dX0_carryOut_65 : decode cX0_carryOut 65 = .ok (.return_, 1) := by decide +kernel
theorem dX0_noteCalled_0 : decode cX0_noteCalled 0 = .ok (.aload_n 0, 1) := by decide +kernel
theorem dX0_noteCalled_1 : decode cX0_noteCalled 1 = .ok (.getfield 122, 3) := by decide +kernel
theorem dX0_noteCalled_4 : decode cX0_noteCalled 4 = .ok (.aload_n 0, 1) := by decide +kernel
theorem dX0_noteCalled_5 : decode cX0_noteCalled 5 = .ok (.getfield 38, 3) := by decide +kernel
theorem dX0_noteCalled_8 : decode cX0_noteCalled 8 = .ok (.arraylength, 1) := by decide +kernel
theorem dX0_noteCalled_9 : decode cX0_noteCalled 9 = .ok (.if_icmp .ge 23, 3) := by decide +kernel
theorem dX0_noteCalled_12 : decode cX0_noteCalled 12 = .ok (.aload_n 0, 1) := by decide +kernel
theorem dX0_noteCalled_13 : decode cX0_noteCalled 13 = .ok (.getfield 38, 3) := by decide +kernel
theorem dX0_noteCalled_16 : decode cX0_noteCalled 16 = .ok (.aload_n 0, 1) := by decide +kernel
theorem dX0_noteCalled_17 : decode cX0_noteCalled 17 = .ok (.getfield 122, 3) := by decide +kernel
theorem dX0_noteCalled_20 : decode cX0_noteCalled 20 = .ok (.iload_n 1, 1) := by decide +kernel
theorem dX0_noteCalled_21 : decode cX0_noteCalled 21 = .ok (.iastore, 1) := by decide +kernel
theorem dX0_noteCalled_22 : decode cX0_noteCalled 22 = .ok (.aload_n 0, 1) := by decide +kernel
theorem dX0_noteCalled_23 : decode cX0_noteCalled 23 = .ok (.dup, 1) := by decide +kernel
theorem dX0_noteCalled_24 : decode cX0_noteCalled 24 = .ok (.getfield 122, 3) := by decide +kernel
theorem dX0_noteCalled_27 : decode cX0_noteCalled 27 = .ok (.iconst 1, 1) := by decide +kernel
theorem dX0_noteCalled_28 : decode cX0_noteCalled 28 = .ok (.iadd, 1) := by decide +kernel
theorem dX0_noteCalled_29 : decode cX0_noteCalled 29 = .ok (.putfield 122, 3) := by decide +kernel
theorem dX0_noteCalled_32 : decode cX0_noteCalled 32 = .ok (.return_, 1) := by decide +kernel
theorem dX0_leaveStage_0 : decode cX0_leaveStage 0 = .ok (.aload_n 0, 1) := by decide +kernel
theorem dX0_leaveStage_1 : decode cX0_leaveStage 1 = .ok (.getfield 16, 3) := by decide +kernel
theorem dX0_leaveStage_4 : decode cX0_leaveStage 4 = .ok (.iload_n 1, 1) := by decide +kernel
theorem dX0_leaveStage_5 : decode cX0_leaveStage 5 = .ok (.iconst 0, 1) := by decide +kernel
theorem dX0_leaveStage_6 : decode cX0_leaveStage 6 = .ok (.bastore, 1) := by decide +kernel
theorem dX0_leaveStage_7 : decode cX0_leaveStage 7 = .ok (.aload_n 0, 1) := by decide +kernel
theorem dX0_leaveStage_8 : decode cX0_leaveStage 8 = .ok (.getfield 9, 3) := by decide +kernel
theorem dX0_leaveStage_11 : decode cX0_leaveStage 11 = .ok (.iload_n 1, 1) := by decide +kernel
theorem dX0_leaveStage_12 : decode cX0_leaveStage 12 = .ok (.iaload, 1) := by decide +kernel
theorem dX0_leaveStage_13 : decode cX0_leaveStage 13 = .ok (.istore_n 2, 1) := by decide +kernel
theorem dX0_leaveStage_14 : decode cX0_leaveStage 14 = .ok (.iload_n 2, 1) := by decide +kernel
theorem dX0_leaveStage_15 : decode cX0_leaveStage 15 = .ok (.iconst (-1), 1) := by decide +kernel
theorem dX0_leaveStage_16 : decode cX0_leaveStage 16 = .ok (.if_icmp .ne 4, 3) := by decide +kernel
theorem dX0_leaveStage_19 : decode cX0_leaveStage 19 = .ok (.return_, 1) := by decide +kernel
theorem dX0_leaveStage_20 : decode cX0_leaveStage 20 = .ok (.aload_n 0, 1) := by decide +kernel
theorem dX0_leaveStage_21 : decode cX0_leaveStage 21 = .ok (.getfield 20, 3) := by decide +kernel
theorem dX0_leaveStage_24 : decode cX0_leaveStage 24 = .ok (.iload_n 2, 1) := by decide +kernel
theorem dX0_leaveStage_25 : decode cX0_leaveStage 25 = .ok (.dup2, 1) := by decide +kernel
theorem dX0_leaveStage_26 : decode cX0_leaveStage 26 = .ok (.iaload, 1) := by decide +kernel
theorem dX0_leaveStage_27 : decode cX0_leaveStage 27 = .ok (.iconst 1, 1) := by decide +kernel
theorem dX0_leaveStage_28 : decode cX0_leaveStage 28 = .ok (.iadd, 1) := by decide +kernel
theorem dX0_leaveStage_29 : decode cX0_leaveStage 29 = .ok (.iastore, 1) := by decide +kernel
theorem dX0_leaveStage_30 : decode cX0_leaveStage 30 = .ok (.aload_n 0, 1) := by decide +kernel
theorem dX0_leaveStage_31 : decode cX0_leaveStage 31 = .ok (.getfield 20, 3) := by decide +kernel
theorem dX0_leaveStage_34 : decode cX0_leaveStage 34 = .ok (.iload_n 2, 1) := by decide +kernel
theorem dX0_leaveStage_35 : decode cX0_leaveStage 35 = .ok (.iaload, 1) := by decide +kernel
theorem dX0_leaveStage_36 : decode cX0_leaveStage 36 = .ok (.iconst 3, 1) := by decide +kernel
theorem dX0_leaveStage_37 : decode cX0_leaveStage 37 = .ok (.if_icmp .lt 10, 3) := by decide +kernel
theorem dX0_leaveStage_40 : decode cX0_leaveStage 40 = .ok (.aload_n 0, 1) := by decide +kernel
theorem dX0_leaveStage_41 : decode cX0_leaveStage 41 = .ok (.getfield 9, 3) := by decide +kernel
theorem dX0_leaveStage_44 : decode cX0_leaveStage 44 = .ok (.iload_n 1, 1) := by decide +kernel
theorem dX0_leaveStage_45 : decode cX0_leaveStage 45 = .ok (.iconst (-1), 1) := by decide +kernel
theorem dX0_leaveStage_46 : decode cX0_leaveStage 46 = .ok (.iastore, 1) := by decide +kernel
theorem dX0_leaveStage_47 : decode cX0_leaveStage 47 = .ok (.return_, 1) := by decide +kernel
theorem dX0_moveMasks_0 : decode cX0_moveMasks 0 = .ok (.aload_n 0, 1) := by decide +kernel
theorem dX0_moveMasks_1 : decode cX0_moveMasks 1 = .ok (.getfield 26, 3) := by decide +kernel
theorem dX0_moveMasks_4 : decode cX0_moveMasks 4 = .ok (.iload_n 1, 1) := by decide +kernel
theorem dX0_moveMasks_5 : decode cX0_moveMasks 5 = .ok (.iaload, 1) := by decide +kernel
theorem dX0_moveMasks_6 : decode cX0_moveMasks 6 = .ok (.istore_n 3, 1) := by decide +kernel
theorem dX0_moveMasks_7 : decode cX0_moveMasks 7 = .ok (.aload_n 0, 1) := by decide +kernel
theorem dX0_moveMasks_8 : decode cX0_moveMasks 8 = .ok (.getfield 29, 3) := by decide +kernel
theorem dX0_moveMasks_11 : decode cX0_moveMasks 11 = .ok (.iload_n 1, 1) := by decide +kernel
theorem dX0_moveMasks_12 : decode cX0_moveMasks 12 = .ok (.iaload, 1) := by decide +kernel
theorem dX0_moveMasks_13 : decode cX0_moveMasks 13 = .ok (.istore 4, 2) := by decide +kernel
theorem dX0_moveMasks_15 : decode cX0_moveMasks 15 = .ok (.aload_n 0, 1) := by decide +kernel
theorem dX0_moveMasks_16 : decode cX0_moveMasks 16 = .ok (.getfield 23, 3) := by decide +kernel
theorem dX0_moveMasks_19 : decode cX0_moveMasks 19 = .ok (.iload_n 1, 1) := by decide +kernel
theorem dX0_moveMasks_20 : decode cX0_moveMasks 20 = .ok (.iaload, 1) := by decide +kernel
theorem dX0_moveMasks_21 : decode cX0_moveMasks 21 = .ok (.iconst 2, 1) := by decide +kernel
theorem dX0_moveMasks_22 : decode cX0_moveMasks 22 = .ok (.if_icmp .ne 11, 3) := by decide +kernel
theorem dX0_moveMasks_25 : decode cX0_moveMasks 25 = .ok (.aload_n 2, 1) := by decide +kernel
theorem dX0_moveMasks_26 : decode cX0_moveMasks 26 = .ok (.iload_n 3, 1) := by decide +kernel
theorem dX0_moveMasks_27 : decode cX0_moveMasks 27 = .ok (.iload 4, 2) := by decide +kernel
theorem dX0_moveMasks_29 : decode cX0_moveMasks 29 = .ok (.iastore, 1) := by decide +kernel
theorem dX0_moveMasks_30 : decode cX0_moveMasks 30 = .ok (.goto 48, 3) := by decide +kernel
theorem dX0_moveMasks_33 : decode cX0_moveMasks 33 = .ok (.aload_n 0, 1) := by decide +kernel
theorem dX0_moveMasks_34 : decode cX0_moveMasks 34 = .ok (.getfield 23, 3) := by decide +kernel
theorem dX0_moveMasks_37 : decode cX0_moveMasks 37 = .ok (.iload_n 1, 1) := by decide +kernel
theorem dX0_moveMasks_38 : decode cX0_moveMasks 38 = .ok (.iaload, 1) := by decide +kernel
theorem dX0_moveMasks_39 : decode cX0_moveMasks 39 = .ok (.iconst 3, 1) := by decide +kernel
theorem dX0_moveMasks_40 : decode cX0_moveMasks 40 = .ok (.if_icmp .ne 10, 3) := by decide +kernel
theorem dX0_moveMasks_43 : decode cX0_moveMasks 43 = .ok (.aload_n 2, 1) := by decide +kernel
theorem dX0_moveMasks_44 : decode cX0_moveMasks 44 = .ok (.iload_n 3, 1) := by decide +kernel
theorem dX0_moveMasks_45 : decode cX0_moveMasks 45 = .ok (.iconst (-1), 1) := by decide +kernel
theorem dX0_moveMasks_46 : decode cX0_moveMasks 46 = .ok (.iastore, 1) := by decide +kernel
theorem dX0_moveMasks_47 : decode cX0_moveMasks 47 = .ok (.goto 31, 3) := by decide +kernel
theorem dX0_moveMasks_50 : decode cX0_moveMasks 50 = .ok (.aload_n 0, 1) := by decide +kernel
theorem dX0_moveMasks_51 : decode cX0_moveMasks 51 = .ok (.getfield 23, 3) := by decide +kernel
theorem dX0_moveMasks_54 : decode cX0_moveMasks 54 = .ok (.iload_n 1, 1) := by decide +kernel
theorem dX0_moveMasks_55 : decode cX0_moveMasks 55 = .ok (.iaload, 1) := by decide +kernel
theorem dX0_moveMasks_56 : decode cX0_moveMasks 56 = .ok (.iconst 4, 1) := by decide +kernel
theorem dX0_moveMasks_57 : decode cX0_moveMasks 57 = .ok (.if_icmp .ne 21, 3) := by decide +kernel
theorem dX0_moveMasks_60 : decode cX0_moveMasks 60 = .ok (.aload_n 2, 1) := by decide +kernel
theorem dX0_moveMasks_61 : decode cX0_moveMasks 61 = .ok (.iload_n 3, 1) := by decide +kernel
theorem dX0_moveMasks_62 : decode cX0_moveMasks 62 = .ok (.iaload, 1) := by decide +kernel
theorem dX0_moveMasks_63 : decode cX0_moveMasks 63 = .ok (.istore 5, 2) := by decide +kernel
theorem dX0_moveMasks_65 : decode cX0_moveMasks 65 = .ok (.aload_n 2, 1) := by decide +kernel
theorem dX0_moveMasks_66 : decode cX0_moveMasks 66 = .ok (.iload_n 3, 1) := by decide +kernel
theorem dX0_moveMasks_67 : decode cX0_moveMasks 67 = .ok (.aload_n 2, 1) := by decide +kernel
theorem dX0_moveMasks_68 : decode cX0_moveMasks 68 = .ok (.iload 4, 2) := by decide +kernel
theorem dX0_moveMasks_70 : decode cX0_moveMasks 70 = .ok (.iaload, 1) := by decide +kernel
theorem dX0_moveMasks_71 : decode cX0_moveMasks 71 = .ok (.iastore, 1) := by decide +kernel
theorem dX0_moveMasks_72 : decode cX0_moveMasks 72 = .ok (.aload_n 2, 1) := by decide +kernel
theorem dX0_moveMasks_73 : decode cX0_moveMasks 73 = .ok (.iload 4, 2) := by decide +kernel
theorem dX0_moveMasks_75 : decode cX0_moveMasks 75 = .ok (.iload 5, 2) := by decide +kernel
theorem dX0_moveMasks_77 : decode cX0_moveMasks 77 = .ok (.iastore, 1) := by decide +kernel
theorem dX0_moveMasks_78 : decode cX0_moveMasks 78 = .ok (.return_, 1) := by decide +kernel
theorem dX0_countCues_0 : decode cX0_countCues 0 = .ok (.iconst 0, 1) := by decide +kernel
theorem dX0_countCues_1 : decode cX0_countCues 1 = .ok (.istore_n 2, 1) := by decide +kernel
theorem dX0_countCues_2 : decode cX0_countCues 2 = .ok (.iconst 0, 1) := by decide +kernel
theorem dX0_countCues_3 : decode cX0_countCues 3 = .ok (.istore_n 3, 1) := by decide +kernel
theorem dX0_countCues_4 : decode cX0_countCues 4 = .ok (.iload_n 3, 1) := by decide +kernel
theorem dX0_countCues_5 : decode cX0_countCues 5 = .ok (.aload_n 0, 1) := by decide +kernel
theorem dX0_countCues_6 : decode cX0_countCues 6 = .ok (.getfield 104, 3) := by decide +kernel
theorem dX0_countCues_9 : decode cX0_countCues 9 = .ok (.if_icmp .ge 22, 3) := by decide +kernel
theorem dX0_countCues_12 : decode cX0_countCues 12 = .ok (.aload_n 0, 1) := by decide +kernel
theorem dX0_countCues_13 : decode cX0_countCues 13 = .ok (.getfield 35, 3) := by decide +kernel
theorem dX0_countCues_16 : decode cX0_countCues 16 = .ok (.iload_n 3, 1) := by decide +kernel
theorem dX0_countCues_17 : decode cX0_countCues 17 = .ok (.iaload, 1) := by decide +kernel
theorem dX0_countCues_18 : decode cX0_countCues 18 = .ok (.iload_n 1, 1) := by decide +kernel
theorem dX0_countCues_19 : decode cX0_countCues 19 = .ok (.if_icmp .ne 6, 3) := by decide +kernel
theorem dX0_countCues_22 : decode cX0_countCues 22 = .ok (.iinc 2 1, 3) := by decide +kernel
theorem dX0_countCues_25 : decode cX0_countCues 25 = .ok (.iinc 3 1, 3) := by decide +kernel
theorem dX0_countCues_28 : decode cX0_countCues 28 = .ok (.goto (-24), 3) := by decide +kernel
theorem dX0_countCues_31 : decode cX0_countCues 31 = .ok (.iload_n 2, 1) := by decide +kernel
theorem dX0_countCues_32 : decode cX0_countCues 32 = .ok (.ireturn, 1) := by decide +kernel
theorem dX0_clearStage_0 : decode cX0_clearStage 0 = .ok (.iconst 0, 1) := by decide +kernel
theorem dX0_clearStage_1 : decode cX0_clearStage 1 = .ok (.istore_n 1, 1) := by decide +kernel
theorem dX0_clearStage_2 : decode cX0_clearStage 2 = .ok (.iload_n 1, 1) := by decide +kernel
theorem dX0_clearStage_3 : decode cX0_clearStage 3 = .ok (.bipush 6, 2) := by decide +kernel
theorem dX0_clearStage_5 : decode cX0_clearStage 5 = .ok (.if_icmp .ge 23, 3) := by decide +kernel
theorem dX0_clearStage_8 : decode cX0_clearStage 8 = .ok (.aload_n 0, 1) := by decide +kernel
theorem dX0_clearStage_9 : decode cX0_clearStage 9 = .ok (.getfield 13, 3) := by decide +kernel
theorem dX0_clearStage_12 : decode cX0_clearStage 12 = .ok (.iload_n 1, 1) := by decide +kernel
theorem dX0_clearStage_13 : decode cX0_clearStage 13 = .ok (.iconst (-1), 1) := by decide +kernel
theorem dX0_clearStage_14 : decode cX0_clearStage 14 = .ok (.iastore, 1) := by decide +kernel
theorem dX0_clearStage_15 : decode cX0_clearStage 15 = .ok (.aload_n 0, 1) := by decide +kernel
theorem dX0_clearStage_16 : decode cX0_clearStage 16 = .ok (.getfield 16, 3) := by decide +kernel
theorem dX0_clearStage_19 : decode cX0_clearStage 19 = .ok (.iload_n 1, 1) := by decide +kernel
theorem dX0_clearStage_20 : decode cX0_clearStage 20 = .ok (.iconst 0, 1) := by decide +kernel
theorem dX0_clearStage_21 : decode cX0_clearStage 21 = .ok (.bastore, 1) := by decide +kernel
theorem dX0_clearStage_22 : decode cX0_clearStage 22 = .ok (.iinc 1 1, 3) := by decide +kernel
theorem dX0_clearStage_25 : decode cX0_clearStage 25 = .ok (.goto (-23), 3) := by decide +kernel
theorem dX0_clearStage_28 : decode cX0_clearStage 28 = .ok (.return_, 1) := by decide +kernel
theorem dX0_clearGuesses_0 : decode cX0_clearGuesses 0 = .ok (.iconst 0, 1) := by decide +kernel
theorem dX0_clearGuesses_1 : decode cX0_clearGuesses 1 = .ok (.istore_n 1, 1) := by decide +kernel
theorem dX0_clearGuesses_2 : decode cX0_clearGuesses 2 = .ok (.iload_n 1, 1) := by decide +kernel
theorem dX0_clearGuesses_3 : decode cX0_clearGuesses 3 = .ok (.aload_n 0, 1) := by decide +kernel
theorem dX0_clearGuesses_4 : decode cX0_clearGuesses 4 = .ok (.getfield 44, 3) := by decide +kernel
theorem dX0_clearGuesses_7 : decode cX0_clearGuesses 7 = .ok (.arraylength, 1) := by decide +kernel
theorem dX0_clearGuesses_8 : decode cX0_clearGuesses 8 = .ok (.if_icmp .ge 16, 3) := by decide +kernel
theorem dX0_clearGuesses_11 : decode cX0_clearGuesses 11 = .ok (.aload_n 0, 1) := by decide +kernel
theorem dX0_clearGuesses_12 : decode cX0_clearGuesses 12 = .ok (.getfield 44, 3) := by decide +kernel
theorem dX0_clearGuesses_15 : decode cX0_clearGuesses 15 = .ok (.iload_n 1, 1) := by decide +kernel
theorem dX0_clearGuesses_16 : decode cX0_clearGuesses 16 = .ok (.iconst 0, 1) := by decide +kernel
theorem dX0_clearGuesses_17 : decode cX0_clearGuesses 17 = .ok (.bastore, 1) := by decide +kernel
theorem dX0_clearGuesses_18 : decode cX0_clearGuesses 18 = .ok (.iinc 1 1, 3) := by decide +kernel
theorem dX0_clearGuesses_21 : decode cX0_clearGuesses 21 = .ok (.goto (-19), 3) := by decide +kernel
theorem dX0_clearGuesses_24 : decode cX0_clearGuesses 24 = .ok (.return_, 1) := by decide +kernel
theorem dJ9_abs_0f7a4_0 : decode cJ9_abs_0f7a4 0 = .ok (.iload_n 0, 1) := by decide +kernel
theorem dJ9_abs_0f7a4_1 : decode cJ9_abs_0f7a4 1 = .ok (.ifCond .ge 8, 3) := by decide +kernel
theorem dJ9_abs_0f7a4_4 : decode cJ9_abs_0f7a4 4 = .ok (.iload_n 0, 1) := by decide +kernel
theorem dJ9_abs_0f7a4_5 : decode cJ9_abs_0f7a4 5 = .ok (.ineg, 1) := by decide +kernel
theorem dJ9_abs_0f7a4_6 : decode cJ9_abs_0f7a4 6 = .ok (.goto 4, 3) := by decide +kernel
theorem dJ9_abs_0f7a4_9 : decode cJ9_abs_0f7a4 9 = .ok (.iload_n 0, 1) := by decide +kernel
theorem dJ9_abs_0f7a4_10 : decode cJ9_abs_0f7a4 10 = .ok (.ireturn, 1) := by decide +kernel
theorem dJ9_max_7cf53_0 : decode cJ9_max_7cf53 0 = .ok (.iload_n 0, 1) := by decide +kernel
theorem dJ9_max_7cf53_1 : decode cJ9_max_7cf53 1 = .ok (.iload_n 1, 1) := by decide +kernel
theorem dJ9_max_7cf53_2 : decode cJ9_max_7cf53 2 = .ok (.if_icmp .lt 7, 3) := by decide +kernel
theorem dJ9_max_7cf53_5 : decode cJ9_max_7cf53 5 = .ok (.iload_n 0, 1) := by decide +kernel
theorem dJ9_max_7cf53_6 : decode cJ9_max_7cf53 6 = .ok (.goto 4, 3) := by decide +kernel
theorem dJ9_max_7cf53_9 : decode cJ9_max_7cf53 9 = .ok (.iload_n 1, 1) := by decide +kernel
theorem dJ9_max_7cf53_10 : decode cJ9_max_7cf53 10 = .ok (.ireturn, 1) := by decide +kernel
theorem dJ7_fill_53178_0 : decode cJ7_fill_53178 0 = .ok (.iconst 0, 1) := by decide +kernel
theorem dJ7_fill_53178_1 : decode cJ7_fill_53178 1 = .ok (.istore_n 2, 1) := by decide +kernel
theorem dJ7_fill_53178_2 : decode cJ7_fill_53178 2 = .ok (.aload_n 0, 1) := by decide +kernel
theorem dJ7_fill_53178_3 : decode cJ7_fill_53178 3 = .ok (.arraylength, 1) := by decide +kernel
theorem dJ7_fill_53178_4 : decode cJ7_fill_53178 4 = .ok (.istore_n 3, 1) := by decide +kernel
theorem dJ7_fill_53178_5 : decode cJ7_fill_53178 5 = .ok (.iload_n 2, 1) := by decide +kernel
theorem dJ7_fill_53178_6 : decode cJ7_fill_53178 6 = .ok (.iload_n 3, 1) := by decide +kernel
theorem dJ7_fill_53178_7 : decode cJ7_fill_53178 7 = .ok (.if_icmp .ge 13, 3) := by decide +kernel
theorem dJ7_fill_53178_10 : decode cJ7_fill_53178 10 = .ok (.aload_n 0, 1) := by decide +kernel
theorem dJ7_fill_53178_11 : decode cJ7_fill_53178 11 = .ok (.iload_n 2, 1) := by decide +kernel
theorem dJ7_fill_53178_12 : decode cJ7_fill_53178 12 = .ok (.iload_n 1, 1) := by decide +kernel
theorem dJ7_fill_53178_13 : decode cJ7_fill_53178 13 = .ok (.iastore, 1) := by decide +kernel
theorem dJ7_fill_53178_14 : decode cJ7_fill_53178 14 = .ok (.iinc 2 1, 3) := by decide +kernel
theorem dJ7_fill_53178_17 : decode cJ7_fill_53178 17 = .ok (.goto (-12), 3) := by decide +kernel
theorem dJ7_fill_53178_20 : decode cJ7_fill_53178 20 = .ok (.return_, 1) := by decide +kernel
end
section
theorem dL_cell_0 : decode cL_cell 0 = .ok (.iload_n 1, 1) := by decide +kernel
theorem dL_cell_1 : decode cL_cell 1 = .ok (.aload_n 0, 1) := by decide +kernel
theorem dL_cell_2 : decode cL_cell 2 = .ok (.arraylength, 1) := by decide +kernel
theorem dL_cell_3 : decode cL_cell 3 = .ok (.if_icmp .ge 9, 3) := by decide +kernel
theorem dL_cell_6 : decode cL_cell 6 = .ok (.aload_n 0, 1) := by decide +kernel
theorem dL_cell_7 : decode cL_cell 7 = .ok (.iload_n 1, 1) := by decide +kernel
theorem dL_cell_8 : decode cL_cell 8 = .ok (.iaload, 1) := by decide +kernel
theorem dL_cell_9 : decode cL_cell 9 = .ok (.goto 9, 3) := by decide +kernel
theorem dL_cell_12 : decode cL_cell 12 = .ok (.ldc 7, 2) := by decide +kernel
theorem dL_cell_14 : decode cL_cell 14 = .ok (.iload_n 1, 1) := by decide +kernel
theorem dL_cell_15 : decode cL_cell 15 = .ok (.iconst 1, 1) := by decide +kernel
theorem dL_cell_16 : decode cL_cell 16 = .ok (.iadd, 1) := by decide +kernel
theorem dL_cell_17 : decode cL_cell 17 = .ok (.imul, 1) := by decide +kernel
theorem dL_cell_18 : decode cL_cell 18 = .ok (.ireturn, 1) := by decide +kernel
theorem dL_at_0 : decode cL_at 0 = .ok (.iload_n 0, 1) := by decide +kernel
theorem dL_at_1 : decode cL_at 1 = .ok (.iconst 1, 1) := by decide +kernel
theorem dL_at_2 : decode cL_at 2 = .ok (.iushr, 1) := by decide +kernel
theorem dL_at_3 : decode cL_at 3 = .ok (.iload_n 1, 1) := by decide +kernel
theorem dL_at_4 : decode cL_at 4 = .ok (.irem, 1) := by decide +kernel
theorem dL_at_5 : decode cL_at 5 = .ok (.ireturn, 1) := by decide +kernel
set_option maxRecDepth 20000 in
theorem ggL_sound_X0_maskOf : GoodIn wsL_sound wsX0_maskOf := goodIn_ca (goodIn_r _ [5, 6, 7, 8, 4, 9, 10, 11, 12, 13, 14, 65, 66, 67, 68, 69, 70, 71, 72, 73, 74, 75, 76, 77, 78, 79, 80, 81] (by decide +kernel) (by decide +kernel)) (goodIn_sub (fun _ h => List.mem_cons_of_mem _ (List.mem_append_right _ h)) (by decide +kernel))
set_option maxRecDepth 20000 in
theorem gL_sound_X0_maskOf : GoodIn wsL_sound (wsV RL 8 RX0 yX0_maskOf wsX0_maskOf) := goodIn_app (goodIn_of _ (by decide +kernel)) ggL_sound_X0_maskOf
set_option maxRecDepth 20000 in
theorem ggL_sound_X0_costumeOf : GoodIn wsL_sound wsX0_costumeOf := goodIn_ca (goodIn_r _ [18, 19, 7, 8, 4, 9, 10, 11, 12, 13, 14, 65, 66, 67, 68, 69, 70, 71, 72, 73, 74, 75, 76, 77, 78, 79, 80, 81] (by decide +kernel) (by decide +kernel)) (goodIn_sub (fun _ h => List.mem_cons_of_mem _ (List.mem_append_right _ h)) (by decide +kernel))
set_option maxRecDepth 20000 in
theorem gL_sound_X0_costumeOf : GoodIn wsL_sound (wsV RL 14 RX0 yX0_costumeOf wsX0_costumeOf) := goodIn_app (goodIn_of _ (by decide +kernel)) ggL_sound_X0_costumeOf
set_option maxRecDepth 20000 in
theorem ggL_sound_X0_maskByCues : GoodIn wsL_sound wsX0_maskByCues := goodIn_ca (goodIn_r _ [23, 24, 25, 26, 7, 8, 4, 9, 10, 11, 12, 13, 14, 27, 28, 29, 30, 31, 32, 33, 34, 35, 36, 37, 65, 66, 67, 68, 69, 70, 71, 72, 73, 74, 75, 76, 77, 78, 79, 80, 81] (by decide +kernel) (by decide +kernel)) (goodIn_sub (fun _ h => List.mem_cons_of_mem _ (List.mem_append_right _ h)) (by decide +kernel))
set_option maxRecDepth 20000 in
theorem gL_sound_X0_maskByCues : GoodIn wsL_sound (wsV RL 17 RX0 yX0_maskByCues wsX0_maskByCues) := goodIn_app (goodIn_of _ (by decide +kernel)) ggL_sound_X0_maskByCues
set_option maxRecDepth 20000 in
theorem ggL_sound_X0_wearerOf : GoodIn wsL_sound wsX0_wearerOf := goodIn_ca (goodIn_r _ [41, 42, 43, 4, 44, 10, 11, 12, 13, 14, 45, 46, 47, 48, 6, 49, 50, 51, 65, 66, 67, 68, 69, 70, 71, 72, 73, 74, 75, 76, 77, 78, 79, 80, 81] (by decide +kernel) (by decide +kernel)) (goodIn_sub (fun _ h => List.mem_cons_of_mem _ (List.mem_append_right _ h)) (by decide +kernel))
set_option maxRecDepth 20000 in
theorem gL_sound_X0_wearerOf : GoodIn wsL_sound (wsV RL 20 RX0 yX0_wearerOf wsX0_wearerOf) := goodIn_app (goodIn_of _ (by decide +kernel)) ggL_sound_X0_wearerOf
set_option maxRecDepth 20000 in
theorem ggL_sound_X0_isOn : GoodIn wsL_sound wsX0_isOn := goodIn_ca (goodIn_r _ [55, 56, 7, 8, 4, 9, 10, 11, 12, 13, 14, 65, 66, 67, 68, 69, 70, 71, 72, 73, 74, 75, 76, 77, 78, 79, 80, 81] (by decide +kernel) (by decide +kernel)) (goodIn_sub (fun _ h => List.mem_cons_of_mem _ (List.mem_append_right _ h)) (by decide +kernel))
set_option maxRecDepth 20000 in
theorem gL_sound_X0_isOn : GoodIn wsL_sound (wsV RL 23 RX0 yX0_isOn wsX0_isOn) := goodIn_app (goodIn_of _ (by decide +kernel)) ggL_sound_X0_isOn
set_option maxRecDepth 20000 in
theorem ggL_sound_X0_wear : GoodIn wsL_sound wsX0_wear := goodIn_ca (goodIn_r _ [60, 61, 62, 63, 4, 64, 10, 11, 12, 13, 14, 65, 66, 67, 68, 69, 70, 71, 72, 73, 74, 75, 76, 77, 78, 79, 80, 81] (by decide +kernel) (by decide +kernel)) (goodIn_sub (fun _ h => List.mem_cons_of_mem _ (List.mem_append_right _ h)) (by decide +kernel))
set_option maxRecDepth 20000 in
theorem gL_sound_X0_wear : GoodIn wsL_sound (wsV RL 27 RX0 yX0_wear wsX0_wear) := goodIn_app (goodIn_of _ (by decide +kernel)) ggL_sound_X0_wear
theorem dL_sound_0 : decode cL_sound 0 = .ok (.iconst 0, 1) := by decide +kernel
theorem dL_sound_1 : decode cL_sound 1 = .ok (.istore_n 1, 1) := by decide +kernel
theorem dL_sound_2 : decode cL_sound 2 = .ok (.iload_n 1, 1) := by decide +kernel
theorem dL_sound_3 : decode cL_sound 3 = .ok (.bipush 6, 2) := by decide +kernel
theorem dL_sound_5 : decode cL_sound 5 = .ok (.if_icmp .ge 162, 3) := by decide +kernel
theorem dL_sound_8 : decode cL_sound 8 = .ok (.aload_n 0, 1) := by decide +kernel
theorem dL_sound_9 : decode cL_sound 9 = .ok (.iload_n 1, 1) := by decide +kernel
theorem dL_sound_10 : decode cL_sound 10 = .ok (.invokevirtual 8, 3) := by decide +kernel
theorem dL_sound_13 : decode cL_sound 13 = .ok (.istore_n 2, 1) := by decide +kernel
theorem dL_sound_14 : decode cL_sound 14 = .ok (.aload_n 0, 1) := by decide +kernel
theorem dL_sound_15 : decode cL_sound 15 = .ok (.iload_n 1, 1) := by decide +kernel
theorem dL_sound_16 : decode cL_sound 16 = .ok (.invokevirtual 14, 3) := by decide +kernel
theorem dL_sound_19 : decode cL_sound 19 = .ok (.istore_n 3, 1) := by decide +kernel
theorem dL_sound_20 : decode cL_sound 20 = .ok (.iload_n 2, 1) := by decide +kernel
theorem dL_sound_21 : decode cL_sound 21 = .ok (.iconst (-1), 1) := by decide +kernel
theorem dL_sound_22 : decode cL_sound 22 = .ok (.if_icmp .lt 30, 3) := by decide +kernel
theorem dL_sound_25 : decode cL_sound 25 = .ok (.iload_n 2, 1) := by decide +kernel
theorem dL_sound_26 : decode cL_sound 26 = .ok (.iconst 5, 1) := by decide +kernel
theorem dL_sound_27 : decode cL_sound 27 = .ok (.if_icmp .gt 25, 3) := by decide +kernel
theorem dL_sound_30 : decode cL_sound 30 = .ok (.aload_n 0, 1) := by decide +kernel
theorem dL_sound_31 : decode cL_sound 31 = .ok (.iload_n 1, 1) := by decide +kernel
theorem dL_sound_32 : decode cL_sound 32 = .ok (.invokevirtual 17, 3) := by decide +kernel
theorem dL_sound_35 : decode cL_sound 35 = .ok (.iload_n 2, 1) := by decide +kernel
theorem dL_sound_36 : decode cL_sound 36 = .ok (.if_icmp .ne 16, 3) := by decide +kernel
theorem dL_sound_39 : decode cL_sound 39 = .ok (.iload_n 2, 1) := by decide +kernel
theorem dL_sound_40 : decode cL_sound 40 = .ok (.ifCond .lt 14, 3) := by decide +kernel
theorem dL_sound_43 : decode cL_sound 43 = .ok (.aload_n 0, 1) := by decide +kernel
theorem dL_sound_44 : decode cL_sound 44 = .ok (.iload_n 2, 1) := by decide +kernel
theorem dL_sound_45 : decode cL_sound 45 = .ok (.invokevirtual 20, 3) := by decide +kernel
theorem dL_sound_48 : decode cL_sound 48 = .ok (.iload_n 1, 1) := by decide +kernel
theorem dL_sound_49 : decode cL_sound 49 = .ok (.if_icmp .eq 5, 3) := by decide +kernel
theorem dL_sound_52 : decode cL_sound 52 = .ok (.iconst 0, 1) := by decide +kernel
theorem dL_sound_53 : decode cL_sound 53 = .ok (.ireturn, 1) := by decide +kernel
theorem dL_sound_54 : decode cL_sound 54 = .ok (.aload_n 0, 1) := by decide +kernel
theorem dL_sound_55 : decode cL_sound 55 = .ok (.iload_n 1, 1) := by decide +kernel
theorem dL_sound_56 : decode cL_sound 56 = .ok (.invokevirtual 20, 3) := by decide +kernel
theorem dL_sound_59 : decode cL_sound 59 = .ok (.ifCond .lt 16, 3) := by decide +kernel
theorem dL_sound_62 : decode cL_sound 62 = .ok (.aload_n 0, 1) := by decide +kernel
theorem dL_sound_63 : decode cL_sound 63 = .ok (.aload_n 0, 1) := by decide +kernel
theorem dL_sound_64 : decode cL_sound 64 = .ok (.iload_n 1, 1) := by decide +kernel
theorem dL_sound_65 : decode cL_sound 65 = .ok (.invokevirtual 20, 3) := by decide +kernel
theorem dL_sound_68 : decode cL_sound 68 = .ok (.invokevirtual 8, 3) := by decide +kernel
theorem dL_sound_71 : decode cL_sound 71 = .ok (.iload_n 1, 1) := by decide +kernel
theorem dL_sound_72 : decode cL_sound 72 = .ok (.if_icmp .ne 15, 3) := by decide +kernel
theorem dL_sound_75 : decode cL_sound 75 = .ok (.aload_n 0, 1) := by decide +kernel
theorem dL_sound_76 : decode cL_sound 76 = .ok (.iload_n 1, 1) := by decide +kernel
theorem dL_sound_77 : decode cL_sound 77 = .ok (.invokevirtual 23, 3) := by decide +kernel
theorem dL_sound_80 : decode cL_sound 80 = .ok (.ifCond .eq 9, 3) := by decide +kernel
theorem dL_sound_83 : decode cL_sound 83 = .ok (.iload_n 3, 1) := by decide +kernel
theorem dL_sound_84 : decode cL_sound 84 = .ok (.ifCond .ge 5, 3) := by decide +kernel
theorem dL_sound_87 : decode cL_sound 87 = .ok (.iconst 0, 1) := by decide +kernel
theorem dL_sound_88 : decode cL_sound 88 = .ok (.ireturn, 1) := by decide +kernel
theorem dL_sound_89 : decode cL_sound 89 = .ok (.iload_n 3, 1) := by decide +kernel
theorem dL_sound_90 : decode cL_sound 90 = .ok (.ifCond .lt 26, 3) := by decide +kernel
theorem dL_sound_93 : decode cL_sound 93 = .ok (.iload_n 3, 1) := by decide +kernel
theorem dL_sound_94 : decode cL_sound 94 = .ok (.iload_n 1, 1) := by decide +kernel
theorem dL_sound_95 : decode cL_sound 95 = .ok (.if_icmp .lt 19, 3) := by decide +kernel
theorem dL_sound_98 : decode cL_sound 98 = .ok (.iload_n 3, 1) := by decide +kernel
theorem dL_sound_99 : decode cL_sound 99 = .ok (.iload_n 1, 1) := by decide +kernel
theorem dL_sound_100 : decode cL_sound 100 = .ok (.iconst 2, 1) := by decide +kernel
theorem dL_sound_101 : decode cL_sound 101 = .ok (.iadd, 1) := by decide +kernel
theorem dL_sound_102 : decode cL_sound 102 = .ok (.if_icmp .gt 12, 3) := by decide +kernel
theorem dL_sound_105 : decode cL_sound 105 = .ok (.aload_n 0, 1) := by decide +kernel
theorem dL_sound_106 : decode cL_sound 106 = .ok (.iload_n 3, 1) := by decide +kernel
theorem dL_sound_107 : decode cL_sound 107 = .ok (.invokevirtual 27, 3) := by decide +kernel
theorem dL_sound_110 : decode cL_sound 110 = .ok (.iconst 2, 1) := by decide +kernel
theorem dL_sound_111 : decode cL_sound 111 = .ok (.if_icmp .le 5, 3) := by decide +kernel
theorem dL_sound_114 : decode cL_sound 114 = .ok (.iconst 0, 1) := by decide +kernel
theorem dL_sound_115 : decode cL_sound 115 = .ok (.ireturn, 1) := by decide +kernel
theorem dL_sound_116 : decode cL_sound 116 = .ok (.iconst 0, 1) := by decide +kernel
theorem dL_sound_117 : decode cL_sound 117 = .ok (.istore 4, 2) := by decide +kernel
theorem dL_sound_119 : decode cL_sound 119 = .ok (.iload 4, 2) := by decide +kernel
theorem dL_sound_121 : decode cL_sound 121 = .ok (.iload_n 1, 1) := by decide +kernel
theorem dL_sound_122 : decode cL_sound 122 = .ok (.if_icmp .ge 39, 3) := by decide +kernel
theorem dL_sound_125 : decode cL_sound 125 = .ok (.iload_n 2, 1) := by decide +kernel
theorem dL_sound_126 : decode cL_sound 126 = .ok (.ifCond .lt 13, 3) := by decide +kernel
theorem dL_sound_129 : decode cL_sound 129 = .ok (.aload_n 0, 1) := by decide +kernel
theorem dL_sound_130 : decode cL_sound 130 = .ok (.iload 4, 2) := by decide +kernel
theorem dL_sound_132 : decode cL_sound 132 = .ok (.invokevirtual 8, 3) := by decide +kernel
theorem dL_sound_135 : decode cL_sound 135 = .ok (.iload_n 2, 1) := by decide +kernel
theorem dL_sound_136 : decode cL_sound 136 = .ok (.if_icmp .eq 17, 3) := by decide +kernel
theorem dL_sound_139 : decode cL_sound 139 = .ok (.iload_n 3, 1) := by decide +kernel
theorem dL_sound_140 : decode cL_sound 140 = .ok (.ifCond .lt 15, 3) := by decide +kernel
theorem dL_sound_143 : decode cL_sound 143 = .ok (.aload_n 0, 1) := by decide +kernel
theorem dL_sound_144 : decode cL_sound 144 = .ok (.iload 4, 2) := by decide +kernel
theorem dL_sound_146 : decode cL_sound 146 = .ok (.invokevirtual 14, 3) := by decide +kernel
theorem dL_sound_149 : decode cL_sound 149 = .ok (.iload_n 3, 1) := by decide +kernel
theorem dL_sound_150 : decode cL_sound 150 = .ok (.if_icmp .ne 5, 3) := by decide +kernel
theorem dL_sound_153 : decode cL_sound 153 = .ok (.iconst 0, 1) := by decide +kernel
theorem dL_sound_154 : decode cL_sound 154 = .ok (.ireturn, 1) := by decide +kernel
theorem dL_sound_155 : decode cL_sound 155 = .ok (.iinc 4 1, 3) := by decide +kernel
theorem dL_sound_158 : decode cL_sound 158 = .ok (.goto (-39), 3) := by decide +kernel
theorem dL_sound_161 : decode cL_sound 161 = .ok (.iinc 1 1, 3) := by decide +kernel
theorem dL_sound_164 : decode cL_sound 164 = .ok (.goto (-162), 3) := by decide +kernel
theorem dL_sound_167 : decode cL_sound 167 = .ok (.iconst 1, 1) := by decide +kernel
theorem dL_sound_168 : decode cL_sound 168 = .ok (.ireturn, 1) := by decide +kernel
set_option maxRecDepth 20000 in
theorem ggL_chained_X0_cues : GoodIn wsL_chained wsX0_cues := goodIn_r _ [5, 6, 55, 56, 57, 58, 59, 60, 61, 62, 63, 64, 65, 66, 67, 68, 69, 70, 71] (by decide +kernel) (by decide +kernel)
set_option maxRecDepth 20000 in
theorem gL_chained_X0_cues : GoodIn wsL_chained (wsV RL 30 RX0 yX0_cues wsX0_cues) := goodIn_app (goodIn_of _ (by decide +kernel)) ggL_chained_X0_cues
set_option maxRecDepth 20000 in
theorem ggL_chained_X0_stateOf : GoodIn wsL_chained wsX0_stateOf := goodIn_ca (goodIn_r _ [10, 11, 12, 13, 14, 4, 15, 16, 17, 6, 18, 19, 20, 55, 56, 57, 58, 59, 60, 61, 62, 63, 64, 65, 66, 67, 68, 69, 70, 71] (by decide +kernel) (by decide +kernel)) (goodIn_sub (fun _ h => List.mem_cons_of_mem _ (List.mem_append_right _ h)) (by decide +kernel))
set_option maxRecDepth 20000 in
theorem gL_chained_X0_stateOf : GoodIn wsL_chained (wsV RL 34 RX0 yX0_stateOf wsX0_stateOf) := goodIn_app (goodIn_of _ (by decide +kernel)) ggL_chained_X0_stateOf
set_option maxRecDepth 20000 in
theorem ggL_chained_X0_canCall : GoodIn wsL_chained wsX0_canCall := goodIn_ca (goodIn_r _ [24, 12, 13, 14, 4, 15, 16, 17, 6, 18, 19, 20, 25, 26, 27, 28, 11, 29, 30, 31, 32, 33, 34, 35, 36, 37, 38, 39, 40, 41, 42, 43, 44, 45, 46, 47, 48, 49, 50, 51, 52, 53, 54, 55, 56, 57, 58, 59, 60, 61, 62, 63, 64, 65, 66, 67, 68, 69, 70, 71] (by decide +kernel) (by decide +kernel)) (goodIn_sub (fun _ h => List.mem_cons_of_mem _ (List.mem_append_right _ h)) (by decide +kernel))
set_option maxRecDepth 20000 in
theorem gL_chained_X0_canCall : GoodIn wsL_chained (wsV RL 37 RX0 yX0_canCall wsX0_canCall) := goodIn_app (goodIn_of _ (by decide +kernel)) ggL_chained_X0_canCall
theorem dL_chained_0 : decode cL_chained 0 = .ok (.iconst 0, 1) := by decide +kernel
theorem dL_chained_1 : decode cL_chained 1 = .ok (.istore_n 2, 1) := by decide +kernel
theorem dL_chained_2 : decode cL_chained 2 = .ok (.iload_n 2, 1) := by decide +kernel
theorem dL_chained_3 : decode cL_chained 3 = .ok (.aload_n 0, 1) := by decide +kernel
theorem dL_chained_4 : decode cL_chained 4 = .ok (.invokevirtual 30, 3) := by decide +kernel
theorem dL_chained_7 : decode cL_chained 7 = .ok (.if_icmp .ge 94, 3) := by decide +kernel
theorem dL_chained_10 : decode cL_chained 10 = .ok (.aload_n 0, 1) := by decide +kernel
theorem dL_chained_11 : decode cL_chained 11 = .ok (.iload_n 2, 1) := by decide +kernel
theorem dL_chained_12 : decode cL_chained 12 = .ok (.invokevirtual 34, 3) := by decide +kernel
theorem dL_chained_15 : decode cL_chained 15 = .ok (.istore_n 3, 1) := by decide +kernel
theorem dL_chained_16 : decode cL_chained 16 = .ok (.iload_n 3, 1) := by decide +kernel
theorem dL_chained_17 : decode cL_chained 17 = .ok (.ifCond .lt 20, 3) := by decide +kernel
theorem dL_chained_20 : decode cL_chained 20 = .ok (.iload_n 3, 1) := by decide +kernel
theorem dL_chained_21 : decode cL_chained 21 = .ok (.iconst 2, 1) := by decide +kernel
theorem dL_chained_22 : decode cL_chained 22 = .ok (.if_icmp .gt 15, 3) := by decide +kernel
theorem dL_chained_25 : decode cL_chained 25 = .ok (.iload_n 3, 1) := by decide +kernel
theorem dL_chained_26 : decode cL_chained 26 = .ok (.ifCond .eq 13, 3) := by decide +kernel
theorem dL_chained_29 : decode cL_chained 29 = .ok (.aload_n 0, 1) := by decide +kernel
theorem dL_chained_30 : decode cL_chained 30 = .ok (.iload_n 2, 1) := by decide +kernel
theorem dL_chained_31 : decode cL_chained 31 = .ok (.invokevirtual 37, 3) := by decide +kernel
theorem dL_chained_34 : decode cL_chained 34 = .ok (.ifCond .eq 5, 3) := by decide +kernel
theorem dL_chained_37 : decode cL_chained 37 = .ok (.iconst 0, 1) := by decide +kernel
theorem dL_chained_38 : decode cL_chained 38 = .ok (.ireturn, 1) := by decide +kernel
theorem dL_chained_39 : decode cL_chained 39 = .ok (.aload_n 1, 1) := by decide +kernel
theorem dL_chained_40 : decode cL_chained 40 = .ok (.iload_n 2, 1) := by decide +kernel
theorem dL_chained_41 : decode cL_chained 41 = .ok (.iaload, 1) := by decide +kernel
theorem dL_chained_42 : decode cL_chained 42 = .ok (.ifCond .ge 6, 3) := by decide +kernel
theorem dL_chained_45 : decode cL_chained 45 = .ok (.goto 50, 3) := by decide +kernel
theorem dL_chained_48 : decode cL_chained 48 = .ok (.aload_n 0, 1) := by decide +kernel
theorem dL_chained_49 : decode cL_chained 49 = .ok (.aload_n 1, 1) := by decide +kernel
theorem dL_chained_50 : decode cL_chained 50 = .ok (.iload_n 2, 1) := by decide +kernel
theorem dL_chained_51 : decode cL_chained 51 = .ok (.iaload, 1) := by decide +kernel
theorem dL_chained_52 : decode cL_chained 52 = .ok (.invokevirtual 34, 3) := by decide +kernel
theorem dL_chained_55 : decode cL_chained 55 = .ok (.istore 4, 2) := by decide +kernel
theorem dL_chained_57 : decode cL_chained 57 = .ok (.iload 4, 2) := by decide +kernel
theorem dL_chained_59 : decode cL_chained 59 = .ok (.iconst 2, 1) := by decide +kernel
theorem dL_chained_60 : decode cL_chained 60 = .ok (.if_icmp .ne 8, 3) := by decide +kernel
theorem dL_chained_63 : decode cL_chained 63 = .ok (.iload_n 3, 1) := by decide +kernel
theorem dL_chained_64 : decode cL_chained 64 = .ok (.iconst 2, 1) := by decide +kernel
theorem dL_chained_65 : decode cL_chained 65 = .ok (.if_icmp .ne 28, 3) := by decide +kernel
theorem dL_chained_68 : decode cL_chained 68 = .ok (.iload_n 3, 1) := by decide +kernel
theorem dL_chained_69 : decode cL_chained 69 = .ok (.iconst 1, 1) := by decide +kernel
theorem dL_chained_70 : decode cL_chained 70 = .ok (.if_icmp .ne 9, 3) := by decide +kernel
theorem dL_chained_73 : decode cL_chained 73 = .ok (.iload 4, 2) := by decide +kernel
theorem dL_chained_75 : decode cL_chained 75 = .ok (.iconst 1, 1) := by decide +kernel
theorem dL_chained_76 : decode cL_chained 76 = .ok (.if_icmp .ne 17, 3) := by decide +kernel
theorem dL_chained_79 : decode cL_chained 79 = .ok (.iload 4, 2) := by decide +kernel
theorem dL_chained_81 : decode cL_chained 81 = .ok (.iconst 1, 1) := by decide +kernel
theorem dL_chained_82 : decode cL_chained 82 = .ok (.if_icmp .eq 13, 3) := by decide +kernel
theorem dL_chained_85 : decode cL_chained 85 = .ok (.aload_n 0, 1) := by decide +kernel
theorem dL_chained_86 : decode cL_chained 86 = .ok (.iload_n 2, 1) := by decide +kernel
theorem dL_chained_87 : decode cL_chained 87 = .ok (.invokevirtual 37, 3) := by decide +kernel
theorem dL_chained_90 : decode cL_chained 90 = .ok (.ifCond .eq 5, 3) := by decide +kernel
theorem dL_chained_93 : decode cL_chained 93 = .ok (.iconst 0, 1) := by decide +kernel
theorem dL_chained_94 : decode cL_chained 94 = .ok (.ireturn, 1) := by decide +kernel
theorem dL_chained_95 : decode cL_chained 95 = .ok (.iinc 2 1, 3) := by decide +kernel
theorem dL_chained_98 : decode cL_chained 98 = .ok (.goto (-96), 3) := by decide +kernel
theorem dL_chained_101 : decode cL_chained 101 = .ok (.iconst 1, 1) := by decide +kernel
theorem dL_chained_102 : decode cL_chained 102 = .ok (.ireturn, 1) := by decide +kernel
set_option maxRecDepth 20000 in
theorem ggL_count_X0_cues : GoodIn wsL_count wsX0_cues := goodIn_r _ [5, 6, 21, 22, 23, 24, 25, 26, 27, 28, 29, 30, 31, 32, 33, 34, 35, 36, 37] (by decide +kernel) (by decide +kernel)
set_option maxRecDepth 20000 in
theorem gL_count_X0_cues : GoodIn wsL_count (wsV RL 30 RX0 yX0_cues wsX0_cues) := goodIn_app (goodIn_of _ (by decide +kernel)) ggL_count_X0_cues
set_option maxRecDepth 20000 in
theorem ggL_count_X0_stateOf : GoodIn wsL_count wsX0_stateOf := goodIn_ca (goodIn_r _ [10, 11, 12, 13, 14, 4, 15, 16, 17, 6, 18, 19, 20, 21, 22, 23, 24, 25, 26, 27, 28, 29, 30, 31, 32, 33, 34, 35, 36, 37] (by decide +kernel) (by decide +kernel)) (goodIn_sub (fun _ h => List.mem_cons_of_mem _ (List.mem_append_right _ h)) (by decide +kernel))
set_option maxRecDepth 20000 in
theorem gL_count_X0_stateOf : GoodIn wsL_count (wsV RL 34 RX0 yX0_stateOf wsX0_stateOf) := goodIn_app (goodIn_of _ (by decide +kernel)) ggL_count_X0_stateOf
theorem dL_count_0 : decode cL_count 0 = .ok (.iconst 0, 1) := by decide +kernel
theorem dL_count_1 : decode cL_count 1 = .ok (.istore_n 2, 1) := by decide +kernel
theorem dL_count_2 : decode cL_count 2 = .ok (.iconst 0, 1) := by decide +kernel
theorem dL_count_3 : decode cL_count 3 = .ok (.istore_n 3, 1) := by decide +kernel
theorem dL_count_4 : decode cL_count 4 = .ok (.iload_n 3, 1) := by decide +kernel
theorem dL_count_5 : decode cL_count 5 = .ok (.aload_n 0, 1) := by decide +kernel
theorem dL_count_6 : decode cL_count 6 = .ok (.invokevirtual 30, 3) := by decide +kernel
theorem dL_count_9 : decode cL_count 9 = .ok (.if_icmp .ge 26, 3) := by decide +kernel
theorem dL_count_12 : decode cL_count 12 = .ok (.iload_n 2, 1) := by decide +kernel
theorem dL_count_13 : decode cL_count 13 = .ok (.aload_n 0, 1) := by decide +kernel
theorem dL_count_14 : decode cL_count 14 = .ok (.iload_n 3, 1) := by decide +kernel
theorem dL_count_15 : decode cL_count 15 = .ok (.invokevirtual 34, 3) := by decide +kernel
theorem dL_count_18 : decode cL_count 18 = .ok (.iload_n 1, 1) := by decide +kernel
theorem dL_count_19 : decode cL_count 19 = .ok (.if_icmp .ne 7, 3) := by decide +kernel
theorem dL_count_22 : decode cL_count 22 = .ok (.iconst 1, 1) := by decide +kernel
theorem dL_count_23 : decode cL_count 23 = .ok (.goto 4, 3) := by decide +kernel
theorem dL_count_26 : decode cL_count 26 = .ok (.iconst 0, 1) := by decide +kernel
theorem dL_count_27 : decode cL_count 27 = .ok (.iadd, 1) := by decide +kernel
theorem dL_count_28 : decode cL_count 28 = .ok (.istore_n 2, 1) := by decide +kernel
theorem dL_count_29 : decode cL_count 29 = .ok (.iinc 3 1, 3) := by decide +kernel
theorem dL_count_32 : decode cL_count 32 = .ok (.goto (-28), 3) := by decide +kernel
theorem dL_count_35 : decode cL_count 35 = .ok (.iload_n 2, 1) := by decide +kernel
theorem dL_count_36 : decode cL_count 36 = .ok (.ireturn, 1) := by decide +kernel
set_option maxRecDepth 20000 in
theorem ggL_act_L_at : GoodIn wsL_act wsL_at := goodIn_r _ [4] (by decide +kernel) (by decide +kernel)
set_option maxRecDepth 20000 in
theorem gL_act_L_at : GoodIn wsL_act (va_wsS RL 40 yL_at wsL_at) := goodIn_app (goodIn_of _ (by decide +kernel)) ggL_act_L_at
set_option maxRecDepth 20000 in
theorem ggL_act_X0_costumeOf : GoodIn wsL_act wsX0_costumeOf := goodIn_ca (goodIn_r _ [9, 10, 11, 12, 8, 13, 14, 15, 16, 17, 18, 178, 179, 180, 181, 182, 183, 184, 185, 186, 187, 188, 189, 190, 191, 192, 193, 194] (by decide +kernel) (by decide +kernel)) (goodIn_sub (fun _ h => List.mem_cons_of_mem _ (List.mem_append_left _ (List.mem_append_left _ (List.mem_append_right _ h)))) (by decide +kernel))
set_option maxRecDepth 20000 in
theorem gL_act_X0_costumeOf : GoodIn wsL_act (wsV RL 14 RX0 yX0_costumeOf wsX0_costumeOf) := goodIn_app (goodIn_of _ (by decide +kernel)) ggL_act_X0_costumeOf
set_option maxRecDepth 20000 in
theorem ggL_act_X0_isOn : GoodIn wsL_act wsX0_isOn := goodIn_ca (goodIn_r _ [22, 23, 11, 12, 8, 13, 14, 15, 16, 17, 18, 178, 179, 180, 181, 182, 183, 184, 185, 186, 187, 188, 189, 190, 191, 192, 193, 194] (by decide +kernel) (by decide +kernel)) (goodIn_sub (fun _ h => List.mem_cons_of_mem _ (List.mem_append_left _ (List.mem_append_left _ (List.mem_append_right _ h)))) (by decide +kernel))
set_option maxRecDepth 20000 in
theorem gL_act_X0_isOn : GoodIn wsL_act (wsV RL 23 RX0 yX0_isOn wsX0_isOn) := goodIn_app (goodIn_of _ (by decide +kernel)) ggL_act_X0_isOn
set_option maxRecDepth 20000 in
theorem ggL_act_X0_wear : GoodIn wsL_act wsX0_wear := goodIn_ca (goodIn_r _ [27, 28, 29, 30, 8, 31, 14, 15, 16, 17, 18, 178, 179, 180, 181, 182, 183, 184, 185, 186, 187, 188, 189, 190, 191, 192, 193, 194] (by decide +kernel) (by decide +kernel)) (goodIn_sub (fun _ h => List.mem_cons_of_mem _ (List.mem_append_left _ (List.mem_append_left _ (List.mem_append_right _ h)))) (by decide +kernel))
set_option maxRecDepth 20000 in
theorem gL_act_X0_wear : GoodIn wsL_act (wsV RL 27 RX0 yX0_wear wsX0_wear) := goodIn_app (goodIn_of _ (by decide +kernel)) ggL_act_X0_wear
set_option maxRecDepth 20000 in
theorem ggL_act_X0_dress : GoodIn wsL_act wsX0_dress := goodIn_ca (goodIn_ca (goodIn_ca (goodIn_r _ [35, 36, 37, 38, 39, 23, 28, 10, 11, 12, 8, 13, 14, 15, 16, 17, 18, 29, 30, 31, 40, 41, 42, 43, 44, 45, 46, 47, 48, 49, 50, 51, 52, 53, 178, 179, 180, 181, 182, 183, 184, 185, 186, 187, 188, 189, 190, 191, 192, 193, 194] (by decide +kernel) (by decide +kernel)) (goodIn_sub (fun _ h => List.mem_cons_of_mem _ (List.mem_append_left _ (List.mem_append_right _ h))) (by decide +kernel))) (goodIn_sub (fun _ h => List.mem_cons_of_mem _ (List.mem_append_right _ h)) (by decide +kernel))) (goodIn_sub (fun _ h => List.mem_cons_of_mem _ (List.mem_append_left _ (List.mem_append_left _ (List.mem_append_right _ h)))) (by decide +kernel))
set_option maxRecDepth 20000 in
theorem gL_act_X0_dress : GoodIn wsL_act (wsV RL 46 RX0 yX0_dress wsX0_dress) := goodIn_app (goodIn_of _ (by decide +kernel)) ggL_act_X0_dress
set_option maxRecDepth 20000 in
theorem ggL_act_X0_cues : GoodIn wsL_act wsX0_cues := goodIn_r _ [57, 58, 178, 179, 180, 181, 182, 183, 184, 185, 186, 187, 188, 189, 190, 191, 192, 193, 194] (by decide +kernel) (by decide +kernel)
set_option maxRecDepth 20000 in
theorem gL_act_X0_cues : GoodIn wsL_act (wsV RL 30 RX0 yX0_cues wsX0_cues) := goodIn_app (goodIn_of _ (by decide +kernel)) ggL_act_X0_cues
set_option maxRecDepth 20000 in
theorem ggL_act_X0_stateOf : GoodIn wsL_act wsX0_stateOf := goodIn_ca (goodIn_r _ [62, 63, 64, 65, 66, 8, 67, 14, 15, 58, 16, 17, 18, 178, 179, 180, 181, 182, 183, 184, 185, 186, 187, 188, 189, 190, 191, 192, 193, 194] (by decide +kernel) (by decide +kernel)) (goodIn_sub (fun _ h => List.mem_cons_of_mem _ (List.mem_append_left _ (List.mem_append_left _ (List.mem_append_right _ h)))) (by decide +kernel))
set_option maxRecDepth 20000 in
theorem gL_act_X0_stateOf : GoodIn wsL_act (wsV RL 34 RX0 yX0_stateOf wsX0_stateOf) := goodIn_app (goodIn_of _ (by decide +kernel)) ggL_act_X0_stateOf
set_option maxRecDepth 20000 in
theorem ggL_act_X0_addCue : GoodIn wsL_act wsX0_addCue := goodIn_ca (goodIn_ca (goodIn_ca (goodIn_r _ [71, 36, 37, 38, 39, 58, 63, 72, 73, 74, 75, 11, 12, 8, 13, 14, 15, 16, 17, 18, 76, 77, 78, 79, 80, 81, 64, 65, 66, 67, 178, 179, 180, 181, 182, 183, 184, 185, 186, 187, 188, 189, 190, 191, 192, 193, 194] (by decide +kernel) (by decide +kernel)) (goodIn_sub (fun _ h => List.mem_cons_of_mem _ (List.mem_append_left _ (List.mem_append_right _ h))) (by decide +kernel))) (goodIn_sub (fun _ h => List.mem_cons_of_mem _ (List.mem_append_right _ h)) (by decide +kernel))) (goodIn_sub (fun _ h => List.mem_cons_of_mem _ (List.mem_append_left _ (List.mem_append_left _ (List.mem_append_right _ h)))) (by decide +kernel))
set_option maxRecDepth 20000 in
theorem gL_act_X0_addCue : GoodIn wsL_act (wsV RL 49 RX0 yX0_addCue wsX0_addCue) := goodIn_app (goodIn_of _ (by decide +kernel)) ggL_act_X0_addCue
set_option maxRecDepth 20000 in
theorem ggL_act_X0_run : GoodIn wsL_act wsX0_run := goodIn_r _ [85, 86, 87, 88, 89, 8, 90, 58, 91, 92, 93, 94, 63, 95, 96, 97, 98, 75, 99, 100, 101, 102, 73, 74, 72, 23, 10, 103, 104, 105, 106, 107, 51, 52, 53, 108, 109, 110, 111, 112, 113, 114, 115, 116, 117, 118, 119, 28, 120, 121, 122, 123, 124, 125, 126, 127, 128, 178, 179, 180, 181, 182, 183, 184, 185, 186, 187, 188, 189, 190, 191, 192, 193, 194] (by decide +kernel) (by decide +kernel)
set_option maxRecDepth 20000 in
theorem gL_act_X0_run : GoodIn wsL_act (wsV RL 53 RX0 yX0_run wsX0_run) := goodIn_app (goodIn_of _ (by decide +kernel)) ggL_act_X0_run
set_option maxRecDepth 20000 in
theorem ggL_act_L_count : GoodIn wsL_act wsL_count := goodIn_ca (goodIn_r _ [131, 54, 55, 56, 8, 57, 58, 59, 60, 61, 62, 63, 64, 65, 66, 67, 14, 15, 16, 17, 18, 178, 179, 180, 181, 182, 183, 184, 185, 186, 187, 188, 189, 190, 191, 192, 193, 194] (by decide +kernel) (by decide +kernel)) (goodIn_sub (fun _ h => List.mem_cons_of_mem _ (List.mem_append_left _ (List.mem_append_left _ (List.mem_append_right _ h)))) (by decide +kernel))
set_option maxRecDepth 20000 in
theorem gL_act_L_count : GoodIn wsL_act (va_wsS RL 56 yL_count wsL_count) := goodIn_app (goodIn_of _ (by decide +kernel)) ggL_act_L_count
set_option maxRecDepth 20000 in
theorem ggL_act_X0_miss : GoodIn wsL_act wsX0_miss := goodIn_ca (goodIn_ca (goodIn_r _ [135, 38, 39, 63, 58, 64, 65, 66, 8, 67, 14, 15, 16, 17, 18, 136, 137, 138, 139, 75, 178, 179, 180, 181, 182, 183, 184, 185, 186, 187, 188, 189, 190, 191, 192, 193, 194] (by decide +kernel) (by decide +kernel)) (goodIn_sub (fun _ h => List.mem_cons_of_mem _ (List.mem_append_right _ h)) (by decide +kernel))) (goodIn_sub (fun _ h => List.mem_cons_of_mem _ (List.mem_append_left _ (List.mem_append_left _ (List.mem_append_right _ h)))) (by decide +kernel))
set_option maxRecDepth 20000 in
theorem gL_act_X0_miss : GoodIn wsL_act (wsV RL 60 RX0 yX0_miss wsX0_miss) := goodIn_app (goodIn_of _ (by decide +kernel)) ggL_act_X0_miss
set_option maxRecDepth 20000 in
theorem ggL_act_X0_canCall : GoodIn wsL_act wsX0_canCall := goodIn_ca (goodIn_r _ [143, 64, 65, 66, 8, 67, 14, 15, 58, 16, 17, 18, 91, 92, 93, 94, 63, 95, 96, 97, 98, 75, 99, 100, 101, 102, 73, 74, 72, 23, 10, 103, 104, 105, 106, 107, 51, 52, 53, 108, 109, 110, 111, 178, 179, 180, 181, 182, 183, 184, 185, 186, 187, 188, 189, 190, 191, 192, 193, 194] (by decide +kernel) (by decide +kernel)) (goodIn_sub (fun _ h => List.mem_cons_of_mem _ (List.mem_append_left _ (List.mem_append_left _ (List.mem_append_right _ h)))) (by decide +kernel))
set_option maxRecDepth 20000 in
theorem gL_act_X0_canCall : GoodIn wsL_act (wsV RL 37 RX0 yX0_canCall wsX0_canCall) := goodIn_app (goodIn_of _ (by decide +kernel)) ggL_act_X0_canCall
set_option maxRecDepth 20000 in
theorem ggL_act_X0_call : GoodIn wsL_act wsX0_call := goodIn_ca (goodIn_ca (goodIn_r _ [147, 38, 39, 86, 64, 65, 66, 8, 67, 14, 15, 58, 16, 17, 18, 91, 92, 93, 94, 63, 95, 96, 97, 98, 75, 99, 100, 101, 102, 73, 74, 72, 23, 10, 103, 104, 105, 106, 107, 51, 52, 53, 108, 109, 110, 111, 112, 113, 114, 115, 116, 117, 118, 119, 28, 120, 121, 122, 123, 124, 125, 126, 127, 128, 178, 179, 180, 181, 182, 183, 184, 185, 186, 187, 188, 189, 190, 191, 192, 193, 194] (by decide +kernel) (by decide +kernel)) (goodIn_sub (fun _ h => List.mem_cons_of_mem _ (List.mem_append_right _ h)) (by decide +kernel))) (goodIn_sub (fun _ h => List.mem_cons_of_mem _ (List.mem_append_left _ (List.mem_append_left _ (List.mem_append_right _ h)))) (by decide +kernel))
set_option maxRecDepth 20000 in
theorem gL_act_X0_call : GoodIn wsL_act (wsV RL 63 RX0 yX0_call wsX0_call) := goodIn_app (goodIn_of _ (by decide +kernel)) ggL_act_X0_call
set_option maxRecDepth 20000 in
theorem ggL_act_X0_purse : GoodIn wsL_act wsX0_purse := goodIn_r _ [151, 152, 178, 179, 180, 181, 182, 183, 184, 185, 186, 187, 188, 189, 190, 191, 192, 193, 194] (by decide +kernel) (by decide +kernel)
set_option maxRecDepth 20000 in
theorem gL_act_X0_purse : GoodIn wsL_act (wsV RL 66 RX0 yX0_purse wsX0_purse) := goodIn_app (goodIn_of _ (by decide +kernel)) ggL_act_X0_purse
set_option maxRecDepth 20000 in
theorem ggL_act_X0_plays : GoodIn wsL_act wsX0_plays := goodIn_r _ [156, 157, 178, 179, 180, 181, 182, 183, 184, 185, 186, 187, 188, 189, 190, 191, 192, 193, 194] (by decide +kernel) (by decide +kernel)
set_option maxRecDepth 20000 in
theorem gL_act_X0_plays : GoodIn wsL_act (wsV RL 69 RX0 yX0_plays wsX0_plays) := goodIn_app (goodIn_of _ (by decide +kernel)) ggL_act_X0_plays
set_option maxRecDepth 20000 in
theorem ggL_act_X0_endPlay : GoodIn wsL_act wsX0_endPlay := goodIn_ca (goodIn_r _ [161, 38, 39, 152, 162, 163, 45, 164, 157, 58, 86, 165, 166, 167, 8, 168, 63, 169, 170, 171, 172, 103, 23, 173, 174, 175, 176, 177, 178, 179, 180, 181, 182, 183, 184, 185, 186, 187, 188, 189, 190, 191, 192, 193, 194] (by decide +kernel) (by decide +kernel)) (goodIn_sub (fun _ h => List.mem_cons_of_mem _ (List.mem_append_right _ h)) (by decide +kernel))
set_option maxRecDepth 20000 in
theorem gL_act_X0_endPlay : GoodIn wsL_act (wsV RL 72 RX0 yX0_endPlay wsX0_endPlay) := goodIn_app (goodIn_of _ (by decide +kernel)) ggL_act_X0_endPlay
end
section
theorem dL_act_0 : decode cL_act 0 = .ok (.iload_n 1, 1) := by decide +kernel
theorem dL_act_1 : decode cL_act 1 = .ok (.bipush 9, 2) := by decide +kernel
theorem dL_act_3 : decode cL_act 3 = .ok (.invokestatic 40, 3) := by decide +kernel
theorem dL_act_6 : decode cL_act 6 = .ok (.istore 4, 2) := by decide +kernel
theorem dL_act_8 : decode cL_act 8 = .ok (.iload_n 1, 1) := by decide +kernel
theorem dL_act_9 : decode cL_act 9 = .ok (.iconst 5, 1) := by decide +kernel
theorem dL_act_10 : decode cL_act 10 = .ok (.ishr, 1) := by decide +kernel
theorem dL_act_11 : decode cL_act 11 = .ok (.istore 5, 2) := by decide +kernel
theorem dL_act_13 : decode cL_act 13 = .ok (.iload 5, 2) := by decide +kernel
theorem dL_act_15 : decode cL_act 15 = .ok (.bipush 6, 2) := by decide +kernel
theorem dL_act_17 : decode cL_act 17 = .ok (.invokestatic 40, 3) := by decide +kernel
theorem dL_act_20 : decode cL_act 20 = .ok (.istore 6, 2) := by decide +kernel
theorem dL_act_22 : decode cL_act 22 = .ok (.iload 4, 2) := by decide +kernel
theorem dL_act_24 : decode cL_act 24 = .ok (.iconst 2, 1) := by decide +kernel
theorem dL_act_25 : decode cL_act 25 = .ok (.if_icmp .ge 133, 3) := by decide +kernel
theorem dL_act_28 : decode cL_act 28 = .ok (.iload 6, 2) := by decide +kernel
theorem dL_act_30 : decode cL_act 30 = .ok (.iload_n 2, 1) := by decide +kernel
theorem dL_act_31 : decode cL_act 31 = .ok (.iconst 3, 1) := by decide +kernel
theorem dL_act_32 : decode cL_act 32 = .ok (.invokestatic 40, 3) := by decide +kernel
theorem dL_act_35 : decode cL_act 35 = .ok (.iadd, 1) := by decide +kernel
theorem dL_act_36 : decode cL_act 36 = .ok (.istore 7, 2) := by decide +kernel
theorem dL_act_38 : decode cL_act 38 = .ok (.aload_n 0, 1) := by decide +kernel
theorem dL_act_39 : decode cL_act 39 = .ok (.iload 6, 2) := by decide +kernel
theorem dL_act_41 : decode cL_act 41 = .ok (.invokevirtual 14, 3) := by decide +kernel
theorem dL_act_44 : decode cL_act 44 = .ok (.istore 8, 2) := by decide +kernel
theorem dL_act_46 : decode cL_act 46 = .ok (.iload 7, 2) := by decide +kernel
theorem dL_act_48 : decode cL_act 48 = .ok (.bipush 8, 2) := by decide +kernel
theorem dL_act_50 : decode cL_act 50 = .ok (.if_icmp .ge 26, 3) := by decide +kernel
theorem dL_act_53 : decode cL_act 53 = .ok (.aload_n 0, 1) := by decide +kernel
theorem dL_act_54 : decode cL_act 54 = .ok (.iload 6, 2) := by decide +kernel
theorem dL_act_56 : decode cL_act 56 = .ok (.invokevirtual 23, 3) := by decide +kernel
theorem dL_act_59 : decode cL_act 59 = .ok (.ifCond .ne 17, 3) := by decide +kernel
theorem dL_act_62 : decode cL_act 62 = .ok (.aload_n 0, 1) := by decide +kernel
theorem dL_act_63 : decode cL_act 63 = .ok (.iload 7, 2) := by decide +kernel
theorem dL_act_65 : decode cL_act 65 = .ok (.invokevirtual 27, 3) := by decide +kernel
theorem dL_act_68 : decode cL_act 68 = .ok (.iconst 3, 1) := by decide +kernel
theorem dL_act_69 : decode cL_act 69 = .ok (.if_icmp .ge 7, 3) := by decide +kernel
theorem dL_act_72 : decode cL_act 72 = .ok (.iconst 1, 1) := by decide +kernel
theorem dL_act_73 : decode cL_act 73 = .ok (.goto 4, 3) := by decide +kernel
theorem dL_act_76 : decode cL_act 76 = .ok (.iconst 0, 1) := by decide +kernel
theorem dL_act_77 : decode cL_act 77 = .ok (.istore 9, 2) := by decide +kernel
theorem dL_act_79 : decode cL_act 79 = .ok (.iconst 0, 1) := by decide +kernel
theorem dL_act_80 : decode cL_act 80 = .ok (.istore 10, 2) := by decide +kernel
theorem dL_act_82 : decode cL_act 82 = .ok (.iload 10, 2) := by decide +kernel
theorem dL_act_84 : decode cL_act 84 = .ok (.bipush 6, 2) := by decide +kernel
theorem dL_act_86 : decode cL_act 86 = .ok (.if_icmp .ge 37, 3) := by decide +kernel
theorem dL_act_89 : decode cL_act 89 = .ok (.iload 9, 2) := by decide +kernel
theorem dL_act_91 : decode cL_act 91 = .ok (.iload 10, 2) := by decide +kernel
theorem dL_act_93 : decode cL_act 93 = .ok (.iload 6, 2) := by decide +kernel
theorem dL_act_95 : decode cL_act 95 = .ok (.if_icmp .eq 14, 3) := by decide +kernel
theorem dL_act_98 : decode cL_act 98 = .ok (.aload_n 0, 1) := by decide +kernel
theorem dL_act_99 : decode cL_act 99 = .ok (.iload 10, 2) := by decide +kernel
theorem dL_act_101 : decode cL_act 101 = .ok (.invokevirtual 14, 3) := by decide +kernel
theorem dL_act_104 : decode cL_act 104 = .ok (.iload 7, 2) := by decide +kernel
theorem dL_act_106 : decode cL_act 106 = .ok (.if_icmp .eq 7, 3) := by decide +kernel
theorem dL_act_109 : decode cL_act 109 = .ok (.iconst 1, 1) := by decide +kernel
theorem dL_act_110 : decode cL_act 110 = .ok (.goto 4, 3) := by decide +kernel
theorem dL_act_113 : decode cL_act 113 = .ok (.iconst 0, 1) := by decide +kernel
theorem dL_act_114 : decode cL_act 114 = .ok (.iand, 1) := by decide +kernel
theorem dL_act_115 : decode cL_act 115 = .ok (.istore 9, 2) := by decide +kernel
theorem dL_act_117 : decode cL_act 117 = .ok (.iinc 10 1, 3) := by decide +kernel
theorem dL_act_120 : decode cL_act 120 = .ok (.goto (-38), 3) := by decide +kernel
theorem dL_act_123 : decode cL_act 123 = .ok (.iload 9, 2) := by decide +kernel
theorem dL_act_125 : decode cL_act 125 = .ok (.ifCond .eq 27, 3) := by decide +kernel
theorem dL_act_128 : decode cL_act 128 = .ok (.aload_n 0, 1) := by decide +kernel
theorem dL_act_129 : decode cL_act 129 = .ok (.iload 6, 2) := by decide +kernel
theorem dL_act_131 : decode cL_act 131 = .ok (.iload 7, 2) := by decide +kernel
theorem dL_act_133 : decode cL_act 133 = .ok (.invokevirtual 46, 3) := by decide +kernel
theorem dL_act_136 : decode cL_act 136 = .ok (.iload 8, 2) := by decide +kernel
theorem dL_act_138 : decode cL_act 138 = .ok (.if_icmp .ne 18, 3) := by decide +kernel
theorem dL_act_141 : decode cL_act 141 = .ok (.aload_n 0, 1) := by decide +kernel
theorem dL_act_142 : decode cL_act 142 = .ok (.iload 6, 2) := by decide +kernel
theorem dL_act_144 : decode cL_act 144 = .ok (.invokevirtual 14, 3) := by decide +kernel
theorem dL_act_147 : decode cL_act 147 = .ok (.iload 7, 2) := by decide +kernel
theorem dL_act_149 : decode cL_act 149 = .ok (.if_icmp .ne 7, 3) := by decide +kernel
theorem dL_act_152 : decode cL_act 152 = .ok (.iconst 1, 1) := by decide +kernel
theorem dL_act_153 : decode cL_act 153 = .ok (.goto 4, 3) := by decide +kernel
theorem dL_act_156 : decode cL_act 156 = .ok (.iconst 0, 1) := by decide +kernel
theorem dL_act_157 : decode cL_act 157 = .ok (.ireturn, 1) := by decide +kernel
theorem dL_act_158 : decode cL_act 158 = .ok (.iload 4, 2) := by decide +kernel
theorem dL_act_160 : decode cL_act 160 = .ok (.iconst 5, 1) := by decide +kernel
theorem dL_act_161 : decode cL_act 161 = .ok (.if_icmp .ge 122, 3) := by decide +kernel
theorem dL_act_164 : decode cL_act 164 = .ok (.aload_n 0, 1) := by decide +kernel
theorem dL_act_165 : decode cL_act 165 = .ok (.invokevirtual 30, 3) := by decide +kernel
theorem dL_act_168 : decode cL_act 168 = .ok (.istore 7, 2) := by decide +kernel
theorem dL_act_170 : decode cL_act 170 = .ok (.iload 6, 2) := by decide +kernel
theorem dL_act_172 : decode cL_act 172 = .ok (.iconst 1, 1) := by decide +kernel
theorem dL_act_173 : decode cL_act 173 = .ok (.iadd, 1) := by decide +kernel
theorem dL_act_174 : decode cL_act 174 = .ok (.iload 5, 2) := by decide +kernel
theorem dL_act_176 : decode cL_act 176 = .ok (.iconst 4, 1) := by decide +kernel
theorem dL_act_177 : decode cL_act 177 = .ok (.ishr, 1) := by decide +kernel
theorem dL_act_178 : decode cL_act 178 = .ok (.iconst 5, 1) := by decide +kernel
theorem dL_act_179 : decode cL_act 179 = .ok (.invokestatic 40, 3) := by decide +kernel
theorem dL_act_182 : decode cL_act 182 = .ok (.iadd, 1) := by decide +kernel
theorem dL_act_183 : decode cL_act 183 = .ok (.bipush 6, 2) := by decide +kernel
theorem dL_act_185 : decode cL_act 185 = .ok (.irem, 1) := by decide +kernel
theorem dL_act_186 : decode cL_act 186 = .ok (.istore 8, 2) := by decide +kernel
theorem dL_act_188 : decode cL_act 188 = .ok (.iload 7, 2) := by decide +kernel
theorem dL_act_190 : decode cL_act 190 = .ok (.ifCond .eq 11, 3) := by decide +kernel
theorem dL_act_193 : decode cL_act 193 = .ok (.iload_n 2, 1) := by decide +kernel
theorem dL_act_194 : decode cL_act 194 = .ok (.iconst 2, 1) := by decide +kernel
theorem dL_act_195 : decode cL_act 195 = .ok (.invokestatic 40, 3) := by decide +kernel
theorem dL_act_198 : decode cL_act 198 = .ok (.ifCond .ne 7, 3) := by decide +kernel
theorem dL_act_201 : decode cL_act 201 = .ok (.iconst (-1), 1) := by decide +kernel
theorem dL_act_202 : decode cL_act 202 = .ok (.goto 11, 3) := by decide +kernel
theorem dL_act_205 : decode cL_act 205 = .ok (.iload_n 2, 1) := by decide +kernel
theorem dL_act_206 : decode cL_act 206 = .ok (.iconst 3, 1) := by decide +kernel
theorem dL_act_207 : decode cL_act 207 = .ok (.ishr, 1) := by decide +kernel
theorem dL_act_208 : decode cL_act 208 = .ok (.iload 7, 2) := by decide +kernel
theorem dL_act_210 : decode cL_act 210 = .ok (.invokestatic 40, 3) := by decide +kernel
theorem dL_act_213 : decode cL_act 213 = .ok (.istore 9, 2) := by decide +kernel
theorem dL_act_215 : decode cL_act 215 = .ok (.iload 7, 2) := by decide +kernel
theorem dL_act_217 : decode cL_act 217 = .ok (.bipush 24, 2) := by decide +kernel
theorem dL_act_219 : decode cL_act 219 = .ok (.if_icmp .eq 18, 3) := by decide +kernel
theorem dL_act_222 : decode cL_act 222 = .ok (.iload 9, 2) := by decide +kernel
theorem dL_act_224 : decode cL_act 224 = .ok (.ifCond .lt 15, 3) := by decide +kernel
theorem dL_act_227 : decode cL_act 227 = .ok (.aload_n 0, 1) := by decide +kernel
theorem dL_act_228 : decode cL_act 228 = .ok (.iload 9, 2) := by decide +kernel
theorem dL_act_230 : decode cL_act 230 = .ok (.invokevirtual 34, 3) := by decide +kernel
theorem dL_act_233 : decode cL_act 233 = .ok (.iconst 2, 1) := by decide +kernel
theorem dL_act_234 : decode cL_act 234 = .ok (.if_icmp .ne 5, 3) := by decide +kernel
theorem dL_act_237 : decode cL_act 237 = .ok (.iconst 1, 1) := by decide +kernel
theorem dL_act_238 : decode cL_act 238 = .ok (.ireturn, 1) := by decide +kernel
theorem dL_act_239 : decode cL_act 239 = .ok (.aload_n 3, 1) := by decide +kernel
theorem dL_act_240 : decode cL_act 240 = .ok (.iload 7, 2) := by decide +kernel
theorem dL_act_242 : decode cL_act 242 = .ok (.iload 9, 2) := by decide +kernel
theorem dL_act_244 : decode cL_act 244 = .ok (.iastore, 1) := by decide +kernel
theorem dL_act_245 : decode cL_act 245 = .ok (.aload_n 0, 1) := by decide +kernel
theorem dL_act_246 : decode cL_act 246 = .ok (.iload_n 2, 1) := by decide +kernel
theorem dL_act_247 : decode cL_act 247 = .ok (.bipush 7, 2) := by decide +kernel
theorem dL_act_249 : decode cL_act 249 = .ok (.ishr, 1) := by decide +kernel
theorem dL_act_250 : decode cL_act 250 = .ok (.iconst 5, 1) := by decide +kernel
theorem dL_act_251 : decode cL_act 251 = .ok (.invokestatic 40, 3) := by decide +kernel
theorem dL_act_254 : decode cL_act 254 = .ok (.iload 6, 2) := by decide +kernel
theorem dL_act_256 : decode cL_act 256 = .ok (.iload 8, 2) := by decide +kernel
theorem dL_act_258 : decode cL_act 258 = .ok (.iload 9, 2) := by decide +kernel
theorem dL_act_260 : decode cL_act 260 = .ok (.invokevirtual 49, 3) := by decide +kernel
theorem dL_act_263 : decode cL_act 263 = .ok (.iload 7, 2) := by decide +kernel
theorem dL_act_265 : decode cL_act 265 = .ok (.if_icmp .ne 16, 3) := by decide +kernel
theorem dL_act_268 : decode cL_act 268 = .ok (.aload_n 0, 1) := by decide +kernel
theorem dL_act_269 : decode cL_act 269 = .ok (.iload 7, 2) := by decide +kernel
theorem dL_act_271 : decode cL_act 271 = .ok (.invokevirtual 34, 3) := by decide +kernel
theorem dL_act_274 : decode cL_act 274 = .ok (.ifCond .ne 7, 3) := by decide +kernel
theorem dL_act_277 : decode cL_act 277 = .ok (.iconst 1, 1) := by decide +kernel
theorem dL_act_278 : decode cL_act 278 = .ok (.goto 4, 3) := by decide +kernel
theorem dL_act_281 : decode cL_act 281 = .ok (.iconst 0, 1) := by decide +kernel
theorem dL_act_282 : decode cL_act 282 = .ok (.ireturn, 1) := by decide +kernel
theorem dL_act_283 : decode cL_act 283 = .ok (.iload 4, 2) := by decide +kernel
theorem dL_act_285 : decode cL_act 285 = .ok (.iconst 5, 1) := by decide +kernel
theorem dL_act_286 : decode cL_act 286 = .ok (.if_icmp .ne 24, 3) := by decide +kernel
theorem dL_act_289 : decode cL_act 289 = .ok (.aload_n 0, 1) := by decide +kernel
theorem dL_act_290 : decode cL_act 290 = .ok (.invokevirtual 53, 3) := by decide +kernel
theorem dL_act_293 : decode cL_act 293 = .ok (.ifCond .lt 15, 3) := by decide +kernel
theorem dL_act_296 : decode cL_act 296 = .ok (.aload_n 0, 1) := by decide +kernel
theorem dL_act_297 : decode cL_act 297 = .ok (.iconst 1, 1) := by decide +kernel
theorem dL_act_298 : decode cL_act 298 = .ok (.invokestatic 56, 3) := by decide +kernel
theorem dL_act_301 : decode cL_act 301 = .ok (.ifCond .lt 7, 3) := by decide +kernel
theorem dL_act_304 : decode cL_act 304 = .ok (.iconst 1, 1) := by decide +kernel
theorem dL_act_305 : decode cL_act 305 = .ok (.goto 4, 3) := by decide +kernel
theorem dL_act_308 : decode cL_act 308 = .ok (.iconst 0, 1) := by decide +kernel
theorem dL_act_309 : decode cL_act 309 = .ok (.ireturn, 1) := by decide +kernel
theorem dL_act_310 : decode cL_act 310 = .ok (.aload_n 0, 1) := by decide +kernel
theorem dL_act_311 : decode cL_act 311 = .ok (.invokevirtual 30, 3) := by decide +kernel
theorem dL_act_314 : decode cL_act 314 = .ok (.ifCond .ne 5, 3) := by decide +kernel
theorem dL_act_317 : decode cL_act 317 = .ok (.iconst 1, 1) := by decide +kernel
theorem dL_act_318 : decode cL_act 318 = .ok (.ireturn, 1) := by decide +kernel
theorem dL_act_319 : decode cL_act 319 = .ok (.iload_n 2, 1) := by decide +kernel
theorem dL_act_320 : decode cL_act 320 = .ok (.aload_n 0, 1) := by decide +kernel
theorem dL_act_321 : decode cL_act 321 = .ok (.invokevirtual 30, 3) := by decide +kernel
theorem dL_act_324 : decode cL_act 324 = .ok (.invokestatic 40, 3) := by decide +kernel
theorem dL_act_327 : decode cL_act 327 = .ok (.istore 7, 2) := by decide +kernel
theorem dL_act_329 : decode cL_act 329 = .ok (.iload 4, 2) := by decide +kernel
theorem dL_act_331 : decode cL_act 331 = .ok (.bipush 6, 2) := by decide +kernel
theorem dL_act_333 : decode cL_act 333 = .ok (.if_icmp .ne 52, 3) := by decide +kernel
theorem dL_act_336 : decode cL_act 336 = .ok (.aload_n 0, 1) := by decide +kernel
theorem dL_act_337 : decode cL_act 337 = .ok (.iconst 2, 1) := by decide +kernel
theorem dL_act_338 : decode cL_act 338 = .ok (.invokestatic 56, 3) := by decide +kernel
theorem dL_act_341 : decode cL_act 341 = .ok (.istore 8, 2) := by decide +kernel
theorem dL_act_343 : decode cL_act 343 = .ok (.aload_n 0, 1) := by decide +kernel
theorem dL_act_344 : decode cL_act 344 = .ok (.iload 7, 2) := by decide +kernel
theorem dL_act_346 : decode cL_act 346 = .ok (.invokevirtual 34, 3) := by decide +kernel
theorem dL_act_349 : decode cL_act 349 = .ok (.ifCond .ne 30, 3) := by decide +kernel
theorem dL_act_352 : decode cL_act 352 = .ok (.aload_n 0, 1) := by decide +kernel
theorem dL_act_353 : decode cL_act 353 = .ok (.iload 7, 2) := by decide +kernel
theorem dL_act_355 : decode cL_act 355 = .ok (.invokevirtual 60, 3) := by decide +kernel
theorem dL_act_358 : decode cL_act 358 = .ok (.aload_n 0, 1) := by decide +kernel
theorem dL_act_359 : decode cL_act 359 = .ok (.iconst 2, 1) := by decide +kernel
theorem dL_act_360 : decode cL_act 360 = .ok (.invokestatic 56, 3) := by decide +kernel
theorem dL_act_363 : decode cL_act 363 = .ok (.iload 8, 2) := by decide +kernel
theorem dL_act_365 : decode cL_act 365 = .ok (.isub, 1) := by decide +kernel
theorem dL_act_366 : decode cL_act 366 = .ok (.if_icmp .ne 17, 3) := by decide +kernel
theorem dL_act_369 : decode cL_act 369 = .ok (.aload_n 0, 1) := by decide +kernel
theorem dL_act_370 : decode cL_act 370 = .ok (.iload 7, 2) := by decide +kernel
theorem dL_act_372 : decode cL_act 372 = .ok (.invokevirtual 34, 3) := by decide +kernel
theorem dL_act_375 : decode cL_act 375 = .ok (.iconst 2, 1) := by decide +kernel
theorem dL_act_376 : decode cL_act 376 = .ok (.if_icmp .ne 7, 3) := by decide +kernel
theorem dL_act_379 : decode cL_act 379 = .ok (.iconst 1, 1) := by decide +kernel
theorem dL_act_380 : decode cL_act 380 = .ok (.goto 4, 3) := by decide +kernel
theorem dL_act_383 : decode cL_act 383 = .ok (.iconst 0, 1) := by decide +kernel
theorem dL_act_384 : decode cL_act 384 = .ok (.ireturn, 1) := by decide +kernel
theorem dL_act_385 : decode cL_act 385 = .ok (.iload 4, 2) := by decide +kernel
theorem dL_act_387 : decode cL_act 387 = .ok (.bipush 7, 2) := by decide +kernel
theorem dL_act_389 : decode cL_act 389 = .ok (.if_icmp .ne 60, 3) := by decide +kernel
theorem dL_act_392 : decode cL_act 392 = .ok (.aload_n 0, 1) := by decide +kernel
theorem dL_act_393 : decode cL_act 393 = .ok (.iconst 1, 1) := by decide +kernel
theorem dL_act_394 : decode cL_act 394 = .ok (.invokestatic 56, 3) := by decide +kernel
theorem dL_act_397 : decode cL_act 397 = .ok (.istore 8, 2) := by decide +kernel
theorem dL_act_399 : decode cL_act 399 = .ok (.aload_n 0, 1) := by decide +kernel
theorem dL_act_400 : decode cL_act 400 = .ok (.iload 7, 2) := by decide +kernel
theorem dL_act_402 : decode cL_act 402 = .ok (.invokevirtual 37, 3) := by decide +kernel
theorem dL_act_405 : decode cL_act 405 = .ok (.ifCond .eq 38, 3) := by decide +kernel
theorem dL_act_408 : decode cL_act 408 = .ok (.aload_n 0, 1) := by decide +kernel
theorem dL_act_409 : decode cL_act 409 = .ok (.iload 7, 2) := by decide +kernel
theorem dL_act_411 : decode cL_act 411 = .ok (.invokevirtual 63, 3) := by decide +kernel
theorem dL_act_414 : decode cL_act 414 = .ok (.iload 8, 2) := by decide +kernel
theorem dL_act_416 : decode cL_act 416 = .ok (.iconst 1, 1) := by decide +kernel
theorem dL_act_417 : decode cL_act 417 = .ok (.iadd, 1) := by decide +kernel
theorem dL_act_418 : decode cL_act 418 = .ok (.if_icmp .ne 29, 3) := by decide +kernel
theorem dL_act_421 : decode cL_act 421 = .ok (.aload_n 0, 1) := by decide +kernel
theorem dL_act_422 : decode cL_act 422 = .ok (.iload 7, 2) := by decide +kernel
theorem dL_act_424 : decode cL_act 424 = .ok (.invokevirtual 34, 3) := by decide +kernel
theorem dL_act_427 : decode cL_act 427 = .ok (.iconst 1, 1) := by decide +kernel
theorem dL_act_428 : decode cL_act 428 = .ok (.if_icmp .ne 19, 3) := by decide +kernel
theorem dL_act_431 : decode cL_act 431 = .ok (.aload_n 0, 1) := by decide +kernel
theorem dL_act_432 : decode cL_act 432 = .ok (.iconst 1, 1) := by decide +kernel
theorem dL_act_433 : decode cL_act 433 = .ok (.invokestatic 56, 3) := by decide +kernel
theorem dL_act_436 : decode cL_act 436 = .ok (.iload 8, 2) := by decide +kernel
theorem dL_act_438 : decode cL_act 438 = .ok (.iconst 1, 1) := by decide +kernel
theorem dL_act_439 : decode cL_act 439 = .ok (.iadd, 1) := by decide +kernel
theorem dL_act_440 : decode cL_act 440 = .ok (.if_icmp .ne 7, 3) := by decide +kernel
theorem dL_act_443 : decode cL_act 443 = .ok (.iconst 1, 1) := by decide +kernel
theorem dL_act_444 : decode cL_act 444 = .ok (.goto 4, 3) := by decide +kernel
theorem dL_act_447 : decode cL_act 447 = .ok (.iconst 0, 1) := by decide +kernel
theorem dL_act_448 : decode cL_act 448 = .ok (.ireturn, 1) := by decide +kernel
theorem dL_act_449 : decode cL_act 449 = .ok (.aload_n 0, 1) := by decide +kernel
theorem dL_act_450 : decode cL_act 450 = .ok (.iconst 1, 1) := by decide +kernel
theorem dL_act_451 : decode cL_act 451 = .ok (.invokestatic 56, 3) := by decide +kernel
theorem dL_act_454 : decode cL_act 454 = .ok (.istore 8, 2) := by decide +kernel
theorem dL_act_456 : decode cL_act 456 = .ok (.aload_n 0, 1) := by decide +kernel
theorem dL_act_457 : decode cL_act 457 = .ok (.iconst 2, 1) := by decide +kernel
theorem dL_act_458 : decode cL_act 458 = .ok (.invokestatic 56, 3) := by decide +kernel
theorem dL_act_461 : decode cL_act 461 = .ok (.istore 9, 2) := by decide +kernel
theorem dL_act_463 : decode cL_act 463 = .ok (.iload 8, 2) := by decide +kernel
theorem dL_act_465 : decode cL_act 465 = .ok (.iload 9, 2) := by decide +kernel
theorem dL_act_467 : decode cL_act 467 = .ok (.iadd, 1) := by decide +kernel
theorem dL_act_468 : decode cL_act 468 = .ok (.aload_n 0, 1) := by decide +kernel
theorem dL_act_469 : decode cL_act 469 = .ok (.invokevirtual 30, 3) := by decide +kernel
theorem dL_act_472 : decode cL_act 472 = .ok (.if_icmp .ge 5, 3) := by decide +kernel
theorem dL_act_475 : decode cL_act 475 = .ok (.iconst 1, 1) := by decide +kernel
theorem dL_act_476 : decode cL_act 476 = .ok (.ireturn, 1) := by decide +kernel
theorem dL_act_477 : decode cL_act 477 = .ok (.aload_n 0, 1) := by decide +kernel
theorem dL_act_478 : decode cL_act 478 = .ok (.invokevirtual 66, 3) := by decide +kernel
theorem dL_act_481 : decode cL_act 481 = .ok (.iload 8, 2) := by decide +kernel
theorem dL_act_483 : decode cL_act 483 = .ok (.iadd, 1) := by decide +kernel
theorem dL_act_484 : decode cL_act 484 = .ok (.iload 9, 2) := by decide +kernel
theorem dL_act_486 : decode cL_act 486 = .ok (.isub, 1) := by decide +kernel
theorem dL_act_487 : decode cL_act 487 = .ok (.istore 10, 2) := by decide +kernel
theorem dL_act_489 : decode cL_act 489 = .ok (.aload_n 0, 1) := by decide +kernel
theorem dL_act_490 : decode cL_act 490 = .ok (.invokevirtual 69, 3) := by decide +kernel
theorem dL_act_493 : decode cL_act 493 = .ok (.istore 11, 2) := by decide +kernel
theorem dL_act_495 : decode cL_act 495 = .ok (.aload_n 0, 1) := by decide +kernel
theorem dL_act_496 : decode cL_act 496 = .ok (.invokevirtual 72, 3) := by decide +kernel
theorem dL_act_499 : decode cL_act 499 = .ok (.iload 10, 2) := by decide +kernel
theorem dL_act_501 : decode cL_act 501 = .ok (.ifCond .ge 7, 3) := by decide +kernel
theorem dL_act_504 : decode cL_act 504 = .ok (.iconst 0, 1) := by decide +kernel
theorem dL_act_505 : decode cL_act 505 = .ok (.goto 5, 3) := by decide +kernel
theorem dL_act_508 : decode cL_act 508 = .ok (.iload 10, 2) := by decide +kernel
theorem dL_act_510 : decode cL_act 510 = .ok (.if_icmp .ne 25, 3) := by decide +kernel
theorem dL_act_513 : decode cL_act 513 = .ok (.aload_n 0, 1) := by decide +kernel
theorem dL_act_514 : decode cL_act 514 = .ok (.invokevirtual 69, 3) := by decide +kernel
theorem dL_act_517 : decode cL_act 517 = .ok (.iload 11, 2) := by decide +kernel
theorem dL_act_519 : decode cL_act 519 = .ok (.iconst 1, 1) := by decide +kernel
theorem dL_act_520 : decode cL_act 520 = .ok (.iadd, 1) := by decide +kernel
theorem dL_act_521 : decode cL_act 521 = .ok (.if_icmp .ne 14, 3) := by decide +kernel
theorem dL_act_524 : decode cL_act 524 = .ok (.aload_n 0, 1) := by decide +kernel
theorem dL_act_525 : decode cL_act 525 = .ok (.invokevirtual 30, 3) := by decide +kernel
theorem dL_act_528 : decode cL_act 528 = .ok (.ifCond .ne 7, 3) := by decide +kernel
theorem dL_act_531 : decode cL_act 531 = .ok (.iconst 1, 1) := by decide +kernel
theorem dL_act_532 : decode cL_act 532 = .ok (.goto 4, 3) := by decide +kernel
theorem dL_act_535 : decode cL_act 535 = .ok (.iconst 0, 1) := by decide +kernel
theorem dL_act_536 : decode cL_act 536 = .ok (.ireturn, 1) := by decide +kernel
set_option maxRecDepth 20000 in
theorem ggL_guessed_X0_isOn : GoodIn wsL_guessed wsX0_isOn := goodIn_ca (goodIn_r _ [5, 6, 7, 8, 4, 9, 10, 11, 12, 13, 14, 47, 48, 49, 50, 51, 52, 53, 54, 55, 56, 57, 58, 59, 60, 61, 62, 63] (by decide +kernel) (by decide +kernel)) (goodIn_sub (fun _ h => List.mem_cons_of_mem _ (List.mem_append_left _ (List.mem_append_right _ h))) (by decide +kernel))
set_option maxRecDepth 20000 in
theorem gL_guessed_X0_isOn : GoodIn wsL_guessed (wsV RL 23 RX0 yX0_isOn wsX0_isOn) := goodIn_app (goodIn_of _ (by decide +kernel)) ggL_guessed_X0_isOn
set_option maxRecDepth 20000 in
theorem ggL_guessed_X0_maskOf : GoodIn wsL_guessed wsX0_maskOf := goodIn_ca (goodIn_r _ [18, 19, 7, 8, 4, 9, 10, 11, 12, 13, 14, 47, 48, 49, 50, 51, 52, 53, 54, 55, 56, 57, 58, 59, 60, 61, 62, 63] (by decide +kernel) (by decide +kernel)) (goodIn_sub (fun _ h => List.mem_cons_of_mem _ (List.mem_append_left _ (List.mem_append_right _ h))) (by decide +kernel))
set_option maxRecDepth 20000 in
theorem gL_guessed_X0_maskOf : GoodIn wsL_guessed (wsV RL 8 RX0 yX0_maskOf wsX0_maskOf) := goodIn_app (goodIn_of _ (by decide +kernel)) ggL_guessed_X0_maskOf
set_option maxRecDepth 20000 in
theorem ggL_guessed_L_at : GoodIn wsL_guessed wsL_at := goodIn_r _ [23] (by decide +kernel) (by decide +kernel)
set_option maxRecDepth 20000 in
theorem gL_guessed_L_at : GoodIn wsL_guessed (va_wsS RL 40 yL_at wsL_at) := goodIn_app (goodIn_of _ (by decide +kernel)) ggL_guessed_L_at
set_option maxRecDepth 20000 in
theorem ggL_guessed_X0_points : GoodIn wsL_guessed wsX0_points := goodIn_ca (goodIn_r _ [27, 28, 29, 30, 4, 31, 10, 11, 12, 13, 14, 47, 48, 49, 50, 51, 52, 53, 54, 55, 56, 57, 58, 59, 60, 61, 62, 63] (by decide +kernel) (by decide +kernel)) (goodIn_sub (fun _ h => List.mem_cons_of_mem _ (List.mem_append_left _ (List.mem_append_right _ h))) (by decide +kernel))
set_option maxRecDepth 20000 in
theorem gL_guessed_X0_points : GoodIn wsL_guessed (wsV RL 75 RX0 yX0_points wsX0_points) := goodIn_app (goodIn_of _ (by decide +kernel)) ggL_guessed_X0_points
set_option maxRecDepth 20000 in
theorem ggL_guessed_X0_plays : GoodIn wsL_guessed wsX0_plays := goodIn_r _ [35, 36, 47, 48, 49, 50, 51, 52, 53, 54, 55, 56, 57, 58, 59, 60, 61, 62, 63] (by decide +kernel) (by decide +kernel)
set_option maxRecDepth 20000 in
theorem gL_guessed_X0_plays : GoodIn wsL_guessed (wsV RL 69 RX0 yX0_plays wsX0_plays) := goodIn_app (goodIn_of _ (by decide +kernel)) ggL_guessed_X0_plays
set_option maxRecDepth 20000 in
theorem ggL_guessed_X0_guess : GoodIn wsL_guessed wsX0_guess := goodIn_ca (goodIn_ca (goodIn_r _ [40, 41, 42, 6, 19, 43, 28, 29, 30, 4, 31, 10, 11, 12, 13, 14, 7, 8, 9, 44, 45, 46, 47, 48, 49, 50, 51, 52, 53, 54, 55, 56, 57, 58, 59, 60, 61, 62, 63] (by decide +kernel) (by decide +kernel)) (goodIn_sub (fun _ h => List.mem_cons_of_mem _ (List.mem_append_right _ h)) (by decide +kernel))) (goodIn_sub (fun _ h => List.mem_cons_of_mem _ (List.mem_append_left _ (List.mem_append_right _ h))) (by decide +kernel))
set_option maxRecDepth 20000 in
theorem gL_guessed_X0_guess : GoodIn wsL_guessed (wsV RL 78 RX0 yX0_guess wsX0_guess) := goodIn_app (goodIn_of _ (by decide +kernel)) ggL_guessed_X0_guess
theorem dL_guessed_0 : decode cL_guessed 0 = .ok (.iconst 0, 1) := by decide +kernel
theorem dL_guessed_1 : decode cL_guessed 1 = .ok (.istore_n 3, 1) := by decide +kernel
theorem dL_guessed_2 : decode cL_guessed 2 = .ok (.iload_n 3, 1) := by decide +kernel
theorem dL_guessed_3 : decode cL_guessed 3 = .ok (.bipush 6, 2) := by decide +kernel
theorem dL_guessed_5 : decode cL_guessed 5 = .ok (.if_icmp .ge 155, 3) := by decide +kernel
theorem dL_guessed_8 : decode cL_guessed 8 = .ok (.aload_n 0, 1) := by decide +kernel
theorem dL_guessed_9 : decode cL_guessed 9 = .ok (.iload_n 3, 1) := by decide +kernel
theorem dL_guessed_10 : decode cL_guessed 10 = .ok (.invokevirtual 23, 3) := by decide +kernel
theorem dL_guessed_13 : decode cL_guessed 13 = .ok (.ifCond .eq 141, 3) := by decide +kernel
theorem dL_guessed_16 : decode cL_guessed 16 = .ok (.aload_n 0, 1) := by decide +kernel
theorem dL_guessed_17 : decode cL_guessed 17 = .ok (.iload_n 3, 1) := by decide +kernel
theorem dL_guessed_18 : decode cL_guessed 18 = .ok (.invokevirtual 8, 3) := by decide +kernel
theorem dL_guessed_21 : decode cL_guessed 21 = .ok (.ifCond .lt 133, 3) := by decide +kernel
theorem dL_guessed_24 : decode cL_guessed 24 = .ok (.iload_n 1, 1) := by decide +kernel
theorem dL_guessed_25 : decode cL_guessed 25 = .ok (.iload_n 3, 1) := by decide +kernel
theorem dL_guessed_26 : decode cL_guessed 26 = .ok (.ishr, 1) := by decide +kernel
theorem dL_guessed_27 : decode cL_guessed 27 = .ok (.bipush 24, 2) := by decide +kernel
theorem dL_guessed_29 : decode cL_guessed 29 = .ok (.invokestatic 40, 3) := by decide +kernel
theorem dL_guessed_32 : decode cL_guessed 32 = .ok (.ifCond .eq 6, 3) := by decide +kernel
theorem dL_guessed_35 : decode cL_guessed 35 = .ok (.goto 119, 3) := by decide +kernel
theorem dL_guessed_38 : decode cL_guessed 38 = .ok (.aload_n 0, 1) := by decide +kernel
theorem dL_guessed_39 : decode cL_guessed 39 = .ok (.iconst 0, 1) := by decide +kernel
theorem dL_guessed_40 : decode cL_guessed 40 = .ok (.invokevirtual 75, 3) := by decide +kernel
theorem dL_guessed_43 : decode cL_guessed 43 = .ok (.aload_n 0, 1) := by decide +kernel
theorem dL_guessed_44 : decode cL_guessed 44 = .ok (.iconst 1, 1) := by decide +kernel
theorem dL_guessed_45 : decode cL_guessed 45 = .ok (.invokevirtual 75, 3) := by decide +kernel
theorem dL_guessed_48 : decode cL_guessed 48 = .ok (.iadd, 1) := by decide +kernel
theorem dL_guessed_49 : decode cL_guessed 49 = .ok (.aload_n 0, 1) := by decide +kernel
theorem dL_guessed_50 : decode cL_guessed 50 = .ok (.iconst 2, 1) := by decide +kernel
theorem dL_guessed_51 : decode cL_guessed 51 = .ok (.invokevirtual 75, 3) := by decide +kernel
theorem dL_guessed_54 : decode cL_guessed 54 = .ok (.iadd, 1) := by decide +kernel
theorem dL_guessed_55 : decode cL_guessed 55 = .ok (.istore 4, 2) := by decide +kernel
theorem dL_guessed_57 : decode cL_guessed 57 = .ok (.iload_n 2, 1) := by decide +kernel
theorem dL_guessed_58 : decode cL_guessed 58 = .ok (.iload_n 3, 1) := by decide +kernel
theorem dL_guessed_59 : decode cL_guessed 59 = .ok (.ishr, 1) := by decide +kernel
theorem dL_guessed_60 : decode cL_guessed 60 = .ok (.bipush 6, 2) := by decide +kernel
theorem dL_guessed_62 : decode cL_guessed 62 = .ok (.invokestatic 40, 3) := by decide +kernel
theorem dL_guessed_65 : decode cL_guessed 65 = .ok (.istore 5, 2) := by decide +kernel
theorem dL_guessed_67 : decode cL_guessed 67 = .ok (.aload_n 0, 1) := by decide +kernel
theorem dL_guessed_68 : decode cL_guessed 68 = .ok (.invokevirtual 69, 3) := by decide +kernel
theorem dL_guessed_71 : decode cL_guessed 71 = .ok (.ifCond .gt 8, 3) := by decide +kernel
theorem dL_guessed_74 : decode cL_guessed 74 = .ok (.iload 4, 2) := by decide +kernel
theorem dL_guessed_76 : decode cL_guessed 76 = .ok (.ifCond .le 5, 3) := by decide +kernel
theorem dL_guessed_79 : decode cL_guessed 79 = .ok (.iconst 1, 1) := by decide +kernel
theorem dL_guessed_80 : decode cL_guessed 80 = .ok (.ireturn, 1) := by decide +kernel
theorem dL_guessed_81 : decode cL_guessed 81 = .ok (.aload_n 0, 1) := by decide +kernel
theorem dL_guessed_82 : decode cL_guessed 82 = .ok (.iload_n 2, 1) := by decide +kernel
theorem dL_guessed_83 : decode cL_guessed 83 = .ok (.iconst 3, 1) := by decide +kernel
theorem dL_guessed_84 : decode cL_guessed 84 = .ok (.invokestatic 40, 3) := by decide +kernel
theorem dL_guessed_87 : decode cL_guessed 87 = .ok (.iload_n 3, 1) := by decide +kernel
theorem dL_guessed_88 : decode cL_guessed 88 = .ok (.iload 5, 2) := by decide +kernel
theorem dL_guessed_90 : decode cL_guessed 90 = .ok (.invokevirtual 78, 3) := by decide +kernel
theorem dL_guessed_93 : decode cL_guessed 93 = .ok (.istore 6, 2) := by decide +kernel
theorem dL_guessed_95 : decode cL_guessed 95 = .ok (.iload 6, 2) := by decide +kernel
theorem dL_guessed_97 : decode cL_guessed 97 = .ok (.iload 5, 2) := by decide +kernel
theorem dL_guessed_99 : decode cL_guessed 99 = .ok (.aload_n 0, 1) := by decide +kernel
theorem dL_guessed_100 : decode cL_guessed 100 = .ok (.iload_n 3, 1) := by decide +kernel
theorem dL_guessed_101 : decode cL_guessed 101 = .ok (.invokevirtual 8, 3) := by decide +kernel
theorem dL_guessed_104 : decode cL_guessed 104 = .ok (.if_icmp .ne 7, 3) := by decide +kernel
theorem dL_guessed_107 : decode cL_guessed 107 = .ok (.iconst 1, 1) := by decide +kernel
theorem dL_guessed_108 : decode cL_guessed 108 = .ok (.goto 4, 3) := by decide +kernel
theorem dL_guessed_111 : decode cL_guessed 111 = .ok (.iconst 0, 1) := by decide +kernel
theorem dL_guessed_112 : decode cL_guessed 112 = .ok (.if_icmp .ne 40, 3) := by decide +kernel
theorem dL_guessed_115 : decode cL_guessed 115 = .ok (.aload_n 0, 1) := by decide +kernel
theorem dL_guessed_116 : decode cL_guessed 116 = .ok (.iconst 0, 1) := by decide +kernel
theorem dL_guessed_117 : decode cL_guessed 117 = .ok (.invokevirtual 75, 3) := by decide +kernel
theorem dL_guessed_120 : decode cL_guessed 120 = .ok (.aload_n 0, 1) := by decide +kernel
theorem dL_guessed_121 : decode cL_guessed 121 = .ok (.iconst 1, 1) := by decide +kernel
theorem dL_guessed_122 : decode cL_guessed 122 = .ok (.invokevirtual 75, 3) := by decide +kernel
theorem dL_guessed_125 : decode cL_guessed 125 = .ok (.iadd, 1) := by decide +kernel
theorem dL_guessed_126 : decode cL_guessed 126 = .ok (.aload_n 0, 1) := by decide +kernel
theorem dL_guessed_127 : decode cL_guessed 127 = .ok (.iconst 2, 1) := by decide +kernel
theorem dL_guessed_128 : decode cL_guessed 128 = .ok (.invokevirtual 75, 3) := by decide +kernel
theorem dL_guessed_131 : decode cL_guessed 131 = .ok (.iadd, 1) := by decide +kernel
theorem dL_guessed_132 : decode cL_guessed 132 = .ok (.iload 4, 2) := by decide +kernel
theorem dL_guessed_134 : decode cL_guessed 134 = .ok (.iload 6, 2) := by decide +kernel
theorem dL_guessed_136 : decode cL_guessed 136 = .ok (.ifCond .eq 7, 3) := by decide +kernel
theorem dL_guessed_139 : decode cL_guessed 139 = .ok (.iconst 3, 1) := by decide +kernel
theorem dL_guessed_140 : decode cL_guessed 140 = .ok (.goto 4, 3) := by decide +kernel
theorem dL_guessed_143 : decode cL_guessed 143 = .ok (.iconst (-1), 1) := by decide +kernel
theorem dL_guessed_144 : decode cL_guessed 144 = .ok (.iadd, 1) := by decide +kernel
theorem dL_guessed_145 : decode cL_guessed 145 = .ok (.if_icmp .ne 7, 3) := by decide +kernel
theorem dL_guessed_148 : decode cL_guessed 148 = .ok (.iconst 1, 1) := by decide +kernel
theorem dL_guessed_149 : decode cL_guessed 149 = .ok (.goto 4, 3) := by decide +kernel
theorem dL_guessed_152 : decode cL_guessed 152 = .ok (.iconst 0, 1) := by decide +kernel
theorem dL_guessed_153 : decode cL_guessed 153 = .ok (.ireturn, 1) := by decide +kernel
theorem dL_guessed_154 : decode cL_guessed 154 = .ok (.iinc 3 1, 3) := by decide +kernel
theorem dL_guessed_157 : decode cL_guessed 157 = .ok (.goto (-155), 3) := by decide +kernel
theorem dL_guessed_160 : decode cL_guessed 160 = .ok (.iconst 1, 1) := by decide +kernel
theorem dL_guessed_161 : decode cL_guessed 161 = .ok (.ireturn, 1) := by decide +kernel
set_option maxRecDepth 20000 in
theorem ggL_law_X0_init : GoodIn wsL_law wsX0_init := goodIn_r _ [7, 8, 9, 10, 3, 11, 12, 13, 14, 15, 16, 17, 18, 19, 20, 21, 22, 23, 24, 25, 26, 27, 28, 29, 233, 234, 235, 236, 237, 238, 239, 240, 241, 242, 243, 244, 245, 246, 247, 248, 249] (by decide +kernel) (by decide +kernel)
set_option maxRecDepth 20000 in
theorem gL_law_X0_init : GoodIn wsL_law (wsX0_init) := ggL_law_X0_init
set_option maxRecDepth 20000 in
theorem ggL_law_L_cell : GoodIn wsL_law wsL_cell := goodIn_r _ [33, 34] (by decide +kernel) (by decide +kernel)
set_option maxRecDepth 20000 in
theorem gL_law_L_cell : GoodIn wsL_law (va_wsS RL 83 yL_cell wsL_cell) := goodIn_app (goodIn_of _ (by decide +kernel)) ggL_law_L_cell
set_option maxRecDepth 20000 in
theorem gi_cons_act {big a : List Cond} {c : Cond} (hc : GoodIn big [c]) (ha : GoodIn big a) : GoodIn big (c :: a) := goodIn_app (a := [c]) hc ha
theorem gi_act_c : GoodIn wsL_law [.code yL_act cL_act 12 (some .boolean)] := goodIn_r _ [37] (by decide +kernel) (by decide +kernel)
theorem gi_act_r1 : GoodIn wsL_law wsL_act_r1 := goodIn_r _ [38, 39, 32, 40, 41, 42, 43, 2, 44, 11, 45, 46, 47, 48, 49, 50, 51, 52, 53, 54, 55, 56, 14, 57] (by decide +kernel) (by decide +kernel)
theorem gi_act_r2 : GoodIn wsL_law wsL_act_r2 := goodIn_r _ [58, 59, 60, 15, 61, 62, 63, 64, 65, 66, 67, 68, 69, 70, 71, 72, 73, 74, 75, 76, 77, 78, 79, 80] (by decide +kernel) (by decide +kernel)
theorem gi_act_r3 : GoodIn wsL_law wsL_act_r3 := goodIn_r _ [81, 82, 83, 84, 85, 86, 87, 88, 89, 90, 91, 92, 93, 94, 20, 95, 96, 97, 98, 99, 100, 101, 102, 16] (by decide +kernel) (by decide +kernel)
theorem gi_act_r4 : GoodIn wsL_law wsL_act_r4 := goodIn_r _ [17, 18, 19, 103, 104, 105, 106, 107, 108, 109, 110, 111, 112, 113, 114, 115, 116, 117, 118, 119, 120, 121, 122, 123] (by decide +kernel) (by decide +kernel)
theorem gi_act_r5 : GoodIn wsL_law wsL_act_r5 := goodIn_r _ [124, 125, 126, 127, 128, 129, 12, 130, 131, 132, 133, 134, 135, 136, 137, 138, 139, 140, 141, 142, 143, 144, 145, 146] (by decide +kernel) (by decide +kernel)
theorem gi_act_r6 : GoodIn wsL_law wsL_act_r6 := goodIn_r _ [147, 148, 149, 150, 151, 152, 153, 21, 154, 155, 156, 157, 158, 159, 160, 161, 162, 163, 164, 165, 166, 167, 168, 169] (by decide +kernel) (by decide +kernel)
theorem gi_act_r7 : GoodIn wsL_law wsL_act_r7 := goodIn_r _ [170, 171, 172, 173, 174, 175, 176, 24, 177, 178, 179, 180, 181, 182, 183, 184, 185, 186, 187, 188, 189, 190, 191, 192] (by decide +kernel) (by decide +kernel)
theorem gi_act_r8 : GoodIn wsL_law wsL_act_r8 := goodIn_r _ [193, 194, 195, 196, 197, 198, 199, 200, 23] (by decide +kernel) (by decide +kernel)
theorem gi_act_x : GoodIn wsL_law wsX00 := goodIn_r _ [233, 234, 235, 236, 237, 238, 239, 240, 241, 242, 243, 244, 245, 246, 247, 248, 249] (by decide +kernel) (by decide +kernel)
theorem ggL_law_L_act : GoodIn wsL_law wsL_act := goodIn_ca (goodIn_ca (goodIn_ca (gi_cons_act gi_act_c (goodIn_app (goodIn_app gi_act_r1 (goodIn_app gi_act_r2 (goodIn_app gi_act_r3 (goodIn_app gi_act_r4 (goodIn_app gi_act_r5 (goodIn_app gi_act_r6 (goodIn_app gi_act_r7 (gi_act_r8)))))))) gi_act_x)) (goodIn_sub (fun _ h => List.mem_append_left _ (List.mem_append_left _ (List.mem_append_right _ h))) (by decide +kernel))) (goodIn_sub (fun _ h => List.mem_append_left _ (List.mem_append_right _ h)) (by decide +kernel))) (goodIn_sub (fun _ h => List.mem_append_right _ h) (by decide +kernel))
set_option maxRecDepth 20000 in
theorem gL_law_L_act : GoodIn wsL_law (va_wsS RL 88 yL_act wsL_act) := goodIn_app (goodIn_of _ (by decide +kernel)) ggL_law_L_act
set_option maxRecDepth 20000 in
theorem ggL_law_X0_points : GoodIn wsL_law wsX0_points := goodIn_ca (goodIn_r _ [204, 22, 205, 206, 2, 207, 48, 49, 50, 51, 52, 233, 234, 235, 236, 237, 238, 239, 240, 241, 242, 243, 244, 245, 246, 247, 248, 249] (by decide +kernel) (by decide +kernel)) (goodIn_sub (fun _ h => List.mem_append_left _ (List.mem_append_left _ (List.mem_append_right _ h))) (by decide +kernel))
set_option maxRecDepth 20000 in
theorem gL_law_X0_points : GoodIn wsL_law (wsV RL 75 RX0 yX0_points wsX0_points) := goodIn_app (goodIn_of _ (by decide +kernel)) ggL_law_X0_points
set_option maxRecDepth 20000 in
theorem ggL_law_L_guessed : GoodIn wsL_law wsL_guessed := goodIn_ca (goodIn_ca (goodIn_r _ [210, 53, 54, 55, 2, 56, 14, 45, 46, 47, 48, 49, 50, 51, 52, 211, 212, 213, 214, 12, 38, 39, 32, 40, 201, 202, 203, 204, 22, 205, 206, 207, 177, 178, 179, 180, 181, 215, 216, 217, 218, 70, 71, 23, 106, 107, 108, 233, 234, 235, 236, 237, 238, 239, 240, 241, 242, 243, 244, 245, 246, 247, 248, 249] (by decide +kernel) (by decide +kernel)) (goodIn_sub (fun _ h => List.mem_append_left _ (List.mem_append_left _ (List.mem_append_right _ h))) (by decide +kernel))) (goodIn_sub (fun _ h => List.mem_append_right _ h) (by decide +kernel))
set_option maxRecDepth 20000 in
theorem gL_law_L_guessed : GoodIn wsL_law (va_wsS RL 92 yL_guessed wsL_guessed) := goodIn_app (goodIn_of _ (by decide +kernel)) ggL_law_L_guessed
set_option maxRecDepth 20000 in
theorem ggL_law_L_sound : GoodIn wsL_law wsL_sound := goodIn_ca (goodIn_r _ [221, 211, 212, 213, 2, 214, 12, 45, 46, 47, 48, 49, 50, 51, 52, 41, 42, 43, 44, 11, 222, 223, 224, 225, 25, 113, 21, 26, 27, 28, 29, 146, 147, 148, 149, 17, 18, 16, 226, 227, 228, 229, 106, 107, 108, 130, 131, 132, 133, 83, 84, 85, 53, 54, 55, 56, 14, 57, 58, 59, 60, 15, 61, 62, 63, 233, 234, 235, 236, 237, 238, 239, 240, 241, 242, 243, 244, 245, 246, 247, 248, 249] (by decide +kernel) (by decide +kernel)) (goodIn_sub (fun _ h => List.mem_append_left _ (List.mem_append_left _ (List.mem_append_right _ h))) (by decide +kernel))
set_option maxRecDepth 20000 in
theorem gL_law_L_sound : GoodIn wsL_law (va_wsS RL 96 yL_sound wsL_sound) := goodIn_app (goodIn_of _ (by decide +kernel)) ggL_law_L_sound
set_option maxRecDepth 20000 in
theorem ggL_law_L_chained : GoodIn wsL_law wsL_chained := goodIn_ca (goodIn_r _ [232, 86, 87, 88, 2, 89, 90, 91, 92, 93, 94, 20, 95, 96, 97, 98, 48, 49, 50, 51, 52, 165, 166, 167, 168, 118, 119, 120, 121, 122, 123, 124, 125, 19, 126, 127, 128, 129, 17, 18, 16, 14, 11, 12, 130, 131, 132, 133, 83, 84, 85, 134, 135, 136, 137, 233, 234, 235, 236, 237, 238, 239, 240, 241, 242, 243, 244, 245, 246, 247, 248, 249] (by decide +kernel) (by decide +kernel)) (goodIn_sub (fun _ h => List.mem_append_left _ (List.mem_append_left _ (List.mem_append_right _ h))) (by decide +kernel))
set_option maxRecDepth 20000 in
theorem gL_law_L_chained : GoodIn wsL_law (va_wsS RL 100 yL_chained wsL_chained) := goodIn_app (goodIn_of _ (by decide +kernel)) ggL_law_L_chained
theorem dL_law_0 : decode cL_law 0 = .ok (.new 9, 3) := by decide +kernel
theorem dL_law_3 : decode cL_law 3 = .ok (.dup, 1) := by decide +kernel
theorem dL_law_4 : decode cL_law 4 = .ok (.invokespecial 82, 3) := by decide +kernel
theorem dL_law_7 : decode cL_law 7 = .ok (.astore_n 1, 1) := by decide +kernel
theorem dL_law_8 : decode cL_law 8 = .ok (.bipush 24, 2) := by decide +kernel
theorem dL_law_10 : decode cL_law 10 = .ok (.newarray .int, 2) := by decide +kernel
theorem dL_law_12 : decode cL_law 12 = .ok (.astore_n 2, 1) := by decide +kernel
theorem dL_law_13 : decode cL_law 13 = .ok (.iconst 1, 1) := by decide +kernel
theorem dL_law_14 : decode cL_law 14 = .ok (.istore_n 3, 1) := by decide +kernel
theorem dL_law_15 : decode cL_law 15 = .ok (.iconst 0, 1) := by decide +kernel
theorem dL_law_16 : decode cL_law 16 = .ok (.istore 4, 2) := by decide +kernel
theorem dL_law_18 : decode cL_law 18 = .ok (.iload 4, 2) := by decide +kernel
theorem dL_law_20 : decode cL_law 20 = .ok (.bipush 60, 2) := by decide +kernel
theorem dL_law_22 : decode cL_law 22 = .ok (.if_icmp .ge 146, 3) := by decide +kernel
theorem dL_law_25 : decode cL_law 25 = .ok (.aload_n 0, 1) := by decide +kernel
theorem dL_law_26 : decode cL_law 26 = .ok (.iconst 2, 1) := by decide +kernel
theorem dL_law_27 : decode cL_law 27 = .ok (.iload 4, 2) := by decide +kernel
theorem dL_law_29 : decode cL_law 29 = .ok (.imul, 1) := by decide +kernel
theorem dL_law_30 : decode cL_law 30 = .ok (.invokestatic 83, 3) := by decide +kernel
theorem dL_law_33 : decode cL_law 33 = .ok (.ldc 87, 2) := by decide +kernel
theorem dL_law_35 : decode cL_law 35 = .ok (.iand, 1) := by decide +kernel
theorem dL_law_36 : decode cL_law 36 = .ok (.istore 5, 2) := by decide +kernel
theorem dL_law_38 : decode cL_law 38 = .ok (.aload_n 0, 1) := by decide +kernel
theorem dL_law_39 : decode cL_law 39 = .ok (.iconst 2, 1) := by decide +kernel
theorem dL_law_40 : decode cL_law 40 = .ok (.iload 4, 2) := by decide +kernel
theorem dL_law_42 : decode cL_law 42 = .ok (.imul, 1) := by decide +kernel
theorem dL_law_43 : decode cL_law 43 = .ok (.iconst 1, 1) := by decide +kernel
theorem dL_law_44 : decode cL_law 44 = .ok (.iadd, 1) := by decide +kernel
theorem dL_law_45 : decode cL_law 45 = .ok (.invokestatic 83, 3) := by decide +kernel
theorem dL_law_48 : decode cL_law 48 = .ok (.ldc 87, 2) := by decide +kernel
theorem dL_law_50 : decode cL_law 50 = .ok (.iand, 1) := by decide +kernel
theorem dL_law_51 : decode cL_law 51 = .ok (.istore 6, 2) := by decide +kernel
theorem dL_law_53 : decode cL_law 53 = .ok (.aload_n 1, 1) := by decide +kernel
theorem dL_law_54 : decode cL_law 54 = .ok (.iload 5, 2) := by decide +kernel
theorem dL_law_56 : decode cL_law 56 = .ok (.iload 6, 2) := by decide +kernel
theorem dL_law_58 : decode cL_law 58 = .ok (.aload_n 2, 1) := by decide +kernel
theorem dL_law_59 : decode cL_law 59 = .ok (.invokestatic 88, 3) := by decide +kernel
theorem dL_law_62 : decode cL_law 62 = .ok (.ifCond .ne 5, 3) := by decide +kernel
theorem dL_law_65 : decode cL_law 65 = .ok (.iconst 0, 1) := by decide +kernel
theorem dL_law_66 : decode cL_law 66 = .ok (.ireturn, 1) := by decide +kernel
theorem dL_law_67 : decode cL_law 67 = .ok (.aload_n 1, 1) := by decide +kernel
theorem dL_law_68 : decode cL_law 68 = .ok (.iconst 0, 1) := by decide +kernel
theorem dL_law_69 : decode cL_law 69 = .ok (.invokevirtual 75, 3) := by decide +kernel
theorem dL_law_72 : decode cL_law 72 = .ok (.aload_n 1, 1) := by decide +kernel
theorem dL_law_73 : decode cL_law 73 = .ok (.iconst 1, 1) := by decide +kernel
theorem dL_law_74 : decode cL_law 74 = .ok (.invokevirtual 75, 3) := by decide +kernel
theorem dL_law_77 : decode cL_law 77 = .ok (.iadd, 1) := by decide +kernel
theorem dL_law_78 : decode cL_law 78 = .ok (.aload_n 1, 1) := by decide +kernel
theorem dL_law_79 : decode cL_law 79 = .ok (.iconst 2, 1) := by decide +kernel
theorem dL_law_80 : decode cL_law 80 = .ok (.invokevirtual 75, 3) := by decide +kernel
theorem dL_law_83 : decode cL_law 83 = .ok (.iadd, 1) := by decide +kernel
theorem dL_law_84 : decode cL_law 84 = .ok (.istore 7, 2) := by decide +kernel
theorem dL_law_86 : decode cL_law 86 = .ok (.iload_n 3, 1) := by decide +kernel
theorem dL_law_87 : decode cL_law 87 = .ok (.ifCond .eq 20, 3) := by decide +kernel
theorem dL_law_90 : decode cL_law 90 = .ok (.aload_n 1, 1) := by decide +kernel
theorem dL_law_91 : decode cL_law 91 = .ok (.iload 5, 2) := by decide +kernel
theorem dL_law_93 : decode cL_law 93 = .ok (.iconst 4, 1) := by decide +kernel
theorem dL_law_94 : decode cL_law 94 = .ok (.ishr, 1) := by decide +kernel
theorem dL_law_95 : decode cL_law 95 = .ok (.iload 6, 2) := by decide +kernel
theorem dL_law_97 : decode cL_law 97 = .ok (.iconst 2, 1) := by decide +kernel
theorem dL_law_98 : decode cL_law 98 = .ok (.ishr, 1) := by decide +kernel
theorem dL_law_99 : decode cL_law 99 = .ok (.invokestatic 92, 3) := by decide +kernel
theorem dL_law_102 : decode cL_law 102 = .ok (.ifCond .ne 5, 3) := by decide +kernel
theorem dL_law_105 : decode cL_law 105 = .ok (.iconst 0, 1) := by decide +kernel
theorem dL_law_106 : decode cL_law 106 = .ok (.ireturn, 1) := by decide +kernel
theorem dL_law_107 : decode cL_law 107 = .ok (.iload_n 3, 1) := by decide +kernel
theorem dL_law_108 : decode cL_law 108 = .ok (.aload_n 1, 1) := by decide +kernel
theorem dL_law_109 : decode cL_law 109 = .ok (.iconst 0, 1) := by decide +kernel
theorem dL_law_110 : decode cL_law 110 = .ok (.invokevirtual 75, 3) := by decide +kernel
theorem dL_law_113 : decode cL_law 113 = .ok (.aload_n 1, 1) := by decide +kernel
theorem dL_law_114 : decode cL_law 114 = .ok (.iconst 1, 1) := by decide +kernel
theorem dL_law_115 : decode cL_law 115 = .ok (.invokevirtual 75, 3) := by decide +kernel
theorem dL_law_118 : decode cL_law 118 = .ok (.iadd, 1) := by decide +kernel
theorem dL_law_119 : decode cL_law 119 = .ok (.aload_n 1, 1) := by decide +kernel
theorem dL_law_120 : decode cL_law 120 = .ok (.iconst 2, 1) := by decide +kernel
theorem dL_law_121 : decode cL_law 121 = .ok (.invokevirtual 75, 3) := by decide +kernel
theorem dL_law_124 : decode cL_law 124 = .ok (.iadd, 1) := by decide +kernel
theorem dL_law_125 : decode cL_law 125 = .ok (.iload 7, 2) := by decide +kernel
theorem dL_law_127 : decode cL_law 127 = .ok (.if_icmp .ne 7, 3) := by decide +kernel
theorem dL_law_130 : decode cL_law 130 = .ok (.iconst 1, 1) := by decide +kernel
theorem dL_law_131 : decode cL_law 131 = .ok (.goto 4, 3) := by decide +kernel
theorem dL_law_134 : decode cL_law 134 = .ok (.iconst 0, 1) := by decide +kernel
theorem dL_law_135 : decode cL_law 135 = .ok (.iand, 1) := by decide +kernel
theorem dL_law_136 : decode cL_law 136 = .ok (.istore_n 3, 1) := by decide +kernel
theorem dL_law_137 : decode cL_law 137 = .ok (.iload 4, 2) := by decide +kernel
theorem dL_law_139 : decode cL_law 139 = .ok (.iconst 2, 1) := by decide +kernel
theorem dL_law_140 : decode cL_law 140 = .ok (.irem, 1) := by decide +kernel
theorem dL_law_141 : decode cL_law 141 = .ok (.iconst 1, 1) := by decide +kernel
theorem dL_law_142 : decode cL_law 142 = .ok (.if_icmp .ne 20, 3) := by decide +kernel
theorem dL_law_145 : decode cL_law 145 = .ok (.aload_n 1, 1) := by decide +kernel
theorem dL_law_146 : decode cL_law 146 = .ok (.invokestatic 96, 3) := by decide +kernel
theorem dL_law_149 : decode cL_law 149 = .ok (.ifCond .eq 11, 3) := by decide +kernel
theorem dL_law_152 : decode cL_law 152 = .ok (.aload_n 1, 1) := by decide +kernel
theorem dL_law_153 : decode cL_law 153 = .ok (.aload_n 2, 1) := by decide +kernel
theorem dL_law_154 : decode cL_law 154 = .ok (.invokestatic 100, 3) := by decide +kernel
theorem dL_law_157 : decode cL_law 157 = .ok (.ifCond .ne 5, 3) := by decide +kernel
theorem dL_law_160 : decode cL_law 160 = .ok (.iconst 0, 1) := by decide +kernel
theorem dL_law_161 : decode cL_law 161 = .ok (.ireturn, 1) := by decide +kernel
theorem dL_law_162 : decode cL_law 162 = .ok (.iinc 4 1, 3) := by decide +kernel
theorem dL_law_165 : decode cL_law 165 = .ok (.goto (-147), 3) := by decide +kernel
theorem dL_law_168 : decode cL_law 168 = .ok (.iconst 1, 1) := by decide +kernel
theorem dL_law_169 : decode cL_law 169 = .ok (.ireturn, 1) := by decide +kernel
end
section
set_option maxRecDepth 20000 in
theorem wsL_law_i1 : ∀ w ∈ wsL_law0_r1, w ∈ lw_tbl := fun w h => (goodIn_r (big := lw_tbl) wsL_law0_r1 [27, 28, 18, 90, 399, 29, 30, 31, 32, 33, 34, 38, 39, 91, 40, 41, 42, 43, 44, 45, 46, 47, 50, 51] (by decide +kernel) (by decide +kernel) w h).1
set_option maxRecDepth 20000 in
theorem wsL_law_i2 : ∀ w ∈ wsL_law0_r2, w ∈ lw_tbl := fun w h => (goodIn_r (big := lw_tbl) wsL_law0_r2 [52, 54, 35, 36, 19, 37, 170, 171, 17, 172, 173, 260, 261, 262, 263, 264, 265, 185, 186, 187, 188, 181, 182, 183] (by decide +kernel) (by decide +kernel) w h).1
set_option maxRecDepth 20000 in
theorem wsL_law_i3 : ∀ w ∈ wsL_law0_r3, w ∈ lw_tbl := fun w h => (goodIn_r (big := lw_tbl) wsL_law0_r3 [102, 23, 99, 100, 101, 212, 213, 214, 215, 216, 217, 218, 219, 220, 221, 222, 266, 267, 268, 269, 276, 25, 292, 26] (by decide +kernel) (by decide +kernel) w h).1
set_option maxRecDepth 20000 in
theorem wsL_law_i4 : ∀ w ∈ wsL_law0_r4, w ∈ lw_tbl := fun w h => (goodIn_r (big := lw_tbl) wsL_law0_r4 [270, 271, 272, 273, 274, 24, 275, 308, 310, 8, 311, 209, 210, 211, 227, 228, 229, 230, 48, 231, 232, 233, 234, 235] (by decide +kernel) (by decide +kernel) w h).1
set_option maxRecDepth 20000 in
theorem wsL_law_i5 : ∀ w ∈ wsL_law0_r5, w ∈ lw_tbl := fun w h => (goodIn_r (big := lw_tbl) wsL_law0_r5 [237, 3, 238, 314, 315, 316, 317, 319, 320, 321, 201, 202, 203, 325, 326, 327, 328, 49, 329, 331, 9, 332, 244, 246] (by decide +kernel) (by decide +kernel) w h).1
set_option maxRecDepth 20000 in
theorem wsL_law_i6 : ∀ w ∈ wsL_law0_r6, w ∈ lw_tbl := fun w h => (goodIn_r (big := lw_tbl) wsL_law0_r6 [4, 247, 248, 250, 5, 251, 252, 254, 6, 255, 205, 207, 2, 208, 256, 258, 7, 259, 333, 335, 10, 336, 337, 339] (by decide +kernel) (by decide +kernel) w h).1
set_option maxRecDepth 20000 in
theorem wsL_law_i7 : ∀ w ∈ wsL_law0_r7, w ∈ lw_tbl := fun w h => (goodIn_r (big := lw_tbl) wsL_law0_r7 [11, 340, 193, 195, 1, 196, 341, 343, 12, 344, 345, 346, 347, 348, 349, 350, 351, 353, 355, 13, 356, 240, 241, 242] (by decide +kernel) (by decide +kernel) w h).1
set_option maxRecDepth 20000 in
theorem wsL_law_i8 : ∀ w ∈ wsL_law0_r8, w ∈ lw_tbl := fun w h => (goodIn_r (big := lw_tbl) wsL_law0_r8 [243, 357, 358, 359, 360, 362, 363, 364, 365, 366, 367, 368, 369, 53, 370, 371, 372, 373, 379, 380, 381, 374, 376, 14] (by decide +kernel) (by decide +kernel) w h).1
set_option maxRecDepth 20000 in
theorem wsL_law_i9 : ∀ w ∈ wsL_law0_r9, w ∈ lw_tbl := fun w h => (goodIn_r (big := lw_tbl) wsL_law0_r9 [377, 382, 384, 15, 385, 386, 388, 16, 389, 92, 93, 94, 95, 96, 97, 98, 390, 391, 392, 177, 178, 179, 180, 393] (by decide +kernel) (by decide +kernel) w h).1
set_option maxRecDepth 20000 in
theorem wsL_law_i10 : ∀ w ∈ wsL_law0_r10, w ∈ lw_tbl := fun w h => (goodIn_r (big := lw_tbl) wsL_law0_r10 [394, 395, 396, 174, 175, 176, 189, 190, 191, 192, 197, 198, 199, 200, 224, 225, 226] (by decide +kernel) (by decide +kernel) w h).1
theorem wsL_law_iX0 : ∀ w ∈ wsX00, w ∈ lw_tbl := by decide +kernel
theorem wsL_law_in0 : ∀ w ∈ wsL_law0, w ∈ lw_tbl := fun w h => (fun h => (List.mem_append.mp h).elim (fun h => (List.mem_append.mp h).elim (fun h => (List.mem_append.mp h).elim (fun h => wsL_law_i1 w h) (fun h => (List.mem_append.mp h).elim (fun h => wsL_law_i2 w h) (fun h => (List.mem_append.mp h).elim (fun h => wsL_law_i3 w h) (fun h => (List.mem_append.mp h).elim (fun h => wsL_law_i4 w h) (fun h => (List.mem_append.mp h).elim (fun h => wsL_law_i5 w h) (fun h => (List.mem_append.mp h).elim (fun h => wsL_law_i6 w h) (fun h => (List.mem_append.mp h).elim (fun h => wsL_law_i7 w h) (fun h => (List.mem_append.mp h).elim (fun h => wsL_law_i8 w h) (fun h => (List.mem_append.mp h).elim (fun h => wsL_law_i9 w h) (fun h => wsL_law_i10 w h)))))))))) (fun h => wsL_law_iX0 w h)) (fun h => absurd h List.not_mem_nil)) h
theorem wsL_law_x0 : ∀ w ∈ (vx_atS RX0 178 "java/lang/IndexOutOfBoundsException" ["java/lang/RuntimeException", "java/lang/Exception"]).filter goodWord, w ∈ lw_tbl := by decide +kernel
theorem wsL_law_x1 : ∀ w ∈ (vx_atS RX0 75 "java/lang/IllegalArgumentException" ["java/lang/RuntimeException", "java/lang/Exception"]).filter goodWord, w ∈ lw_tbl := by decide +kernel
theorem wsL_law_x2 : ∀ w ∈ (vx_atS RX0 82 "java/lang/IllegalStateException" ["java/lang/RuntimeException", "java/lang/Exception"]).filter goodWord, w ∈ lw_tbl := by decide +kernel
theorem wsL_law_in : ∀ w ∈ wsL_law, w ∈ lw_tbl := fun w h => (List.mem_append.mp h).elim (fun h => (List.mem_append.mp h).elim (fun h => (List.mem_append.mp h).elim (fun h => wsL_law_in0 w h) (fun h => wsL_law_x0 w h)) (fun h => wsL_law_x1 w h)) (fun h => wsL_law_x2 w h)
theorem inlX0 : ∀ w ∈ wsX00, w ∈ wsL_law := fun _ h => List.mem_append_left _ (List.mem_append_left _ (List.mem_append_left _ (List.mem_append_left _ (List.mem_append_right _ h))))
theorem inX0 : ∀ w ∈ wsX00, w ∈ lw_tbl := fun w h => wsL_law_in w (inlX0 w h)
theorem inX1 : ∀ w ∈ wsX10, w ∈ lw_tbl := by decide +kernel
theorem inJx145de : ∀ w ∈ wsJx145de0, w ∈ lw_tbl := by decide +kernel
theorem inJ9 : ∀ w ∈ wsJ90, w ∈ lw_tbl := by decide +kernel
theorem inJ0 : ∀ w ∈ wsJ00, w ∈ lw_tbl := by decide +kernel
theorem inJ7 : ∀ w ∈ wsJ70, w ∈ lw_tbl := by decide +kernel
end
section
/-! plain facts on numbers and arrays, to paste: each family by itself; over the kit's rows on nI and upd -/
/-! ===== order of ints, in all its forms, and through longs ===== -/
theorem fa_lt (a b : Int32) : a < b ↔ a.toInt < b.toInt := Int32.lt_iff_toInt_lt
theorem fa_le (a b : Int32) : a ≤ b ↔ a.toInt ≤ b.toInt := Int32.le_iff_toInt_le
theorem fa_eq (a b : Int32) : a = b ↔ a.toInt = b.toInt := Int32.toInt_inj.symm
theorem fa_lt64 (a b : Int64) : a < b ↔ a.toInt < b.toInt := Int64.lt_iff_toInt_lt
theorem fa_le64 (a b : Int64) : a ≤ b ↔ a.toInt ≤ b.toInt := Int64.le_iff_toInt_le
theorem fa_eq64 (a b : Int64) : a = b ↔ a.toInt = b.toInt := Int64.toInt_inj.symm
/-- a comparison of two ints taken as longs -/
theorem fa_wide_lt (a b : Int32) : a.toInt64 < b.toInt64 ↔ a < b := by rw [fa_lt64, fa_lt, Int32.toInt_toInt64, Int32.toInt_toInt64]
theorem fa_wide_le (a b : Int32) : a.toInt64 ≤ b.toInt64 ↔ a ≤ b := by rw [fa_le64, fa_le, Int32.toInt_toInt64, Int32.toInt_toInt64]
theorem fa_wide_eq (a b : Int32) : a.toInt64 = b.toInt64 ↔ a = b := by rw [fa_eq64, fa_eq, Int32.toInt_toInt64, Int32.toInt_toInt64]
/-- one strict comparison gives all the others -/
theorem fa_of_lt {a b : Int32} (h : a < b) : a ≤ b ∧ ¬ b ≤ a ∧ ¬ b < a ∧ a ≠ b ∧ b ≠ a := by
  rw [fa_lt] at h
  refine ⟨?_, ?_, ?_, ?_, ?_⟩
  · rw [fa_le]; omega
  · rw [fa_le]; omega
  · rw [fa_lt]; omega
  · intro e; rw [fa_eq] at e; omega
  · intro e; rw [fa_eq] at e; omega
theorem fa_of_nlt {a b : Int32} (h : ¬ a < b) : b ≤ a := by
  rw [fa_lt] at h
  rw [fa_le]
  omega
theorem fa_of_nle {a b : Int32} (h : ¬ a ≤ b) : b < a := by
  rw [fa_le] at h
  rw [fa_lt]
  omega
theorem fa_le_ne {a b : Int32} (h : a ≤ b) (h2 : a ≠ b) : a < b := by
  rw [fa_le] at h
  rw [fa_lt]
  have h3 : a.toInt ≠ b.toInt := fun e => h2 ((fa_eq a b).mpr e)
  omega
theorem fa_three (a b : Int32) : a < b ∨ a = b ∨ b < a := by
  rw [fa_lt, fa_lt, fa_eq]
  omega
theorem fa_trans {a b c : Int32} (h : a < b) (h2 : b ≤ c) : a < c := by
  rw [fa_lt] at *
  rw [fa_le] at h2
  omega
/-! ===== small literals as numbers ===== -/
theorem fa_lit (n : Nat) : (OfNat.ofNat n : Int32) = nI n := rfl
theorem fa_litL (n : Nat) : (OfNat.ofNat n : Int64) = lN n := rfl
/-! ===== bits of a number: 'or', masks, one bit ===== -/
theorem fa_and (a b : Nat) : nI a &&& nI b = nI (a &&& b) := by
  apply Int32.toBitVec_inj.1
  show BitVec.ofNat 32 a &&& BitVec.ofNat 32 b = BitVec.ofNat 32 (a &&& b)
  apply BitVec.eq_of_getLsbD_eq
  intro i hi
  simp [hi]
theorem fa_or (a b : Nat) : nI a ||| nI b = nI (a ||| b) := by
  apply Int32.toBitVec_inj.1
  show BitVec.ofNat 32 a ||| BitVec.ofNat 32 b = BitVec.ofNat 32 (a ||| b)
  apply BitVec.eq_of_getLsbD_eq
  intro i hi
  simp [hi]
/-- a remainder by a power of two, as a mask -/
theorem fa_mask (n k : Nat) : nI n &&& nI (2 ^ k - 1) = nI (n % 2 ^ k) := by rw [fa_and, Nat.and_two_pow_sub_one_eq_mod]
/-- 'or' of a high part and a low one that don't meet is their sum -/
theorem fa_or_sum {a k : Nat} (b : Nat) (h : a < 2 ^ k) : nI (2 ^ k * b) ||| nI a = nI (2 ^ k * b + a) := by rw [fa_or, Nat.two_pow_add_eq_or_of_lt h]
/-- one bit, by 'and' with a power of two -/
theorem fa_bit {n j : Nat} (hj : j < 31) : nI n &&& nI (2 ^ j) = 0 ↔ n.testBit j = false := by
  have h2 : (2 : Nat) ^ j < 2 ^ 31 := Nat.pow_lt_pow_right (by decide) hj
  have hle : n &&& 2 ^ j ≤ 2 ^ j := Nat.and_le_right
  have e : n &&& 2 ^ j = 0 ↔ n.testBit j = false := by
    constructor
    · intro h
      have h1 : (n &&& 2 ^ j).testBit j = false := by rw [h]; simp
      rw [Nat.testBit_and] at h1
      first | simpa using h1 | simpa [Nat.testBit_two_pow_self] using h1 | simpa [Nat.testBit_two_pow] using h1
    · intro h
      apply Nat.eq_of_testBit_eq
      intro i
      rw [Nat.testBit_and]
      by_cases hi : j = i
      · subst hi; simp [h]
      · first | (simp [Nat.testBit_two_pow, hi]; done) | (simp [Nat.testBit_two_pow_of_ne hi]; done)
  rw [fa_and]
  constructor
  · intro h
    apply e.mp
    rcases Nat.eq_zero_or_pos (n &&& 2 ^ j) with z | z
    · exact z
    · exact absurd h (nI_ne0 z (Nat.lt_of_le_of_lt hle h2))
  · intro h
    rw [e.mpr h]; exact nI_0
/-- a remainder by a power of two of a number that isn't negative, as Java divides -/
theorem fa_rem {a k : Nat} (ha : a < 2 ^ 31) (hk : k < 31) : nI a - nI a / nI (2 ^ k) * nI (2 ^ k) = nI (a % 2 ^ k) := pk_rem ha (Nat.two_pow_pos k) (Nat.pow_lt_pow_right (by decide) hk)
/-! ===== cuts to a byte, a short ===== -/
theorem fa_byte_xor (x y : Int32) : (x ^^^ y).toInt8 = x.toInt8 ^^^ y.toInt8 := by
  apply Int8.toBitVec_inj.1
  apply BitVec.eq_of_getLsbD_eq
  intro i hi
  first | (simp [hi]; done) | (simp [hi, BitVec.getLsbD_setWidth, BitVec.getLsbD_signExtend]; done)
theorem fa_short_xor (x y : Int32) : (x ^^^ y).toInt16 = x.toInt16 ^^^ y.toInt16 := by
  apply Int16.toBitVec_inj.1
  apply BitVec.eq_of_getLsbD_eq
  intro i hi
  first | (simp [hi]; done) | (simp [hi, BitVec.getLsbD_setWidth, BitVec.getLsbD_signExtend]; done)
/-- the cut to a byte sees the low byte alone -/
theorem fa_byte_low (x : Int32) : (x &&& 255).toInt8 = x.toInt8 := by
  apply Int8.toBitVec_inj.1
  apply BitVec.eq_of_getLsbD_eq
  intro i hi
  have h2 : (255 : Int32).toBitVec.getLsbD i = true := by
    have : ∀ j : Fin 8, (255 : Int32).toBitVec.getLsbD j.val = true := by decide +kernel
    exact this ⟨i, hi⟩
  have h4 : (x &&& 255).toBitVec.getLsbD i = x.toBitVec.getLsbD i := by
    show (x.toBitVec &&& (255 : Int32).toBitVec).getLsbD i = _
    rw [BitVec.getLsbD_and, h2, Bool.and_true]
  have h3 : i < 32 := by omega
  first
    | (show (((x &&& 255).toBitVec).signExtend 8).getLsbD i = (x.toBitVec.signExtend 8).getLsbD i; rw [BitVec.getLsbD_signExtend, BitVec.getLsbD_signExtend, if_pos h3, if_pos h3, h4])
    | (show (((x &&& 255).toBitVec).setWidth 8).getLsbD i = (x.toBitVec.setWidth 8).getLsbD i; rw [BitVec.getLsbD_setWidth, BitVec.getLsbD_setWidth, h4])
    | (simp [hi, h3, h4]; done)
theorem fa_short_low (x : Int32) : (x &&& 65535).toInt16 = x.toInt16 := by
  apply Int16.toBitVec_inj.1
  apply BitVec.eq_of_getLsbD_eq
  intro i hi
  have h2 : (65535 : Int32).toBitVec.getLsbD i = true := by
    have : ∀ j : Fin 16, (65535 : Int32).toBitVec.getLsbD j.val = true := by decide +kernel
    exact this ⟨i, hi⟩
  have h4 : (x &&& 65535).toBitVec.getLsbD i = x.toBitVec.getLsbD i := by
    show (x.toBitVec &&& (65535 : Int32).toBitVec).getLsbD i = _
    rw [BitVec.getLsbD_and, h2, Bool.and_true]
  have h3 : i < 32 := by omega
  first
    | (show (((x &&& 65535).toBitVec).signExtend 16).getLsbD i = (x.toBitVec.signExtend 16).getLsbD i; rw [BitVec.getLsbD_signExtend, BitVec.getLsbD_signExtend, if_pos h3, if_pos h3, h4])
    | (show (((x &&& 65535).toBitVec).setWidth 16).getLsbD i = (x.toBitVec.setWidth 16).getLsbD i; rw [BitVec.getLsbD_setWidth, BitVec.getLsbD_setWidth, h4])
    | (simp [hi, h3, h4]; done)
/-- a small number is its own byte, its own short -/
theorem fa_byte_small {n : Nat} (h : n < 128) : (nI n).toInt8.toInt32 = nI n := by
  have : ∀ j : Fin 128, (nI j.val).toInt8.toInt32 = nI j.val := by decide +kernel
  exact this ⟨n, h⟩
/-! ===== absolute difference ===== -/
theorem fa_absdiff {a b : Nat} (ha : a < 2 ^ 31) (hb : b < 2 ^ 31) : (if nI a < nI b then nI b - nI a else nI a - nI b) = nI (if a < b then b - a else a - b) := by
  by_cases h : a < b
  · rw [if_pos (nI_lt h hb), if_pos h]
    exact pk_sub (Nat.le_of_lt h)
  · rw [if_neg (nI_nlt (Nat.le_of_not_lt h) ha), if_neg h]
    exact pk_sub (Nat.le_of_not_lt h)
/-! ===== an array behind i stores, a conditional store, a row copied ===== -/
/-- f where k < i, what stood there else -/
def fa_fill {α : Type} (f g : Nat → α) (i : Nat) : Nat → α := fun k => if k < i then f k else g k
theorem fa_fill_0 {α : Type} (f g : Nat → α) : fa_fill f g 0 = g := funext fun k => if_neg (Nat.not_lt_zero k)
theorem fa_fill_in {α : Type} {f g : Nat → α} {i k : Nat} (h : k < i) : fa_fill f g i k = f k := if_pos h
theorem fa_fill_out {α : Type} {f g : Nat → α} {i k : Nat} (h : i ≤ k) : fa_fill f g i k = g k := if_neg (Nat.not_lt.mpr h)
theorem fa_fill_succ (f g : Nat → Int32) (i : Nat) : upd (fa_fill f g i) i (f i) = fa_fill f g (i + 1) := by
  funext k
  by_cases e : k = i
  · subst e
    rw [pk_us]
    exact (if_pos (Nat.lt_succ_self k)).symm
  · rw [pk_un e]
    by_cases h : k < i
    · rw [fa_fill_in h, fa_fill_in (Nat.lt_succ_of_lt h)]
    · rw [fa_fill_out (Nat.le_of_not_lt h), fa_fill_out (by omega)]
/-- a store that changes nothing -/
theorem fa_upd_same {f : Nat → Int32} {i : Nat} {x : Int32} (h : f i = x) : upd f i x = f := by
  funext k
  by_cases e : k = i
  · subst e
    rw [pk_us, h]
  · rw [pk_un e]
/-- a store under a condition, told as one -/
theorem fa_upd_if (c : Prop) [Decidable c] (f : Nat → Int32) (i : Nat) (x : Int32) : (if c then upd f i x else f) = upd f i (if c then x else f i) := by
  by_cases h : c
  · rw [if_pos h, if_pos h]
  · rw [if_neg h, if_neg h, fa_upd_same rfl]
/-- two stores at one place, at two -/
theorem fa_upd_twice (f : Nat → Int32) (i : Nat) (x y : Int32) : upd (upd f i x) i y = upd f i y := by
  funext k
  by_cases e : k = i
  · subst e
    rw [pk_us, pk_us]
  · rw [pk_un e, pk_un e, pk_un e]
theorem fa_upd_swap (f : Nat → Int32) {i j : Nat} (h : i ≠ j) (x y : Int32) : upd (upd f i x) j y = upd (upd f j y) i x := by
  funext k
  by_cases e : k = i
  · subst e
    rw [pk_un h, pk_us, pk_us]
  · by_cases e2 : k = j
    · subst e2
      rw [pk_us, pk_un e, pk_us]
    · rw [pk_un e2, pk_un e, pk_un e, pk_un e2]
/-! ===== the first index with a property; a count ===== -/
/-- the first k < n with p k, n if there is none -/
def fa_first (p : Nat → Bool) : Nat → Nat
  | 0 => 0
  | n + 1 => if fa_first p n < n then fa_first p n else if p n then n else n + 1
theorem fa_first_le (p : Nat → Bool) : ∀ n, fa_first p n ≤ n
  | 0 => Nat.le_refl 0
  | n + 1 => by
    have ih := fa_first_le p n
    unfold fa_first
    split
    · omega
    · split
      · omega
      · omega
theorem fa_first_no (p : Nat → Bool) : ∀ n k, k < fa_first p n → p k = false
  | 0, k, h => absurd h (Nat.not_lt_zero k)
  | n + 1, k, h => by
    have ih := fa_first_no p n
    have hl := fa_first_le p n
    unfold fa_first at h
    split at h
    · exact ih k h
    · rename_i h1
      split at h
      · exact ih k (by omega)
      · rename_i h2
        by_cases e : k = n
        · subst e
          exact Bool.eq_false_iff.mpr h2
        · exact ih k (by omega)
theorem fa_first_yes (p : Nat → Bool) : ∀ n, fa_first p n < n → p (fa_first p n) = true
  | 0, h => absurd h (Nat.not_lt_zero _)
  | n + 1, h => by
    have ih := fa_first_yes p n
    have hl := fa_first_le p n
    unfold fa_first at h ⊢
    split at h
    · rename_i h1
      rw [if_pos h1]
      exact ih h1
    · rename_i h1
      rw [if_neg h1]
      split at h
      · rename_i h2
        rw [if_pos h2]
        exact h2
      · omega
/-- how many k < n have p k -/
def fa_cnt (p : Nat → Bool) : Nat → Nat
  | 0 => 0
  | n + 1 => fa_cnt p n + if p n then 1 else 0
theorem fa_cnt_le (p : Nat → Bool) : ∀ n, fa_cnt p n ≤ n
  | 0 => Nat.le_refl 0
  | n + 1 => by
    have ih := fa_cnt_le p n
    unfold fa_cnt
    split
    · omega
    · omega
theorem fa_cnt_yes {p : Nat → Bool} {n : Nat} (h : p n = true) : fa_cnt p (n + 1) = fa_cnt p n + 1 := by rw [fa_cnt, if_pos h]
theorem fa_cnt_no {p : Nat → Bool} {n : Nat} (h : p n = false) : fa_cnt p (n + 1) = fa_cnt p n := by rw [fa_cnt, if_neg (by rw [h]; decide)]; rfl
theorem fa_cnt_cong {p q : Nat → Bool} : ∀ {n : Nat}, (∀ k, k < n → p k = q k) → fa_cnt p n = fa_cnt q n
  | 0, _ => rfl
  | n + 1, h => by rw [fa_cnt, fa_cnt, fa_cnt_cong (fun k hk => h k (Nat.lt_succ_of_lt hk)), h n (Nat.lt_succ_self n)]
/-! ===== an answer carried into a post; a branch on a boolean answer ===== -/
theorem fa_post {α : Type} {P : α → Prop} {x y : α} (h : x = y) (hp : P y) : P x := h ▸ hp
theorem fa_post2 {α β : Type} {P : α → β → Prop} {x y : α} {u v : β} (h : x = y) (h2 : u = v) (hp : P y v) : P x u := h ▸ h2 ▸ hp
theorem fa_bool {r : Int32} {b : Bool} (h : r = if b then 1 else 0) : (r = 0 ↔ b = false) ∧ (¬ r = 0 ↔ b = true) := by
  subst h
  cases b
  · exact ⟨⟨fun _ => rfl, fun _ => rfl⟩, ⟨fun h => absurd rfl h, fun h => absurd h (by decide)⟩⟩
  · exact ⟨⟨fun h => absurd h (by decide), fun h => absurd h (by decide)⟩, ⟨fun _ => rfl, fun _ => by decide⟩⟩
/-- a boolean's narrowing changes nothing -/
theorem fa_bool_and {r : Int32} (h : r = 0 ∨ r = 1) : r &&& 1 = r := by
  rcases h with rfl | rfl
  · decide
  · decide
theorem fa_bool_prop {c : Prop} [Decidable c] {r : Int32} (h : r = if c then 1 else 0) : (r = 0 ↔ ¬ c) ∧ (¬ r = 0 ↔ c) := by
  subst h
  by_cases hc : c
  · rw [if_pos hc]
    exact ⟨⟨fun h => absurd h (by decide), fun h => absurd hc h⟩, ⟨fun _ => hc, fun _ => by decide⟩⟩
  · rw [if_neg hc]
    exact ⟨⟨fun _ => hc, fun _ => rfl⟩, ⟨fun h => absurd rfl h, fun h => absurd h hc⟩⟩
/-! plain facts to paste, each family by itself; over the kit's nI, lN and upd -/
/-! ===== drawers: more things than places ===== -/
theorem fb_holes : ∀ (m n : Nat) (f : Nat → Nat), (∀ i, i < n → f i < m) → (∀ i j, i < j → j < n → f i ≠ f j) → n ≤ m := by
  intro m
  induction m with
  | zero =>
    intro n f h1 _
    rcases Nat.eq_zero_or_pos n with h | h
    · omega
    · exact absurd (h1 0 h) (Nat.not_lt_zero _)
  | succ m ih =>
    intro n f h1 h2
    by_cases hx : ∃ i, i < n ∧ f i = m
    · obtain ⟨a, ha, hfa⟩ := hx
      have hg := ih (n - 1) (fun i => if i < a then f i else f (i + 1)) (by
        intro i hi
        by_cases q : i < a
        · simp only [if_pos q]
          have b1 := h1 i (by omega)
          have b2 := h2 i a q ha
          omega
        · simp only [if_neg q]
          have b1 := h1 (i + 1) (by omega)
          have b2 := h2 a (i + 1) (by omega) (by omega)
          omega) (by
        intro i j hij hj
        by_cases q : i < a
        · by_cases r : j < a
          · simp only [if_pos q, if_pos r]
            exact h2 i j hij (by omega)
          · simp only [if_pos q, if_neg r]
            exact h2 i (j + 1) (by omega) (by omega)
        · have r : ¬ j < a := by omega
          simp only [if_neg q, if_neg r]
          exact h2 (i + 1) (j + 1) (by omega) (by omega))
      omega
    · have hg := ih n f (fun i hi => by
        have b1 := h1 i hi
        have b2 : f i ≠ m := fun e => hx ⟨i, hi, e⟩
        omega) h2
      omega
/-- two of them in one place -/
theorem fb_twice {m n : Nat} {f : Nat → Nat} (h : ∀ i, i < n → f i < m) (hm : m < n) : ∃ i j, i < j ∧ j < n ∧ f i = f j := by
  refine Classical.byContradiction fun hx => ?_
  have := fb_holes m n f h (fun i j hij hj e => hx ⟨i, j, hij, hj, e⟩)
  omega
/-- as many as places, none twice: each place is taken -/
theorem fb_onto {n : Nat} {f : Nat → Nat} (h : ∀ i, i < n → f i < n) (h2 : ∀ i j, i < j → j < n → f i ≠ f j) {y : Nat} (hy : y < n) : ∃ i, i < n ∧ f i = y := by
  refine Classical.byContradiction fun hx => ?_
  have hne : ∀ i, i < n → f i ≠ y := fun i hi e => hx ⟨i, hi, e⟩
  have := fb_holes (n - 1) n (fun i => if f i < y then f i else f i - 1) (by
    intro i hi
    have b1 := h i hi
    have b2 := hne i hi
    by_cases q : f i < y
    · simp only [if_pos q]; omega
    · simp only [if_neg q]; omega) (by
    intro i j hij hj
    have b1 := hne i (by omega)
    have b2 := hne j hj
    have b3 := h2 i j hij hj
    by_cases q : f i < y
    · by_cases r : f j < y
      · simp only [if_pos q, if_pos r]; exact b3
      · simp only [if_pos q, if_neg r]; omega
    · by_cases r : f j < y
      · simp only [if_neg q, if_pos r]; omega
      · simp only [if_neg q, if_neg r]; omega)
  omega
/-! ===== how many places have a property ===== -/
def fb_ct (p : Nat → Bool) : Nat → Nat
  | 0 => 0
  | n + 1 => fb_ct p n + (if p n then 1 else 0)
theorem fb_ct_succ (p : Nat → Bool) (n : Nat) : fb_ct p (n + 1) = fb_ct p n + (if p n then 1 else 0) := rfl
theorem fb_ct_le (p : Nat → Bool) : ∀ n, fb_ct p n ≤ n
  | 0 => Nat.le_refl _
  | n + 1 => by
    have h := fb_ct_le p n
    rw [fb_ct_succ]
    split <;> omega
theorem fb_ct_step (p : Nat → Bool) (m : Nat) : ∀ n, fb_ct p m ≤ fb_ct p (m + n)
  | 0 => Nat.le_refl _
  | n + 1 => by
    have h := fb_ct_step p m n
    show fb_ct p m ≤ fb_ct p (m + n + 1)
    rw [fb_ct_succ]
    omega
theorem fb_ct_mono (p : Nat → Bool) {m n : Nat} (h : m ≤ n) : fb_ct p m ≤ fb_ct p n := by
  have := fb_ct_step p m (n - m)
  rwa [Nat.add_sub_cancel' h] at this
theorem fb_ct_cong {p q : Nat → Bool} : ∀ {n : Nat}, (∀ k, k < n → p k = q k) → fb_ct p n = fb_ct q n
  | 0, _ => rfl
  | n + 1, h => by
    rw [fb_ct_succ, fb_ct_succ, fb_ct_cong (fun k hk => h k (by omega)), h n (by omega)]
/-- one place changed -/
theorem fb_ct_out (p : Nat → Bool) (b : Bool) {i n : Nat} (h : n ≤ i) : fb_ct (fun k => if k = i then b else p k) n = fb_ct p n :=
  fb_ct_cong fun k hk => if_neg (by omega)
theorem fb_ct_upd (p : Nat → Bool) (b : Bool) {i : Nat} : ∀ {n : Nat}, i < n → fb_ct (fun k => if k = i then b else p k) n + (if p i then 1 else 0) = fb_ct p n + (if b then 1 else 0)
  | 0, h => absurd h (Nat.not_lt_zero i)
  | n + 1, h => by
    rw [fb_ct_succ, fb_ct_succ]
    rcases Nat.lt_or_ge i n with q | q
    · have := fb_ct_upd p b q
      have e : (if n = i then b else p n) = p n := if_neg (by omega)
      rw [e]
      omega
    · have e : i = n := by omega
      subst e
      rw [fb_ct_out p b (Nat.le_refl _)]
      simp only [if_true]
      omega
theorem fb_ct_sub {p q : Nat → Bool} : ∀ {n : Nat}, (∀ k, k < n → p k = true → q k = true) → fb_ct p n ≤ fb_ct q n
  | 0, _ => Nat.le_refl _
  | n + 1, h => by
    have h1 := fb_ct_sub (n := n) (p := p) (q := q) (fun k hk => h k (by omega))
    have h2 := h n (by omega)
    rw [fb_ct_succ, fb_ct_succ]
    cases hp : p n <;> cases hq : q n <;> simp_all <;> omega
theorem fb_ct_or {p q : Nat → Bool} : ∀ {n : Nat}, (∀ k, k < n → ¬ (p k = true ∧ q k = true)) → fb_ct (fun k => p k || q k) n = fb_ct p n + fb_ct q n
  | 0, _ => rfl
  | n + 1, h => by
    have h1 := fb_ct_or (n := n) (p := p) (q := q) (fun k hk => h k (by omega))
    have h2 := h n (by omega)
    rw [fb_ct_succ, fb_ct_succ, fb_ct_succ, h1]
    cases hp : p n <;> cases hq : q n <;> simp_all <;> omega
theorem fb_ct_not (p : Nat → Bool) : ∀ n, fb_ct p n + fb_ct (fun k => !p k) n = n
  | 0 => rfl
  | n + 1 => by
    have h := fb_ct_not p n
    rw [fb_ct_succ, fb_ct_succ]
    cases p n <;> simp <;> omega
theorem fb_ct_split (p : Nat → Bool) (m : Nat) : ∀ n, fb_ct p (m + n) = fb_ct p m + fb_ct (fun k => p (m + k)) n
  | 0 => rfl
  | n + 1 => by
    have h := fb_ct_split p m n
    show fb_ct p (m + n + 1) = _
    rw [fb_ct_succ, fb_ct_succ, h, Nat.add_assoc]
theorem fb_ct_zero {p : Nat → Bool} : ∀ {n : Nat}, fb_ct p n = 0 ↔ ∀ k, k < n → p k = false
  | 0 => ⟨fun _ k hk => absurd hk (Nat.not_lt_zero k), fun _ => rfl⟩
  | n + 1 => by
    have h := fb_ct_zero (p := p) (n := n)
    rw [fb_ct_succ]
    constructor
    · intro e k hk
      have e1 : fb_ct p n = 0 := by omega
      rcases Nat.lt_or_ge k n with q | q
      · exact h.mp e1 k q
      · have ek : k = n := by omega
        subst ek
        cases hp : p k
        · rfl
        · simp [hp] at e
    · intro a
      rw [h.mpr (fun k hk => a k (by omega)), a n (by omega)]
      rfl
theorem fb_ct_pos {p : Nat → Bool} {n : Nat} : 0 < fb_ct p n ↔ ∃ k, k < n ∧ p k = true := by
  constructor
  · intro h
    refine Classical.byContradiction fun hx => ?_
    have := fb_ct_zero.mpr (fun k hk => by
      cases hp : p k
      · rfl
      · exact absurd ⟨k, hk, hp⟩ hx : ∀ k, k < n → p k = false)
    omega
  · rintro ⟨k, hk, hp⟩
    rcases Nat.eq_zero_or_pos (fb_ct p n) with e | e
    · have := fb_ct_zero.mp e k hk
      rw [this] at hp
      cases hp
    · exact e
theorem fb_ct_all {p : Nat → Bool} {n : Nat} : fb_ct p n = n ↔ ∀ k, k < n → p k = true := by
  have h := fb_ct_not p n
  constructor
  · intro e k hk
    have z : fb_ct (fun k => !p k) n = 0 := by omega
    have := fb_ct_zero.mp z k hk
    cases hp : p k
    · simp [hp] at this
    · rfl
  · intro a
    have z : fb_ct (fun k => !p k) n = 0 := fb_ct_zero.mpr (fun k hk => by simp [a k hk])
    omega
/-- the k-th place with the property -/
theorem fb_ct_kth {p : Nat → Bool} {k : Nat} : ∀ {n : Nat}, k < fb_ct p n → ∃ i, i < n ∧ p i = true ∧ fb_ct p i = k
  | 0, h => absurd h (Nat.not_lt_zero k)
  | n + 1, h => by
    rcases Nat.lt_or_ge k (fb_ct p n) with q | q
    · obtain ⟨i, h1, h2⟩ := fb_ct_kth q
      exact ⟨i, by omega, h2⟩
    · rw [fb_ct_succ] at h
      cases hp : p n
      · simp [hp] at h; omega
      · simp [hp] at h
        exact ⟨n, by omega, hp, by omega⟩
theorem fb_ct_kth_one {p : Nat → Bool} {i j : Nat} (hi : p i = true) (hj : p j = true) (e : fb_ct p i = fb_ct p j) : i = j := by
  have key : ∀ a b : Nat, a < b → p a = true → fb_ct p a < fb_ct p b := by
    intro a b hab ha
    have h := fb_ct_mono p (show a + 1 ≤ b from hab)
    rw [fb_ct_succ, ha] at h
    simp at h
    omega
  rcases Nat.lt_trichotomy i j with q | q | q
  · have := key i j q hi; omega
  · exact q
  · have := key j i q hj; omega
/-! ===== sums over a range: one place changed, parts, bounds ===== -/
def fb_sm (f : Nat → Nat) : Nat → Nat
  | 0 => 0
  | n + 1 => fb_sm f n + f n
theorem fb_sm_succ (f : Nat → Nat) (n : Nat) : fb_sm f (n + 1) = fb_sm f n + f n := rfl
theorem fb_sm_cong {f g : Nat → Nat} : ∀ {n : Nat}, (∀ k, k < n → f k = g k) → fb_sm f n = fb_sm g n
  | 0, _ => rfl
  | n + 1, h => by rw [fb_sm_succ, fb_sm_succ, fb_sm_cong (fun k hk => h k (by omega)), h n (by omega)]
theorem fb_sm_out (f : Nat → Nat) (v : Nat) {i n : Nat} (h : n ≤ i) : fb_sm (fun k => if k = i then v else f k) n = fb_sm f n :=
  fb_sm_cong fun k hk => if_neg (by omega)
theorem fb_sm_upd (f : Nat → Nat) (v : Nat) {i : Nat} : ∀ {n : Nat}, i < n → fb_sm (fun k => if k = i then v else f k) n + f i = fb_sm f n + v
  | 0, h => absurd h (Nat.not_lt_zero i)
  | n + 1, h => by
    rw [fb_sm_succ, fb_sm_succ]
    rcases Nat.lt_or_ge i n with q | q
    · have := fb_sm_upd f v q
      have e : (if n = i then v else f n) = f n := if_neg (by omega)
      rw [e]
      omega
    · have e : i = n := by omega
      subst e
      rw [fb_sm_out f v (Nat.le_refl _)]
      simp only [if_true]
      omega
theorem fb_sm_add (f g : Nat → Nat) : ∀ n, fb_sm (fun k => f k + g k) n = fb_sm f n + fb_sm g n
  | 0 => rfl
  | n + 1 => by
    have h := fb_sm_add f g n
    rw [fb_sm_succ, fb_sm_succ, fb_sm_succ, h]
    omega
theorem fb_sm_le {f g : Nat → Nat} : ∀ {n : Nat}, (∀ k, k < n → f k ≤ g k) → fb_sm f n ≤ fb_sm g n
  | 0, _ => Nat.le_refl _
  | n + 1, h => by
    have h1 := fb_sm_le (n := n) (f := f) (g := g) (fun k hk => h k (by omega))
    have h2 := h n (by omega)
    rw [fb_sm_succ, fb_sm_succ]
    omega
theorem fb_sm_const (c : Nat) : ∀ n, fb_sm (fun _ => c) n = n * c
  | 0 => by rw [Nat.zero_mul]; rfl
  | n + 1 => by rw [fb_sm_succ, fb_sm_const c n, Nat.succ_mul]
theorem fb_sm_bound {f : Nat → Nat} {c n : Nat} (h : ∀ k, k < n → f k ≤ c) : fb_sm f n ≤ n * c := by
  rw [← fb_sm_const c n]
  exact fb_sm_le h
theorem fb_sm_mono (f : Nat → Nat) (m : Nat) : ∀ n, fb_sm f m ≤ fb_sm f (m + n)
  | 0 => Nat.le_refl _
  | n + 1 => by
    have h := fb_sm_mono f m n
    show fb_sm f m ≤ fb_sm f (m + n + 1)
    rw [fb_sm_succ]
    omega
theorem fb_sm_part (f : Nat → Nat) {i n : Nat} (h : i < n) : fb_sm f i + f i ≤ fb_sm f n := by
  have := fb_sm_mono f (i + 1) (n - (i + 1))
  rw [fb_sm_succ, show i + 1 + (n - (i + 1)) = n by omega] at this
  exact this
theorem fb_sm_split (f : Nat → Nat) (m : Nat) : ∀ n, fb_sm f (m + n) = fb_sm f m + fb_sm (fun k => f (m + k)) n
  | 0 => rfl
  | n + 1 => by
    have h := fb_sm_split f m n
    show fb_sm f (m + n + 1) = _
    rw [fb_sm_succ, fb_sm_succ, h, Nat.add_assoc]
theorem fb_sm_zero {f : Nat → Nat} {n : Nat} (h : fb_sm f n = 0) : ∀ k, k < n → f k = 0 := fun k hk => by
  have := fb_sm_part f hk
  omega
/-- the same over whole numbers -/
def fb_si (f : Nat → Int) : Nat → Int
  | 0 => 0
  | n + 1 => fb_si f n + f n
theorem fb_si_succ (f : Nat → Int) (n : Nat) : fb_si f (n + 1) = fb_si f n + f n := rfl
theorem fb_si_cong {f g : Nat → Int} : ∀ {n : Nat}, (∀ k, k < n → f k = g k) → fb_si f n = fb_si g n
  | 0, _ => rfl
  | n + 1, h => by rw [fb_si_succ, fb_si_succ, fb_si_cong (fun k hk => h k (by omega)), h n (by omega)]
theorem fb_si_out (f : Nat → Int) (v : Int) {i n : Nat} (h : n ≤ i) : fb_si (fun k => if k = i then v else f k) n = fb_si f n :=
  fb_si_cong fun k hk => if_neg (by omega)
theorem fb_si_upd (f : Nat → Int) (v : Int) {i : Nat} : ∀ {n : Nat}, i < n → fb_si (fun k => if k = i then v else f k) n = fb_si f n - f i + v
  | 0, h => absurd h (Nat.not_lt_zero i)
  | n + 1, h => by
    rw [fb_si_succ, fb_si_succ]
    rcases Nat.lt_or_ge i n with q | q
    · have := fb_si_upd f v q
      have e : (if n = i then v else f n) = f n := if_neg (by omega)
      rw [e]
      omega
    · have e : i = n := by omega
      subst e
      rw [fb_si_out f v (Nat.le_refl _)]
      simp only [if_true]
      omega
theorem fb_si_add (f g : Nat → Int) : ∀ n, fb_si (fun k => f k + g k) n = fb_si f n + fb_si g n
  | 0 => rfl
  | n + 1 => by
    have h := fb_si_add f g n
    rw [fb_si_succ, fb_si_succ, fb_si_succ, h]
    omega
theorem fb_si_sub (f g : Nat → Int) : ∀ n, fb_si (fun k => f k - g k) n = fb_si f n - fb_si g n
  | 0 => rfl
  | n + 1 => by
    have h := fb_si_sub f g n
    rw [fb_si_succ, fb_si_succ, fb_si_succ, h]
    omega
theorem fb_si_mul (c : Int) (f : Nat → Int) : ∀ n, fb_si (fun k => c * f k) n = c * fb_si f n
  | 0 => (Int.mul_zero c).symm
  | n + 1 => by
    have h := fb_si_mul c f n
    rw [fb_si_succ, fb_si_succ, h, Int.mul_add]
theorem fb_si_split (f : Nat → Int) (m : Nat) : ∀ n, fb_si f (m + n) = fb_si f m + fb_si (fun k => f (m + k)) n
  | 0 => (Int.add_zero _).symm
  | n + 1 => by
    have h := fb_si_split f m n
    show fb_si f (m + n + 1) = _
    rw [fb_si_succ, fb_si_succ, h, Int.add_assoc]
theorem fb_si_nat (f : Nat → Nat) : ∀ n, fb_si (fun k => (f k : Int)) n = (fb_sm f n : Int)
  | 0 => rfl
  | n + 1 => by
    have h := fb_si_nat f n
    rw [fb_si_succ, fb_sm_succ, h]
    omega
theorem fb_si_bound {f : Nat → Int} {c : Int} (hc : 0 ≤ c) : ∀ {n : Nat}, (∀ k, k < n → -c ≤ f k ∧ f k ≤ c) → -(n * c) ≤ fb_si f n ∧ fb_si f n ≤ n * c
  | 0, _ => by simp [fb_si]
  | n + 1, h => by
    have h1 := fb_si_bound (n := n) (f := f) hc (fun k hk => h k (by omega))
    have h2 := h n (by omega)
    have e : ((n + 1 : Nat) : Int) * c = n * c + c := by rw [Int.natCast_add, Int.add_mul]; simp
    rw [fb_si_succ, e]
    omega
/-! ===== bits of a long that isn't negative ===== -/
theorem fb_andL (a b : Nat) : lN a &&& lN b = lN (a &&& b) := by
  apply Int64.toBitVec_inj.1
  show BitVec.ofNat 64 a &&& BitVec.ofNat 64 b = BitVec.ofNat 64 (a &&& b)
  apply BitVec.eq_of_getLsbD_eq
  intro i hi
  simp [hi]
theorem fb_orL (a b : Nat) : lN a ||| lN b = lN (a ||| b) := by
  apply Int64.toBitVec_inj.1
  show BitVec.ofNat 64 a ||| BitVec.ofNat 64 b = BitVec.ofNat 64 (a ||| b)
  apply BitVec.eq_of_getLsbD_eq
  intro i hi
  simp [hi]
theorem fb_xorL (a b : Nat) : lN a ^^^ lN b = lN (a ^^^ b) := by
  apply Int64.toBitVec_inj.1
  show BitVec.ofNat 64 a ^^^ BitVec.ofNat 64 b = BitVec.ofNat 64 (a ^^^ b)
  apply BitVec.eq_of_getLsbD_eq
  intro i hi
  simp [hi]
theorem fb_xorI (a b : Nat) : nI a ^^^ nI b = nI (a ^^^ b) := by
  apply Int32.toBitVec_inj.1
  show BitVec.ofNat 32 a ^^^ BitVec.ofNat 32 b = BitVec.ofNat 32 (a ^^^ b)
  apply BitVec.eq_of_getLsbD_eq
  intro i hi
  simp [hi]
theorem fb_maskL (n k : Nat) : lN n &&& lN (2 ^ k - 1) = lN (n % 2 ^ k) := by rw [fb_andL, Nat.and_two_pow_sub_one_eq_mod]
theorem fb_or_sumL {a k : Nat} (b : Nat) (h : a < 2 ^ k) : lN (2 ^ k * b) ||| lN a = lN (2 ^ k * b + a) := by rw [fb_orL, Nat.two_pow_add_eq_or_of_lt h]
theorem fb_lN_inj {a b : Nat} (ha : a < 2 ^ 63) (hb : b < 2 ^ 63) : lN a = lN b ↔ a = b := by
  constructor
  · intro h
    have h1 : (BitVec.ofNat 64 a).toNat = (BitVec.ofNat 64 b).toNat := congrArg (fun x : Int64 => x.toBitVec.toNat) h
    rw [BitVec.toNat_ofNat, BitVec.toNat_ofNat, Nat.mod_eq_of_lt (by omega), Nat.mod_eq_of_lt (by omega)] at h1
    exact h1
  · rintro rfl; rfl
theorem fb_bit_nat (n j : Nat) : n &&& 2 ^ j = 0 ↔ n.testBit j = false := by
  constructor
  · intro h
    have h1 : (n &&& 2 ^ j).testBit j = false := by rw [h]; simp
    rw [Nat.testBit_and] at h1
    simpa using h1
  · intro h
    apply Nat.eq_of_testBit_eq
    intro i
    rw [Nat.testBit_and]
    by_cases hi : j = i
    · subst hi; simp [h]
    · first | (simp [Nat.testBit_two_pow, hi]; done) | (simp [Nat.testBit_two_pow_of_ne hi]; done)
/-- one bit of a long -/
theorem fb_bitL {n j : Nat} (hj : j < 63) : lN n &&& lN (2 ^ j) = 0 ↔ n.testBit j = false := by
  have h2 : (2 : Nat) ^ j < 2 ^ 63 := Nat.pow_lt_pow_right (by decide) hj
  have hle : n &&& 2 ^ j ≤ 2 ^ j := Nat.and_le_right
  rw [fb_andL, ← fb_bit_nat, show (0 : Int64) = lN 0 from rfl]
  exact fb_lN_inj (by omega) (by decide)
/-- a bit set, a bit taken off -/
theorem fb_bit_set (n j i : Nat) : (n ||| 2 ^ j).testBit i = (n.testBit i || decide (i = j)) := by
  rw [Nat.testBit_or]
  by_cases h : j = i
  · subst h; simp
  · have h2 : ¬ i = j := fun e => h e.symm
    first | (simp [Nat.testBit_two_pow, h, h2]; done) | (simp [Nat.testBit_two_pow_of_ne h, h2]; done)
theorem fb_bit_flip (n j i : Nat) : (n ^^^ 2 ^ j).testBit i = (n.testBit i ^^ decide (i = j)) := by
  rw [Nat.testBit_xor]
  by_cases h : j = i
  · subst h; simp
  · have h2 : ¬ i = j := fun e => h e.symm
    first | (simp [Nat.testBit_two_pow, h, h2]; done) | (simp [Nat.testBit_two_pow_of_ne h, h2]; done)
/-! ===== a stretch of an array written over by a function ===== -/
def fb_put {α : Type} (f g : Nat → α) (a n : Nat) : Nat → α := fun k => if a ≤ k ∧ k < a + n then g (k - a) else f k
theorem fb_put_0 {α : Type} (f g : Nat → α) (a : Nat) : fb_put f g a 0 = f := funext fun k => if_neg (by omega)
theorem fb_put_in {α : Type} {f g : Nat → α} {a n k : Nat} (h1 : a ≤ k) (h2 : k < a + n) : fb_put f g a n k = g (k - a) := if_pos ⟨h1, h2⟩
theorem fb_put_out {α : Type} {f g : Nat → α} {a n k : Nat} (h : k < a ∨ a + n ≤ k) : fb_put f g a n k = f k := if_neg (by omega)
theorem fb_put_succ (f g : Nat → Int32) (a n : Nat) : upd (fb_put f g a n) (a + n) (g n) = fb_put f g a (n + 1) := by
  funext k
  by_cases h : k = a + n
  · subst h
    simp [upd, fb_put]
  · by_cases h1 : a ≤ k ∧ k < a + n
    · have h2 : a ≤ k ∧ k < a + (n + 1) := by omega
      simp only [upd, fb_put, if_neg h, if_pos h1, if_pos h2]
    · have h2 : ¬ (a ≤ k ∧ k < a + (n + 1)) := by omega
      simp only [upd, fb_put, if_neg h, if_neg h1, if_neg h2]
/-- .. from the far end down -/
theorem fb_put_down (f g : Nat → Int32) {a n m : Nat} (h : m < n) : upd (fb_put f (fun k => g (k + (m + 1))) (a + (m + 1)) (n - (m + 1))) (a + m) (g m) = fb_put f (fun k => g (k + m)) (a + m) (n - m) := by
  funext k
  by_cases h0 : k = a + m
  · subst h0
    simp only [upd, if_true]
    rw [fb_put_in (by omega) (by omega)]
    exact congrArg g (by omega)
  · simp only [upd, if_neg h0]
    by_cases h1 : a + (m + 1) ≤ k ∧ k < a + (m + 1) + (n - (m + 1))
    · rw [fb_put_in h1.1 h1.2, fb_put_in (by omega) (by omega)]
      exact congrArg g (by omega)
    · rw [fb_put_out (by omega), fb_put_out (by omega)]
theorem fb_put_cong {α : Type} {f f2 g g2 : Nat → α} {a n : Nat} (hf : ∀ k, (k < a ∨ a + n ≤ k) → f k = f2 k) (hg : ∀ k, k < n → g k = g2 k) : fb_put f g a n = fb_put f2 g2 a n := by
  funext k
  by_cases h : a ≤ k ∧ k < a + n
  · rw [fb_put_in h.1 h.2, fb_put_in h.1 h.2, hg _ (by omega)]
  · rw [fb_put_out (by omega), fb_put_out (by omega), hf _ (by omega)]
/-! ===== the least, the first, the best so far; that there is one alone ===== -/
theorem fb_first {p : Nat → Prop} [DecidablePred p] : ∀ {n : Nat}, (∃ i, i < n ∧ p i) → ∃ i, i < n ∧ p i ∧ ∀ j, j < i → ¬ p j
  | 0, h => by obtain ⟨i, hi, -⟩ := h; exact absurd hi (Nat.not_lt_zero i)
  | n + 1, h => by
    by_cases q : ∃ i, i < n ∧ p i
    · obtain ⟨i, h1, h2⟩ := fb_first q
      exact ⟨i, by omega, h2⟩
    · obtain ⟨i, h1, h2⟩ := h
      have e : i = n := by
        rcases Nat.lt_or_ge i n with r | r
        · exact absurd ⟨i, r, h2⟩ q
        · omega
      subst e
      exact ⟨i, by omega, h2, fun j hj hp => q ⟨j, hj, hp⟩⟩
theorem fb_first_one {p : Nat → Prop} {i j : Nat} (hi : p i) (hi2 : ∀ k, k < i → ¬ p k) (hj : p j) (hj2 : ∀ k, k < j → ¬ p k) : i = j := by
  rcases Nat.lt_trichotomy i j with q | q | q
  · exact absurd hi (hj2 i q)
  · exact q
  · exact absurd hj (hi2 j q)
theorem fb_last {p : Nat → Prop} [DecidablePred p] : ∀ {n : Nat}, (∃ i, i < n ∧ p i) → ∃ i, i < n ∧ p i ∧ ∀ j, i < j → j < n → ¬ p j
  | 0, h => by obtain ⟨i, hi, -⟩ := h; exact absurd hi (Nat.not_lt_zero i)
  | n + 1, h => by
    by_cases q : p n
    · exact ⟨n, by omega, q, fun j h1 h2 => by omega⟩
    · obtain ⟨i, h1, h2⟩ := h
      have hi : i < n := by
        rcases Nat.lt_or_ge i n with r | r
        · exact r
        · have e : i = n := by omega
          subst e
          exact absurd h2 q
      obtain ⟨i2, a1, a2, a3⟩ := fb_last (n := n) ⟨i, hi, h2⟩
      refine ⟨i2, by omega, a2, fun j b1 b2 => ?_⟩
      rcases Nat.lt_or_ge j n with r | r
      · exact a3 j b1 r
      · have e : j = n := by omega
        subst e
        exact q
/-- the first greatest -/
theorem fb_best (f : Nat → Int) : ∀ {n : Nat}, 0 < n → ∃ i, i < n ∧ (∀ j, j < n → f j ≤ f i) ∧ ∀ j, j < i → f j < f i
  | 0, h => absurd h (Nat.lt_irrefl 0)
  | 1, _ => ⟨0, by omega, fun j hj => by have e : j = 0 := by omega
                                         subst e; exact Int.le_refl _, fun j hj => absurd hj (Nat.not_lt_zero j)⟩
  | n + 2, _ => by
    obtain ⟨i, h1, h2, h3⟩ := fb_best f (n := n + 1) (by omega)
    by_cases q : f i < f (n + 1)
    · refine ⟨n + 1, by omega, fun j hj => ?_, fun j hj => ?_⟩
      · rcases Nat.lt_or_ge j (n + 1) with r | r
        · have := h2 j r; omega
        · have e : j = n + 1 := by omega
          subst e; exact Int.le_refl _
      · have := h2 j hj; omega
    · refine ⟨i, by omega, fun j hj => ?_, h3⟩
      rcases Nat.lt_or_ge j (n + 1) with r | r
      · exact h2 j r
      · have e : j = n + 1 := by omega
        subst e; omega
theorem fb_best_one {f : Nat → Int} {n i j : Nat} (hi : i < n) (hi2 : ∀ k, k < n → f k ≤ f i) (hi3 : ∀ k, k < i → f k < f i) (hj : j < n) (hj2 : ∀ k, k < n → f k ≤ f j) (hj3 : ∀ k, k < j → f k < f j) : i = j := by
  rcases Nat.lt_trichotomy i j with q | q | q
  · have a := hj3 i q
    have b := hi2 j hj
    omega
  · exact q
  · have a := hi3 j q
    have b := hj2 i hi
    omega
/-- the first least -/
theorem fb_low (f : Nat → Int) {n : Nat} (h : 0 < n) : ∃ i, i < n ∧ (∀ j, j < n → f i ≤ f j) ∧ ∀ j, j < i → f i < f j := by
  obtain ⟨i, h1, h2, h3⟩ := fb_best (fun k => -f k) h
  exact ⟨i, h1, fun j hj => by have := h2 j hj; omega, fun j hj => by have := h3 j hj; omega⟩
/-! ===== signed ints as whole numbers, within bounds ===== -/
theorem fb_rng (x : Int32) : -2147483648 ≤ x.toInt ∧ x.toInt < 2147483648 := by
  have h1 := Int32.le_toInt x
  have h2 := Int32.toInt_lt x
  omega
theorem fb_bmod {z : Int} (h1 : -2147483648 ≤ z) (h2 : z < 2147483648) : z.bmod (2 ^ 32) = z := by
  rw [Int.bmod_eq_of_le (by omega) (by omega)]
theorem fb_addI {x y : Int32} (h1 : -2147483648 ≤ x.toInt + y.toInt) (h2 : x.toInt + y.toInt < 2147483648) : (x + y).toInt = x.toInt + y.toInt := by
  rw [Int32.toInt_add, fb_bmod h1 h2]
theorem fb_subI {x y : Int32} (h1 : -2147483648 ≤ x.toInt - y.toInt) (h2 : x.toInt - y.toInt < 2147483648) : (x - y).toInt = x.toInt - y.toInt := by
  rw [Int32.toInt_sub, fb_bmod h1 h2]
theorem fb_mulI {x y : Int32} (h1 : -2147483648 ≤ x.toInt * y.toInt) (h2 : x.toInt * y.toInt < 2147483648) : (x * y).toInt = x.toInt * y.toInt := by
  rw [Int32.toInt_mul, fb_bmod h1 h2]
theorem fb_negI {x : Int32} (h : x.toInt ≠ -2147483648) : (-x).toInt = -x.toInt := by
  have := fb_rng x
  rw [Int32.toInt_neg, fb_bmod (by omega) (by omega)]
theorem fb_ofI {z : Int} (h1 : -2147483648 ≤ z) (h2 : z < 2147483648) : (Int32.ofInt z).toInt = z := by
  rw [Int32.toInt_ofInt, fb_bmod h1 h2]
theorem fb_asI (x : Int32) : Int32.ofInt x.toInt = x := Int32.ofInt_toInt x
theorem fb_rngL (x : Int64) : -9223372036854775808 ≤ x.toInt ∧ x.toInt < 9223372036854775808 := by
  have h1 := Int64.le_toInt x
  have h2 := Int64.toInt_lt x
  omega
theorem fb_bmodL {z : Int} (h1 : -9223372036854775808 ≤ z) (h2 : z < 9223372036854775808) : z.bmod (2 ^ 64) = z := by
  rw [Int.bmod_eq_of_le (by omega) (by omega)]
theorem fb_addL {x y : Int64} (h1 : -9223372036854775808 ≤ x.toInt + y.toInt) (h2 : x.toInt + y.toInt < 9223372036854775808) : (x + y).toInt = x.toInt + y.toInt := by
  rw [Int64.toInt_add, fb_bmodL h1 h2]
theorem fb_subL {x y : Int64} (h1 : -9223372036854775808 ≤ x.toInt - y.toInt) (h2 : x.toInt - y.toInt < 9223372036854775808) : (x - y).toInt = x.toInt - y.toInt := by
  rw [Int64.toInt_sub, fb_bmodL h1 h2]
theorem fb_mulL {x y : Int64} (h1 : -9223372036854775808 ≤ x.toInt * y.toInt) (h2 : x.toInt * y.toInt < 9223372036854775808) : (x * y).toInt = x.toInt * y.toInt := by
  rw [Int64.toInt_mul, fb_bmodL h1 h2]
/-! ===== cuts of what is narrow already ===== -/
theorem fb_byte {x : Int32} (h1 : -128 ≤ x.toInt) (h2 : x.toInt < 128) : x.toInt8.toInt32 = x := by
  apply Int32.toInt_inj.1
  rw [Int8.toInt_toInt32, Int32.toInt_toInt8, Int.bmod_eq_of_le (by omega) (by omega)]
theorem fb_short {x : Int32} (h1 : -32768 ≤ x.toInt) (h2 : x.toInt < 32768) : x.toInt16.toInt32 = x := by
  apply Int32.toInt_inj.1
  rw [Int16.toInt_toInt32, Int32.toInt_toInt16, Int.bmod_eq_of_le (by omega) (by omega)]
theorem fb_byte_rng (x : Int32) : -128 ≤ x.toInt8.toInt32.toInt ∧ x.toInt8.toInt32.toInt < 128 := by
  rw [Int8.toInt_toInt32]
  have h1 := Int8.le_toInt x.toInt8
  have h2 := Int8.toInt_lt x.toInt8
  omega
theorem fb_short_rng (x : Int32) : -32768 ≤ x.toInt16.toInt32.toInt ∧ x.toInt16.toInt32.toInt < 32768 := by
  rw [Int16.toInt_toInt32]
  have h1 := Int16.le_toInt x.toInt16
  have h2 := Int16.toInt_lt x.toInt16
  omega
theorem fb_byte_twice (x : Int32) : x.toInt8.toInt32.toInt8.toInt32 = x.toInt8.toInt32 := fb_byte (fb_byte_rng x).1 (fb_byte_rng x).2
theorem fb_short_twice (x : Int32) : x.toInt16.toInt32.toInt16.toInt32 = x.toInt16.toInt32 := fb_short (fb_short_rng x).1 (fb_short_rng x).2
theorem fb_char {n : Nat} (h : n < 65536) : (nI n).toUInt32.toUInt16.toUInt32.toInt32 = nI n := by
  apply Int32.toBitVec_inj.1
  apply BitVec.eq_of_toNat_eq
  have e1 : (nI n).toBitVec.toNat = n := by
    show (BitVec.ofNat 32 n).toNat = n
    rw [BitVec.toNat_ofNat, Nat.mod_eq_of_lt (by omega)]
  have e2 : ((nI n).toUInt32.toUInt16.toUInt32).toNat = n := by
    rw [UInt16.toNat_toUInt32, UInt32.toNat_toUInt16]
    show (nI n).toBitVec.toNat % 2 ^ 16 = n
    rw [e1, Nat.mod_eq_of_lt (by omega)]
  rw [e1]
  exact e2
end
section
/-! methods that return without making a cell, or throw making one: rows after the kit's vx_ rows (kit/laws/EXCEPTIONS), where both ends have one account; here the normal end has 0 0 -/
def vy_Q (Qc : Array Value → State → Outcome → State → Prop) (XC : String → State → State → Prop) (mc ms : Nat) (free : Addr → Prop) : Array Value → State → Outcome → State → Prop := fun a st o t =>
  (Qc a st o t ∧ ∃ L, FrameEnd st o t L 0 0 ∧ ∀ q ∈ L, free q.base) ∨ ∃ q, o = .threw q ∧ vx_T XC st q t mc ms free
def vy_Met (l : Launch) (y : MethodName) (ws : List Cond) (rm : Room) (Pc : Array Value → State → Prop) (Qc : Array Value → State → Outcome → State → Prop) (XC : String → State → State → Prop) (mc ms : Nat) (free : Addr → Prop) : Prop :=
  MetFree l y (headSpec ws rm) Pc (fun _ _ _ _ _ => True) (vy_Q Qc XC mc ms free)
section VYA
section
variable {l : Launch} {R : Room} {p : Program} {e : Env} {below : List Frame} {s : State} {sargs : Array Value} {y : MethodName} {len W9 : Nat}
theorem vy_back {ws : List Cond} {rm : Room} {Pc : Array Value → State → Prop} {Qc : Array Value → State → Outcome → State → Prop} {XC : String → State → State → Prop} {mc ms : Nat} {free : Addr → Prop} {bytes : ByteArray} {maxL : Nat} {ret : Option FieldType}
    (hM : vy_Met l y ws rm Pc Qc XC mc ms free) (hblind : FrameBlind Pc) (hrc : rm.cells = mc) (hrs : rm.slots = ms)
    (hframes : rm.frames + 1 ≤ R.frames) (hlocals : W9 + (maxL + 11) + rm.locals ≤ R.locals)
    (hws : ∀ w ∈ ws, ∀ a' U, s.WarmedH U.vm → w.before a' U = true) (hcode : Cond.code y bytes maxL ret ∈ ws) (hinit : ∀ a' U, s.WarmedH U.vm → (Cond.initialized y.cls).before a' U = true) :
    vx_Back l R p e below s sargs y len W9 (PreOf R mc ms Pc) (PostOf Qc 0 0 free) (vx_Post XC mc ms free) := by
  intro m meth c A g ig mk a X hg hsize hdg hW hn hp
  have h1 : (headSpec ws rm).pre.before a A.U = true := atoms_intro fun w hw => hws w hw _ _ X.warmed
  have h2 : (Cond.code y bytes maxL ret).before a A.U = true := hws _ hcode _ _ X.warmed
  have h3 : (Cond.initialized y.cls).before a A.U = true := hinit _ _ X.warmed
  have h4 : A.cells + (headSpec ws rm).room.cells ≤ R.cells := by rw [show (headSpec ws rm).room.cells = mc from hrc]; exact hp.1
  have h5 : A.slots + (headSpec ws rm).room.slots ≤ R.slots := by rw [show (headSpec ws rm).room.slots = ms from hrs]; exact hp.2.1
  have hPc : Pc a (A.U.calling g mk a) := hblind _ _ _ _ hp.2.2
  obtain ⟨U, Ls, c0, s0⟩ := A
  dsimp only [Pt.U, Pt.locs, Pt.cells, Pt.slots] at h1 h2 h3 h4 h5 X hn hPc ⊢
  obtain ⟨methY, cY, hmY, hcY, -, hlY, -, -, -, -⟩ := Cond.code_spec hn h2
  obtain ⟨kY, hkY, -⟩ := className_of_methodNamed hn
  have hinitY : kY.init = .initialized := Cond.initialized_spec (findClass_of_methodNamed hn) hkY h3
  have h : At U g.method c below := by rw [hg]; exact X.here
  have hlocals9 : W9 + (maxL + 11) + (headSpec ws rm).room.locals ≤ R.locals := hlocals
  have happ : (headSpec ws rm).appliesLoose y e.platform (U.calling g mk a) = true :=
    Spec.appliesLoose_calling (g := g) h hdg hn hkY hinitY
      (X.room_calling (g := g) (R' := (headSpec ws rm).room) hsize hmY hcY hframes (by rw [hlY]; omega) h4 h5) h1
  obtain ⟨mid, hmid⟩ := h.above
  have hfr : (U.setTop g).frames = (.java g :: mid) ++ below := by rw [State.frames_setTop' g h.top, hmid]; rfl
  obtain ⟨o, s₂, hsteps, -, hend, hq⟩ := Steps.callFree hM p X.admits X.cas X.clock (acts := []) hfr happ hPc trivial
  have hq' : vy_Q Qc XC mc ms free a (U.calling g mk a) o s₂ := hq
  rw [State.frames_setTop' g h.top] at hend
  obtain ⟨g₀, hg0⟩ := Option.isSome_iff_exists.mp h.top
  obtain ⟨r, hr⟩ := State.topJava?_eq_some.mp hg0
  have hr' : (({ U with heap := s₂.heap, slotsUsed := s₂.slotsUsed } : State).setVm s₂.vm).frames = .java g₀ :: r := hr
  rcases hq' with ⟨hqc, L, hfe, hL⟩ | ⟨q, rfl, E, ce, L, hx, hce, hcv, hcl, hW₂, hsm, hL⟩
  · obtain ⟨⟨v, rfl⟩, hW₂, e2, q2, q3, q4, q5, q6⟩ := id hfe
    have e3 : s₂ = ({ (U.calling g mk a).setFrames s₂.frames with heap := s₂.heap, slotsUsed := s₂.slotsUsed } : State).setVm s₂.vm := by
      have : s₂ = ({ s₂ with vm := (U.calling g mk a).vm } : State).setVm s₂.vm := rfl
      rw [e2] at this
      exact this
    obtain ⟨c₂, i₂, len₂, hc₂, hd₂, hf₂⟩ := hend
    have hW' : U.WarmedH s₂.vm := hW₂
    have hcc : c₂ = c := by
      have h1 : s₂.code? g.method = U.code? g.method := by
        rw [State.code?_eq, State.code?_eq, hW'.alike.method?]
      exact Option.some.inj (hc₂.symm.trans (h1.trans h.code))
    subst hcc
    have hlen : len₂ = len := by rw [hdg] at hd₂; cases hd₂; rfl
    subst hlen
    have hs₂ : s₂ = (({ U with heap := s₂.heap, slotsUsed := s₂.slotsUsed } : State).setVm s₂.vm).setTop { g with pc := g.pc + len₂, stack := v.toList ++ g.stack } := by
      refine e3.trans ?_
      rw [hf₂, State.calling_eq h.top, State.setFrames_setFrames, State.setTop_of_frames _ hr', hr]
      rfl
    have hsame : U.sameButNew ({ U with heap := s₂.heap, slotsUsed := s₂.slotsUsed } : State) L 0 0 := by
      refine ⟨?_, q2, q3, q4, q5, q6⟩
      obtain ⟨t, ht, -⟩ := State.frames_cons hr
      show ({ U with heap := s₂.heap, slotsUsed := s₂.slotsUsed } : State) = { U.setFrames U.frames with heap := s₂.heap, slotsUsed := s₂.slotsUsed }
      rw [State.setFrames_self ht]
    subst hg
    refine Or.inl ⟨v, ⟨(({ U with heap := s₂.heap, slotsUsed := s₂.slotsUsed } : State).setVm s₂.vm), Ls ++ L, c0 + 0, s0 + 0⟩,
      ⟨X.admits, X.cas, X.clock, X.frames, X.room, X.hears, X.method, X.code, (X.here.setHeapUsed s₂.heap s₂.slotsUsed).setVm hW'.alike, X.tail, State.WarmedH.trans X.warmed hW', X.limits, X.bytes, X.same.trans (hsame.setVm s.vm)⟩,
      ⟨g, mk, s₂, L, rfl, rfl, hqc, rfl, hL, rfl, rfl⟩, ?_⟩
    show Steps p.tables e below _ ((({ U with heap := s₂.heap, slotsUsed := s₂.slotsUsed } : State).setVm s₂.vm).setTop { g with pc := g.pc + len₂, stack := v.toList ++ g.stack })
    rw [← hs₂]
    exact hsteps
  · obtain ⟨e2, q2, q3, q4, q5, q6⟩ := id hsm
    have e3 : s₂ = ({ (U.calling g mk a).setFrames s₂.frames with heap := s₂.heap, slotsUsed := s₂.slotsUsed } : State).setVm s₂.vm := by
      have : s₂ = ({ s₂ with vm := (U.calling g mk a).vm } : State).setVm s₂.vm := rfl
      rw [e2] at this
      exact this
    have hf₂ : s₂.frames = .throwing q :: .java g :: U.frames.tail := hend
    have hW' : U.WarmedH s₂.vm := hW₂
    have hs₂ : s₂ = ((({ U with heap := s₂.heap, slotsUsed := s₂.slotsUsed } : State).setVm s₂.vm).setTop g).pushFrame (.throwing q) := by
      refine e3.trans ?_
      rw [hf₂, State.calling_eq h.top, State.setFrames_setFrames, State.pushFrame, State.frames_setTop _ hr', State.setTop_of_frames _ hr', State.setFrames_setFrames, hr]
      rfl
    have hsame : U.sameButNew ({ U with heap := s₂.heap, slotsUsed := s₂.slotsUsed } : State) L mc ms := by
      refine ⟨?_, q2, q3, q4, q5, q6⟩
      obtain ⟨t, ht, -⟩ := State.frames_cons hr
      show ({ U with heap := s₂.heap, slotsUsed := s₂.slotsUsed } : State) = { U.setFrames U.frames with heap := s₂.heap, slotsUsed := s₂.slotsUsed }
      rw [State.setFrames_self ht]
    subst hg
    refine Or.inr ⟨q, ⟨(({ U with heap := s₂.heap, slotsUsed := s₂.slotsUsed } : State).setVm s₂.vm), Ls ++ L, c0 + mc, s0 + ms⟩,
      ⟨X.admits, X.cas, X.clock, X.frames, X.room, X.hears, X.method, X.code, (X.here.setHeapUsed s₂.heap s₂.slotsUsed).setVm hW'.alike, X.tail, State.WarmedH.trans X.warmed hW', X.limits, X.bytes, X.same.trans (hsame.setVm s.vm)⟩,
      ⟨g, mk, s₂, L, E, ce, rfl, rfl, hx, hce, hcv, hcl, rfl, hL, rfl, rfl⟩, ?_⟩
    show Steps p.tables e below _ (((({ U with heap := s₂.heap, slotsUsed := s₂.slotsUsed } : State).setVm s₂.vm).setTop g).pushFrame (.throwing q))
    rw [← hs₂]
    exact hsteps
end
def vy_Run (p : Program) (l : Launch) (e : Env) (R : Room) (s : State) (m : MethodId) (args : Array Value) (below : List Frame) (meth : Method) (c : Code) (H : Heap) (locs : List Loc) (cells slots mc ms : Nat) (g : JFrame) (rest : List Value) (Qa : State → Outcome → State → Prop) (XC : String → State → State → Prop) (free : Addr → Prop) : Prop :=
  ∀ T : State, T.heap = H → Stand p l e R s m args below meth c T locs cells slots →
    (∃ (v : Option Value) (st₀ t T' : State) (L : List Loc), st₀.heap = H ∧ Stand p l e R s m args below meth c T' (locs ++ L) cells slots ∧ (∀ q ∈ L, free q.base) ∧ T'.heap = t.heap ∧ T'.vm = t.vm ∧ Qa st₀ (.returned v) t ∧
      Goes p e below T g T' { g with pc := g.pc + 3, stack := v.toList ++ rest }) ∨
    (∃ (q : Addr) (st₀ t T' : State) (L : List Loc) (E : String) (ce : Cell), st₀.heap = H ∧ Stand p l e R s m args below meth c T' (locs ++ L) (cells + mc) (slots + ms) ∧ (∀ z ∈ L, free z.base) ∧ T'.heap = t.heap ∧ T'.vm = t.vm ∧ XC E st₀ t ∧ t.heap[q]? = some ce ∧ ce.vm = .none ∧ s.vm.findClass E = some ce.cls ∧
      Steps p.tables e below (T.setTop g) ((T'.setTop { g with stack := rest }).pushFrame (.throwing q)))
section
variable {p : Program} {l : Launch} {e : Env} {R : Room} {s : State} {m : MethodId} {args : Array Value} {below : List Frame} {meth : Method} {c : Code} {H : Heap} {locs : List Loc} {cells slots : Nat}
variable {y : MethodName} {bytes cc : ByteArray} {maxL nL mc ms n index : Nat} {ret : Option FieldType} {ws : List Cond} {rm : Room} {Pc : Array Value → State → Prop} {Qc : Array Value → State → Outcome → State → Prop} {XC : String → State → State → Prop} {free : Addr → Prop} {Ts : List Cond} {own C : String} {b : Addr} {As rest : List Value} {g : JFrame}
theorem vy_callBack (cb : CallB R s args own index y bytes maxL ret ws rm mc ms n) (hM : vy_Met l y ws rm Pc Qc XC mc ms free) (hbl : FrameBlind Pc) : vx_Back l R p e below s args y 3 8 (PreOf R mc ms Pc) (PostOf Qc 0 0 free) (vx_Post XC mc ms free) := by
  obtain ⟨hrc, hrs, hfr, hlo, hws, hcw, -, hini, -⟩ := cb
  exact vy_back (bytes := bytes) (maxL := maxL) (ret := ret) hM hbl hrc hrs hfr hlo hws hcw (fun a' U hW => word_at hW (Or.inl (by first | rfl | simp [Cond.onTables, Cond.keeps, Cond.steady])) hini)
theorem vy_runV (S : CallFix p m c cc nL s args Ts own) (hM : vy_Met l y ws rm Pc Qc XC mc ms free) (cw : CallW R s args own C index y bytes maxL ret ws rm mc ms n) (hp : PreV s H C b Pc As)
    (hg : g.method = m) (hn : As.length = n) (hsize : g.locals.size = nL) (hstack : g.stack = As.reverse ++ .ref b :: rest) (hW : 2 * g.monitorRoom + (rest.map fun v => v.category).sum ≤ 8) (hdg : decode cc g.pc = .ok (.invokevirtual index, 3)) (hf : cells + mc ≤ R.cells ∧ slots + ms ≤ R.slots) :
    vy_Run p l e R s m args below meth c H locs cells slots mc ms g rest (Qc (Value.ref b :: As).toArray) XC free := by
  have hK : vx_Back l R p e below s args y 3 8 (PreOf R mc ms Pc) (PostOf Qc 0 0 free) (vx_Post XC mc ms free) := vy_callBack cw.1 hM hp.1
  obtain ⟨⟨-, -, -, -, -, -, hcode, -, hy, hlen, hl⟩, hin, hse⟩ := cw
  obtain ⟨hx, hb, hml, ho, -⟩ := S
  obtain ⟨-, ⟨cellB, hcB, hoB, hclB⟩, hPc⟩ := hp
  intro T hT X
  rcases vx_callV X hx (C := C) (bytes := bytes) (maxL := maxL) (ret := ret) ho hl hin hse hcode hy hK (by rw [hT]; exact hcB) hoB hclB hg (hsize.trans hml.symm) (argsL := As) (rest := rest) (fun sig h => hn.trans (hlen sig h)) hstack hW (by rw [hb]; exact hdg)
    (fun vm₁ hW₁ => ⟨hf.1, hf.2, hPc (T.setVm vm₁) hT hW₁⟩) with ⟨v, vm₁, ⟨U', l2, c2, s2⟩, hW₁, X', ⟨g', mk, t, L, e1, e2, hq, h1, hL, h2, h3⟩, st⟩ | ⟨q, vm₁, ⟨U', l2, c2, s2⟩, hW₁, X', ⟨g', mk, t, L, E, ce, e1, e2, hq, hce, hcv, hcl, h1, hL, h2, h3⟩, st⟩
  · dsimp only [Pt.U, Pt.locs, Pt.cells, Pt.slots] at X' e1 e2 h1 h2 h3 st
    subst h1; subst h2; subst h3
    exact Or.inl ⟨v, (T.setVm vm₁).calling g' mk (Value.ref b :: As).toArray, t, U', L, hT, X', hL, e1, e2, hq, st⟩
  · dsimp only [Pt.U, Pt.locs, Pt.cells, Pt.slots] at X' e1 e2 h1 h2 h3 st hcl
    subst h1; subst h2; subst h3
    exact Or.inr ⟨q, (T.setVm vm₁).calling g' mk (Value.ref b :: As).toArray, t, U', L, E, ce, hT, X', hL, e1, e2, hq, hce, hcv, vx_cls hW₁ hcl, st⟩
theorem vy_runS (S : CallFix p m c cc nL s args Ts own) (hM : vy_Met l y ws rm Pc Qc XC mc ms free) (cw : CallB R s args own index y bytes maxL ret ws rm mc ms n ∧ (Cond.static y).before args s = true) (hp : PreS s H Pc As)
    (hg : g.method = m) (hn : As.length = n) (hsize : g.locals.size = nL) (hstack : g.stack = As.reverse ++ rest) (hW : 2 * g.monitorRoom + (rest.map fun v => v.category).sum ≤ 8) (hdg : decode cc g.pc = .ok (.invokestatic index, 3)) (hf : cells + mc ≤ R.cells ∧ slots + ms ≤ R.slots) :
    vy_Run p l e R s m args below meth c H locs cells slots mc ms g rest (Qc As.toArray) XC free := by
  have hK : vx_Back l R p e below s args y 3 8 (PreOf R mc ms Pc) (PostOf Qc 0 0 free) (vx_Post XC mc ms free) := vy_callBack cw.1 hM hp.1
  obtain ⟨⟨-, -, -, -, -, -, hcode, hini, hy, hlen, hl⟩, hstt⟩ := cw
  obtain ⟨hx, hb, hml, ho, -⟩ := S
  intro T hT X
  rcases vx_callS X hx (bytes := bytes) (maxL := maxL) (ret := ret) ho hl hstt hini hcode hy hK hg (hsize.trans hml.symm) (argsL := As) (rest := rest) (fun sig h => hn.trans (hlen sig h)) hstack hW (by rw [hb]; exact hdg)
    (fun vm₁ hW₁ => ⟨hf.1, hf.2, hp.2 (T.setVm vm₁) hT hW₁⟩) with ⟨v, vm₁, ⟨U', l2, c2, s2⟩, hW₁, X', ⟨g', mk, t, L, e1, e2, hq, h1, hL, h2, h3⟩, st⟩ | ⟨q, vm₁, ⟨U', l2, c2, s2⟩, hW₁, X', ⟨g', mk, t, L, E, ce, e1, e2, hq, hce, hcv, hcl, h1, hL, h2, h3⟩, st⟩
  · dsimp only [Pt.U, Pt.locs, Pt.cells, Pt.slots] at X' e1 e2 h1 h2 h3 st
    subst h1; subst h2; subst h3
    exact Or.inl ⟨v, (T.setVm vm₁).calling g' mk As.toArray, t, U', L, hT, X', hL, e1, e2, hq, st⟩
  · dsimp only [Pt.U, Pt.locs, Pt.cells, Pt.slots] at X' e1 e2 h1 h2 h3 st hcl
    subst h1; subst h2; subst h3
    exact Or.inr ⟨q, (T.setVm vm₁).calling g' mk As.toArray, t, U', L, E, ce, hT, X', hL, e1, e2, hq, hce, hcv, vx_cls hW₁ hcl, st⟩
end
/-- what a throw of the class leaves: the heap as it was, and new cells -/
def xcs (P : String → Prop) : String → State → State → Prop := fun E st t => P E ∧ st.heap.size ≤ t.heap.size ∧ ∀ q : Nat, q < st.heap.size → t.heap[q]? = st.heap[q]?
section
variable {p : Program} {l : Launch} {e : Env} {R : Room} {s : State} {m : MethodId} {args : Array Value} {below : List Frame} {meth : Method} {c : Code} {H : Heap} {locs : List Loc} {cells slots : Nat} {Q : State → Prop}
variable {mc ms : Nat} {free : Addr → Prop} {A0 A1 : Nat → Prop} {H0 : Heap} {a : Array Value} {pc : Nat} {ls : Array Slot} {st0 rest : List Value}
/-- a call that leaves the heap as it is and answers a number, or throws -/
theorem vy_csi {post : Int32 → Prop} {P : String → Prop} (hr : vy_Run p l e R s m args below meth c H locs cells slots mc ms (F0 m pc ls st0) rest (vp_Si post a) (xcs P) (fun _ => False))
    (kx : ∀ (E : String) (ce : Cell) (q9 : Addr) (H1 : Heap), P E → H.size ≤ H1.size → (∀ q : Nat, q < H.size → H1[q]? = H[q]?) → H1[q9]? = some ce → ce.vm = .none → s.vm.findClass E = some ce.cls → vx_W p l e R s m args below meth c H1 locs (cells + mc) (slots + ms) Q (F0 m pc ls rest) q9)
    (kk : ∀ r : Int32, post r → W p l e R s m args below meth c H locs cells slots Q (F0 m (pc + 3) ls (.int r :: rest))) : W p l e R s m args below meth c H locs cells slots Q (F0 m pc ls st0) := by
  intro T hT X
  rcases hr T hT X with ⟨v, st₀, t, T', L, h0, X', hL, e1, e2, ⟨r, hv, hp, hh⟩, st⟩ | ⟨q, st₀, t, T', L, E, ce, h0, X', hL, e1, e2, ⟨hP, hz, hk⟩, hce, hcv, hcl, st⟩
  · cases hv
    obtain ⟨t2, a1, b1⟩ := kk r hp T' (by rw [e1, hh, h0]) (Stand.forget X' (fun q h => (hL q h).elim))
    exact ⟨t2, st t2 a1, b1⟩
  · rw [h0] at hz hk
    obtain ⟨t2, a1, b1⟩ := kx E ce q T'.heap hP (by rw [e1]; exact hz) (fun q h1 => by rw [e1]; exact hk q h1) (by rw [e1]; exact hce) hcv hcl T' rfl (Stand.forget X' (fun q h => (hL q h).elim))
    exact ⟨t2, st.trans a1, b1⟩
/-- a call that leaves the heap as it is and answers nothing, or throws -/
theorem vy_csv {post : Unit → Prop} {P : String → Prop} (hr : vy_Run p l e R s m args below meth c H locs cells slots mc ms (F0 m pc ls st0) rest (va_Sv post a) (xcs P) (fun _ => False))
    (kx : ∀ (E : String) (ce : Cell) (q9 : Addr) (H1 : Heap), P E → H.size ≤ H1.size → (∀ q : Nat, q < H.size → H1[q]? = H[q]?) → H1[q9]? = some ce → ce.vm = .none → s.vm.findClass E = some ce.cls → vx_W p l e R s m args below meth c H1 locs (cells + mc) (slots + ms) Q (F0 m pc ls rest) q9)
    (kk : post () → W p l e R s m args below meth c H locs cells slots Q (F0 m (pc + 3) ls rest)) : W p l e R s m args below meth c H locs cells slots Q (F0 m pc ls st0) := by
  intro T hT X
  rcases hr T hT X with ⟨v, st₀, t, T', L, h0, X', hL, e1, e2, ⟨hv, hp, hh⟩, st⟩ | ⟨q, st₀, t, T', L, E, ce, h0, X', hL, e1, e2, ⟨hP, hz, hk⟩, hce, hcv, hcl, st⟩
  · cases hv
    obtain ⟨t2, a1, b1⟩ := kk hp T' (by rw [e1, hh, h0]) (Stand.forget X' (fun q h => (hL q h).elim))
    exact ⟨t2, st t2 a1, b1⟩
  · rw [h0] at hz hk
    obtain ⟨t2, a1, b1⟩ := kx E ce q T'.heap hP (by rw [e1]; exact hz) (fun q h1 => by rw [e1]; exact hk q h1) (by rw [e1]; exact hce) hcv hcl T' rfl (Stand.forget X' (fun q h => (hL q h).elim))
    exact ⟨t2, st.trans a1, b1⟩
/-- a call that changes its world and answers a number, or throws with the heap as it was -/
theorem vy_calli {S : Type} {post : Int32 → S → Prop} {B : S → State → Prop} {P : String → Prop} (hr : vy_Run p l e R s m args below meth c H locs cells slots mc ms (F0 m pc ls st0) rest (va_Qi post B A1 a) (xcs P) free) (hS : va_S A0 H0 H locs) (hA : ∀ q, q < H.size → A1 q → A0 q) (hf : ∀ q, free q → A0 q)
    (kx : ∀ (E : String) (ce : Cell) (q9 : Addr) (H1 : Heap) (locs1 : List Loc), P E → H.size ≤ H1.size → (∀ q : Nat, q < H.size → H1[q]? = H[q]?) → va_S A0 H0 H1 locs1 → H1[q9]? = some ce → ce.vm = .none → s.vm.findClass E = some ce.cls → vx_W p l e R s m args below meth c H1 locs1 (cells + mc) (slots + ms) Q (F0 m pc ls rest) q9)
    (kk : ∀ (r : Int32) (u : S) (t : State) (H1 : Heap) (locs1 : List Loc), t.heap = H1 → s.vm.Alike t.vm → post r u → B u t → H.size ≤ H1.size → (∀ q : Nat, q < H.size → ¬ A1 q → H1[q]? = H[q]?) → va_S A0 H0 H1 locs1 → W p l e R s m args below meth c H1 locs1 cells slots Q (F0 m (pc + 3) ls (.int r :: rest))) : W p l e R s m args below meth c H locs cells slots Q (F0 m pc ls st0) := by
  intro T hT X
  rcases hr T hT X with ⟨v, st₀, t, T', L, h0, X', hL, e1, e2, ⟨⟨r, u, hv, hp, hb⟩, hz, hk⟩, st⟩ | ⟨q, st₀, t, T', L, E, ce, h0, X', hL, e1, e2, ⟨hP, hz, hk⟩, hce, hcv, hcl, st⟩
  · cases hv
    rw [h0] at hz hk
    obtain ⟨t2, a1, b1⟩ := kk r u t T'.heap (locs ++ L) e1.symm (by rw [← e2]; exact X'.warmed.alike) hp hb (by rw [e1]; exact hz) (fun q h1 h2 => by rw [e1]; exact hk q h1 h2)
      ⟨Nat.le_trans hS.1 (by rw [e1]; exact hz), fun q h1 h2 => by rw [e1, hk q (Nat.lt_of_lt_of_le h1 hS.1) (fun z => h2 (hA q (Nat.lt_of_lt_of_le h1 hS.1) z))]; exact hS.2.1 q h1 h2, fun q hq => by
        rcases List.mem_append.mp hq with h | h
        · exact hS.2.2 q h
        · exact hf _ (hL q h)⟩ T' rfl X'
    exact ⟨t2, st t2 a1, b1⟩
  · rw [h0] at hz hk
    obtain ⟨t2, a1, b1⟩ := kx E ce q T'.heap (locs ++ L) hP (by rw [e1]; exact hz) (fun q h1 => by rw [e1]; exact hk q h1)
      ⟨Nat.le_trans hS.1 (by rw [e1]; exact hz), fun q h1 h2 => by rw [e1, hk q (Nat.lt_of_lt_of_le h1 hS.1)]; exact hS.2.1 q h1 h2, fun q hq => by
        rcases List.mem_append.mp hq with h | h
        · exact hS.2.2 q h
        · exact hf _ (hL q h)⟩ (by rw [e1]; exact hce) hcv hcl T' rfl X'
    exact ⟨t2, st.trans a1, b1⟩
end
section
variable {p : Program} {l : Launch} {e : Env} {R : Room} {s : State} {m : MethodId} {args : Array Value} {below : List Frame} {meth : Method} {c : Code} {H : Heap} {locs : List Loc} {cells slots : Nat} {Q : State → Prop}
variable {mc ms : Nat} {free : Addr → Prop} {a : Array Value} {ls : Array Slot} {st0 rest : List Value}
variable {Qc : Array Value → State → Outcome → State → Prop} {XC : String → State → State → Prop}
def vy_MQ (below : List Frame) (Qc : Array Value → State → Outcome → State → Prop) (XC : String → State → State → Prop) (a : Array Value) (s : State) (mc ms : Nat) (free : Addr → Prop) : State → Prop := fun t =>
  ∃ o, t.status = .running ∧ Ended t below o ∧ vy_Q Qc XC mc ms free a s o t
theorem vy_ret {g : JFrame} (k : W p l e R s m args below meth c H locs cells slots (MQ below Qc args s 0 0 free) g) : W p l e R s m args below meth c H locs cells slots (vy_MQ below Qc XC args s mc ms free) g := by
  intro T hT X
  obtain ⟨t, a1, o, b1, b2, b3, b4⟩ := k T hT X
  exact ⟨t, a1, o, b1, b2, Or.inl ⟨b3, b4⟩⟩
theorem vy_wx {g : JFrame} (k : W p l e R s m args below meth c H locs cells slots (vx_MQ below (fun _ _ _ _ => False) XC args s mc ms free) g) : W p l e R s m args below meth c H locs cells slots (vy_MQ below Qc XC args s mc ms free) g := by
  intro T hT X
  obtain ⟨t, a1, o, b1, b2, b3⟩ := k T hT X
  rcases b3 with b3 | b3
  · exact b3.1.elim
  · exact ⟨t, a1, o, b1, b2, Or.inr b3⟩
theorem vy_out {pc : Nat} {P : String → Prop} {E : String} {ce : Cell} {q9 : Addr} {H1 : Heap} (hout : ∀ x ∈ c.exceptionTable.toList, False) (hlocks : meth.locks = false) (hP : P E) (hz : s.heap.size ≤ H1.size) (hk : ∀ q : Nat, q < s.heap.size → H1[q]? = s.heap[q]?) (hcell : H1[q9]? = some ce) (hv : ce.vm = .none) (hcl : s.vm.findClass E = some ce.cls) (hc : cells ≤ mc) (hs : slots ≤ ms) :
    vx_W p l e R s m args below meth c H1 [] cells slots (vy_MQ below Qc (xcs P) args s mc ms free) (F0 m pc ls rest) q9 := by
  have k : vx_W p l e R s m args below meth c H1 [] cells slots (vx_MQ below (fun _ _ _ _ => False) (xcs P) args s mc ms free) (F0 m pc ls rest) q9 :=
    vx_out (fun x hx => (hout x hx).elim) hlocks hcell hv hcl (fun t ht _ => ⟨hP, by rw [ht]; exact hz, fun q h => by rw [ht]; exact hk q h⟩) (fun z h => by cases h) hc hs
  intro T hT X
  obtain ⟨t, a1, o, b1, b2, b3⟩ := k T hT X
  rcases b3 with b3 | b3
  · exact b3.1.elim
  · exact ⟨t, a1, o, b1, b2, Or.inr b3⟩
end
section
variable {l : Launch}
theorem vy_ofW {y : MethodName} {ws ws' : List Cond} {rm : Room} {Pc : Array Value → State → Prop} {Qc : Array Value → State → Outcome → State → Prop} {XC : String → State → State → Prop} {mc ms : Nat} {free : Addr → Prop} {cc : ByteArray} {maxL : Nat} {ret : Option FieldType}
    (hy : plainName y.cls = true) (hw : ws = Cond.code y cc maxL ret :: ws')
    (body : ∀ p e s m args below meth c s₁, BodyLoose p l y (headSpec ws rm) cc maxL ret e s m args below meth c s₁ → c.maxLocals = maxL → (∀ x ∈ c.exceptionTable.toList, False) → Pc args s →
      W p l e (headSpec ws rm).room s m args below meth c s.heap [] 0 0 (vy_MQ below Qc XC args s mc ms free) (entryFrame m args maxL)) : vy_Met l y ws rm Pc Qc XC mc ms free := by
  refine MetFree.of_bodyS (code := cc) (maxLocals := maxL) (ret := ret) hy ?_ ?_
  · intro args s m h hn
    obtain ⟨meth, c, h1, h2, h3, h4, h5, h6, -, -⟩ := Cond.code_spec hn (atoms_spec (ws := ws) h _ (by rw [hw]; exact List.mem_cons_self))
    exact ⟨meth, c, h1, h2, h3, h4, h5, h6⟩
  · intro p e s m args below meth c s₁ B hml hP _
    have hh0 : s₁.heap = s.heap := by rw [B.state]; rfl
    have ht : ∀ x ∈ c.exceptionTable.toList, False := by
      obtain ⟨meth9, c9, h1, h2, -, -, -, -, h7, -⟩ := Cond.code_spec B.named (atoms_spec (ws := ws) B.pre _ (by rw [hw]; exact List.mem_cons_self))
      cases Option.some.inj (h1.symm.trans B.method)
      cases Option.some.inj (h2.symm.trans (Stand.of_body B).code)
      intro x hx
      rw [Array.isEmpty_iff.mp h7] at hx
      cases hx
    obtain ⟨t, a1, o, b1, b2, b3⟩ := body p e s m args below meth c s₁ B hml ht hP s₁ hh0 (Stand.of_body B)
    exact ⟨t, o, a1, b1, b2, b3⟩
theorem va_ofWH {l : Launch} {y : MethodName} {ws ws' : List Cond} {rm : Room} {Pc : Array Value → State → Prop} {Qc : Array Value → State → Outcome → State → Prop} {mc ms : Nat} {free : Addr → Prop} {cc : ByteArray} {maxL : Nat} {ret : Option FieldType} {hh : List (Nat × Nat × Nat × Nat)}
    (hy : plainName y.cls = true) (hw : ws = Cond.codeWith y cc maxL ret hh :: ws')
    (body : ∀ p e s m args below meth c s₁, BodyLoose p l y (headSpec ws rm) cc maxL ret e s m args below meth c s₁ → c.maxLocals = maxL → Pc args s →
      W p l e (headSpec ws rm).room s m args below meth c s.heap [] 0 0 (MQ below Qc args s mc ms free) (entryFrame m args maxL)) : Met l y ws rm Pc Qc mc ms free := by
  refine MetFree.of_bodyS (code := cc) (maxLocals := maxL) (ret := ret) hy ?_ ?_
  · intro args s m h hn
    obtain ⟨m9, meth, c, hn9, h1, h2, h3, h4, -, h5, h6, -⟩ := Cond.codeWith_spec (atoms_spec (ws := ws) h _ (by rw [hw]; exact List.mem_cons_self))
    cases hn.symm.trans hn9
    exact ⟨meth, c, h1, h2, h3, h4, h5, h6⟩
  · intro p e s m args below meth c s₁ B hml hP _
    have hh0 : s₁.heap = s.heap := by rw [B.state]; rfl
    obtain ⟨t, a1, o, b1, b2, b3⟩ := body p e s m args below meth c s₁ B hml hP s₁ hh0 (Stand.of_body B)
    exact ⟨t, o, a1, b1, b2, ⟨b3.1, b3.2⟩⟩
/-! ===== END ===== -/
/-! ===== BEGIN what the machine throws by itself, no traces kept ===== -/
end
end VYA
/-! loops: the room and the end as variables -/
theorem W_gen {p : Program} {l : Launch} {e : Env} {R0 : Room} {s : State} {m : MethodId} {args : Array Value} {below : List Frame} {meth : Method} {c : Code} {H : Heap} {locs : List Loc} {cells slots : Nat} {Q0 : State → Prop} {g : JFrame}
    (h : ∀ (R : Room) (Q : State → Prop), R = R0 → Q = Q0 → W p l e R s m args below meth c H locs cells slots Q g) : W p l e R0 s m args below meth c H locs cells slots Q0 g := h _ _ rfl rfl
end
section
/-! THE STATE AND WHAT EACH CALL DOES TO IT: pure words; class and reference are both tied to them.
Rows of a state S, as the class has its fields: 0 costume, 1 mask, 2 on stage, 3 wear, 4 kind, 5 player, 6 other, 7 waits, 8 state, 9 called cues, 10 cues (place 0), 11 called (place 0), 12 points, 13 guessed, 14 purse (place 0), 15 plays (place 0), 16 replayed. -/
abbrev ST : Type := Nat → Nat → Int32
noncomputable def cif {α : Sort _} (c : Prop) (a b : α) : α := @ite α c (Classical.propDecidable c) a b
theorem cif_t {α : Sort _} {c : Prop} {a b : α} (h : c) : cif c a b = a := by unfold cif; exact if_pos h
theorem cif_f {α : Sort _} {c : Prop} {a b : α} (h : ¬ c) : cif c a b = b := by unfold cif; exact if_neg h
theorem cif_s {α : Sort _} (c : Prop) (a : α) : cif c a a = a := by
  by_cases h : c
  · exact cif_t h
  · exact cif_f h
def row (S : ST) (r : Nat) (f : Nat → Int32) : ST := fun k => cond (Nat.beq k r) f (S k)
theorem row_same (S : ST) (r : Nat) (f : Nat → Int32) : row S r f r = f := by
  unfold row
  have h : Nat.beq r r = true := Nat.beq_refl r
  rw [h]
  rfl
theorem row_ne {S : ST} {r k : Nat} {f : Nat → Int32} (h : k ≠ r) : row S r f k = S k := by
  unfold row
  have h : Nat.beq k r = false := by
    cases hb : Nat.beq k r
    · rfl
    · exact absurd (Nat.eq_of_beq_eq_true hb) h
  rw [h]
  rfl
theorem row_self (S : ST) (r : Nat) : row S r (S r) = S := by
  funext k
  by_cases h : k = r
  · rw [h, row_same]
  · rw [row_ne h]
theorem row_self' {S : ST} {r : Nat} {f : Nat → Int32} (h : f = S r) : row S r f = S := by rw [h, row_self]
theorem row_twice (S : ST) (r : Nat) (f g : Nat → Int32) : row (row S r f) r g = row S r g := by
  funext k
  by_cases h : k = r
  · rw [h, row_same, row_same]
  · rw [row_ne h, row_ne h, row_ne h]
theorem row_comm (S : ST) {r r' : Nat} (f g : Nat → Int32) (h : r ≠ r') : row (row S r f) r' g = row (row S r' g) r f := by
  funext k
  by_cases h1 : k = r
  · subst h1
    rw [row_ne h, row_same, row_same]
  · by_cases h2 : k = r'
    · subst h2
      rw [row_same, row_ne h1, row_same]
    · rw [row_ne h2, row_ne h1, row_ne h1, row_ne h2]
def kf (v : Int32) : Nat → Int32 := fun _ => v
/-! first and last place -/
noncomputable def fstN (P : Nat → Prop) : Nat → Nat
  | 0 => 0
  | n + 1 => cif (fstN P n < n) (fstN P n) (cif (P n) n (n + 1))
theorem fstN_le (P : Nat → Prop) : ∀ n, fstN P n ≤ n
  | 0 => Nat.le_refl 0
  | n + 1 => by
    have ih := fstN_le P n
    unfold fstN
    by_cases h : fstN P n < n
    · rw [cif_t h]; omega
    · rw [cif_f h]
      by_cases h2 : P n
      · rw [cif_t h2]; omega
      · rw [cif_f h2]; omega
theorem fstN_no (P : Nat → Prop) : ∀ n k, k < fstN P n → ¬ P k
  | 0, k, h => absurd h (Nat.not_lt_zero k)
  | n + 1, k, h => by
    have ih := fstN_no P n
    have hl := fstN_le P n
    unfold fstN at h
    by_cases h1 : fstN P n < n
    · rw [cif_t h1] at h; exact ih k h
    · rw [cif_f h1] at h
      have e : fstN P n = n := by omega
      by_cases h2 : P n
      · rw [cif_t h2] at h; exact ih k (by omega)
      · rw [cif_f h2] at h
        by_cases hk : k = n
        · rw [hk]; exact h2
        · exact ih k (by omega)
theorem fstN_yes (P : Nat → Prop) : ∀ n, fstN P n < n → P (fstN P n)
  | 0, h => absurd h (Nat.not_lt_zero _)
  | n + 1, h => by
    have ih := fstN_yes P n
    have hl := fstN_le P n
    unfold fstN at h ⊢
    by_cases h1 : fstN P n < n
    · rw [cif_t h1]; exact ih h1
    · rw [cif_f h1] at h ⊢
      by_cases h2 : P n
      · rw [cif_t h2]; exact h2
      · rw [cif_f h2] at h; omega
theorem fstN_is {P : Nat → Prop} {n k : Nat} (hk : k < n) (hp : P k) (hn : ∀ j, j < k → ¬ P j) : fstN P n = k := by
  have hl := fstN_le P n
  rcases Nat.lt_trichotomy (fstN P n) k with h | h | h
  · exact absurd (fstN_yes P n (by omega)) (hn _ h)
  · exact h
  · exact absurd hp (fstN_no P n k h)
theorem fstN_none {P : Nat → Prop} {n : Nat} (hn : ∀ j, j < n → ¬ P j) : fstN P n = n := by
  have hl := fstN_le P n
  rcases Nat.lt_or_ge (fstN P n) n with h | h
  · exact absurd (fstN_yes P n h) (hn _ h)
  · omega
/-- the first of six places that holds v; -1 if none does -/
noncomputable def fI (f : Nat → Int32) (v : Int32) : Int32 := cif (fstN (fun k => f k = v) 6 < 6) (nI (fstN (fun k => f k = v) 6)) (-1)
theorem fI_is {f : Nat → Int32} {v : Int32} {k : Nat} (hk : k < 6) (hp : f k = v) (hn : ∀ j, j < k → ¬ f j = v) : fI f v = nI k := by
  have h : fstN (fun k => f k = v) 6 = k := fstN_is hk hp hn
  unfold fI
  rw [h, cif_t hk]
theorem fI_none {f : Nat → Int32} {v : Int32} (hn : ∀ j, j < 6 → ¬ f j = v) : fI f v = -1 := by
  have h : fstN (fun k => f k = v) 6 = 6 := fstN_none hn
  unfold fI
  rw [h, cif_f (Nat.lt_irrefl 6)]
theorem nI_ne_m1 {k : Nat} (h : k < 2 ^ 31) : nI k ≠ -1 := by
  intro e
  have h1 := congrArg Int32.toInt e
  rw [nI_toInt h, show (-1 : Int32).toInt = -1 from rfl] at h1
  omega
theorem fI_cases (f : Nat → Int32) (v : Int32) : (fI f v = -1 ∧ ∀ j, j < 6 → ¬ f j = v) ∨ ∃ k, k < 6 ∧ fI f v = nI k ∧ f k = v := by
  by_cases h : ∃ k, k < 6 ∧ f k = v
  · obtain ⟨k, hk, hp⟩ := h
    have hl : fstN (fun k => f k = v) 6 < 6 := by
      rcases Nat.lt_or_ge (fstN (fun k => f k = v) 6) 6 with q | q
      · exact q
      · exact absurd hp (fstN_no (fun k => f k = v) 6 k (by omega))
    refine Or.inr ⟨_, hl, ?_, fstN_yes (fun k => f k = v) 6 hl⟩
    unfold fI
    rw [cif_t hl]
  · refine Or.inl ⟨fI_none (fun j hj e => h ⟨j, hj, e⟩), fun j hj e => h ⟨j, hj, e⟩⟩
theorem fI_m1 {f : Nat → Int32} {v : Int32} (h : fI f v = -1) : ∀ j, j < 6 → ¬ f j = v := by
  rcases fI_cases f v with ⟨-, q⟩ | ⟨k, hk, q, -⟩
  · exact q
  · rw [q] at h
    exact absurd h (nI_ne_m1 (by omega))
/-- the last of n places that holds v; -1 if none does -/
noncomputable def lI (f : Nat → Int32) (v : Int32) : Nat → Int32
  | 0 => -1
  | n + 1 => cif (f n = v) (nI n) (lI f v n)
theorem lI_none {f : Nat → Int32} {v : Int32} : ∀ {n : Nat}, (∀ j, j < n → ¬ f j = v) → lI f v n = -1
  | 0, _ => rfl
  | n + 1, h => by
    unfold lI
    rw [cif_f (h n (Nat.lt_succ_self n))]
    exact lI_none (fun j hj => h j (Nat.lt_succ_of_lt hj))
theorem lI_is {f : Nat → Int32} {v : Int32} {k : Nat} (hp : f k = v) : ∀ {n : Nat}, k < n → (∀ j, k < j → j < n → ¬ f j = v) → lI f v n = nI k
  | 0, h, _ => absurd h (Nat.not_lt_zero k)
  | n + 1, h, hn => by
    unfold lI
    by_cases e : k = n
    · rw [← e, cif_t hp]
    · rw [cif_f (hn n (by omega) (Nat.lt_succ_self n))]
      exact lI_is hp (by omega) (fun j h1 h2 => hn j h1 (by omega))
theorem lI_fI {f : Nat → Int32} {v : Int32} (hu : ∀ j k, j < 6 → k < 6 → j ≠ k → f j = f k → f j = -1) (hv : v ≠ -1) : lI f v 6 = fI f v := by
  rcases fI_cases f v with ⟨e, h⟩ | ⟨k, hk, e, hp⟩
  · rw [e, lI_none h]
  · rw [e]
    refine lI_is hp hk (fun j h1 h2 hj => ?_)
    exact hv (hj.symm.trans (hu j k h2 hk (by omega) (hj.trans hp.symm)))
/-- how many of n places hold v -/
noncomputable def cN (f : Nat → Int32) (v : Int32) : Nat → Nat
  | 0 => 0
  | n + 1 => cif (f n = v) (cN f v n + 1) (cN f v n)
theorem cN_le (f : Nat → Int32) (v : Int32) : ∀ n, cN f v n ≤ n
  | 0 => Nat.le_refl 0
  | n + 1 => by
    have ih := cN_le f v n
    unfold cN
    by_cases h : f n = v
    · rw [cif_t h]; omega
    · rw [cif_f h]; omega
theorem cN_cong {f g : Nat → Int32} {v : Int32} : ∀ {n : Nat}, (∀ k, k < n → (f k = v ↔ g k = v)) → cN f v n = cN g v n
  | 0, _ => rfl
  | n + 1, h => by
    have ih := cN_cong (f := f) (g := g) (v := v) (n := n) (fun k hk => h k (Nat.lt_succ_of_lt hk))
    have hn := h n (Nat.lt_succ_self n)
    unfold cN
    by_cases q : f n = v
    · rw [cif_t q, cif_t (hn.mp q), ih]
    · rw [cif_f q, cif_f (fun z => q (hn.mpr z)), ih]
theorem cN_put {f : Nat → Int32} {v : Int32} {k : Nat} (hk : f k ≠ v) : ∀ {n : Nat}, k < n → cN (upd f k v) v n = cN f v n + 1
  | 0, h => absurd h (Nat.not_lt_zero k)
  | n + 1, h => by
    unfold cN
    by_cases e : k = n
    · subst e
      rw [cif_t (pk_us), cif_f hk]
      rw [cN_cong (g := f) (fun j hj => by rw [pk_un (by omega)])]
    · have ih := cN_put (f := f) (v := v) hk (n := n) (by omega)
      rw [pk_un (Ne.symm e)]
      by_cases q : f n = v
      · rw [cif_t q, cif_t q, ih]
      · rw [cif_f q, cif_f q, ih]
theorem cN_zero {f : Nat → Int32} {v : Int32} : ∀ {n : Nat}, (∀ k, k < n → f k ≠ v) → cN f v n = 0
  | 0, _ => rfl
  | n + 1, h => by
    unfold cN
    rw [cif_f (h n (Nat.lt_succ_self n))]
    exact cN_zero (fun k hk => h k (Nat.lt_succ_of_lt hk))
theorem cN_pos {f : Nat → Int32} {v : Int32} : ∀ {n : Nat} {k : Nat}, k < n → f k = v → 0 < cN f v n
  | 0, k, h, _ => absurd h (Nat.not_lt_zero k)
  | n + 1, k, h, e => by
    unfold cN
    by_cases q : f n = v
    · rw [cif_t q]; omega
    · rw [cif_f q]
      refine cN_pos (n := n) (k := k) ?_ e
      by_cases hk : k = n
      · rw [hk] at e; exact absurd e q
      · omega
theorem cN_add {f : Nat → Int32} {v w : Int32} (hvw : v ≠ w) : ∀ n, cN f v n + cN f w n ≤ n
  | 0 => Nat.le_refl 0
  | n + 1 => by
    have ih := cN_add (f := f) hvw n
    unfold cN
    by_cases q : f n = v
    · rw [cif_t q, cif_f (fun z => hvw (q.symm.trans z))]; omega
    · rw [cif_f q]
      by_cases q2 : f n = w
      · rw [cif_t q2]; omega
      · rw [cif_f q2]; omega
/-! cues -/
/-- the masks after the cue k is done -/
noncomputable def mv (S : ST) (k : Nat) (f : Nat → Int32) : Nat → Int32 :=
  cif (S 4 k = 2) (upd f (S 5 k).toNatClampNeg (S 6 k)) (cif (S 4 k = 3) (upd f (S 5 k).toNatClampNeg (-1))
    (cif (S 4 k = 4) (upd (upd f (S 5 k).toNatClampNeg (f (S 6 k).toNatClampNeg)) (S 6 k).toNatClampNeg (f (S 5 k).toNatClampNeg)) f))
/-- whether the cue k can be done -/
noncomputable def done (S : ST) (k : Nat) : Prop :=
  cif (S 4 k = 0) (S 2 (S 5 k).toNatClampNeg = 0 ∧ S 0 (S 5 k).toNatClampNeg ≠ -1)
    (cif (S 4 k = 1) (S 2 (S 5 k).toNatClampNeg ≠ 0)
      (cif (S 4 k = 2) (S 1 (S 5 k).toNatClampNeg = -1 ∧ fI (S 1) (S 6 k) = -1)
        (cif (S 4 k = 3) (S 1 (S 5 k).toNatClampNeg ≠ -1)
          (S 2 (S 5 k).toNatClampNeg ≠ 0 ∧ S 2 (S 6 k).toNatClampNeg ≠ 0 ∧ (S 1 (S 5 k).toNatClampNeg ≠ -1 ∨ S 1 (S 6 k).toNatClampNeg ≠ -1)))))
/-- whether the cue k can be called -/
noncomputable def cal (S : ST) (k : Nat) : Prop := S 8 k = 0 ∧ (S 7 k = -1 ∨ S 8 (S 7 k).toNatClampNeg = 1) ∧ done S k
/-- the player a leaves the stage -/
noncomputable def leave (S : ST) (a : Nat) : ST :=
  row (row (row S 2 (upd (S 2) a 0)) 3 (upd (S 3) (S 0 a).toNatClampNeg (S 3 (S 0 a).toNatClampNeg + 1))) 0
    (cif (3 ≤ S 3 (S 0 a).toNatClampNeg + 1) (upd (S 0) a (-1)) (S 0))
noncomputable def act (S : ST) (k : Nat) : ST :=
  cif (S 4 k = 0) (row S 2 (upd (S 2) (S 5 k).toNatClampNeg 1)) (cif (S 4 k = 1) (leave S (S 5 k).toNatClampNeg) (row S 1 (mv S k (S 1))))
/-- the cue q is called -/
noncomputable def callQ (S : ST) (q : Int32) : ST :=
  row (row (row (act S q.toNatClampNeg) 8 (upd (S 8) q.toNatClampNeg 1)) 9 (upd (S 9) (S 11 0).toNatClampNeg q)) 11 (kf (S 11 0 + 1))
abbrev many (S : ST) : Nat := (S 10 0).toNatClampNeg
noncomputable def runN : Nat → ST → ST
  | 0, S => S
  | n + 1, S => cif (fstN (cal S) (many S) < many S) (runN n (callQ S (nI (fstN (cal S) (many S))))) S
/-- from place j on, d places: what waits for missed cues is missed; the states then, and how many -/
noncomputable def ms (S : ST) : (Nat → Int32) → Int32 → Nat → Nat → (Nat → Int32) × Int32
  | f, n, _, 0 => (f, n)
  | f, n, j, d + 1 => cif (f j = 0 ∧ S 7 j ≠ -1 ∧ f (S 7 j).toNatClampNeg = 2) (ms S (upd f j 2) (n + 1) (j + 1) d) (ms S f n (j + 1) d)
/-- the masks by the first n called cues -/
noncomputable def rpN (S : ST) : Nat → Nat → Int32
  | 0 => fa_fill (fun _ => -1) (S 16) 6
  | n + 1 => mv S (S 9 n).toNatClampNeg (rpN S n)
/-! what each call answers: (which exception of its clause, 0 for none; the answer; the state then) -/
abbrev KR : Type := Int32 × Int32 × ST
noncomputable def k_dress (S : ST) (p c : Int32) : KR :=
  cif (vp_in p 6 ∧ vp_in c 8) (cif (-1 ≤ p - c + 1 ∧ p - c + 1 ≤ 1)
    (cif (S 2 p.toNatClampNeg = 0 ∧ (fI (S 0) c = -1 ∨ fI (S 0) c = p) ∧ S 3 c.toNatClampNeg < 3) (0, S 0 p.toNatClampNeg, row S 0 (upd (S 0) p.toNatClampNeg c)) (3, 0, S)) (2, 0, S)) (1, 0, S)
noncomputable def k_repair (S : ST) (c : Int32) : KR :=
  cif (vp_in c 8) (cif (fI (S 0) c = -1 ∧ S 3 c.toNatClampNeg ≤ S 14 0)
    (0, S 14 0 - S 3 c.toNatClampNeg, row (row S 14 (kf (S 14 0 - S 3 c.toNatClampNeg))) 3 (upd (S 3) c.toNatClampNeg 0)) (2, 0, S)) (1, 0, S)
noncomputable def k_costumeOf (S : ST) (p : Int32) : KR := cif (vp_in p 6) (0, S 0 p.toNatClampNeg, S) (1, 0, S)
noncomputable def k_wear (S : ST) (c : Int32) : KR := cif (vp_in c 8) (0, S 3 c.toNatClampNeg, S) (1, 0, S)
noncomputable def k_addCue (S : ST) (k p o w : Int32) : KR :=
  cif (¬ k < 0 ∧ k ≤ 4) (cif (vp_in p 6 ∧ (k = 2 ∨ k = 4 → vp_in o 6) ∧ (w = -1 ∨ vp_in w (many S)))
    (cif (S 10 0 < 24 ∧ ¬ (k = 4 ∧ p = o) ∧ (w = -1 ∨ S 8 w.toNatClampNeg ≠ 2))
      (0, S 10 0, row (row (row (row (row (row S 4 (upd (S 4) (many S) k)) 5 (upd (S 5) (many S) p)) 6 (upd (S 6) (many S) o)) 7 (upd (S 7) (many S) w)) 8 (upd (S 8) (many S) 0)) 10 (kf (S 10 0 + 1)))
      (3, 0, S)) (2, 0, S)) (1, 0, S)
noncomputable def k_canCall (S : ST) (q : Int32) : KR := cif (vp_in q (many S)) (0, cif (cal S q.toNatClampNeg) 1 0, S) (1, 0, S)
noncomputable def k_call (S : ST) (q : Int32) : KR := cif (vp_in q (many S)) (cif (cal S q.toNatClampNeg) (0, S 11 0 + 1, callQ S q) (2, 0, S)) (1, 0, S)
noncomputable def k_miss (S : ST) (q : Int32) : KR :=
  cif (vp_in q (many S)) (cif (S 8 q.toNatClampNeg = 0)
    (0, (ms S (upd (S 8) q.toNatClampNeg 2) 1 (q.toNatClampNeg + 1) (many S - (q.toNatClampNeg + 1))).2, row S 8 (ms S (upd (S 8) q.toNatClampNeg 2) 1 (q.toNatClampNeg + 1) (many S - (q.toNatClampNeg + 1))).1) (2, 0, S)) (1, 0, S)
noncomputable def k_stateOf (S : ST) (q : Int32) : KR := cif (vp_in q (many S)) (0, S 8 q.toNatClampNeg, S) (1, 0, S)
noncomputable def k_maskOf (S : ST) (p : Int32) : KR := cif (vp_in p 6) (0, S 1 p.toNatClampNeg, S) (1, 0, S)
noncomputable def k_maskByCues (S : ST) (p : Int32) : KR := cif (vp_in p 6) (0, rpN S (S 11 0).toNatClampNeg p.toNatClampNeg, row S 16 (rpN S (S 11 0).toNatClampNeg)) (1, 0, S)
noncomputable def k_wearerOf (S : ST) (m : Int32) : KR := cif (vp_in m 6) (0, fI (S 1) m, S) (1, 0, S)
noncomputable def k_isOn (S : ST) (p : Int32) : KR := cif (vp_in p 6) (0, S 2 p.toNatClampNeg, S) (1, 0, S)
noncomputable def k_guess (S : ST) (g p m : Int32) : KR :=
  cif (vp_in g 3 ∧ vp_in p 6 ∧ vp_in m 6) (cif (S 2 p.toNatClampNeg ≠ 0 ∧ S 1 p.toNatClampNeg ≠ -1 ∧ S 13 (g * 6 + p).toNatClampNeg = 0)
    (0, cif (S 1 p.toNatClampNeg = m) 1 0, row (row S 13 (upd (S 13) (g * 6 + p).toNatClampNeg 1)) 12 (upd (S 12) g.toNatClampNeg (S 12 g.toNatClampNeg + cif (S 1 p.toNatClampNeg = m) 3 (-1)))) (2, 0, S)) (1, 0, S)
noncomputable def k_points (S : ST) (g : Int32) : KR := cif (vp_in g 3) (0, S 12 g.toNatClampNeg, S) (1, 0, S)
/-- the purse behind a play -/
noncomputable def purseE (S : ST) : Int32 := cif (S 14 0 + S 11 0 < nI (cN (S 8) 2 (many S))) 0 (S 14 0 + S 11 0 - nI (cN (S 8) 2 (many S)))
noncomputable def endS (S : ST) : ST :=
  row (row (row (row (row (row (row S 14 (kf (purseE S))) 15 (kf (S 15 0 + 1))) 1 (fa_fill (fun _ => -1) (S 1) 6)) 2 (fa_fill (fun _ => 0) (S 2) 6)) 13 (fa_fill (fun _ => 0) (S 13) 18)) 10 (kf 0)) 11 (kf 0)
noncomputable def k_endPlay (S : ST) : KR := cif (∀ k, k < many S → S 8 k ≠ 0) (0, purseE S, endS S) (1, 0, S)
noncomputable def k_run (S : ST) : KR := (0, runN 24 S 11 0 - S 11 0, runN 24 S)
/-- a new object -/
def S00 : ST := row (row (row (fun _ _ => 0) 0 (fa_fill (fun _ => -1) (fun _ => 0) 6)) 1 (fa_fill (fun _ => -1) (fun _ => 0) 6)) 14 (kf 10)
end
section
/-! THE WORLDS: the class's object x with its arrays a r (r: the row of the state), the reference's object y with its arrays b r -/
abbrev wXr (cI cZ : ClassId) (x : Nat) (a : Nat → Nat) (f0 f1 f2 f3 f4 f5 f6 f7 f8 f9 : Nat → Int32) (n10 n11 : Int32) (f12 f13 : Nat → Int32) (n14 n15 : Int32) (f16 : Nat → Int32) : va_W :=
  [(x, .inr (0, [.ref (a 0), .ref (a 1), .ref (a 2), .ref (a 3), .ref (a 4), .ref (a 5), .ref (a 6), .ref (a 7), .ref (a 8), .ref (a 9), .int n10, .int n11, .ref (a 12), .ref (a 13), .int n14, .int n15, .ref (a 16)])), (a 0, .inl (cI, 6, .inl f0)), (a 1, .inl (cI, 6, .inl f1)), (a 2, .inl (cZ, 6, .inl f2)), (a 3, .inl (cI, 8, .inl f3)), (a 4, .inl (cI, 24, .inl f4)), (a 5, .inl (cI, 24, .inl f5)), (a 6, .inl (cI, 24, .inl f6)), (a 7, .inl (cI, 24, .inl f7)), (a 8, .inl (cI, 24, .inl f8)), (a 9, .inl (cI, 24, .inl f9)), (a 12, .inl (cI, 3, .inl f12)), (a 13, .inl (cZ, 18, .inl f13)), (a 16, .inl (cI, 6, .inl f16))]
abbrev wX (cI cZ : ClassId) (x : Nat) (a : Nat → Nat) (S : ST) : va_W := wXr cI cZ x a (S 0) (S 1) (S 2) (S 3) (S 4) (S 5) (S 6) (S 7) (S 8) (S 9) (S 10 0) (S 11 0) (S 12) (S 13) (S 14 0) (S 15 0) (S 16)
abbrev wMr (cI : ClassId) (y : Nat) (b : Nat → Nat) (f0 f1 f2 f3 f4 f5 f6 f7 f8 f9 : Nat → Int32) (n10 n11 : Int32) (f12 f13 : Nat → Int32) (n14 n15 : Int32) (f16 : Nat → Int32) (t : Int32) : va_W :=
  [(y, .inr (1, [.ref (b 1), .ref (b 2), .ref (b 0), .ref (b 3), .ref (b 4), .ref (b 5), .ref (b 6), .ref (b 7), .ref (b 8), .ref (b 9), .int n10, .int n11, .ref (b 13), .ref (b 12), .ref (b 16), .int n14, .int n15, .int t])), (b 1, .inl (cI, 6, .inl f1)), (b 2, .inl (cI, 6, .inl f2)), (b 0, .inl (cI, 6, .inl f0)), (b 3, .inl (cI, 8, .inl f3)), (b 4, .inl (cI, 24, .inl f4)), (b 5, .inl (cI, 24, .inl f5)), (b 6, .inl (cI, 24, .inl f6)), (b 7, .inl (cI, 24, .inl f7)), (b 8, .inl (cI, 24, .inl f8)), (b 9, .inl (cI, 24, .inl f9)), (b 13, .inl (cI, 18, .inl f13)), (b 12, .inl (cI, 3, .inl f12)), (b 16, .inl (cI, 6, .inl f16))]
abbrev wM (cI : ClassId) (y : Nat) (b : Nat → Nat) (S : ST) (t : Int32) : va_W := wMr cI y b (S 0) (S 1) (S 2) (S 3) (S 4) (S 5) (S 6) (S 7) (S 8) (S 9) (S 10 0) (S 11 0) (S 12) (S 13) (S 14 0) (S 15 0) (S 16) t
abbrev tyX (cI cZ : ClassId) : List (ClassId × FieldType) := [(cI, .int), (cZ, .boolean)]
abbrev tyM (cI : ClassId) : List (ClassId × FieldType) := [(cI, .int)]
/-! what a throw of the class needs beside the tables' good words -/
abbrev xNm : List String := ["java/lang/RuntimeException", "java/lang/Exception"]
abbrev xIO : String := "java/lang/IndexOutOfBoundsException"
abbrev xIA : String := "java/lang/IllegalArgumentException"
abbrev xIS : String := "java/lang/IllegalStateException"
def xB : List Cond := [.declares (Bundle.initS "java/lang/RuntimeException"), .declares (Bundle.initS "java/lang/Exception"), .declares (Bundle.initS Bundle.tN), .castable xIO xIO, .castable xIA xIA, .castable xIS xIS]
def xStr : List (Nat × String) := [(107, "the play has no room for another cue"), (109, "a player cannot swap with itself"), (111, "the cue for which to wait was missed"), (117, "the cue cannot be called"), (129, "the cue is not waiting"), (147, "the player is not on stage with a mask"), (149, "the guesser has guessed this part in this play"), (154, "some cue is waiting"), (176, "no such player"), (179, "no such mask"), (181, "no such costume"), (183, "no such guesser"), (185, "no such cue"), (73, "the costume does not fit"), (80, "the player is on stage"), (87, "the costume is on another player"), (89, "the costume is torn"), (95, "no such kind of cue")]
theorem xB_tabs : ∀ w ∈ xB, w.onTables = true := by
  intro w hw
  simp only [xB, List.mem_cons, List.not_mem_nil, or_false] at hw
  rcases hw with rfl | rfl | rfl | rfl | rfl | rfl <;> rfl
def xG (A : Nat → Prop) (U : State) (H : Heap) : Prop :=
  vx_Zq Bundle.tN "UNASSIGNED_STACK" Bundle.steD A U H ∧ vx_Zq Bundle.tN "SUPPRESSED_SENTINEL" Bundle.listD A U H ∧ (∀ w ∈ xB, va_Nw w U) ∧ ∀ q ∈ xStr, ∃ sa, vk_R RX0 q.1 q.2 sa U
theorem xG.call {A : Nat → Prop} {s U : State} {H : Heap} (h : xG A s H) (hA : ∀ q, H.size ≤ q → A q) (hU : U.heap = H) (hW : s.WarmedH U.vm) : xG (fun q => U.heap.size ≤ q) U U.heap := by
  subst hU
  refine ⟨(h.1.narrow hA).moved hW.alike, (h.2.1.narrow hA).moved hW.alike, fun w hw => ?_, fun q hq => ?_⟩
  · have h1 := h.2.2.1 w hw
    simp only [xB, List.mem_cons, List.not_mem_nil, or_false] at hw
    rcases hw with rfl | rfl | rfl | rfl | rfl | rfl
    · exact va_Nw.warmD hW h1
    · exact va_Nw.warmD hW h1
    · exact va_Nw.warmD hW h1
    · exact va_tabs rfl (rfl : (s.setVm U.vm).vm = U.vm) (by rw [Cond.castable_setVm hW.alike]; exact h1)
    · exact va_tabs rfl (rfl : (s.setVm U.vm).vm = U.vm) (by rw [Cond.castable_setVm hW.alike]; exact h1)
    · exact va_tabs rfl (rfl : (s.setVm U.vm).vm = U.vm) (by rw [Cond.castable_setVm hW.alike]; exact h1)
  · obtain ⟨sa, h1⟩ := h.2.2.2 q hq
    exact ⟨sa, h1.warm hW⟩
theorem xG.blind {A : Nat → Prop} {U : State} {H : Heap} {g : JFrame} {mk : MethodId} {a : Array Value} (h : xG A U H) : xG A (U.calling g mk a) H :=
  ⟨vx_Zq.moved (u := U) (U := U.calling g mk a) (Vm.Alike.refl U.vm) h.1, vx_Zq.moved (u := U) (U := U.calling g mk a) (Vm.Alike.refl U.vm) h.2.1, fun w hw => va_Nw.same (u := U) (U := U.calling g mk a) (xB_tabs w hw) rfl (h.2.2.1 w hw),
   fun q hq => by
    obtain ⟨sa, h1⟩ := h.2.2.2 q hq
    exact ⟨sa, vk_R.same (u := U) (U := U.calling g mk a) rfl h1⟩⟩
theorem xG.kept {A : Nat → Prop} {s : State} {H H1 : Heap} (h : xG A s H) (hq : ∀ a : Nat, a < H.size → ¬ A a → H1[a]? = H[a]?) : xG A s H1 := ⟨h.1.kept hq, h.2.1.kept hq, h.2.2.1, h.2.2.2⟩
/-! contracts' starts and ends -/
def pN : State → Prop := fun _ => True
theorem pN_S {s : State} {H : Heap} {As : List Value} : PreS s H (va_Pc As pN) As := ⟨fun _ _ _ _ h => ⟨h.1, trivial⟩, fun _ _ _ => ⟨rfl, trivial⟩⟩
def pR (D : va_G) (tys : List (ClassId × FieldType)) (ws : va_W) : State → Prop := fun U => va_P D vwCl ws U.heap ∧ va_K D vwCl tys U
theorem pR_bl {av : List Value} {D : va_G} {tys : List (ClassId × FieldType)} {ws : va_W} : FrameBlind (va_Pc av (pR D tys ws)) := fun a U g mk h => ⟨h.1, h.2.1, va_K.moved (u := U) (U := U.calling g mk a) (Vm.Alike.refl U.vm) h.2.2⟩
theorem pR_S {s : State} {H : Heap} {D : va_G} {tys : List (ClassId × FieldType)} {ws : va_W} {As : List Value} (hP : va_P D vwCl ws H) (hK : va_K D vwCl tys s) : PreS s H (va_Pc As (pR D tys ws)) As :=
  ⟨pR_bl, fun U hU hW => ⟨rfl, by rw [hU]; exact hP, va_K.moved hW.alike hK⟩⟩
theorem pR_V {s : State} {H : Heap} {D : va_G} {tys : List (ClassId × FieldType)} {ws : va_W} {As : List Value} {b ci : Nat} {fs : List Value} {q : vw_C} (hP : va_P D vwCl ws H) (hK : va_K D vwCl tys s) (hc : vwCl[ci]? = some q) (he : ws[0]? = some (b, .inr (ci, fs))) : PreV s H q.1 b (va_Pc (.ref b :: As) (pR D tys ws)) As :=
  ⟨pR_bl, va_recv hK hP hc he, fun U hU hW => ⟨rfl, by rw [hU]; exact hP, va_K.moved hW.alike hK⟩⟩
def pW (D : va_G) (tys : List (ClassId × FieldType)) (ws : va_W) (sz : Nat) : State → Prop := fun U => U.heap.size = sz ∧ va_P D vwCl ws U.heap ∧ va_K D vwCl tys U ∧ va_D (fun _ => True) ws
theorem pW_bl {av : List Value} {D : va_G} {tys : List (ClassId × FieldType)} {ws : va_W} {sz : Nat} : FrameBlind (va_Pc av (pW D tys ws sz)) := fun a U g mk h => ⟨h.1, h.2.1, h.2.2.1, va_K.moved (u := U) (U := U.calling g mk a) (Vm.Alike.refl U.vm) h.2.2.2.1, h.2.2.2.2⟩
theorem pW_S {s : State} {H : Heap} {D : va_G} {tys : List (ClassId × FieldType)} {ws : va_W} {As : List Value} {A : Nat → Prop} (hP : va_P D vwCl ws H) (hK : va_K D vwCl tys s) (hD : va_D A ws) : PreS s H (va_Pc As (pW D tys ws H.size)) As :=
  ⟨pW_bl, fun U hU hW => ⟨rfl, by rw [hU], by rw [hU]; exact hP, va_K.moved hW.alike hK, hD.weaken (fun _ _ _ _ => trivial)⟩⟩
theorem pW_V {s : State} {H : Heap} {D : va_G} {tys : List (ClassId × FieldType)} {ws : va_W} {As : List Value} {A : Nat → Prop} {b ci : Nat} {fs : List Value} {q : vw_C} (hP : va_P D vwCl ws H) (hK : va_K D vwCl tys s) (hD : va_D A ws) (hc : vwCl[ci]? = some q) (he : ws[0]? = some (b, .inr (ci, fs))) : PreV s H q.1 b (va_Pc (.ref b :: As) (pW D tys ws H.size)) As :=
  ⟨pW_bl, va_recv hK hP hc he, fun U hU hW => ⟨rfl, by rw [hU], by rw [hU]; exact hP, va_K.moved hW.alike hK, hD.weaken (fun _ _ _ _ => trivial)⟩⟩
def atW (D : va_G) (ws : va_W) (A : Nat → Prop) (t : State) : Prop := va_P D vwCl ws t.heap ∧ va_D A ws
def pG : State → Prop := fun U => xG (fun q => U.heap.size ≤ q) U U.heap
theorem pG_bl {B : State → Prop} {av : List Value} (h : FrameBlind (va_Pc av B)) : FrameBlind (va_Pc av (fun U => B U ∧ pG U)) := fun a U g mk q => ⟨q.1, (h a U g mk ⟨q.1, q.2.1⟩).2, xG.blind q.2.2⟩
theorem pT_S {B : State → Prop} {s : State} {H : Heap} {As : List Value} {A : Nat → Prop} (h : PreS s H (va_Pc As B) As) (hG : xG A s H) (hA : ∀ q, H.size ≤ q → A q) : PreS s H (va_Pc As (fun U => B U ∧ pG U)) As :=
  ⟨pG_bl h.1, fun U hU hW => ⟨rfl, (h.2 U hU hW).2, hG.call hA hU hW⟩⟩
theorem pT_V {B : State → Prop} {s : State} {H : Heap} {C : String} {b : Addr} {As : List Value} {A : Nat → Prop} (h : PreV s H C b (va_Pc (.ref b :: As) B) As) (hG : xG A s H) (hA : ∀ q, H.size ≤ q → A q) : PreV s H C b (va_Pc (.ref b :: As) (fun U => B U ∧ pG U)) As :=
  ⟨pG_bl h.1, h.2.1, fun U hU hW => ⟨rfl, (h.2.2 U hU hW).2, hG.call hA hU hW⟩⟩
theorem wfree {A0 : Nat → Prop} {ws : va_W} {H0 H : Heap} {locs : List Loc} (hD : va_D A0 ws) (hS : va_S A0 H0 H locs) (hA : ∀ q, H0.size ≤ q → A0 q) : ∀ q, va_A ws H.size q → A0 q := fun q h =>
  h.elim (fun ⟨k, e, hk⟩ => hD.2 k (q, e) hk) (fun h => hA q (Nat.le_trans hS.1 h))
theorem atW_P {D : va_G} {ws : va_W} {A : Nat → Prop} {t : State} {H1 : Heap} (h : atW D ws A t) (ht : t.heap = H1) : va_P D vwCl ws H1 := by rw [← ht]; exact h.1
theorem atW_D {D : va_G} {ws : va_W} {A A0 : Nat → Prop} {t : State} (h : atW D ws A t) (hF : ∀ q, A q → A0 q) : va_D A0 ws := h.2.weaken (fun _ q _ h => hF q.1 h)
/-! throws of the class -/
theorem xIO_b : ∀ w ∈ (vx_atS RX0 178 xIO xNm).filter (fun w => !goodWord w), w ∈ xB := by decide +kernel
theorem xIA_b : ∀ w ∈ (vx_atS RX0 75 xIA xNm).filter (fun w => !goodWord w), w ∈ xB := by decide +kernel
theorem xIS_b : ∀ w ∈ (vx_atS RX0 82 xIS xNm).filter (fun w => !goodWord w), w ∈ xB := by decide +kernel
theorem xIO_g : ∀ w ∈ Cond.classLink RX0 174 xIO :: Cond.initialized xIO :: vx_atS RX0 178 xIO xNm, vx_ot w = true := by decide +kernel
theorem xIA_g : ∀ w ∈ Cond.classLink RX0 71 xIA :: Cond.initialized xIA :: vx_atS RX0 75 xIA xNm, vx_ot w = true := by decide +kernel
theorem xIS_g : ∀ w ∈ Cond.classLink RX0 78 xIS :: Cond.initialized xIS :: vx_atS RX0 82 xIS xNm, vx_ot w = true := by decide +kernel
theorem x_throwS {p : Program} {l : Launch} {e : Env} {R : Room} {s : State} {m : MethodId} {args : Array Value} {below : List Frame} {meth : Method} {c : Code} {ls : Array Slot} {rest : List Value} {Qc : Array Value → State → Outcome → State → Prop} {P : String → Prop} {free : Addr → Prop} {cc : ByteArray} {pc : Nat}
    (hx : p.tables.exec = Jvm.exec) (hb : c.code = cc) (hl : l.stackTraces = false) (hown : s.vm.findClass RX0 = some m.cls) {cls text : String} {ik is ic : Nat} (hcls : Bundle.fit cls = true) (hk : (Cond.classLink RX0 ik cls).before args s = true) (hini : (Cond.initialized cls).before args s = true)
    (hg : ∀ w ∈ (vx_atS RX0 ic cls xNm).filter goodWord, w.before args s = true) (hb2 : ∀ w ∈ (vx_atS RX0 ic cls xNm).filter (fun w => !goodWord w), w ∈ xB) (hgood : ∀ w ∈ Cond.classLink RX0 ik cls :: Cond.initialized cls :: vx_atS RX0 ic cls xNm, vx_ot w = true)
    (hG : xG (fun q => s.heap.size ≤ q) s s.heap) (hst : (is, text) ∈ xStr) (hsize : ls.size = c.maxLocals)
    (d0 : decode cc pc = .ok (.new ik, 3)) (d3 : decode cc (pc + 3) = .ok (.dup, 1)) (d4 : decode cc (pc + 4) = .ok (.ldc is, 2)) (d6 : decode cc (pc + 6) = .ok (.invokespecial ic, 3)) (d9 : decode cc (pc + 9) = .ok (.athrow, 1))
    (hout : ∀ x ∈ c.exceptionTable.toList, False) (hR : 5 < R.frames ∧ (rest.map fun v => v.category).sum + 82 ≤ R.locals ∧ 1 ≤ R.cells ∧ 6 ≤ R.slots) (hlocks : meth.locks = false) (hP : P cls) :
    W p l e R s m args below meth c s.heap [] 0 0 (vy_MQ below Qc (xcs P) args s 1 6 free) (F0 m pc ls rest) := by
  obtain ⟨sa, hstr⟩ := hG.2.2.2 _ hst
  refine vy_wx (vx_throwS (names := xNm) (A := fun q => s.heap.size ≤ q) hx hb hl hown hcls (by decide) hk hini hstr
    (vx_hat hg hb2 (fun w hw => va_Nw.use (xB_tabs w hw) (hG.2.2.1 w hw))) hgood hG.1 hG.2.1 va_S.rf hsize d0 d3 d4 d6 d9 (fun x hx => (hout x hx).elim) hR.1 hR.2.1 (by have := hR.2.2.1; omega) (by have := hR.2.2.2; omega) hlocks
    (fun t _ h1 h2 => ⟨hP, h1, h2⟩) (fun z h => by cases h) (Nat.le_refl _) (Nat.le_refl _))
/-! answers that are yes or no -/
theorem cif_b1 {r : Int32} {P : Prop} (h : r = cif P 1 0) (h2 : ¬ r = 0) : P := by
  by_cases q : P
  · exact q
  · rw [cif_f q] at h
    exact absurd h h2
theorem cif_b0 {r : Int32} {P : Prop} (h : r = cif P 1 0) (h2 : r = 0) : ¬ P := fun q => by
  rw [cif_t q, h2] at h
  exact absurd h (by decide)
theorem cif_nar {P : Prop} : narrow .boolean (.int (cif P 1 0)) = .int (cif P 1 0) := by
  by_cases q : P
  · rw [cif_t q]; rfl
  · rw [cif_f q]; rfl
theorem cif_iff {P Q : Prop} {α : Sort _} {a b : α} (h : P ↔ Q) : cif P a b = cif Q a b := by rw [propext h]
end
section
/-! plain facts that the walks use -/
theorem vin_iff {x c : Int32} {n : Nat} (hc : c.toInt = n) : vp_in x n ↔ ¬ x < 0 ∧ x < c := by
  rw [vp_in_iff, fa_lt, fa_lt, hc, show (0 : Int32).toInt = 0 from rfl]
  omega
theorem vin_iffN {x c : Int32} : vp_in x c.toNatClampNeg ↔ ¬ x < 0 ∧ x < c := by
  rw [vp_in_iff, fa_lt, fa_lt, show (0 : Int32).toInt = 0 from rfl]
  have h : c.toNatClampNeg = c.toInt.toNat := rfl
  rw [h]
  omega
theorem vin_nge {x c : Int32} {n : Nat} (h : vp_in x n) (hc : c.toInt = n) : ¬ c ≤ x := by
  rw [vp_in_iff] at h
  rw [fa_le, hc]
  omega
theorem vin_mono {x : Int32} {n m : Nat} (h : vp_in x n) (hm : n ≤ m) : vp_in x m := by
  rw [vp_in_iff] at h ⊢
  omega
theorem vin_lt {x : Int32} {n : Nat} (h : vp_in x n) : x.toNatClampNeg < n := by
  rw [vp_in_iff] at h
  have h2 : x.toNatClampNeg = x.toInt.toNat := rfl
  rw [h2]
  omega
theorem vin_nI {x : Int32} {n : Nat} (h : vp_in x n) (hn : n < 2 ^ 31) : x = nI x.toNatClampNeg := by
  obtain ⟨j, hj, e⟩ := vp_in_of h hn
  rw [e, nI_clamp (by omega)]
theorem vin_ne {x : Int32} {n : Nat} (h : vp_in x n) : x ≠ -1 := by
  intro e
  rw [vp_in_iff, e] at h
  exact absurd h.1 (by decide)
theorem ge_of {i c : Int32} {j N : Nat} (e : i = nI j) (hj : j < 2 ^ 31) (hc : c.toInt = N) (h : c ≤ i) : N ≤ j := by
  rw [fa_le, e, nI_toInt hj, hc] at h
  omega
theorem lt_of {i c : Int32} {j N : Nat} (e : i = nI j) (hj : j < 2 ^ 31) (hc : c.toInt = N) (h : ¬ c ≤ i) : j < N := by
  rw [fa_le, e, nI_toInt hj, hc] at h
  omega
theorem le_nlt {a b : Int32} (h : a ≤ b) : ¬ b < a := fun q => (fa_of_lt q).2.1 h
theorem nle_lt {a b : Int32} (h : ¬ a ≤ b) : b < a := fa_of_nle h
theorem fit_all : ∀ j : Fin 6, ∀ k : Fin 8, (¬ (1 : Int32) < (if 0 ≤ nI k.val - 1 - nI j.val then nI k.val - 1 - nI j.val else 0 - (nI k.val - 1 - nI j.val))) ↔ ((-1 : Int32) ≤ nI j.val - nI k.val + 1 ∧ nI j.val - nI k.val + 1 ≤ 1) := by decide
theorem fit_iff {p c : Int32} (hp : vp_in p 6) (hc : vp_in c 8) : (¬ (1 : Int32) < (if 0 ≤ c - 1 - p then c - 1 - p else 0 - (c - 1 - p))) ↔ ((-1 : Int32) ≤ p - c + 1 ∧ p - c + 1 ≤ 1) := by
  obtain ⟨j, hj, rfl⟩ := vp_in_of hp (by decide)
  obtain ⟨k, hk, rfl⟩ := vp_in_of hc (by decide)
  exact fit_all ⟨j, hj⟩ ⟨k, hk⟩
theorem done0 {S : ST} {k : Nat} (h : S 4 k = 0) : done S k = (S 2 (S 5 k).toNatClampNeg = 0 ∧ S 0 (S 5 k).toNatClampNeg ≠ -1) := by unfold done; rw [cif_t h]
theorem done1 {S : ST} {k : Nat} (h : S 4 k = 1) : done S k = (S 2 (S 5 k).toNatClampNeg ≠ 0) := by
  unfold done
  rw [cif_f (by rw [h]; decide), cif_t h]
theorem done2 {S : ST} {k : Nat} (h : S 4 k = 2) : done S k = (S 1 (S 5 k).toNatClampNeg = -1 ∧ fI (S 1) (S 6 k) = -1) := by
  unfold done
  rw [cif_f (by rw [h]; decide), cif_f (by rw [h]; decide), cif_t h]
theorem done3 {S : ST} {k : Nat} (h : S 4 k = 3) : done S k = (S 1 (S 5 k).toNatClampNeg ≠ -1) := by
  unfold done
  rw [cif_f (by rw [h]; decide), cif_f (by rw [h]; decide), cif_f (by rw [h]; decide), cif_t h]
theorem done4 {S : ST} {k : Nat} (h0 : ¬ S 4 k = 0) (h1 : ¬ S 4 k = 1) (h2 : ¬ S 4 k = 2) (h3 : ¬ S 4 k = 3) : done S k = (S 2 (S 5 k).toNatClampNeg ≠ 0 ∧ S 2 (S 6 k).toNatClampNeg ≠ 0 ∧ (S 1 (S 5 k).toNatClampNeg ≠ -1 ∨ S 1 (S 6 k).toNatClampNeg ≠ -1)) := by
  unfold done
  rw [cif_f h0, cif_f h1, cif_f h2, cif_f h3]
theorem kind4 {x : Int32} (h : 0 ≤ x.toInt ∧ x.toInt ≤ 4) (h0 : ¬ x = 0) (h1 : ¬ x = 1) (h2 : ¬ x = 2) (h3 : ¬ x = 3) : x = 4 := by
  rw [fa_eq] at *
  rw [show (0 : Int32).toInt = 0 from rfl] at h0
  rw [show (1 : Int32).toInt = 1 from rfl] at h1
  rw [show (2 : Int32).toInt = 2 from rfl] at h2
  rw [show (3 : Int32).toInt = 3 from rfl] at h3
  rw [show (4 : Int32).toInt = 4 from rfl]
  omega
theorem mv2 {S : ST} {k : Nat} {f : Nat → Int32} (h : S 4 k = 2) : mv S k f = upd f (S 5 k).toNatClampNeg (S 6 k) := by unfold mv; rw [cif_t h]
theorem mv3 {S : ST} {k : Nat} {f : Nat → Int32} (h : S 4 k = 3) : mv S k f = upd f (S 5 k).toNatClampNeg (-1) := by
  unfold mv
  rw [cif_f (by rw [h]; decide), cif_t h]
theorem mv4 {S : ST} {k : Nat} {f : Nat → Int32} (h : S 4 k = 4) : mv S k f = upd (upd f (S 5 k).toNatClampNeg (f (S 6 k).toNatClampNeg)) (S 6 k).toNatClampNeg (f (S 5 k).toNatClampNeg) := by
  unfold mv
  rw [cif_f (by rw [h]; decide), cif_f (by rw [h]; decide), cif_t h]
theorem mvn {S : ST} {k : Nat} {f : Nat → Int32} (h2 : ¬ S 4 k = 2) (h3 : ¬ S 4 k = 3) (h4 : ¬ S 4 k = 4) : mv S k f = f := by
  unfold mv
  rw [cif_f h2, cif_f h3, cif_f h4]
theorem leave_t {S : ST} {a : Nat} (h : 3 ≤ S 3 (S 0 a).toNatClampNeg + 1) : leave S a = row (row (row S 2 (upd (S 2) a 0)) 3 (upd (S 3) (S 0 a).toNatClampNeg (S 3 (S 0 a).toNatClampNeg + 1))) 0 (upd (S 0) a (-1)) := by
  unfold leave
  rw [cif_t h]
theorem leave_f {S : ST} {a : Nat} (h : ¬ 3 ≤ S 3 (S 0 a).toNatClampNeg + 1) : leave S a = row (row S 2 (upd (S 2) a 0)) 3 (upd (S 3) (S 0 a).toNatClampNeg (S 3 (S 0 a).toNatClampNeg + 1)) := by
  unfold leave
  rw [cif_f h]
  exact row_self' (by rw [row_ne (by decide), row_ne (by decide)])
theorem callQ_0 {S : ST} {q : Int32} (h : S 4 q.toNatClampNeg = 0) : callQ S q = row (row (row (row S 2 (upd (S 2) (S 5 q.toNatClampNeg).toNatClampNeg 1)) 8 (upd (S 8) q.toNatClampNeg 1)) 9 (upd (S 9) (S 11 0).toNatClampNeg q)) 11 (kf (S 11 0 + 1)) := by
  unfold callQ act
  rw [cif_t h]
theorem callQ_1 {S : ST} {q : Int32} (h : S 4 q.toNatClampNeg = 1) : callQ S q = row (row (row (leave S (S 5 q.toNatClampNeg).toNatClampNeg) 8 (upd (S 8) q.toNatClampNeg 1)) 9 (upd (S 9) (S 11 0).toNatClampNeg q)) 11 (kf (S 11 0 + 1)) := by
  unfold callQ act
  rw [cif_f (by rw [h]; decide), cif_t h]
theorem callQ_m {S : ST} {q : Int32} (h0 : ¬ S 4 q.toNatClampNeg = 0) (h1 : ¬ S 4 q.toNatClampNeg = 1) : callQ S q = row (row (row (row S 1 (mv S q.toNatClampNeg (S 1))) 8 (upd (S 8) q.toNatClampNeg 1)) 9 (upd (S 9) (S 11 0).toNatClampNeg q)) 11 (kf (S 11 0 + 1)) := by
  unfold callQ act
  rw [cif_f h0, cif_f h1]
theorem leave_other {S : ST} {a r : Nat} (h0 : r ≠ 0) (h2 : r ≠ 2) (h3 : r ≠ 3) : leave S a r = S r := by
  unfold leave
  rw [row_ne h0, row_ne h3, row_ne h2]
theorem callQ_l {S : ST} {q : Int32} (h : S 4 q.toNatClampNeg = 1) : callQ S q = row (row (row (leave S (S 5 q.toNatClampNeg).toNatClampNeg) 8 (upd (leave S (S 5 q.toNatClampNeg).toNatClampNeg 8) q.toNatClampNeg 1)) 9 (upd (leave S (S 5 q.toNatClampNeg).toNatClampNeg 9) (leave S (S 5 q.toNatClampNeg).toNatClampNeg 11 0).toNatClampNeg q)) 11 (kf (leave S (S 5 q.toNatClampNeg).toNatClampNeg 11 0 + 1)) := by
  rw [callQ_1 h, leave_other (r := 8) (by decide) (by decide) (by decide), leave_other (r := 9) (by decide) (by decide) (by decide), leave_other (r := 11) (by decide) (by decide) (by decide)]
/-- what a cue's fields are, so that it can be looked at -/
def cueOK (S : ST) (k : Nat) : Prop := (0 ≤ (S 4 k).toInt ∧ (S 4 k).toInt ≤ 4) ∧ vp_in (S 5 k) 6 ∧ (S 4 k = 2 ∨ S 4 k = 4 → vp_in (S 6 k) 6) ∧ (S 7 k = -1 ∨ vp_in (S 7 k) 24) ∧
  (S 2 (S 5 k).toNatClampNeg = 0 ∨ S 2 (S 5 k).toNatClampNeg = 1)
theorem fills_eq (S : ST) (F G F' G' : Nat → Int32) : row (row (row (row S 1 F) 2 G) 1 F') 2 G' = row (row S 1 F') 2 G' := by
  rw [row_comm (row S 1 F) G F' (by decide), row_twice, row_twice]
end
section
abbrev rmJ7_fill_53178 : Room := ({ frames := 0, cells := 0, slots := 0, locals := 0 } : Room)
abbrev rmX0_isWithin : Room := ({ frames := 0, cells := 0, slots := 0, locals := 0 } : Room)
abbrev rmX0_requirePlayer : Room := ({ frames := 6, cells := 1, slots := 6, locals := 90 } : Room)
abbrev rmX0_requireMask : Room := ({ frames := 6, cells := 1, slots := 6, locals := 90 } : Room)
abbrev rmX0_requireCostume : Room := ({ frames := 6, cells := 1, slots := 6, locals := 90 } : Room)
abbrev rmX0_requireGuesser : Room := ({ frames := 6, cells := 1, slots := 6, locals := 90 } : Room)
abbrev rmX0_requireCue : Room := ({ frames := 6, cells := 1, slots := 6, locals := 90 } : Room)
abbrev rmX0_requireOther : Room := ({ frames := 7, cells := 1, slots := 6, locals := 110 } : Room)
abbrev rmX0_fits : Room := ({ frames := 1, cells := 0, slots := 0, locals := 24 } : Room)
abbrev rmX0_indexOf : Room := ({ frames := 0, cells := 0, slots := 0, locals := 0 } : Room)
abbrev rmX0_playerIn : Room := ({ frames := 1, cells := 0, slots := 0, locals := 22 } : Room)
abbrev rmX0_playerBehind : Room := ({ frames := 1, cells := 0, slots := 0, locals := 22 } : Room)
abbrev rmX0_isReleased : Room := ({ frames := 0, cells := 0, slots := 0, locals := 0 } : Room)
abbrev rmX0_waitsForMissed : Room := ({ frames := 0, cells := 0, slots := 0, locals := 0 } : Room)
abbrev rmX0_canSwap : Room := ({ frames := 0, cells := 0, slots := 0, locals := 0 } : Room)
abbrev rmX0_canBeDone : Room := ({ frames := 2, cells := 0, slots := 0, locals := 43 } : Room)
abbrev rmX0_isCallable : Room := ({ frames := 3, cells := 0, slots := 0, locals := 66 } : Room)
abbrev rmX0_firstCallable : Room := ({ frames := 4, cells := 0, slots := 0, locals := 87 } : Room)
abbrev rmX0_countCues : Room := ({ frames := 0, cells := 0, slots := 0, locals := 0 } : Room)
abbrev rmX0_noteCalled : Room := ({ frames := 0, cells := 0, slots := 0, locals := 0 } : Room)
abbrev rmX0_leaveStage : Room := ({ frames := 0, cells := 0, slots := 0, locals := 0 } : Room)
abbrev rmX0_moveMasks : Room := ({ frames := 0, cells := 0, slots := 0, locals := 0 } : Room)
abbrev rmX0_carryOut : Room := ({ frames := 1, cells := 0, slots := 0, locals := 25 } : Room)
abbrev rmX0_clearStage : Room := ({ frames := 0, cells := 0, slots := 0, locals := 0 } : Room)
abbrev rmX0_clearGuesses : Room := ({ frames := 0, cells := 0, slots := 0, locals := 0 } : Room)
abbrev rmX0_costumeOf : Room := ({ frames := 7, cells := 1, slots := 6, locals := 110 } : Room)
abbrev rmX0_wear : Room := ({ frames := 7, cells := 1, slots := 6, locals := 110 } : Room)
abbrev rmX0_maskOf : Room := ({ frames := 7, cells := 1, slots := 6, locals := 110 } : Room)
abbrev rmX0_points : Room := ({ frames := 7, cells := 1, slots := 6, locals := 110 } : Room)
abbrev rmX0_isOn : Room := ({ frames := 7, cells := 1, slots := 6, locals := 110 } : Room)
abbrev rmX0_stateOf : Room := ({ frames := 7, cells := 1, slots := 6, locals := 111 } : Room)
abbrev rmX0_wearerOf : Room := ({ frames := 7, cells := 1, slots := 6, locals := 110 } : Room)
abbrev rmX0_canCall : Room := ({ frames := 7, cells := 1, slots := 6, locals := 111 } : Room)
abbrev rmX0_purse : Room := ({ frames := 0, cells := 0, slots := 0, locals := 0 } : Room)
abbrev rmX0_cues : Room := ({ frames := 0, cells := 0, slots := 0, locals := 0 } : Room)
abbrev rmX0_plays : Room := ({ frames := 0, cells := 0, slots := 0, locals := 0 } : Room)
abbrev rmX0_dress : Room := ({ frames := 7, cells := 1, slots := 6, locals := 110 } : Room)
abbrev rmX0_repair : Room := ({ frames := 7, cells := 1, slots := 6, locals := 110 } : Room)
abbrev rmX0_addCue : Room := ({ frames := 8, cells := 1, slots := 6, locals := 131 } : Room)
abbrev rmX0_call : Room := ({ frames := 7, cells := 1, slots := 6, locals := 111 } : Room)
abbrev rmX0_run : Room := ({ frames := 5, cells := 0, slots := 0, locals := 108 } : Room)
abbrev rmX0_miss : Room := ({ frames := 7, cells := 1, slots := 6, locals := 111 } : Room)
abbrev rmX0_maskByCues : Room := ({ frames := 7, cells := 1, slots := 6, locals := 110 } : Room)
abbrev rmX0_guess : Room := ({ frames := 7, cells := 1, slots := 6, locals := 110 } : Room)
abbrev rmX0_endPlay : Room := ({ frames := 6, cells := 1, slots := 6, locals := 90 } : Room)
end
section
set_option maxHeartbeats 4000000 in
set_option maxRecDepth 100000 in
theorem c_X0_isWithin (l : Launch) (n : Int32) (c : Int32) : Met l yX0_isWithin wsX0_isWithin rmX0_isWithin (va_Pc [.int n, .int c] (pN)) (vp_Si (fun r => r = cif (¬ n < 0 ∧ n < c) 1 0)) 0 0 (fun _ => False) := by
  refine Met.ofW (cc := cX0_isWithin) (maxL := 2) (ret := (some .boolean)) (by decide) rfl ?_
  intro pr env s mid args below meth cod s₁ Bd hml hv
  obtain ⟨rfl, -⟩ := hv
  have hx := Bd.exec
  have hb := Bd.bytes
  have hr := Bd.returns
  have hts := atoms_spec (ws := wsX0_isWithin) Bd.pre
  have hown : s.vm.findClass RX0 = some mid.cls := findClass_of_methodNamed Bd.named
  have hlocks := Bd.notSynchronized
  have hl := lv_entry ([.int n, .int c]) (n := 2) (Nat.le_of_ble_eq_true rfl)
  rw [lg_entry_eq]
  generalize (lg_sl ([.int n, .int c]) ++ List.replicate (2 - (lg_sl ([.int n, .int c])).length) Slot.unset).toArray = ls at hl ⊢
  have hl : lv_has ls 2 [(0, .int n), (1, .int c)] := hl
  refine lv_iload_n hx hb dX0_isWithin_0 rfl (lv_at hl 0 rfl) ?_
  refine lv_if_lt (tgt := 13) hx hb dX0_isWithin_1 (by decide) (fun c_1 => ?_) (fun c_1 => ?_)
  · skip
    refine lv_iconst (v := 0) hx hb dX0_isWithin_13 (by decide) ?_
    exact W.zret (v := 0) (ty := .boolean) hx hb hr rfl (fun t ht hW => ⟨_, rfl, (cif_f (fun h => h.1 c_1)).symm, ht⟩) (fun q h => by cases h) dX0_isWithin_14
  · skip
    refine lv_iload_n hx hb dX0_isWithin_4 rfl (lv_at hl 0 rfl) ?_
    refine lv_iload_n hx hb dX0_isWithin_5 rfl (lv_at hl 1 rfl) ?_
    refine lv_icmp_ge (tgt := 13) hx hb dX0_isWithin_6 (by decide) (fun c_6 => ?_) (fun c_6 => ?_)
    · skip
      refine lv_iconst (v := 0) hx hb dX0_isWithin_13 (by decide) ?_
      exact W.zret (v := 0) (ty := .boolean) hx hb hr rfl (fun t ht hW => ⟨_, rfl, (cif_f (fun h => le_nlt c_6 h.2)).symm, ht⟩) (fun q h => by cases h) dX0_isWithin_14
    · skip
      refine lv_iconst (v := 1) hx hb dX0_isWithin_9 (by decide) ?_
      refine lv_goto (tgt := 14) hx hb dX0_isWithin_10 (by decide) ?_
      exact W.zret (v := 1) (ty := .boolean) hx hb hr rfl (fun t ht hW => ⟨_, rfl, (cif_t ⟨c_1, nle_lt c_6⟩).symm, ht⟩) (fun q h => by cases h) dX0_isWithin_14
set_option maxHeartbeats 4000000 in
set_option maxRecDepth 100000 in
theorem c_X0_requirePlayer (l : Launch) (hfl : l.stackTraces = false) (p : Int32) : vy_Met l yX0_requirePlayer wsX0_requirePlayer rmX0_requirePlayer (va_Pc [.int p] (fun U => (pN) U ∧ pG U)) (va_Sv (fun _ => vp_in p 6)) (xcs (fun E => E = xIO ∧ ¬ vp_in p 6)) 1 6 (fun _ => False) := by
  refine vy_ofW (cc := cX0_requirePlayer) (maxL := 1) (ret := none) (by decide) rfl ?_
  intro pr env s mid args below meth cod s₁ Bd hml hout hv
  obtain ⟨rfl, -, hG0⟩ := hv
  have hG : xG (fun q => s.heap.size ≤ q) s s.heap := hG0
  have hx := Bd.exec
  have hb := Bd.bytes
  have hr := Bd.returns
  have hts := atoms_spec (ws := wsX0_requirePlayer) Bd.pre
  have hown : s.vm.findClass RX0 = some mid.cls := findClass_of_methodNamed Bd.named
  have hlocks := Bd.notSynchronized
  have hl := lv_entry ([.int p]) (n := 1) (Nat.le_of_ble_eq_true rfl)
  rw [lg_entry_eq]
  generalize (lg_sl ([.int p]) ++ List.replicate (1 - (lg_sl ([.int p])).length) Slot.unset).toArray = ls at hl ⊢
  have hl : lv_has ls 1 [(0, .int p)] := hl
  refine lv_iload_n hx hb dX0_requirePlayer_0 rfl (lv_at hl 0 rfl) ?_
  refine lv_bipush (v := 6) hx hb dX0_requirePlayer_1 (by decide) ?_
  refine vp_callSi (W.runS (As := [.int p, .int 6]) (rest := []) ⟨hx, hb, hml, hown, hts⟩ (c_X0_isWithin l p 6) (va_cwS 2 hts gX0_requirePlayer_X0_isWithin rfl rfl rfl (by decide +kernel) ⟨Nat.le_of_ble_eq_true rfl, Nat.le_of_ble_eq_true rfl⟩) (pN_S) rfl rfl hl.1 rfl (lv_room (Nat.le_of_ble_eq_true rfl)) dX0_requirePlayer_3 ⟨Nat.zero_le _, Nat.zero_le _⟩) (fun r_3 h_3 => ?_)
  refine lv_if_ne (tgt := 19) hx hb dX0_requirePlayer_6 (by decide) (fun c_6 => ?_) (fun c_6 => ?_)
  · skip
    have b_3 := cif_b1 h_3 c_6
    exact vy_ret (W.vret hx hb hr (fun t ht hW => ⟨rfl, (vin_iff (n := 6) rfl).mpr b_3, ht⟩) (fun q h => by cases h) dX0_requirePlayer_19)
  · skip
    have b_3 := cif_b0 h_3 c_6
    exact x_throwS (text := "no such player") hx hb hfl hown (by decide) (hts (.classLink RX0 174 xIO) (by decide +kernel)) (hts (.initialized xIO) (by decide +kernel)) (fun w h => hts w (List.mem_cons_of_mem _ (List.mem_append_right _ h))) xIO_b xIO_g hG (by decide) (hl.1.trans hml.symm) dX0_requirePlayer_9 dX0_requirePlayer_12 dX0_requirePlayer_13 dX0_requirePlayer_15 dX0_requirePlayer_18 hout ⟨by decide, by decide, by decide, by decide⟩ hlocks (⟨rfl, fun h => b_3 ((vin_iff rfl).mp h)⟩)
set_option maxHeartbeats 4000000 in
set_option maxRecDepth 100000 in
theorem c_X0_requireMask (l : Launch) (hfl : l.stackTraces = false) (m : Int32) : vy_Met l yX0_requireMask wsX0_requireMask rmX0_requireMask (va_Pc [.int m] (fun U => (pN) U ∧ pG U)) (va_Sv (fun _ => vp_in m 6)) (xcs (fun E => E = xIO ∧ ¬ vp_in m 6)) 1 6 (fun _ => False) := by
  refine vy_ofW (cc := cX0_requireMask) (maxL := 1) (ret := none) (by decide) rfl ?_
  intro pr env s mid args below meth cod s₁ Bd hml hout hv
  obtain ⟨rfl, -, hG0⟩ := hv
  have hG : xG (fun q => s.heap.size ≤ q) s s.heap := hG0
  have hx := Bd.exec
  have hb := Bd.bytes
  have hr := Bd.returns
  have hts := atoms_spec (ws := wsX0_requireMask) Bd.pre
  have hown : s.vm.findClass RX0 = some mid.cls := findClass_of_methodNamed Bd.named
  have hlocks := Bd.notSynchronized
  have hl := lv_entry ([.int m]) (n := 1) (Nat.le_of_ble_eq_true rfl)
  rw [lg_entry_eq]
  generalize (lg_sl ([.int m]) ++ List.replicate (1 - (lg_sl ([.int m])).length) Slot.unset).toArray = ls at hl ⊢
  have hl : lv_has ls 1 [(0, .int m)] := hl
  refine lv_iload_n hx hb dX0_requireMask_0 rfl (lv_at hl 0 rfl) ?_
  refine lv_bipush (v := 6) hx hb dX0_requireMask_1 (by decide) ?_
  refine vp_callSi (W.runS (As := [.int m, .int 6]) (rest := []) ⟨hx, hb, hml, hown, hts⟩ (c_X0_isWithin l m 6) (va_cwS 2 hts gX0_requireMask_X0_isWithin rfl rfl rfl (by decide +kernel) ⟨Nat.le_of_ble_eq_true rfl, Nat.le_of_ble_eq_true rfl⟩) (pN_S) rfl rfl hl.1 rfl (lv_room (Nat.le_of_ble_eq_true rfl)) dX0_requireMask_3 ⟨Nat.zero_le _, Nat.zero_le _⟩) (fun r_3 h_3 => ?_)
  refine lv_if_ne (tgt := 19) hx hb dX0_requireMask_6 (by decide) (fun c_6 => ?_) (fun c_6 => ?_)
  · skip
    have b_3 := cif_b1 h_3 c_6
    exact vy_ret (W.vret hx hb hr (fun t ht hW => ⟨rfl, (vin_iff (n := 6) rfl).mpr b_3, ht⟩) (fun q h => by cases h) dX0_requireMask_19)
  · skip
    have b_3 := cif_b0 h_3 c_6
    exact x_throwS (text := "no such mask") hx hb hfl hown (by decide) (hts (.classLink RX0 174 xIO) (by decide +kernel)) (hts (.initialized xIO) (by decide +kernel)) (fun w h => hts w (List.mem_cons_of_mem _ (List.mem_append_right _ h))) xIO_b xIO_g hG (by decide) (hl.1.trans hml.symm) dX0_requireMask_9 dX0_requireMask_12 dX0_requireMask_13 dX0_requireMask_15 dX0_requireMask_18 hout ⟨by decide, by decide, by decide, by decide⟩ hlocks (⟨rfl, fun h => b_3 ((vin_iff rfl).mp h)⟩)
set_option maxHeartbeats 4000000 in
set_option maxRecDepth 100000 in
theorem c_X0_requireCostume (l : Launch) (hfl : l.stackTraces = false) (c : Int32) : vy_Met l yX0_requireCostume wsX0_requireCostume rmX0_requireCostume (va_Pc [.int c] (fun U => (pN) U ∧ pG U)) (va_Sv (fun _ => vp_in c 8)) (xcs (fun E => E = xIO ∧ ¬ vp_in c 8)) 1 6 (fun _ => False) := by
  refine vy_ofW (cc := cX0_requireCostume) (maxL := 1) (ret := none) (by decide) rfl ?_
  intro pr env s mid args below meth cod s₁ Bd hml hout hv
  obtain ⟨rfl, -, hG0⟩ := hv
  have hG : xG (fun q => s.heap.size ≤ q) s s.heap := hG0
  have hx := Bd.exec
  have hb := Bd.bytes
  have hr := Bd.returns
  have hts := atoms_spec (ws := wsX0_requireCostume) Bd.pre
  have hown : s.vm.findClass RX0 = some mid.cls := findClass_of_methodNamed Bd.named
  have hlocks := Bd.notSynchronized
  have hl := lv_entry ([.int c]) (n := 1) (Nat.le_of_ble_eq_true rfl)
  rw [lg_entry_eq]
  generalize (lg_sl ([.int c]) ++ List.replicate (1 - (lg_sl ([.int c])).length) Slot.unset).toArray = ls at hl ⊢
  have hl : lv_has ls 1 [(0, .int c)] := hl
  refine lv_iload_n hx hb dX0_requireCostume_0 rfl (lv_at hl 0 rfl) ?_
  refine lv_bipush (v := 8) hx hb dX0_requireCostume_1 (by decide) ?_
  refine vp_callSi (W.runS (As := [.int c, .int 8]) (rest := []) ⟨hx, hb, hml, hown, hts⟩ (c_X0_isWithin l c 8) (va_cwS 2 hts gX0_requireCostume_X0_isWithin rfl rfl rfl (by decide +kernel) ⟨Nat.le_of_ble_eq_true rfl, Nat.le_of_ble_eq_true rfl⟩) (pN_S) rfl rfl hl.1 rfl (lv_room (Nat.le_of_ble_eq_true rfl)) dX0_requireCostume_3 ⟨Nat.zero_le _, Nat.zero_le _⟩) (fun r_3 h_3 => ?_)
  refine lv_if_ne (tgt := 19) hx hb dX0_requireCostume_6 (by decide) (fun c_6 => ?_) (fun c_6 => ?_)
  · skip
    have b_3 := cif_b1 h_3 c_6
    exact vy_ret (W.vret hx hb hr (fun t ht hW => ⟨rfl, (vin_iff (n := 8) rfl).mpr b_3, ht⟩) (fun q h => by cases h) dX0_requireCostume_19)
  · skip
    have b_3 := cif_b0 h_3 c_6
    exact x_throwS (text := "no such costume") hx hb hfl hown (by decide) (hts (.classLink RX0 174 xIO) (by decide +kernel)) (hts (.initialized xIO) (by decide +kernel)) (fun w h => hts w (List.mem_cons_of_mem _ (List.mem_append_right _ h))) xIO_b xIO_g hG (by decide) (hl.1.trans hml.symm) dX0_requireCostume_9 dX0_requireCostume_12 dX0_requireCostume_13 dX0_requireCostume_15 dX0_requireCostume_18 hout ⟨by decide, by decide, by decide, by decide⟩ hlocks (⟨rfl, fun h => b_3 ((vin_iff rfl).mp h)⟩)
set_option maxHeartbeats 4000000 in
set_option maxRecDepth 100000 in
theorem c_X0_requireGuesser (l : Launch) (hfl : l.stackTraces = false) (g : Int32) : vy_Met l yX0_requireGuesser wsX0_requireGuesser rmX0_requireGuesser (va_Pc [.int g] (fun U => (pN) U ∧ pG U)) (va_Sv (fun _ => vp_in g 3)) (xcs (fun E => E = xIO ∧ ¬ vp_in g 3)) 1 6 (fun _ => False) := by
  refine vy_ofW (cc := cX0_requireGuesser) (maxL := 1) (ret := none) (by decide) rfl ?_
  intro pr env s mid args below meth cod s₁ Bd hml hout hv
  obtain ⟨rfl, -, hG0⟩ := hv
  have hG : xG (fun q => s.heap.size ≤ q) s s.heap := hG0
  have hx := Bd.exec
  have hb := Bd.bytes
  have hr := Bd.returns
  have hts := atoms_spec (ws := wsX0_requireGuesser) Bd.pre
  have hown : s.vm.findClass RX0 = some mid.cls := findClass_of_methodNamed Bd.named
  have hlocks := Bd.notSynchronized
  have hl := lv_entry ([.int g]) (n := 1) (Nat.le_of_ble_eq_true rfl)
  rw [lg_entry_eq]
  generalize (lg_sl ([.int g]) ++ List.replicate (1 - (lg_sl ([.int g])).length) Slot.unset).toArray = ls at hl ⊢
  have hl : lv_has ls 1 [(0, .int g)] := hl
  refine lv_iload_n hx hb dX0_requireGuesser_0 rfl (lv_at hl 0 rfl) ?_
  refine lv_iconst (v := 3) hx hb dX0_requireGuesser_1 (by decide) ?_
  refine vp_callSi (W.runS (As := [.int g, .int 3]) (rest := []) ⟨hx, hb, hml, hown, hts⟩ (c_X0_isWithin l g 3) (va_cwS 2 hts gX0_requireGuesser_X0_isWithin rfl rfl rfl (by decide +kernel) ⟨Nat.le_of_ble_eq_true rfl, Nat.le_of_ble_eq_true rfl⟩) (pN_S) rfl rfl hl.1 rfl (lv_room (Nat.le_of_ble_eq_true rfl)) dX0_requireGuesser_2 ⟨Nat.zero_le _, Nat.zero_le _⟩) (fun r_2 h_2 => ?_)
  refine lv_if_ne (tgt := 18) hx hb dX0_requireGuesser_5 (by decide) (fun c_5 => ?_) (fun c_5 => ?_)
  · skip
    have b_2 := cif_b1 h_2 c_5
    exact vy_ret (W.vret hx hb hr (fun t ht hW => ⟨rfl, (vin_iff (n := 3) rfl).mpr b_2, ht⟩) (fun q h => by cases h) dX0_requireGuesser_18)
  · skip
    have b_2 := cif_b0 h_2 c_5
    exact x_throwS (text := "no such guesser") hx hb hfl hown (by decide) (hts (.classLink RX0 174 xIO) (by decide +kernel)) (hts (.initialized xIO) (by decide +kernel)) (fun w h => hts w (List.mem_cons_of_mem _ (List.mem_append_right _ h))) xIO_b xIO_g hG (by decide) (hl.1.trans hml.symm) dX0_requireGuesser_8 dX0_requireGuesser_11 dX0_requireGuesser_12 dX0_requireGuesser_14 dX0_requireGuesser_17 hout ⟨by decide, by decide, by decide, by decide⟩ hlocks (⟨rfl, fun h => b_2 ((vin_iff rfl).mp h)⟩)
set_option maxHeartbeats 4000000 in
set_option maxRecDepth 100000 in
theorem c_X0_requireCue (l : Launch) (hfl : l.stackTraces = false) (D : va_G) (cI cZ : ClassId) (x : Nat) (a : Nat → Nat) (S : ST) (q : Int32) : vy_Met l yX0_requireCue wsX0_requireCue rmX0_requireCue (va_Pc [.ref x, .int q] (fun U => (pR D (tyX cI cZ) (wX cI cZ x a S)) U ∧ pG U)) (va_Sv (fun _ => vp_in q (many S))) (xcs (fun E => E = xIO ∧ ¬ vp_in q (many S))) 1 6 (fun _ => False) := by
  refine vy_ofW (cc := cX0_requireCue) (maxL := 2) (ret := none) (by decide) rfl ?_
  intro pr env s mid args below meth cod s₁ Bd hml hout hv
  obtain ⟨rfl, ⟨hP, hK⟩, hG0⟩ := hv
  have hG : xG (fun q => s.heap.size ≤ q) s s.heap := hG0
  have hx := Bd.exec
  have hb := Bd.bytes
  have hr := Bd.returns
  have hts := atoms_spec (ws := wsX0_requireCue) Bd.pre
  have hown : s.vm.findClass RX0 = some mid.cls := findClass_of_methodNamed Bd.named
  have hlocks := Bd.notSynchronized
  have hin : ∀ w ∈ wsX00, w ∈ wsX0_requireCue := fun _ h => List.mem_cons_of_mem _ (List.mem_append_left _ (List.mem_append_right _ h))
  have hl := lv_entry ([.ref x, .int q]) (n := 2) (Nat.le_of_ble_eq_true rfl)
  rw [lg_entry_eq]
  generalize (lg_sl ([.ref x, .int q]) ++ List.replicate (2 - (lg_sl ([.ref x, .int q])).length) Slot.unset).toArray = ls at hl ⊢
  have hl : lv_has ls 2 [(0, .ref x), (1, .int q)] := hl
  refine lv_iload_n hx hb dX0_requireCue_0 rfl (lv_at hl 1 rfl) ?_
  refine lv_aload_n hx hb dX0_requireCue_1 rfl (lv_at hl 0 rfl) ?_
  have hf104 := hts (.fieldLink RX0 104 "Clockmask" "cueCount" "I") (by decide +kernel)
  refine va_get (D := D) (ci := 0) (v := .int (S 10 0)) (C := RX0) (T := TX0) (N := 17) hx hb hts hin hown hK hP 0 rfl rfl 10 (by decide) hf104 (fun _ h9 => h9) rfl dX0_requireCue_2 ?_
  refine vp_callSi (W.runS (As := [.int q, .int (S 10 0)]) (rest := []) ⟨hx, hb, hml, hown, hts⟩ (c_X0_isWithin l q (S 10 0)) (va_cwS 2 hts gX0_requireCue_X0_isWithin rfl rfl rfl (by decide +kernel) ⟨Nat.le_of_ble_eq_true rfl, Nat.le_of_ble_eq_true rfl⟩) (pN_S) rfl rfl hl.1 rfl (lv_room (Nat.le_of_ble_eq_true rfl)) dX0_requireCue_5 ⟨Nat.zero_le _, Nat.zero_le _⟩) (fun r_5 h_5 => ?_)
  refine lv_if_ne (tgt := 21) hx hb dX0_requireCue_8 (by decide) (fun c_8 => ?_) (fun c_8 => ?_)
  · skip
    have b_5 := cif_b1 h_5 c_8
    exact vy_ret (W.vret hx hb hr (fun t ht hW => ⟨rfl, vin_iffN.mpr b_5, ht⟩) (fun q h => by cases h) dX0_requireCue_21)
  · skip
    have b_5 := cif_b0 h_5 c_8
    exact x_throwS (text := "no such cue") hx hb hfl hown (by decide) (hts (.classLink RX0 174 xIO) (by decide +kernel)) (hts (.initialized xIO) (by decide +kernel)) (fun w h => hts w (List.mem_cons_of_mem _ (List.mem_append_right _ h))) xIO_b xIO_g hG (by decide) (hl.1.trans hml.symm) dX0_requireCue_11 dX0_requireCue_14 dX0_requireCue_15 dX0_requireCue_17 dX0_requireCue_20 hout ⟨by decide, by decide, by decide, by decide⟩ hlocks (⟨rfl, fun h => b_5 (vin_iffN.mp h)⟩)
set_option maxHeartbeats 4000000 in
set_option maxRecDepth 100000 in
theorem c_X0_requireOther (l : Launch) (hfl : l.stackTraces = false) (k : Int32) (o : Int32) : vy_Met l yX0_requireOther wsX0_requireOther rmX0_requireOther (va_Pc [.int k, .int o] (fun U => (pN) U ∧ pG U)) (va_Sv (fun _ => k = 2 ∨ k = 4 → vp_in o 6)) (xcs (fun E => E = xIO ∧ ¬ (k = 2 ∨ k = 4 → vp_in o 6))) 1 6 (fun _ => False) := by
  refine vy_ofW (cc := cX0_requireOther) (maxL := 2) (ret := none) (by decide) rfl ?_
  intro pr env s mid args below meth cod s₁ Bd hml hout hv
  obtain ⟨rfl, -, hG0⟩ := hv
  have hG : xG (fun q => s.heap.size ≤ q) s s.heap := hG0
  have hx := Bd.exec
  have hb := Bd.bytes
  have hr := Bd.returns
  have hts := atoms_spec (ws := wsX0_requireOther) Bd.pre
  have hown : s.vm.findClass RX0 = some mid.cls := findClass_of_methodNamed Bd.named
  have hlocks := Bd.notSynchronized
  have hl := lv_entry ([.int k, .int o]) (n := 2) (Nat.le_of_ble_eq_true rfl)
  rw [lg_entry_eq]
  generalize (lg_sl ([.int k, .int o]) ++ List.replicate (2 - (lg_sl ([.int k, .int o])).length) Slot.unset).toArray = ls at hl ⊢
  have hl : lv_has ls 2 [(0, .int k), (1, .int o)] := hl
  refine lv_iload_n hx hb dX0_requireOther_0 rfl (lv_at hl 0 rfl) ?_
  refine lv_iconst (v := 2) hx hb dX0_requireOther_1 (by decide) ?_
  refine lv_icmp_ne (tgt := 12) hx hb dX0_requireOther_2 (by decide) (fun c_2 => ?_) (fun c_2 => ?_)
  · skip
    refine lv_iload_n hx hb dX0_requireOther_12 rfl (lv_at hl 0 rfl) ?_
    refine lv_iconst (v := 4) hx hb dX0_requireOther_13 (by decide) ?_
    refine lv_icmp_ne (tgt := 21) hx hb dX0_requireOther_14 (by decide) (fun c_14 => ?_) (fun c_14 => ?_)
    · skip
      exact vy_ret (W.vret hx hb hr (fun t ht hW => ⟨rfl, fun h => h.elim (fun z => absurd z c_2) (fun z => absurd z c_14), ht⟩) (fun q h => by cases h) dX0_requireOther_21)
    · skip
      refine lv_iload_n hx hb dX0_requireOther_17 rfl (lv_at hl 1 rfl) ?_
      refine vy_csv (vy_runS (As := [.int o]) (rest := []) ⟨hx, hb, hml, hown, hts⟩ (c_X0_requirePlayer l hfl o) (va_cwS 1 hts gX0_requireOther_X0_requirePlayer rfl rfl rfl (by decide +kernel) ⟨Nat.le_of_ble_eq_true rfl, Nat.le_of_ble_eq_true rfl⟩) (pT_S (pN_S) hG (fun _ h => h)) rfl rfl hl.1 rfl (lv_room (Nat.le_of_ble_eq_true rfl)) dX0_requireOther_18 ⟨Nat.le_of_ble_eq_true rfl, Nat.le_of_ble_eq_true rfl⟩) (fun E ce q9 H1 hPE hz9 hk9 hc9 hv9 hcl9 => vy_out hout hlocks (⟨hPE.1, fun h => hPE.2 (h (Or.inr c_14))⟩) hz9 hk9 hc9 hv9 hcl9 (by decide) (by decide)) (fun h_18 => ?_)
      exact vy_ret (W.vret hx hb hr (fun t ht hW => ⟨rfl, fun _ => h_18, ht⟩) (fun q h => by cases h) dX0_requireOther_21)
  · skip
    refine lv_iload_n hx hb dX0_requireOther_5 rfl (lv_at hl 1 rfl) ?_
    refine vy_csv (vy_runS (As := [.int o]) (rest := []) ⟨hx, hb, hml, hown, hts⟩ (c_X0_requireMask l hfl o) (va_cwS 1 hts gX0_requireOther_X0_requireMask rfl rfl rfl (by decide +kernel) ⟨Nat.le_of_ble_eq_true rfl, Nat.le_of_ble_eq_true rfl⟩) (pT_S (pN_S) hG (fun _ h => h)) rfl rfl hl.1 rfl (lv_room (Nat.le_of_ble_eq_true rfl)) dX0_requireOther_6 ⟨Nat.le_of_ble_eq_true rfl, Nat.le_of_ble_eq_true rfl⟩) (fun E ce q9 H1 hPE hz9 hk9 hc9 hv9 hcl9 => vy_out hout hlocks (⟨hPE.1, fun h => hPE.2 (h (Or.inl c_2))⟩) hz9 hk9 hc9 hv9 hcl9 (by decide) (by decide)) (fun h_6 => ?_)
    refine lv_goto (tgt := 21) hx hb dX0_requireOther_9 (by decide) ?_
    exact vy_ret (W.vret hx hb hr (fun t ht hW => ⟨rfl, fun _ => h_6, ht⟩) (fun q h => by cases h) dX0_requireOther_21)
set_option maxHeartbeats 4000000 in
set_option maxRecDepth 100000 in
theorem c_X0_fits (l : Launch) (c : Int32) (p : Int32) (hc : vp_in c 8) (hp : vp_in p 6) : Met l yX0_fits wsX0_fits rmX0_fits (va_Pc [.int c, .int p] (pN)) (vp_Si (fun r => r = cif (-1 ≤ p - c + 1 ∧ p - c + 1 ≤ 1) 1 0)) 0 0 (fun _ => False) := by
  refine Met.ofW (cc := cX0_fits) (maxL := 3) (ret := (some .boolean)) (by decide) rfl ?_
  intro pr env s mid args below meth cod s₁ Bd hml hv
  obtain ⟨rfl, -⟩ := hv
  have hx := Bd.exec
  have hb := Bd.bytes
  have hr := Bd.returns
  have hts := atoms_spec (ws := wsX0_fits) Bd.pre
  have hown : s.vm.findClass RX0 = some mid.cls := findClass_of_methodNamed Bd.named
  have hlocks := Bd.notSynchronized
  have hl := lv_entry ([.int c, .int p]) (n := 3) (Nat.le_of_ble_eq_true rfl)
  rw [lg_entry_eq]
  generalize (lg_sl ([.int c, .int p]) ++ List.replicate (3 - (lg_sl ([.int c, .int p])).length) Slot.unset).toArray = ls at hl ⊢
  have hl : lv_has ls 3 [(0, .int c), (1, .int p)] := hl
  refine lv_iload_n hx hb dX0_fits_0 rfl (lv_at hl 0 rfl) ?_
  refine lv_iconst (v := 1) hx hb dX0_fits_1 (by decide) ?_
  refine lv_isub hx hb dX0_fits_2 ?_
  refine lv_istore_n (lv' := [(2, .int (c - 1)), (0, .int c), (1, .int p)]) hx hb dX0_fits_3 rfl hl (by decide) rfl (fun ls hl => ?_)
  refine lv_iload_n hx hb dX0_fits_4 rfl (lv_at hl 0 rfl) ?_
  refine lv_iload_n hx hb dX0_fits_5 rfl (lv_at hl 2 rfl) ?_
  refine lv_isub hx hb dX0_fits_6 ?_
  refine va_mabs (own := RX0) (index := 187) hx hb (hml.trans hl.1.symm) hown (hts (.methodLink RX0 187 Lib.Math.abs.name) (by decide +kernel)) (hts (.static Lib.Math.abs.name) (by decide +kernel)) (hts (.initialized "java/lang/Math") (by decide +kernel)) (hts (.code Lib.Math.abs.name Lib.Math.abs.code 1 (some .int)) (by decide +kernel)) (Nat.le_of_ble_eq_true rfl) (Nat.le_of_ble_eq_true rfl) (Nat.zero_le _) (Nat.zero_le _) dX0_fits_7 ?_
  refine lv_iconst (v := 1) hx hb dX0_fits_10 (by decide) ?_
  refine lv_icmp_gt (tgt := 18) hx hb dX0_fits_11 (by decide) (fun c_11 => ?_) (fun c_11 => ?_)
  · skip
    refine lv_iconst (v := 0) hx hb dX0_fits_18 (by decide) ?_
    exact W.zret (v := 0) (ty := .boolean) hx hb hr rfl (fun t ht hW => ⟨_, rfl, (cif_f (fun h => (fit_iff hp hc).mpr h c_11)).symm, ht⟩) (fun q h => by cases h) dX0_fits_19
  · skip
    refine lv_iconst (v := 1) hx hb dX0_fits_14 (by decide) ?_
    refine lv_goto (tgt := 19) hx hb dX0_fits_15 (by decide) ?_
    exact W.zret (v := 1) (ty := .boolean) hx hb hr rfl (fun t ht hW => ⟨_, rfl, (cif_t ((fit_iff hp hc).mp c_11)).symm, ht⟩) (fun q h => by cases h) dX0_fits_19
set_option maxHeartbeats 4000000 in
set_option maxRecDepth 100000 in
theorem c_X0_indexOf (l : Launch) (D : va_G) (cI : ClassId) (y : Nat) (f : Nat → Int32) (v : Int32) : Met l yX0_indexOf wsX0_indexOf rmX0_indexOf (va_Pc [.int v, .ref y] (pR D (tyM cI) ([(y, .inl (cI, 6, .inl f))]))) (vp_Si (fun r => r = fI f v)) 0 0 (fun _ => False) := by
  refine Met.ofW (cc := cX0_indexOf) (maxL := 3) (ret := (some .int)) (by decide) rfl ?_
  intro pr env s mid args below meth cod s₁ Bd hml hv
  obtain ⟨rfl, hP, hK⟩ := hv
  have hx := Bd.exec
  have hb := Bd.bytes
  have hr := Bd.returns
  have hts := atoms_spec (ws := wsX0_indexOf) Bd.pre
  have hown : s.vm.findClass RX0 = some mid.cls := findClass_of_methodNamed Bd.named
  have hlocks := Bd.notSynchronized
  have hl := lv_entry ([.int v, .ref y]) (n := 3) (Nat.le_of_ble_eq_true rfl)
  rw [lg_entry_eq]
  generalize (lg_sl ([.int v, .ref y]) ++ List.replicate (3 - (lg_sl ([.int v, .ref y])).length) Slot.unset).toArray = ls at hl ⊢
  have hl : lv_has ls 3 [(0, .int v), (1, .ref y)] := hl
  refine lv_iconst (v := 0) hx hb dX0_indexOf_0 (by decide) ?_
  refine lv_istore_n (lv' := [(2, .int 0), (0, .int v), (1, .ref y)]) hx hb dX0_indexOf_1 rfl hl (by decide) rfl (fun ls hl => ?_)
  refine W_gen (fun R Q hR hQ => ?_)
  have loop_2 : ∀ (n : Nat) (j : Nat) (i2 : Int32), (j ≤ 6) → (7 ≤ j + n) → (i2 = nI j) → (∀ k, k < j → ¬ f k = v) → ∀ ls : Array Slot, lv_has ls 3 [(2, .int i2), (0, .int v), (1, .ref y)] → W pr l env R s mid ([.int v, .ref y] : List Value).toArray below meth cod s.heap [] 0 0 Q (F0 mid 2 ls []) := by
    subst hR; subst hQ
    intro n
    induction n with
    | zero =>
      intro j i2 hj hn e2 hno ls hl
      exfalso; omega
    | succ n ih =>
      intro j i2 hj hn e2 hno ls hl
      refine lv_iload_n hx hb dX0_indexOf_2 rfl (lv_at hl 0 rfl) ?_
      refine lv_aload_n hx hb dX0_indexOf_3 rfl (lv_at hl 2 rfl) ?_
      refine va_alen (v := 6) hx hb hK hP 0 0 rfl rfl rfl dX0_indexOf_4 ?_
      refine lv_icmp_ge (tgt := 23) hx hb dX0_indexOf_5 (by decide) (fun c_5 => ?_) (fun c_5 => ?_)
      · skip
        have h6 : 6 ≤ j := ge_of (N := 6) e2 (by omega) rfl c_5
        refine lv_iconst (v := (-1)) hx hb dX0_indexOf_23 (by decide) ?_
        exact W.iret (v := (-1)) hx hb hr (fun t ht hW => ⟨_, rfl, (fI_none (fun k hk => hno k (by omega))).symm, ht⟩) (fun q h => by cases h) dX0_indexOf_24
      · skip
        have h6 : j < 6 := lt_of (N := 6) e2 (by omega) rfl c_5
        refine lv_aload_n hx hb dX0_indexOf_8 rfl (lv_at hl 2 rfl) ?_
        refine lv_iload_n hx hb dX0_indexOf_9 rfl (lv_at hl 0 rfl) ?_
        refine va_iald (f := f) (n := 6) hx hb hK hP 0 0 rfl rfl (by rw [e2]; exact vp_in_nI h6 (by decide)) dX0_indexOf_10 ?_
        refine lv_iload_n hx hb dX0_indexOf_11 rfl (lv_at hl 1 rfl) ?_
        refine lv_icmp_ne (tgt := 17) hx hb dX0_indexOf_12 (by decide) (fun c_12 => ?_) (fun c_12 => ?_)
        · skip
          have c9 : ¬ f j = v := by rwa [e2, nI_clamp (by omega)] at c_12
          refine lv_iinc (v := i2 + 1) (lv' := [(2, .int (i2 + 1)), (0, .int v), (1, .ref y)]) hx hb dX0_indexOf_17 hl (k := 0) rfl rfl (by decide) rfl (fun ls hl => ?_)
          refine lv_goto (tgt := 2) hx hb dX0_indexOf_20 (by decide) ?_
          exact ih (j + 1) (i2 + 1) (by omega) (by omega) (by rw [e2]; exact nI_1 j) (lt_s hno c9) _ (lv_sub hl [0, 1, 2] rfl)
        · skip
          have c9 : f j = v := by rwa [e2, nI_clamp (by omega)] at c_12
          refine lv_iload_n hx hb dX0_indexOf_15 rfl (lv_at hl 0 rfl) ?_
          exact W.iret (v := i2) hx hb hr (fun t ht hW => ⟨_, rfl, by rw [e2]; exact (fI_is h6 c9 hno).symm, ht⟩) (fun q h => by cases h) dX0_indexOf_16
  exact loop_2 7 0 0 (Nat.zero_le _) (by omega) nI_0.symm (fun k hk => absurd hk (Nat.not_lt_zero k)) _ (lv_sub hl [0, 1, 2] rfl)
set_option maxHeartbeats 4000000 in
set_option maxRecDepth 100000 in
theorem c_X0_playerIn (l : Launch) (D : va_G) (cI cZ : ClassId) (x : Nat) (a : Nat → Nat) (S : ST) (c : Int32) : Met l yX0_playerIn wsX0_playerIn rmX0_playerIn (va_Pc [.ref x, .int c] (pR D (tyX cI cZ) (wX cI cZ x a S))) (vp_Si (fun r => r = fI (S 0) c)) 0 0 (fun _ => False) := by
  refine Met.ofW (cc := cX0_playerIn) (maxL := 2) (ret := (some .int)) (by decide) rfl ?_
  intro pr env s mid args below meth cod s₁ Bd hml hv
  obtain ⟨rfl, hP, hK⟩ := hv
  have hx := Bd.exec
  have hb := Bd.bytes
  have hr := Bd.returns
  have hts := atoms_spec (ws := wsX0_playerIn) Bd.pre
  have hown : s.vm.findClass RX0 = some mid.cls := findClass_of_methodNamed Bd.named
  have hlocks := Bd.notSynchronized
  have hin : ∀ w ∈ wsX00, w ∈ wsX0_playerIn := fun _ h => List.mem_cons_of_mem _ (List.mem_append_right _ h)
  have hl := lv_entry ([.ref x, .int c]) (n := 2) (Nat.le_of_ble_eq_true rfl)
  rw [lg_entry_eq]
  generalize (lg_sl ([.ref x, .int c]) ++ List.replicate (2 - (lg_sl ([.ref x, .int c])).length) Slot.unset).toArray = ls at hl ⊢
  have hl : lv_has ls 2 [(0, .ref x), (1, .int c)] := hl
  refine lv_iload_n hx hb dX0_playerIn_0 rfl (lv_at hl 1 rfl) ?_
  refine lv_aload_n hx hb dX0_playerIn_1 rfl (lv_at hl 0 rfl) ?_
  have hf9 := hts (.fieldLink RX0 9 "Clockmask" "costumeOfPlayer" "[I") (by decide +kernel)
  refine va_get (D := D) (ci := 0) (v := .ref (a 0)) (C := RX0) (T := TX0) (N := 17) hx hb hts hin hown hK hP 0 rfl rfl 0 (by decide) hf9 (fun _ h9 => h9) rfl dX0_playerIn_2 ?_
  refine vp_callSi (W.runS (As := [.int c, .ref (a 0)]) (rest := []) ⟨hx, hb, hml, hown, hts⟩ (c_X0_indexOf l D cI (a 0) (S 0) c) (va_cwS 2 hts gX0_playerIn_X0_indexOf rfl rfl rfl (by decide +kernel) ⟨Nat.le_of_ble_eq_true rfl, Nat.le_of_ble_eq_true rfl⟩) (pR_S (hP.sub (ws' := [(a 0, .inl (cI, 6, .inl (S 0)))]) [1] rfl) (hK.sub (tys' := tyM cI) [0] rfl)) rfl rfl hl.1 rfl (lv_room (Nat.le_of_ble_eq_true rfl)) dX0_playerIn_5 ⟨Nat.zero_le _, Nat.zero_le _⟩) (fun r_5 h_5 => ?_)
  subst h_5
  exact W.iret (v := fI (S 0) c) hx hb hr (fun t ht hW => ⟨_, rfl, rfl, ht⟩) (fun q h => by cases h) dX0_playerIn_8
set_option maxHeartbeats 4000000 in
set_option maxRecDepth 100000 in
theorem c_X0_playerBehind (l : Launch) (D : va_G) (cI cZ : ClassId) (x : Nat) (a : Nat → Nat) (S : ST) (m : Int32) : Met l yX0_playerBehind wsX0_playerBehind rmX0_playerBehind (va_Pc [.ref x, .int m] (pR D (tyX cI cZ) (wX cI cZ x a S))) (vp_Si (fun r => r = fI (S 1) m)) 0 0 (fun _ => False) := by
  refine Met.ofW (cc := cX0_playerBehind) (maxL := 2) (ret := (some .int)) (by decide) rfl ?_
  intro pr env s mid args below meth cod s₁ Bd hml hv
  obtain ⟨rfl, hP, hK⟩ := hv
  have hx := Bd.exec
  have hb := Bd.bytes
  have hr := Bd.returns
  have hts := atoms_spec (ws := wsX0_playerBehind) Bd.pre
  have hown : s.vm.findClass RX0 = some mid.cls := findClass_of_methodNamed Bd.named
  have hlocks := Bd.notSynchronized
  have hin : ∀ w ∈ wsX00, w ∈ wsX0_playerBehind := fun _ h => List.mem_cons_of_mem _ (List.mem_append_right _ h)
  have hl := lv_entry ([.ref x, .int m]) (n := 2) (Nat.le_of_ble_eq_true rfl)
  rw [lg_entry_eq]
  generalize (lg_sl ([.ref x, .int m]) ++ List.replicate (2 - (lg_sl ([.ref x, .int m])).length) Slot.unset).toArray = ls at hl ⊢
  have hl : lv_has ls 2 [(0, .ref x), (1, .int m)] := hl
  refine lv_iload_n hx hb dX0_playerBehind_0 rfl (lv_at hl 1 rfl) ?_
  refine lv_aload_n hx hb dX0_playerBehind_1 rfl (lv_at hl 0 rfl) ?_
  have hf13 := hts (.fieldLink RX0 13 "Clockmask" "maskOfPlayer" "[I") (by decide +kernel)
  refine va_get (D := D) (ci := 0) (v := .ref (a 1)) (C := RX0) (T := TX0) (N := 17) hx hb hts hin hown hK hP 0 rfl rfl 1 (by decide) hf13 (fun _ h9 => h9) rfl dX0_playerBehind_2 ?_
  refine vp_callSi (W.runS (As := [.int m, .ref (a 1)]) (rest := []) ⟨hx, hb, hml, hown, hts⟩ (c_X0_indexOf l D cI (a 1) (S 1) m) (va_cwS 2 hts gX0_playerBehind_X0_indexOf rfl rfl rfl (by decide +kernel) ⟨Nat.le_of_ble_eq_true rfl, Nat.le_of_ble_eq_true rfl⟩) (pR_S (hP.sub (ws' := [(a 1, .inl (cI, 6, .inl (S 1)))]) [2] rfl) (hK.sub (tys' := tyM cI) [0] rfl)) rfl rfl hl.1 rfl (lv_room (Nat.le_of_ble_eq_true rfl)) dX0_playerBehind_5 ⟨Nat.zero_le _, Nat.zero_le _⟩) (fun r_5 h_5 => ?_)
  subst h_5
  exact W.iret (v := fI (S 1) m) hx hb hr (fun t ht hW => ⟨_, rfl, rfl, ht⟩) (fun q h => by cases h) dX0_playerBehind_8
set_option maxHeartbeats 4000000 in
set_option maxRecDepth 100000 in
theorem c_X0_isReleased (l : Launch) (D : va_G) (cI cZ : ClassId) (x : Nat) (a : Nat → Nat) (S : ST) (q : Int32) (hq : vp_in q 24) (hw : S 7 q.toNatClampNeg = -1 ∨ vp_in (S 7 q.toNatClampNeg) 24) : Met l yX0_isReleased wsX0_isReleased rmX0_isReleased (va_Pc [.ref x, .int q] (pR D (tyX cI cZ) (wX cI cZ x a S))) (vp_Si (fun r => r = cif (S 7 q.toNatClampNeg = -1 ∨ S 8 (S 7 q.toNatClampNeg).toNatClampNeg = 1) 1 0)) 0 0 (fun _ => False) := by
  refine Met.ofW (cc := cX0_isReleased) (maxL := 3) (ret := (some .boolean)) (by decide) rfl ?_
  intro pr env s mid args below meth cod s₁ Bd hml hv
  obtain ⟨rfl, hP, hK⟩ := hv
  have hx := Bd.exec
  have hb := Bd.bytes
  have hr := Bd.returns
  have hts := atoms_spec (ws := wsX0_isReleased) Bd.pre
  have hown : s.vm.findClass RX0 = some mid.cls := findClass_of_methodNamed Bd.named
  have hlocks := Bd.notSynchronized
  have hin : ∀ w ∈ wsX00, w ∈ wsX0_isReleased := fun _ h => List.mem_cons_of_mem _ (List.mem_append_right _ h)
  have hl := lv_entry ([.ref x, .int q]) (n := 3) (Nat.le_of_ble_eq_true rfl)
  rw [lg_entry_eq]
  generalize (lg_sl ([.ref x, .int q]) ++ List.replicate (3 - (lg_sl ([.ref x, .int q])).length) Slot.unset).toArray = ls at hl ⊢
  have hl : lv_has ls 3 [(0, .ref x), (1, .int q)] := hl
  refine lv_aload_n hx hb dX0_isReleased_0 rfl (lv_at hl 0 rfl) ?_
  have hf32 := hts (.fieldLink RX0 32 "Clockmask" "cueWaits" "[I") (by decide +kernel)
  refine va_get (D := D) (ci := 0) (v := .ref (a 7)) (C := RX0) (T := TX0) (N := 17) hx hb hts hin hown hK hP 0 rfl rfl 7 (by decide) hf32 (fun _ h9 => h9) rfl dX0_isReleased_1 ?_
  refine lv_iload_n hx hb dX0_isReleased_4 rfl (lv_at hl 1 rfl) ?_
  refine va_iald (f := S 7) (n := 24) hx hb hK hP 8 0 rfl rfl (by assumption) dX0_isReleased_5 ?_
  refine lv_istore_n (lv' := [(2, .int (S 7 q.toNatClampNeg)), (0, .ref x), (1, .int q)]) hx hb dX0_isReleased_6 rfl hl (by decide) rfl (fun ls hl => ?_)
  refine lv_iload_n hx hb dX0_isReleased_7 rfl (lv_at hl 0 rfl) ?_
  refine lv_iconst (v := (-1)) hx hb dX0_isReleased_8 (by decide) ?_
  refine lv_icmp_eq (tgt := 22) hx hb dX0_isReleased_9 (by decide) (fun c_9 => ?_) (fun c_9 => ?_)
  · skip
    refine lv_iconst (v := 1) hx hb dX0_isReleased_22 (by decide) ?_
    refine lv_goto (tgt := 27) hx hb dX0_isReleased_23 (by decide) ?_
    exact W.zret (v := 1) (ty := .boolean) hx hb hr rfl (fun t ht hW => ⟨_, rfl, (cif_t (Or.inl c_9)).symm, ht⟩) (fun q h => by cases h) dX0_isReleased_27
  · skip
    refine lv_aload_n hx hb dX0_isReleased_12 rfl (lv_at hl 1 rfl) ?_
    have hf35 := hts (.fieldLink RX0 35 "Clockmask" "cueState" "[I") (by decide +kernel)
    refine va_get (D := D) (ci := 0) (v := .ref (a 8)) (C := RX0) (T := TX0) (N := 17) hx hb hts hin hown hK hP 0 rfl rfl 8 (by decide) hf35 (fun _ h9 => h9) rfl dX0_isReleased_13 ?_
    refine lv_iload_n hx hb dX0_isReleased_16 rfl (lv_at hl 0 rfl) ?_
    refine va_iald (f := S 8) (n := 24) hx hb hK hP 9 0 rfl rfl (hw.resolve_left c_9) dX0_isReleased_17 ?_
    refine lv_iconst (v := 1) hx hb dX0_isReleased_18 (by decide) ?_
    refine lv_icmp_ne (tgt := 26) hx hb dX0_isReleased_19 (by decide) (fun c_19 => ?_) (fun c_19 => ?_)
    · skip
      refine lv_iconst (v := 0) hx hb dX0_isReleased_26 (by decide) ?_
      exact W.zret (v := 0) (ty := .boolean) hx hb hr rfl (fun t ht hW => ⟨_, rfl, (cif_f (fun h => h.elim c_9 c_19)).symm, ht⟩) (fun q h => by cases h) dX0_isReleased_27
    · skip
      refine lv_iconst (v := 1) hx hb dX0_isReleased_22 (by decide) ?_
      refine lv_goto (tgt := 27) hx hb dX0_isReleased_23 (by decide) ?_
      exact W.zret (v := 1) (ty := .boolean) hx hb hr rfl (fun t ht hW => ⟨_, rfl, (cif_t (Or.inr c_19)).symm, ht⟩) (fun q h => by cases h) dX0_isReleased_27
set_option maxHeartbeats 4000000 in
set_option maxRecDepth 100000 in
theorem c_X0_waitsForMissed (l : Launch) (D : va_G) (cI cZ : ClassId) (x : Nat) (a : Nat → Nat) (S : ST) (q : Int32) (hq : vp_in q 24) (hw : S 7 q.toNatClampNeg = -1 ∨ vp_in (S 7 q.toNatClampNeg) 24) : Met l yX0_waitsForMissed wsX0_waitsForMissed rmX0_waitsForMissed (va_Pc [.ref x, .int q] (pR D (tyX cI cZ) (wX cI cZ x a S))) (vp_Si (fun r => r = cif (S 7 q.toNatClampNeg ≠ -1 ∧ S 8 (S 7 q.toNatClampNeg).toNatClampNeg = 2) 1 0)) 0 0 (fun _ => False) := by
  refine Met.ofW (cc := cX0_waitsForMissed) (maxL := 3) (ret := (some .boolean)) (by decide) rfl ?_
  intro pr env s mid args below meth cod s₁ Bd hml hv
  obtain ⟨rfl, hP, hK⟩ := hv
  have hx := Bd.exec
  have hb := Bd.bytes
  have hr := Bd.returns
  have hts := atoms_spec (ws := wsX0_waitsForMissed) Bd.pre
  have hown : s.vm.findClass RX0 = some mid.cls := findClass_of_methodNamed Bd.named
  have hlocks := Bd.notSynchronized
  have hin : ∀ w ∈ wsX00, w ∈ wsX0_waitsForMissed := fun _ h => List.mem_cons_of_mem _ (List.mem_append_right _ h)
  have hl := lv_entry ([.ref x, .int q]) (n := 3) (Nat.le_of_ble_eq_true rfl)
  rw [lg_entry_eq]
  generalize (lg_sl ([.ref x, .int q]) ++ List.replicate (3 - (lg_sl ([.ref x, .int q])).length) Slot.unset).toArray = ls at hl ⊢
  have hl : lv_has ls 3 [(0, .ref x), (1, .int q)] := hl
  refine lv_aload_n hx hb dX0_waitsForMissed_0 rfl (lv_at hl 0 rfl) ?_
  have hf32 := hts (.fieldLink RX0 32 "Clockmask" "cueWaits" "[I") (by decide +kernel)
  refine va_get (D := D) (ci := 0) (v := .ref (a 7)) (C := RX0) (T := TX0) (N := 17) hx hb hts hin hown hK hP 0 rfl rfl 7 (by decide) hf32 (fun _ h9 => h9) rfl dX0_waitsForMissed_1 ?_
  refine lv_iload_n hx hb dX0_waitsForMissed_4 rfl (lv_at hl 1 rfl) ?_
  refine va_iald (f := S 7) (n := 24) hx hb hK hP 8 0 rfl rfl (by assumption) dX0_waitsForMissed_5 ?_
  refine lv_istore_n (lv' := [(2, .int (S 7 q.toNatClampNeg)), (0, .ref x), (1, .int q)]) hx hb dX0_waitsForMissed_6 rfl hl (by decide) rfl (fun ls hl => ?_)
  refine lv_iload_n hx hb dX0_waitsForMissed_7 rfl (lv_at hl 0 rfl) ?_
  refine lv_iconst (v := (-1)) hx hb dX0_waitsForMissed_8 (by decide) ?_
  refine lv_icmp_eq (tgt := 26) hx hb dX0_waitsForMissed_9 (by decide) (fun c_9 => ?_) (fun c_9 => ?_)
  · skip
    refine lv_iconst (v := 0) hx hb dX0_waitsForMissed_26 (by decide) ?_
    exact W.zret (v := 0) (ty := .boolean) hx hb hr rfl (fun t ht hW => ⟨_, rfl, (cif_f (fun h => h.1 c_9)).symm, ht⟩) (fun q h => by cases h) dX0_waitsForMissed_27
  · skip
    refine lv_aload_n hx hb dX0_waitsForMissed_12 rfl (lv_at hl 1 rfl) ?_
    have hf35 := hts (.fieldLink RX0 35 "Clockmask" "cueState" "[I") (by decide +kernel)
    refine va_get (D := D) (ci := 0) (v := .ref (a 8)) (C := RX0) (T := TX0) (N := 17) hx hb hts hin hown hK hP 0 rfl rfl 8 (by decide) hf35 (fun _ h9 => h9) rfl dX0_waitsForMissed_13 ?_
    refine lv_iload_n hx hb dX0_waitsForMissed_16 rfl (lv_at hl 0 rfl) ?_
    refine va_iald (f := S 8) (n := 24) hx hb hK hP 9 0 rfl rfl (hw.resolve_left c_9) dX0_waitsForMissed_17 ?_
    refine lv_iconst (v := 2) hx hb dX0_waitsForMissed_18 (by decide) ?_
    refine lv_icmp_ne (tgt := 26) hx hb dX0_waitsForMissed_19 (by decide) (fun c_19 => ?_) (fun c_19 => ?_)
    · skip
      refine lv_iconst (v := 0) hx hb dX0_waitsForMissed_26 (by decide) ?_
      exact W.zret (v := 0) (ty := .boolean) hx hb hr rfl (fun t ht hW => ⟨_, rfl, (cif_f (fun h => c_19 h.2)).symm, ht⟩) (fun q h => by cases h) dX0_waitsForMissed_27
    · skip
      refine lv_iconst (v := 1) hx hb dX0_waitsForMissed_22 (by decide) ?_
      refine lv_goto (tgt := 27) hx hb dX0_waitsForMissed_23 (by decide) ?_
      exact W.zret (v := 1) (ty := .boolean) hx hb hr rfl (fun t ht hW => ⟨_, rfl, (cif_t ⟨c_9, c_19⟩).symm, ht⟩) (fun q h => by cases h) dX0_waitsForMissed_27
set_option maxHeartbeats 4000000 in
set_option maxRecDepth 100000 in
theorem c_X0_canSwap (l : Launch) (D : va_G) (cI cZ : ClassId) (x : Nat) (a : Nat → Nat) (S : ST) (p : Int32) (o : Int32) (hp : vp_in p 6) (ho : vp_in o 6) : Met l yX0_canSwap wsX0_canSwap rmX0_canSwap (va_Pc [.ref x, .int p, .int o] (pR D (tyX cI cZ) (wX cI cZ x a S))) (vp_Si (fun r => r = cif (S 2 p.toNatClampNeg ≠ 0 ∧ S 2 o.toNatClampNeg ≠ 0 ∧ (S 1 p.toNatClampNeg ≠ -1 ∨ S 1 o.toNatClampNeg ≠ -1)) 1 0)) 0 0 (fun _ => False) := by
  refine Met.ofW (cc := cX0_canSwap) (maxL := 4) (ret := (some .boolean)) (by decide) rfl ?_
  intro pr env s mid args below meth cod s₁ Bd hml hv
  obtain ⟨rfl, hP, hK⟩ := hv
  have hx := Bd.exec
  have hb := Bd.bytes
  have hr := Bd.returns
  have hts := atoms_spec (ws := wsX0_canSwap) Bd.pre
  have hown : s.vm.findClass RX0 = some mid.cls := findClass_of_methodNamed Bd.named
  have hlocks := Bd.notSynchronized
  have hin : ∀ w ∈ wsX00, w ∈ wsX0_canSwap := fun _ h => List.mem_cons_of_mem _ (List.mem_append_right _ h)
  have hl := lv_entry ([.ref x, .int p, .int o]) (n := 4) (Nat.le_of_ble_eq_true rfl)
  rw [lg_entry_eq]
  generalize (lg_sl ([.ref x, .int p, .int o]) ++ List.replicate (4 - (lg_sl ([.ref x, .int p, .int o])).length) Slot.unset).toArray = ls at hl ⊢
  have hl : lv_has ls 4 [(0, .ref x), (1, .int p), (2, .int o)] := hl
  refine lv_aload_n hx hb dX0_canSwap_0 rfl (lv_at hl 0 rfl) ?_
  have hf16 := hts (.fieldLink RX0 16 "Clockmask" "onStage" "[Z") (by decide +kernel)
  refine va_get (D := D) (ci := 0) (v := .ref (a 2)) (C := RX0) (T := TX0) (N := 17) hx hb hts hin hown hK hP 0 rfl rfl 2 (by decide) hf16 (fun _ h9 => h9) rfl dX0_canSwap_1 ?_
  refine lv_iload_n hx hb dX0_canSwap_4 rfl (lv_at hl 1 rfl) ?_
  refine va_zald (f := S 2) (n := 6) hx hb hK hP 3 1 rfl rfl (by assumption) dX0_canSwap_5 ?_
  refine lv_if_eq (tgt := 22) hx hb dX0_canSwap_6 (by decide) (fun c_6 => ?_) (fun c_6 => ?_)
  · skip
    refine lv_iconst (v := 0) hx hb dX0_canSwap_22 (by decide) ?_
    refine lv_istore_n (lv' := [(3, .int 0), (0, .ref x), (1, .int p), (2, .int o)]) hx hb dX0_canSwap_23 rfl hl (by decide) rfl (fun ls hl => ?_)
    refine lv_iload_n hx hb dX0_canSwap_24 rfl (lv_at hl 0 rfl) ?_
    refine lv_if_eq (tgt := 52) hx hb dX0_canSwap_25 (by decide) (fun c_25 => ?_) (fun c_25 => ?_)
    · skip
      refine lv_iconst (v := 0) hx hb dX0_canSwap_52 (by decide) ?_
      exact W.zret (v := 0) (ty := .boolean) hx hb hr rfl (fun t ht hW => ⟨_, rfl, (cif_f (fun h => h.1 c_6)).symm, ht⟩) (fun q h => by cases h) dX0_canSwap_53
    · skip
      exact absurd c_25 (by decide)
  · skip
    refine lv_aload_n hx hb dX0_canSwap_9 rfl (lv_at hl 0 rfl) ?_
    refine va_get (D := D) (ci := 0) (v := .ref (a 2)) (C := RX0) (T := TX0) (N := 17) hx hb hts hin hown hK hP 0 rfl rfl 2 (by decide) hf16 (fun _ h9 => h9) rfl dX0_canSwap_10 ?_
    refine lv_iload_n hx hb dX0_canSwap_13 rfl (lv_at hl 2 rfl) ?_
    refine va_zald (f := S 2) (n := 6) hx hb hK hP 3 1 rfl rfl (by assumption) dX0_canSwap_14 ?_
    refine lv_if_eq (tgt := 22) hx hb dX0_canSwap_15 (by decide) (fun c_15 => ?_) (fun c_15 => ?_)
    · skip
      refine lv_iconst (v := 0) hx hb dX0_canSwap_22 (by decide) ?_
      refine lv_istore_n (lv' := [(3, .int 0), (0, .ref x), (1, .int p), (2, .int o)]) hx hb dX0_canSwap_23 rfl hl (by decide) rfl (fun ls hl => ?_)
      refine lv_iload_n hx hb dX0_canSwap_24 rfl (lv_at hl 0 rfl) ?_
      refine lv_if_eq (tgt := 52) hx hb dX0_canSwap_25 (by decide) (fun c_25 => ?_) (fun c_25 => ?_)
      · skip
        refine lv_iconst (v := 0) hx hb dX0_canSwap_52 (by decide) ?_
        exact W.zret (v := 0) (ty := .boolean) hx hb hr rfl (fun t ht hW => ⟨_, rfl, (cif_f (fun h => h.2.1 c_15)).symm, ht⟩) (fun q h => by cases h) dX0_canSwap_53
      · skip
        exact absurd c_25 (by decide)
    · skip
      refine lv_iconst (v := 1) hx hb dX0_canSwap_18 (by decide) ?_
      refine lv_goto (tgt := 23) hx hb dX0_canSwap_19 (by decide) ?_
      refine lv_istore_n (lv' := [(3, .int 1), (0, .ref x), (1, .int p), (2, .int o)]) hx hb dX0_canSwap_23 rfl hl (by decide) rfl (fun ls hl => ?_)
      refine lv_iload_n hx hb dX0_canSwap_24 rfl (lv_at hl 0 rfl) ?_
      refine lv_if_eq (tgt := 52) hx hb dX0_canSwap_25 (by decide) (fun c_25 => ?_) (fun c_25 => ?_)
      · skip
        exact absurd c_25 (by decide)
      · skip
        refine lv_aload_n hx hb dX0_canSwap_28 rfl (lv_at hl 1 rfl) ?_
        have hf13 := hts (.fieldLink RX0 13 "Clockmask" "maskOfPlayer" "[I") (by decide +kernel)
        refine va_get (D := D) (ci := 0) (v := .ref (a 1)) (C := RX0) (T := TX0) (N := 17) hx hb hts hin hown hK hP 0 rfl rfl 1 (by decide) hf13 (fun _ h9 => h9) rfl dX0_canSwap_29 ?_
        refine lv_iload_n hx hb dX0_canSwap_32 rfl (lv_at hl 2 rfl) ?_
        refine va_iald (f := S 1) (n := 6) hx hb hK hP 2 0 rfl rfl (by assumption) dX0_canSwap_33 ?_
        refine lv_iconst (v := (-1)) hx hb dX0_canSwap_34 (by decide) ?_
        refine lv_icmp_ne (tgt := 48) hx hb dX0_canSwap_35 (by decide) (fun c_35 => ?_) (fun c_35 => ?_)
        · skip
          refine lv_iconst (v := 1) hx hb dX0_canSwap_48 (by decide) ?_
          refine lv_goto (tgt := 53) hx hb dX0_canSwap_49 (by decide) ?_
          exact W.zret (v := 1) (ty := .boolean) hx hb hr rfl (fun t ht hW => ⟨_, rfl, (cif_t ⟨c_6, c_15, Or.inl c_35⟩).symm, ht⟩) (fun q h => by cases h) dX0_canSwap_53
        · skip
          refine lv_aload_n hx hb dX0_canSwap_38 rfl (lv_at hl 1 rfl) ?_
          refine va_get (D := D) (ci := 0) (v := .ref (a 1)) (C := RX0) (T := TX0) (N := 17) hx hb hts hin hown hK hP 0 rfl rfl 1 (by decide) hf13 (fun _ h9 => h9) rfl dX0_canSwap_39 ?_
          refine lv_iload_n hx hb dX0_canSwap_42 rfl (lv_at hl 3 rfl) ?_
          refine va_iald (f := S 1) (n := 6) hx hb hK hP 2 0 rfl rfl (by assumption) dX0_canSwap_43 ?_
          refine lv_iconst (v := (-1)) hx hb dX0_canSwap_44 (by decide) ?_
          refine lv_icmp_eq (tgt := 52) hx hb dX0_canSwap_45 (by decide) (fun c_45 => ?_) (fun c_45 => ?_)
          · skip
            refine lv_iconst (v := 0) hx hb dX0_canSwap_52 (by decide) ?_
            exact W.zret (v := 0) (ty := .boolean) hx hb hr rfl (fun t ht hW => ⟨_, rfl, (cif_f (fun h => h.2.2.elim (fun z => z c_35) (fun z => z c_45))).symm, ht⟩) (fun q h => by cases h) dX0_canSwap_53
          · skip
            refine lv_iconst (v := 1) hx hb dX0_canSwap_48 (by decide) ?_
            refine lv_goto (tgt := 53) hx hb dX0_canSwap_49 (by decide) ?_
            exact W.zret (v := 1) (ty := .boolean) hx hb hr rfl (fun t ht hW => ⟨_, rfl, (cif_t ⟨c_6, c_15, Or.inr c_45⟩).symm, ht⟩) (fun q h => by cases h) dX0_canSwap_53
set_option maxHeartbeats 4000000 in
set_option maxRecDepth 100000 in
theorem c_X0_canBeDone (l : Launch) (D : va_G) (cI cZ : ClassId) (x : Nat) (a : Nat → Nat) (S : ST) (q : Int32) (hq : vp_in q 24) (hc : cueOK S q.toNatClampNeg) : Met l yX0_canBeDone wsX0_canBeDone rmX0_canBeDone (va_Pc [.ref x, .int q] (pR D (tyX cI cZ) (wX cI cZ x a S))) (vp_Si (fun r => r = cif (done S q.toNatClampNeg) 1 0)) 0 0 (fun _ => False) := by
  refine Met.ofW (cc := cX0_canBeDone) (maxL := 4) (ret := (some .boolean)) (by decide) rfl ?_
  intro pr env s mid args below meth cod s₁ Bd hml hv
  obtain ⟨rfl, hP, hK⟩ := hv
  have hx := Bd.exec
  have hb := Bd.bytes
  have hr := Bd.returns
  have hts := atoms_spec (ws := wsX0_canBeDone) Bd.pre
  have hown : s.vm.findClass RX0 = some mid.cls := findClass_of_methodNamed Bd.named
  have hlocks := Bd.notSynchronized
  have hin : ∀ w ∈ wsX00, w ∈ wsX0_canBeDone := fun _ h => List.mem_cons_of_mem _ (List.mem_append_right _ h)
  have hl := lv_entry ([.ref x, .int q]) (n := 4) (Nat.le_of_ble_eq_true rfl)
  rw [lg_entry_eq]
  generalize (lg_sl ([.ref x, .int q]) ++ List.replicate (4 - (lg_sl ([.ref x, .int q])).length) Slot.unset).toArray = ls at hl ⊢
  have hl : lv_has ls 4 [(0, .ref x), (1, .int q)] := hl
  obtain ⟨hk, hp, ho, hw, hs⟩ := hc
  refine lv_aload_n hx hb dX0_canBeDone_0 rfl (lv_at hl 0 rfl) ?_
  have hf26 := hts (.fieldLink RX0 26 "Clockmask" "cuePlayer" "[I") (by decide +kernel)
  refine va_get (D := D) (ci := 0) (v := .ref (a 5)) (C := RX0) (T := TX0) (N := 17) hx hb hts hin hown hK hP 0 rfl rfl 5 (by decide) hf26 (fun _ h9 => h9) rfl dX0_canBeDone_1 ?_
  refine lv_iload_n hx hb dX0_canBeDone_4 rfl (lv_at hl 1 rfl) ?_
  refine va_iald (f := S 5) (n := 24) hx hb hK hP 6 0 rfl rfl (by assumption) dX0_canBeDone_5 ?_
  refine lv_istore_n (lv' := [(2, .int (S 5 q.toNatClampNeg)), (0, .ref x), (1, .int q)]) hx hb dX0_canBeDone_6 rfl hl (by decide) rfl (fun ls hl => ?_)
  refine lv_aload_n hx hb dX0_canBeDone_7 rfl (lv_at hl 1 rfl) ?_
  have hf29 := hts (.fieldLink RX0 29 "Clockmask" "cueOther" "[I") (by decide +kernel)
  refine va_get (D := D) (ci := 0) (v := .ref (a 6)) (C := RX0) (T := TX0) (N := 17) hx hb hts hin hown hK hP 0 rfl rfl 6 (by decide) hf29 (fun _ h9 => h9) rfl dX0_canBeDone_8 ?_
  refine lv_iload_n hx hb dX0_canBeDone_11 rfl (lv_at hl 2 rfl) ?_
  refine va_iald (f := S 6) (n := 24) hx hb hK hP 7 0 rfl rfl (by assumption) dX0_canBeDone_12 ?_
  refine lv_istore_n (lv' := [(3, .int (S 6 q.toNatClampNeg)), (2, .int (S 5 q.toNatClampNeg)), (0, .ref x), (1, .int q)]) hx hb dX0_canBeDone_13 rfl hl (by decide) rfl (fun ls hl => ?_)
  refine lv_aload_n hx hb dX0_canBeDone_14 rfl (lv_at hl 2 rfl) ?_
  have hf23 := hts (.fieldLink RX0 23 "Clockmask" "cueKind" "[I") (by decide +kernel)
  refine va_get (D := D) (ci := 0) (v := .ref (a 4)) (C := RX0) (T := TX0) (N := 17) hx hb hts hin hown hK hP 0 rfl rfl 4 (by decide) hf23 (fun _ h9 => h9) rfl dX0_canBeDone_15 ?_
  refine lv_iload_n hx hb dX0_canBeDone_18 rfl (lv_at hl 3 rfl) ?_
  refine va_iald (f := S 4) (n := 24) hx hb hK hP 5 0 rfl rfl (by assumption) dX0_canBeDone_19 ?_
  by_cases c_20_0 : S 4 q.toNatClampNeg = 0
  · refine lv_tableIn (tgt := 52) (off := 32) hx hb dX0_canBeDone_20 (by rw [c_20_0]; decide) (by rw [c_20_0]; decide) (by rw [c_20_0]; rfl) (by decide) ?_
    refine lv_aload_n hx hb dX0_canBeDone_52 rfl (lv_at hl 2 rfl) ?_
    have hf16 := hts (.fieldLink RX0 16 "Clockmask" "onStage" "[Z") (by decide +kernel)
    refine va_get (D := D) (ci := 0) (v := .ref (a 2)) (C := RX0) (T := TX0) (N := 17) hx hb hts hin hown hK hP 0 rfl rfl 2 (by decide) hf16 (fun _ h9 => h9) rfl dX0_canBeDone_53 ?_
    refine lv_iload_n hx hb dX0_canBeDone_56 rfl (lv_at hl 1 rfl) ?_
    refine va_zald (f := S 2) (n := 6) hx hb hK hP 3 1 rfl rfl hp dX0_canBeDone_57 ?_
    refine lv_if_ne (tgt := 75) hx hb dX0_canBeDone_58 (by decide) (fun c_58 => ?_) (fun c_58 => ?_)
    · skip
      refine lv_iconst (v := 0) hx hb dX0_canBeDone_75 (by decide) ?_
      exact W.zret (v := 0) (ty := .boolean) hx hb hr rfl (fun t ht hW => ⟨_, rfl, by rw [done0 c_20_0]; exact (cif_f (fun h => c_58 h.1)).symm, ht⟩) (fun q h => by cases h) dX0_canBeDone_76
    · skip
      refine lv_aload_n hx hb dX0_canBeDone_61 rfl (lv_at hl 2 rfl) ?_
      have hf9 := hts (.fieldLink RX0 9 "Clockmask" "costumeOfPlayer" "[I") (by decide +kernel)
      refine va_get (D := D) (ci := 0) (v := .ref (a 0)) (C := RX0) (T := TX0) (N := 17) hx hb hts hin hown hK hP 0 rfl rfl 0 (by decide) hf9 (fun _ h9 => h9) rfl dX0_canBeDone_62 ?_
      refine lv_iload_n hx hb dX0_canBeDone_65 rfl (lv_at hl 1 rfl) ?_
      refine va_iald (f := S 0) (n := 6) hx hb hK hP 1 0 rfl rfl hp dX0_canBeDone_66 ?_
      refine lv_iconst (v := (-1)) hx hb dX0_canBeDone_67 (by decide) ?_
      refine lv_icmp_eq (tgt := 75) hx hb dX0_canBeDone_68 (by decide) (fun c_68 => ?_) (fun c_68 => ?_)
      · skip
        refine lv_iconst (v := 0) hx hb dX0_canBeDone_75 (by decide) ?_
        exact W.zret (v := 0) (ty := .boolean) hx hb hr rfl (fun t ht hW => ⟨_, rfl, by rw [done0 c_20_0]; exact (cif_f (fun h => h.2 c_68)).symm, ht⟩) (fun q h => by cases h) dX0_canBeDone_76
      · skip
        refine lv_iconst (v := 1) hx hb dX0_canBeDone_71 (by decide) ?_
        refine lv_goto (tgt := 76) hx hb dX0_canBeDone_72 (by decide) ?_
        exact W.zret (v := 1) (ty := .boolean) hx hb hr rfl (fun t ht hW => ⟨_, rfl, by rw [done0 c_20_0]; exact (cif_t ⟨c_58, c_68⟩).symm, ht⟩) (fun q h => by cases h) dX0_canBeDone_76
  by_cases c_20_1 : S 4 q.toNatClampNeg = 1
  · refine lv_tableIn (tgt := 77) (off := 57) hx hb dX0_canBeDone_20 (by rw [c_20_1]; decide) (by rw [c_20_1]; decide) (by rw [c_20_1]; rfl) (by decide) ?_
    refine lv_aload_n hx hb dX0_canBeDone_77 rfl (lv_at hl 2 rfl) ?_
    have hf16 := hts (.fieldLink RX0 16 "Clockmask" "onStage" "[Z") (by decide +kernel)
    refine va_get (D := D) (ci := 0) (v := .ref (a 2)) (C := RX0) (T := TX0) (N := 17) hx hb hts hin hown hK hP 0 rfl rfl 2 (by decide) hf16 (fun _ h9 => h9) rfl dX0_canBeDone_78 ?_
    refine lv_iload_n hx hb dX0_canBeDone_81 rfl (lv_at hl 1 rfl) ?_
    refine va_zald (f := S 2) (n := 6) hx hb hK hP 3 1 rfl rfl hp dX0_canBeDone_82 ?_
    exact W.zret (v := S 2 (S 5 q.toNatClampNeg).toNatClampNeg) (ty := .boolean) hx hb hr (by rcases hs with h | h <;> rw [h] <;> rfl) (fun t ht hW => ⟨_, rfl, by rw [done1 c_20_1]; exact hs.elim (fun h => by rw [h]; exact (cif_f (fun z => z rfl)).symm) (fun h => by rw [h]; exact (cif_t (by decide)).symm), ht⟩) (fun q h => by cases h) dX0_canBeDone_83
  by_cases c_20_2 : S 4 q.toNatClampNeg = 2
  · refine lv_tableIn (tgt := 84) (off := 64) hx hb dX0_canBeDone_20 (by rw [c_20_2]; decide) (by rw [c_20_2]; decide) (by rw [c_20_2]; rfl) (by decide) ?_
    refine lv_aload_n hx hb dX0_canBeDone_84 rfl (lv_at hl 2 rfl) ?_
    have hf13 := hts (.fieldLink RX0 13 "Clockmask" "maskOfPlayer" "[I") (by decide +kernel)
    refine va_get (D := D) (ci := 0) (v := .ref (a 1)) (C := RX0) (T := TX0) (N := 17) hx hb hts hin hown hK hP 0 rfl rfl 1 (by decide) hf13 (fun _ h9 => h9) rfl dX0_canBeDone_85 ?_
    refine lv_iload_n hx hb dX0_canBeDone_88 rfl (lv_at hl 1 rfl) ?_
    refine va_iald (f := S 1) (n := 6) hx hb hK hP 2 0 rfl rfl hp dX0_canBeDone_89 ?_
    refine lv_iconst (v := (-1)) hx hb dX0_canBeDone_90 (by decide) ?_
    refine lv_icmp_ne (tgt := 107) hx hb dX0_canBeDone_91 (by decide) (fun c_91 => ?_) (fun c_91 => ?_)
    · skip
      refine lv_iconst (v := 0) hx hb dX0_canBeDone_107 (by decide) ?_
      exact W.zret (v := 0) (ty := .boolean) hx hb hr rfl (fun t ht hW => ⟨_, rfl, by rw [done2 c_20_2]; exact (cif_f (fun h => c_91 h.1)).symm, ht⟩) (fun q h => by cases h) dX0_canBeDone_108
    · skip
      refine lv_aload_n hx hb dX0_canBeDone_94 rfl (lv_at hl 2 rfl) ?_
      refine lv_iload_n hx hb dX0_canBeDone_95 rfl (lv_at hl 0 rfl) ?_
      refine vp_callSi (W.runV (As := [.int (S 6 q.toNatClampNeg)]) (rest := []) ⟨hx, hb, hml, hown, hts⟩ (c_X0_playerBehind l D cI cZ x a S (S 6 q.toNatClampNeg)) (cwV 1 hts gX0_canBeDone_X0_playerBehind rfl rfl rfl (by decide +kernel) ⟨Nat.le_of_ble_eq_true rfl, Nat.le_of_ble_eq_true rfl⟩) (pR_V (ci := 0) hP hK rfl rfl) rfl rfl hl.1 rfl (lv_room (Nat.le_of_ble_eq_true rfl)) dX0_canBeDone_96 ⟨Nat.zero_le _, Nat.zero_le _⟩) (fun r_96 h_96 => ?_)
      subst h_96
      refine lv_iconst (v := (-1)) hx hb dX0_canBeDone_99 (by decide) ?_
      refine lv_icmp_ne (tgt := 107) hx hb dX0_canBeDone_100 (by decide) (fun c_100 => ?_) (fun c_100 => ?_)
      · skip
        refine lv_iconst (v := 0) hx hb dX0_canBeDone_107 (by decide) ?_
        exact W.zret (v := 0) (ty := .boolean) hx hb hr rfl (fun t ht hW => ⟨_, rfl, by rw [done2 c_20_2]; exact (cif_f (fun h => c_100 h.2)).symm, ht⟩) (fun q h => by cases h) dX0_canBeDone_108
      · skip
        refine lv_iconst (v := 1) hx hb dX0_canBeDone_103 (by decide) ?_
        refine lv_goto (tgt := 108) hx hb dX0_canBeDone_104 (by decide) ?_
        exact W.zret (v := 1) (ty := .boolean) hx hb hr rfl (fun t ht hW => ⟨_, rfl, by rw [done2 c_20_2]; exact (cif_t ⟨c_91, c_100⟩).symm, ht⟩) (fun q h => by cases h) dX0_canBeDone_108
  by_cases c_20_3 : S 4 q.toNatClampNeg = 3
  · refine lv_tableIn (tgt := 109) (off := 89) hx hb dX0_canBeDone_20 (by rw [c_20_3]; decide) (by rw [c_20_3]; decide) (by rw [c_20_3]; rfl) (by decide) ?_
    refine lv_aload_n hx hb dX0_canBeDone_109 rfl (lv_at hl 2 rfl) ?_
    have hf13 := hts (.fieldLink RX0 13 "Clockmask" "maskOfPlayer" "[I") (by decide +kernel)
    refine va_get (D := D) (ci := 0) (v := .ref (a 1)) (C := RX0) (T := TX0) (N := 17) hx hb hts hin hown hK hP 0 rfl rfl 1 (by decide) hf13 (fun _ h9 => h9) rfl dX0_canBeDone_110 ?_
    refine lv_iload_n hx hb dX0_canBeDone_113 rfl (lv_at hl 1 rfl) ?_
    refine va_iald (f := S 1) (n := 6) hx hb hK hP 2 0 rfl rfl hp dX0_canBeDone_114 ?_
    refine lv_iconst (v := (-1)) hx hb dX0_canBeDone_115 (by decide) ?_
    refine lv_icmp_eq (tgt := 123) hx hb dX0_canBeDone_116 (by decide) (fun c_116 => ?_) (fun c_116 => ?_)
    · skip
      refine lv_iconst (v := 0) hx hb dX0_canBeDone_123 (by decide) ?_
      exact W.zret (v := 0) (ty := .boolean) hx hb hr rfl (fun t ht hW => ⟨_, rfl, by rw [done3 c_20_3]; exact (cif_f (fun h => h c_116)).symm, ht⟩) (fun q h => by cases h) dX0_canBeDone_124
    · skip
      refine lv_iconst (v := 1) hx hb dX0_canBeDone_119 (by decide) ?_
      refine lv_goto (tgt := 124) hx hb dX0_canBeDone_120 (by decide) ?_
      exact W.zret (v := 1) (ty := .boolean) hx hb hr rfl (fun t ht hW => ⟨_, rfl, by rw [done3 c_20_3]; exact (cif_t c_116).symm, ht⟩) (fun q h => by cases h) dX0_canBeDone_124
  · refine lv_tableOut (tgt := 125) hx hb dX0_canBeDone_20 (Or.inr (by rw [kind4 hk c_20_0 c_20_1 c_20_2 c_20_3]; decide)) (by decide) ?_
    refine lv_aload_n hx hb dX0_canBeDone_125 rfl (lv_at hl 2 rfl) ?_
    refine lv_iload_n hx hb dX0_canBeDone_126 rfl (lv_at hl 1 rfl) ?_
    refine lv_iload_n hx hb dX0_canBeDone_127 rfl (lv_at hl 0 rfl) ?_
    refine vp_callSi (W.runV (As := [.int (S 5 q.toNatClampNeg), .int (S 6 q.toNatClampNeg)]) (rest := []) ⟨hx, hb, hml, hown, hts⟩ (c_X0_canSwap l D cI cZ x a S (S 5 q.toNatClampNeg) (S 6 q.toNatClampNeg) hp (ho (Or.inr (kind4 hk c_20_0 c_20_1 c_20_2 c_20_3)))) (cwV 2 hts gX0_canBeDone_X0_canSwap rfl rfl rfl (by decide +kernel) ⟨Nat.le_of_ble_eq_true rfl, Nat.le_of_ble_eq_true rfl⟩) (pR_V (ci := 0) hP hK rfl rfl) rfl rfl hl.1 rfl (lv_room (Nat.le_of_ble_eq_true rfl)) dX0_canBeDone_128 ⟨Nat.zero_le _, Nat.zero_le _⟩) (fun r_128 h_128 => ?_)
    exact W.zret (v := r_128) (ty := .boolean) hx hb hr (by rw [h_128]; exact cif_nar) (fun t ht hW => ⟨_, rfl, by rw [h_128, done4 c_20_0 c_20_1 c_20_2 c_20_3], ht⟩) (fun q h => by cases h) dX0_canBeDone_131
set_option maxHeartbeats 4000000 in
set_option maxRecDepth 100000 in
theorem c_X0_isCallable (l : Launch) (D : va_G) (cI cZ : ClassId) (x : Nat) (a : Nat → Nat) (S : ST) (q : Int32) (hq : vp_in q 24) (hc : cueOK S q.toNatClampNeg) : Met l yX0_isCallable wsX0_isCallable rmX0_isCallable (va_Pc [.ref x, .int q] (pR D (tyX cI cZ) (wX cI cZ x a S))) (vp_Si (fun r => r = cif (cal S q.toNatClampNeg) 1 0)) 0 0 (fun _ => False) := by
  refine Met.ofW (cc := cX0_isCallable) (maxL := 2) (ret := (some .boolean)) (by decide) rfl ?_
  intro pr env s mid args below meth cod s₁ Bd hml hv
  obtain ⟨rfl, hP, hK⟩ := hv
  have hx := Bd.exec
  have hb := Bd.bytes
  have hr := Bd.returns
  have hts := atoms_spec (ws := wsX0_isCallable) Bd.pre
  have hown : s.vm.findClass RX0 = some mid.cls := findClass_of_methodNamed Bd.named
  have hlocks := Bd.notSynchronized
  have hin : ∀ w ∈ wsX00, w ∈ wsX0_isCallable := fun _ h => List.mem_cons_of_mem _ (List.mem_append_right _ h)
  have hl := lv_entry ([.ref x, .int q]) (n := 2) (Nat.le_of_ble_eq_true rfl)
  rw [lg_entry_eq]
  generalize (lg_sl ([.ref x, .int q]) ++ List.replicate (2 - (lg_sl ([.ref x, .int q])).length) Slot.unset).toArray = ls at hl ⊢
  have hl : lv_has ls 2 [(0, .ref x), (1, .int q)] := hl
  refine lv_aload_n hx hb dX0_isCallable_0 rfl (lv_at hl 0 rfl) ?_
  have hf35 := hts (.fieldLink RX0 35 "Clockmask" "cueState" "[I") (by decide +kernel)
  refine va_get (D := D) (ci := 0) (v := .ref (a 8)) (C := RX0) (T := TX0) (N := 17) hx hb hts hin hown hK hP 0 rfl rfl 8 (by decide) hf35 (fun _ h9 => h9) rfl dX0_isCallable_1 ?_
  refine lv_iload_n hx hb dX0_isCallable_4 rfl (lv_at hl 1 rfl) ?_
  refine va_iald (f := S 8) (n := 24) hx hb hK hP 9 0 rfl rfl (by assumption) dX0_isCallable_5 ?_
  refine lv_if_ne (tgt := 29) hx hb dX0_isCallable_6 (by decide) (fun c_6 => ?_) (fun c_6 => ?_)
  · skip
    refine lv_iconst (v := 0) hx hb dX0_isCallable_29 (by decide) ?_
    exact W.zret (v := 0) (ty := .boolean) hx hb hr rfl (fun t ht hW => ⟨_, rfl, (cif_f (fun h => c_6 h.1)).symm, ht⟩) (fun q h => by cases h) dX0_isCallable_30
  · skip
    refine lv_aload_n hx hb dX0_isCallable_9 rfl (lv_at hl 0 rfl) ?_
    refine lv_iload_n hx hb dX0_isCallable_10 rfl (lv_at hl 1 rfl) ?_
    refine vp_callSi (W.runV (As := [.int q]) (rest := []) ⟨hx, hb, hml, hown, hts⟩ (c_X0_isReleased l D cI cZ x a S q hq hc.2.2.2.1) (cwV 1 hts gX0_isCallable_X0_isReleased rfl rfl rfl (by decide +kernel) ⟨Nat.le_of_ble_eq_true rfl, Nat.le_of_ble_eq_true rfl⟩) (pR_V (ci := 0) hP hK rfl rfl) rfl rfl hl.1 rfl (lv_room (Nat.le_of_ble_eq_true rfl)) dX0_isCallable_11 ⟨Nat.zero_le _, Nat.zero_le _⟩) (fun r_11 h_11 => ?_)
    refine lv_if_eq (tgt := 29) hx hb dX0_isCallable_14 (by decide) (fun c_14 => ?_) (fun c_14 => ?_)
    · skip
      have b_11 := cif_b0 h_11 c_14
      refine lv_iconst (v := 0) hx hb dX0_isCallable_29 (by decide) ?_
      exact W.zret (v := 0) (ty := .boolean) hx hb hr rfl (fun t ht hW => ⟨_, rfl, (cif_f (fun h => b_11 h.2.1)).symm, ht⟩) (fun q h => by cases h) dX0_isCallable_30
    · skip
      have b_11 := cif_b1 h_11 c_14
      refine lv_aload_n hx hb dX0_isCallable_17 rfl (lv_at hl 0 rfl) ?_
      refine lv_iload_n hx hb dX0_isCallable_18 rfl (lv_at hl 1 rfl) ?_
      refine vp_callSi (W.runV (As := [.int q]) (rest := []) ⟨hx, hb, hml, hown, hts⟩ (c_X0_canBeDone l D cI cZ x a S q hq hc) (cwV 1 hts gX0_isCallable_X0_canBeDone rfl rfl rfl (by decide +kernel) ⟨Nat.le_of_ble_eq_true rfl, Nat.le_of_ble_eq_true rfl⟩) (pR_V (ci := 0) hP hK rfl rfl) rfl rfl hl.1 rfl (lv_room (Nat.le_of_ble_eq_true rfl)) dX0_isCallable_19 ⟨Nat.zero_le _, Nat.zero_le _⟩) (fun r_19 h_19 => ?_)
      refine lv_if_eq (tgt := 29) hx hb dX0_isCallable_22 (by decide) (fun c_22 => ?_) (fun c_22 => ?_)
      · skip
        have b_19 := cif_b0 h_19 c_22
        refine lv_iconst (v := 0) hx hb dX0_isCallable_29 (by decide) ?_
        exact W.zret (v := 0) (ty := .boolean) hx hb hr rfl (fun t ht hW => ⟨_, rfl, (cif_f (fun h => b_19 h.2.2)).symm, ht⟩) (fun q h => by cases h) dX0_isCallable_30
      · skip
        have b_19 := cif_b1 h_19 c_22
        refine lv_iconst (v := 1) hx hb dX0_isCallable_25 (by decide) ?_
        refine lv_goto (tgt := 30) hx hb dX0_isCallable_26 (by decide) ?_
        exact W.zret (v := 1) (ty := .boolean) hx hb hr rfl (fun t ht hW => ⟨_, rfl, (cif_t ⟨c_6, b_11, b_19⟩).symm, ht⟩) (fun q h => by cases h) dX0_isCallable_30
set_option maxHeartbeats 4000000 in
set_option maxRecDepth 100000 in
theorem c_X0_firstCallable (l : Launch) (D : va_G) (cI cZ : ClassId) (x : Nat) (a : Nat → Nat) (S : ST) (hm : many S ≤ 24) (he : S 10 0 = nI (many S)) (hcs : ∀ k, k < many S → cueOK S k) : Met l yX0_firstCallable wsX0_firstCallable rmX0_firstCallable (va_Pc [.ref x] (pR D (tyX cI cZ) (wX cI cZ x a S))) (vp_Si (fun r => r = cif (fstN (cal S) (many S) < many S) (nI (fstN (cal S) (many S))) (-1))) 0 0 (fun _ => False) := by
  refine Met.ofW (cc := cX0_firstCallable) (maxL := 2) (ret := (some .int)) (by decide) rfl ?_
  intro pr env s mid args below meth cod s₁ Bd hml hv
  obtain ⟨rfl, hP, hK⟩ := hv
  have hx := Bd.exec
  have hb := Bd.bytes
  have hr := Bd.returns
  have hts := atoms_spec (ws := wsX0_firstCallable) Bd.pre
  have hown : s.vm.findClass RX0 = some mid.cls := findClass_of_methodNamed Bd.named
  have hlocks := Bd.notSynchronized
  have hin : ∀ w ∈ wsX00, w ∈ wsX0_firstCallable := fun _ h => List.mem_cons_of_mem _ (List.mem_append_right _ h)
  have hl := lv_entry ([.ref x]) (n := 2) (Nat.le_of_ble_eq_true rfl)
  rw [lg_entry_eq]
  generalize (lg_sl ([.ref x]) ++ List.replicate (2 - (lg_sl ([.ref x])).length) Slot.unset).toArray = ls at hl ⊢
  have hl : lv_has ls 2 [(0, .ref x)] := hl
  refine lv_iconst (v := 0) hx hb dX0_firstCallable_0 (by decide) ?_
  refine lv_istore_n (lv' := [(1, .int 0), (0, .ref x)]) hx hb dX0_firstCallable_1 rfl hl (by decide) rfl (fun ls hl => ?_)
  refine W_gen (fun R Q hR hQ => ?_)
  have loop_2 : ∀ (n : Nat) (j : Nat) (i1 : Int32), (j ≤ many S) → (many S + 1 ≤ j + n) → (i1 = nI j) → (∀ k, k < j → ¬ cal S k) → ∀ ls : Array Slot, lv_has ls 2 [(1, .int i1), (0, .ref x)] → W pr l env R s mid ([.ref x] : List Value).toArray below meth cod s.heap [] 0 0 Q (F0 mid 2 ls []) := by
    subst hR; subst hQ
    intro n
    induction n with
    | zero =>
      intro j i1 hj hn e1 hno ls hl
      exfalso; omega
    | succ n ih =>
      intro j i1 hj hn e1 hno ls hl
      refine lv_iload_n hx hb dX0_firstCallable_2 rfl (lv_at hl 0 rfl) ?_
      refine lv_aload_n hx hb dX0_firstCallable_3 rfl (lv_at hl 1 rfl) ?_
      have hf104 := hts (.fieldLink RX0 104 "Clockmask" "cueCount" "I") (by decide +kernel)
      refine va_get (D := D) (ci := 0) (v := .int (S 10 0)) (C := RX0) (T := TX0) (N := 17) hx hb hts hin hown hK hP 0 rfl rfl 10 (by decide) hf104 (fun _ h9 => h9) rfl dX0_firstCallable_4 ?_
      refine lv_icmp_ge (tgt := 26) hx hb dX0_firstCallable_7 (by decide) (fun c_7 => ?_) (fun c_7 => ?_)
      · skip
        have h6 : many S ≤ j := by rw [e1, he] at c_7; exact (nI_leI (by omega) (by omega)).mp c_7
        refine lv_iconst (v := (-1)) hx hb dX0_firstCallable_26 (by decide) ?_
        exact W.iret (v := (-1)) hx hb hr (fun t ht hW => ⟨_, rfl, by rw [fstN_none (n := many S) (fun k hk => hno k (by omega)), cif_f (Nat.lt_irrefl _)], ht⟩) (fun q h => by cases h) dX0_firstCallable_27
      · skip
        have h6 : j < many S := by rw [e1, he] at c_7; exact Nat.lt_of_not_le (fun z => c_7 ((nI_leI (by omega) (by omega)).mpr z))
        refine lv_aload_n hx hb dX0_firstCallable_10 rfl (lv_at hl 1 rfl) ?_
        refine lv_iload_n hx hb dX0_firstCallable_11 rfl (lv_at hl 0 rfl) ?_
        refine vp_callSi (W.runV (As := [.int i1]) (rest := []) ⟨hx, hb, hml, hown, hts⟩ (c_X0_isCallable l D cI cZ x a S i1 (by rw [e1]; exact vp_in_nI (by omega) (by decide)) (by rw [e1, nI_clamp (by omega)]; exact hcs j h6)) (cwV 1 hts gX0_firstCallable_X0_isCallable rfl rfl rfl (by decide +kernel) ⟨Nat.le_of_ble_eq_true rfl, Nat.le_of_ble_eq_true rfl⟩) (pR_V (ci := 0) hP hK rfl rfl) rfl rfl hl.1 rfl (lv_room (Nat.le_of_ble_eq_true rfl)) dX0_firstCallable_12 ⟨Nat.zero_le _, Nat.zero_le _⟩) (fun r_12 h_12 => ?_)
        refine lv_if_eq (tgt := 20) hx hb dX0_firstCallable_15 (by decide) (fun c_15 => ?_) (fun c_15 => ?_)
        · skip
          have b_12 := cif_b0 h_12 c_15
          have c9 : ¬ cal S j := by rwa [e1, nI_clamp (by omega)] at b_12
          refine lv_iinc (v := i1 + 1) (lv' := [(1, .int (i1 + 1)), (0, .ref x)]) hx hb dX0_firstCallable_20 hl (k := 0) rfl rfl (by decide) rfl (fun ls hl => ?_)
          refine lv_goto (tgt := 2) hx hb dX0_firstCallable_23 (by decide) ?_
          exact ih (j + 1) (i1 + 1) (by omega) (by omega) (by rw [e1]; exact nI_1 j) (lt_s hno c9) _ (lv_sub hl [0, 1] rfl)
        · skip
          have b_12 := cif_b1 h_12 c_15
          have c9 : cal S j := by rwa [e1, nI_clamp (by omega)] at b_12
          refine lv_iload_n hx hb dX0_firstCallable_18 rfl (lv_at hl 0 rfl) ?_
          exact W.iret (v := i1) hx hb hr (fun t ht hW => ⟨_, rfl, by rw [fstN_is h6 c9 hno, cif_t h6, e1], ht⟩) (fun q h => by cases h) dX0_firstCallable_19
  exact loop_2 (many S + 1) 0 0 (Nat.zero_le _) (by omega) nI_0.symm (fun k hk => absurd hk (Nat.not_lt_zero k)) _ (lv_sub hl [0, 1] rfl)
set_option maxHeartbeats 4000000 in
set_option maxRecDepth 100000 in
theorem c_X0_countCues (l : Launch) (D : va_G) (cI cZ : ClassId) (x : Nat) (a : Nat → Nat) (S : ST) (v : Int32) (hm : many S ≤ 24) (he : S 10 0 = nI (many S)) : Met l yX0_countCues wsX0_countCues rmX0_countCues (va_Pc [.ref x, .int v] (pR D (tyX cI cZ) (wX cI cZ x a S))) (vp_Si (fun r => r = nI (cN (S 8) v (many S)))) 0 0 (fun _ => False) := by
  refine Met.ofW (cc := cX0_countCues) (maxL := 4) (ret := (some .int)) (by decide) rfl ?_
  intro pr env s mid args below meth cod s₁ Bd hml hv
  obtain ⟨rfl, hP, hK⟩ := hv
  have hx := Bd.exec
  have hb := Bd.bytes
  have hr := Bd.returns
  have hts := atoms_spec (ws := wsX0_countCues) Bd.pre
  have hown : s.vm.findClass RX0 = some mid.cls := findClass_of_methodNamed Bd.named
  have hlocks := Bd.notSynchronized
  have hin : ∀ w ∈ wsX00, w ∈ wsX0_countCues := fun _ h => List.mem_cons_of_mem _ (List.mem_append_right _ h)
  have hl := lv_entry ([.ref x, .int v]) (n := 4) (Nat.le_of_ble_eq_true rfl)
  rw [lg_entry_eq]
  generalize (lg_sl ([.ref x, .int v]) ++ List.replicate (4 - (lg_sl ([.ref x, .int v])).length) Slot.unset).toArray = ls at hl ⊢
  have hl : lv_has ls 4 [(0, .ref x), (1, .int v)] := hl
  refine lv_iconst (v := 0) hx hb dX0_countCues_0 (by decide) ?_
  refine lv_istore_n (lv' := [(2, .int 0), (0, .ref x), (1, .int v)]) hx hb dX0_countCues_1 rfl hl (by decide) rfl (fun ls hl => ?_)
  refine lv_iconst (v := 0) hx hb dX0_countCues_2 (by decide) ?_
  refine lv_istore_n (lv' := [(3, .int 0), (2, .int 0), (0, .ref x), (1, .int v)]) hx hb dX0_countCues_3 rfl hl (by decide) rfl (fun ls hl => ?_)
  refine W_gen (fun R Q hR hQ => ?_)
  have loop_4 : ∀ (n : Nat) (j : Nat) (i2 : Int32) (i3 : Int32), (j ≤ many S) → (many S + 1 ≤ j + n) → (i3 = nI j) → (i2 = nI (cN (S 8) v j)) → ∀ ls : Array Slot, lv_has ls 4 [(3, .int i3), (2, .int i2), (0, .ref x), (1, .int v)] → W pr l env R s mid ([.ref x, .int v] : List Value).toArray below meth cod s.heap [] 0 0 Q (F0 mid 4 ls []) := by
    subst hR; subst hQ
    intro n
    induction n with
    | zero =>
      intro j i2 i3 hj hn e3 e2 ls hl
      exfalso; omega
    | succ n ih =>
      intro j i2 i3 hj hn e3 e2 ls hl
      refine lv_iload_n hx hb dX0_countCues_4 rfl (lv_at hl 0 rfl) ?_
      refine lv_aload_n hx hb dX0_countCues_5 rfl (lv_at hl 2 rfl) ?_
      have hf104 := hts (.fieldLink RX0 104 "Clockmask" "cueCount" "I") (by decide +kernel)
      refine va_get (D := D) (ci := 0) (v := .int (S 10 0)) (C := RX0) (T := TX0) (N := 17) hx hb hts hin hown hK hP 0 rfl rfl 10 (by decide) hf104 (fun _ h9 => h9) rfl dX0_countCues_6 ?_
      refine lv_icmp_ge (tgt := 31) hx hb dX0_countCues_9 (by decide) (fun c_9 => ?_) (fun c_9 => ?_)
      · skip
        have h6 : many S ≤ j := by rw [e3, he] at c_9; exact (nI_leI (by omega) (by omega)).mp c_9
        refine lv_iload_n hx hb dX0_countCues_31 rfl (lv_at hl 1 rfl) ?_
        exact W.iret (v := i2) hx hb hr (fun t ht hW => ⟨_, rfl, by rw [e2, show j = many S by omega], ht⟩) (fun q h => by cases h) dX0_countCues_32
      · skip
        have h6 : j < many S := by rw [e3, he] at c_9; exact Nat.lt_of_not_le (fun z => c_9 ((nI_leI (by omega) (by omega)).mpr z))
        refine lv_aload_n hx hb dX0_countCues_12 rfl (lv_at hl 2 rfl) ?_
        have hf35 := hts (.fieldLink RX0 35 "Clockmask" "cueState" "[I") (by decide +kernel)
        refine va_get (D := D) (ci := 0) (v := .ref (a 8)) (C := RX0) (T := TX0) (N := 17) hx hb hts hin hown hK hP 0 rfl rfl 8 (by decide) hf35 (fun _ h9 => h9) rfl dX0_countCues_13 ?_
        refine lv_iload_n hx hb dX0_countCues_16 rfl (lv_at hl 0 rfl) ?_
        refine va_iald (f := S 8) (n := 24) hx hb hK hP 9 0 rfl rfl (by rw [e3]; exact vp_in_nI (by omega) (by decide)) dX0_countCues_17 ?_
        refine lv_iload_n hx hb dX0_countCues_18 rfl (lv_at hl 3 rfl) ?_
        refine lv_icmp_ne (tgt := 25) hx hb dX0_countCues_19 (by decide) (fun c_19 => ?_) (fun c_19 => ?_)
        · skip
          have c9 : ¬ S 8 j = v := by rwa [e3, nI_clamp (by omega)] at c_19
          refine lv_iinc (v := i3 + 1) (lv' := [(3, .int (i3 + 1)), (2, .int i2), (0, .ref x), (1, .int v)]) hx hb dX0_countCues_25 hl (k := 0) rfl rfl (by decide) rfl (fun ls hl => ?_)
          refine lv_goto (tgt := 4) hx hb dX0_countCues_28 (by decide) ?_
          exact ih (j + 1) i2 (i3 + 1) (by omega) (by omega) (by rw [e3]; exact nI_1 j) (by rw [e2, cN, cif_f c9]) _ (lv_sub hl [0, 1, 2, 3] rfl)
        · skip
          have c9 : S 8 j = v := by rwa [e3, nI_clamp (by omega)] at c_19
          refine lv_iinc (v := i2 + 1) (lv' := [(2, .int (i2 + 1)), (3, .int i3), (0, .ref x), (1, .int v)]) hx hb dX0_countCues_22 hl (k := 1) rfl rfl (by decide) rfl (fun ls hl => ?_)
          refine lv_iinc (v := i3 + 1) (lv' := [(3, .int (i3 + 1)), (2, .int (i2 + 1)), (0, .ref x), (1, .int v)]) hx hb dX0_countCues_25 hl (k := 1) rfl rfl (by decide) rfl (fun ls hl => ?_)
          refine lv_goto (tgt := 4) hx hb dX0_countCues_28 (by decide) ?_
          exact ih (j + 1) (i2 + 1) (i3 + 1) (by omega) (by omega) (by rw [e3]; exact nI_1 j) (by rw [e2, cN, cif_t c9]; exact nI_1 _) _ (lv_sub hl [0, 1, 2, 3] rfl)
  exact loop_4 (many S + 1) 0 0 0 (Nat.zero_le _) (by omega) nI_0.symm nI_0.symm _ (lv_sub hl [0, 1, 2, 3] rfl)
end
section
set_option maxHeartbeats 4000000 in
set_option maxRecDepth 100000 in
theorem c_J7_fill_53178 (l : Launch) (D : va_G) (cI : ClassId) (y : Nat) (f : Nat → Int32) (sz : Nat) (v : Int32) : Met l yJ7_fill_53178 wsJ7_fill_53178 rmJ7_fill_53178 (va_Pc [.ref y, .int v] (pW D (tyM cI) ([(y, .inl (cI, 6, .inl f))]) sz)) (va_Qv (fun (u : Nat → Int32) => u = fa_fill (fun _ => v) f 6) (fun (u : Nat → Int32) t => atW D [(y, .inl (cI, 6, .inl u))] (va_A ([(y, .inl (cI, 6, .inl f))]) sz) t) (va_A ([(y, .inl (cI, 6, .inl f))]) sz)) 0 0 (va_A ([(y, .inl (cI, 6, .inl f))]) sz) := by
  refine Met.ofW (cc := cJ7_fill_53178) (maxL := 4) (ret := none) (by decide) rfl ?_
  intro pr env s mid args below meth cod s₁ Bd hml hv
  obtain ⟨rfl, hsz, hP, hK, hD0⟩ := hv
  have hx := Bd.exec
  have hb := Bd.bytes
  have hr := Bd.returns
  have hts := atoms_spec (ws := wsJ7_fill_53178) Bd.pre
  have hown : s.vm.findClass RJ7 = some mid.cls := findClass_of_methodNamed Bd.named
  have hlocks := Bd.notSynchronized
  subst hsz
  have hD := hD0.self (sz := s.heap.size)
  generalize hAe : va_A ([(y, .inl (cI, 6, .inl f))]) s.heap.size = A at hD ⊢
  have hA : ∀ q : Nat, s.heap.size ≤ q → A q := fun q h => by rw [← hAe]; exact Or.inr h
  have hS : va_S A s.heap s.heap [] := va_S.rf
  have hP : va_P D vwCl ([(y, .inl (cI, 6, .inl f))]) s.heap := hP
  have hD : va_D A ([(y, .inl (cI, 6, .inl f))]) := hD
  have hl := lv_entry ([.ref y, .int v]) (n := 4) (Nat.le_of_ble_eq_true rfl)
  rw [lg_entry_eq]
  generalize (lg_sl ([.ref y, .int v]) ++ List.replicate (4 - (lg_sl ([.ref y, .int v])).length) Slot.unset).toArray = ls at hl ⊢
  have hl : lv_has ls 4 [(0, .ref y), (1, .int v)] := hl
  refine lv_iconst (v := 0) hx hb dJ7_fill_53178_0 (by decide) ?_
  refine lv_istore_n (lv' := [(2, .int 0), (0, .ref y), (1, .int v)]) hx hb dJ7_fill_53178_1 rfl hl (by decide) rfl (fun ls hl => ?_)
  refine lv_aload_n hx hb dJ7_fill_53178_2 rfl (lv_at hl 1 rfl) ?_
  refine va_alen (v := 6) hx hb hK hP 0 0 rfl rfl rfl dJ7_fill_53178_3 ?_
  refine lv_istore_n (lv' := [(3, .int 6), (2, .int 0), (0, .ref y), (1, .int v)]) hx hb dJ7_fill_53178_4 rfl hl (by decide) rfl (fun ls hl => ?_)
  refine W_gen (fun R Q hR hQ => ?_)
  have loop_5 : ∀ (n : Nat) (j : Nat) (i2 : Int32) (g : Nat → Int32), (j ≤ 6) → (7 ≤ j + n) → (i2 = nI j) → (g = fa_fill (fun _ => v) f j) → ∀ (H : Heap) (locs : List Loc), va_P D vwCl ([(y, .inl (cI, 6, .inl g))]) H → va_D A ([(y, .inl (cI, 6, .inl g))]) → va_S A s.heap H locs → ∀ ls : Array Slot, lv_has ls 4 [(3, .int 6), (2, .int i2), (0, .ref y), (1, .int v)] → W pr l env R s mid ([.ref y, .int v] : List Value).toArray below meth cod H locs 0 0 Q (F0 mid 5 ls []) := by
    subst hR; subst hQ
    intro n
    induction n with
    | zero =>
      intro j i2 g hj hn e2 eg H locs hP hD hS ls hl
      exfalso; omega
    | succ n ih =>
      intro j i2 g hj hn e2 eg H locs hP hD hS ls hl
      refine lv_iload_n hx hb dJ7_fill_53178_5 rfl (lv_at hl 1 rfl) ?_
      refine lv_iload_n hx hb dJ7_fill_53178_6 rfl (lv_at hl 0 rfl) ?_
      refine lv_icmp_ge (tgt := 20) hx hb dJ7_fill_53178_7 (by decide) (fun c_7 => ?_) (fun c_7 => ?_)
      · skip
        have h6 : 6 ≤ j := ge_of (N := 6) e2 (by omega) rfl c_7
        exact W.vret hx hb hr (fun t ht hW => ⟨⟨g, rfl, by rw [eg, show j = 6 by omega], by rw [ht]; exact hP, hD⟩, hS.F ht⟩) hS.2.2 dJ7_fill_53178_20
      · skip
        have h6 : j < 6 := lt_of (N := 6) e2 (by omega) rfl c_7
        refine lv_aload_n hx hb dJ7_fill_53178_10 rfl (lv_at hl 2 rfl) ?_
        refine lv_iload_n hx hb dJ7_fill_53178_11 rfl (lv_at hl 1 rfl) ?_
        refine lv_iload_n hx hb dJ7_fill_53178_12 rfl (lv_at hl 3 rfl) ?_
        refine va_iast (f := g) (n := 6) hx hb hK hP hD hS 0 0 rfl rfl (by rw [e2]; exact vp_in_nI h6 (by decide)) dJ7_fill_53178_13 (fun H locs hP hD hS => ?_)
        have hP : va_P D vwCl ([(y, .inl (cI, 6, .inl (upd g i2.toNatClampNeg v)))]) H := hP
        have hD : va_D A ([(y, .inl (cI, 6, .inl (upd g i2.toNatClampNeg v)))]) := hD
        refine lv_iinc (v := i2 + 1) (lv' := [(2, .int (i2 + 1)), (3, .int 6), (0, .ref y), (1, .int v)]) hx hb dJ7_fill_53178_14 hl (k := 1) rfl rfl (by decide) rfl (fun ls hl => ?_)
        refine lv_goto (tgt := 5) hx hb dJ7_fill_53178_17 (by decide) ?_
        exact ih (j + 1) (i2 + 1) (upd g i2.toNatClampNeg v) (by omega) (by omega) (by rw [e2]; exact nI_1 j) (by rw [eg, e2, nI_clamp (by omega)]; exact fa_fill_succ (fun _ => v) f j) _ _ hP hD hS _ (lv_sub hl [1, 0, 2, 3] rfl)
  exact loop_5 7 0 0 f (Nat.zero_le _) (by omega) nI_0.symm ((fa_fill_0 _ _).symm) _ _ hP hD hS _ (lv_sub hl [0, 1, 2, 3] rfl)
set_option maxHeartbeats 4000000 in
set_option maxRecDepth 100000 in
theorem c_X0_noteCalled (l : Launch) (D : va_G) (cI cZ : ClassId) (x : Nat) (a : Nat → Nat) (S : ST) (sz : Nat) (q : Int32) (hc : vp_in (S 11 0) 24) : Met l yX0_noteCalled wsX0_noteCalled rmX0_noteCalled (va_Pc [.ref x, .int q] (pW D (tyX cI cZ) (wX cI cZ x a S) sz)) (va_Qv (fun (u : ST) => u = row (row S 9 (upd (S 9) (S 11 0).toNatClampNeg q)) 11 (kf ((S 11 0) + 1))) (fun (u : ST) t => atW D (wX cI cZ x a u) (va_A (wX cI cZ x a S) sz) t) (va_A (wX cI cZ x a S) sz)) 0 0 (va_A (wX cI cZ x a S) sz) := by
  refine Met.ofW (cc := cX0_noteCalled) (maxL := 2) (ret := none) (by decide) rfl ?_
  intro pr env s mid args below meth cod s₁ Bd hml hv
  obtain ⟨rfl, hsz, hP, hK, hD0⟩ := hv
  have hx := Bd.exec
  have hb := Bd.bytes
  have hr := Bd.returns
  have hts := atoms_spec (ws := wsX0_noteCalled) Bd.pre
  have hown : s.vm.findClass RX0 = some mid.cls := findClass_of_methodNamed Bd.named
  have hlocks := Bd.notSynchronized
  have hin : ∀ w ∈ wsX00, w ∈ wsX0_noteCalled := fun _ h => List.mem_cons_of_mem _ (List.mem_append_right _ h)
  subst hsz
  have hD := hD0.self (sz := s.heap.size)
  generalize hAe : va_A (wX cI cZ x a S) s.heap.size = A at hD ⊢
  have hA : ∀ q : Nat, s.heap.size ≤ q → A q := fun q h => by rw [← hAe]; exact Or.inr h
  have hS : va_S A s.heap s.heap [] := va_S.rf
  have hP : va_P D vwCl (wX cI cZ x a S) s.heap := hP
  have hD : va_D A (wX cI cZ x a S) := hD
  have hl := lv_entry ([.ref x, .int q]) (n := 2) (Nat.le_of_ble_eq_true rfl)
  rw [lg_entry_eq]
  generalize (lg_sl ([.ref x, .int q]) ++ List.replicate (2 - (lg_sl ([.ref x, .int q])).length) Slot.unset).toArray = ls at hl ⊢
  have hl : lv_has ls 2 [(0, .ref x), (1, .int q)] := hl
  refine lv_aload_n hx hb dX0_noteCalled_0 rfl (lv_at hl 0 rfl) ?_
  have hf122 := hts (.fieldLink RX0 122 "Clockmask" "calledCount" "I") (by decide +kernel)
  refine va_get (D := D) (ci := 0) (v := .int (S 11 0)) (C := RX0) (T := TX0) (N := 17) hx hb hts hin hown hK hP 0 rfl rfl 11 (by decide) hf122 (fun _ h9 => h9) rfl dX0_noteCalled_1 ?_
  refine lv_aload_n hx hb dX0_noteCalled_4 rfl (lv_at hl 0 rfl) ?_
  have hf38 := hts (.fieldLink RX0 38 "Clockmask" "calledCues" "[I") (by decide +kernel)
  refine va_get (D := D) (ci := 0) (v := .ref (a 9)) (C := RX0) (T := TX0) (N := 17) hx hb hts hin hown hK hP 0 rfl rfl 9 (by decide) hf38 (fun _ h9 => h9) rfl dX0_noteCalled_5 ?_
  refine va_alen (v := 24) hx hb hK hP 10 0 rfl rfl rfl dX0_noteCalled_8 ?_
  refine lv_icmp_ge (tgt := 32) hx hb dX0_noteCalled_9 (by decide) (fun c_9 => ?_) (fun c_9 => ?_)
  · skip
    exact absurd c_9 (vin_nge hc rfl)
  · skip
    refine lv_aload_n hx hb dX0_noteCalled_12 rfl (lv_at hl 0 rfl) ?_
    refine va_get (D := D) (ci := 0) (v := .ref (a 9)) (C := RX0) (T := TX0) (N := 17) hx hb hts hin hown hK hP 0 rfl rfl 9 (by decide) hf38 (fun _ h9 => h9) rfl dX0_noteCalled_13 ?_
    refine lv_aload_n hx hb dX0_noteCalled_16 rfl (lv_at hl 0 rfl) ?_
    refine va_get (D := D) (ci := 0) (v := .int (S 11 0)) (C := RX0) (T := TX0) (N := 17) hx hb hts hin hown hK hP 0 rfl rfl 11 (by decide) hf122 (fun _ h9 => h9) rfl dX0_noteCalled_17 ?_
    refine lv_iload_n hx hb dX0_noteCalled_20 rfl (lv_at hl 1 rfl) ?_
    refine va_iast (f := S 9) (n := 24) hx hb hK hP hD hS 10 0 rfl rfl hc dX0_noteCalled_21 (fun H locs hP hD hS => ?_)
    have hP : va_P D vwCl (wXr cI cZ x a (S 0) (S 1) (S 2) (S 3) (S 4) (S 5) (S 6) (S 7) (S 8) (upd (S 9) (S 11 0).toNatClampNeg q) (S 10 0) (S 11 0) (S 12) (S 13) (S 14 0) (S 15 0) (S 16)) H := hP
    have hD : va_D A (wXr cI cZ x a (S 0) (S 1) (S 2) (S 3) (S 4) (S 5) (S 6) (S 7) (S 8) (upd (S 9) (S 11 0).toNatClampNeg q) (S 10 0) (S 11 0) (S 12) (S 13) (S 14 0) (S 15 0) (S 16)) := hD
    refine lv_aload_n hx hb dX0_noteCalled_22 rfl (lv_at hl 0 rfl) ?_
    refine lv_dup hx hb dX0_noteCalled_23 rfl ?_
    refine va_get (D := D) (ci := 0) (v := .int (S 11 0)) (C := RX0) (T := TX0) (N := 17) hx hb hts hin hown hK hP 0 rfl rfl 11 (by decide) hf122 (fun _ h9 => h9) rfl dX0_noteCalled_24 ?_
    refine lv_iconst (v := 1) hx hb dX0_noteCalled_27 (by decide) ?_
    refine lv_iadd hx hb dX0_noteCalled_28 ?_
    refine va_put (D := D) (ci := 0) (v := .int ((S 11 0) + 1)) (ty := .int) (C := RX0) (T := TX0) (N := 17) hx hb hts hin tyX0 tyX0_ok nmX0 hown hK hP hD hS 0 rfl rfl 11 (by decide) hf122 (fun _ h9 => h9) rfl (by decide +kernel) rfl rfl (Nat.le_of_ble_eq_true rfl) dX0_noteCalled_29 (fun H locs hP hD hS => ?_)
    have hP : va_P D vwCl (wXr cI cZ x a (S 0) (S 1) (S 2) (S 3) (S 4) (S 5) (S 6) (S 7) (S 8) (upd (S 9) (S 11 0).toNatClampNeg q) (S 10 0) ((S 11 0) + 1) (S 12) (S 13) (S 14 0) (S 15 0) (S 16)) H := hP
    have hD : va_D A (wXr cI cZ x a (S 0) (S 1) (S 2) (S 3) (S 4) (S 5) (S 6) (S 7) (S 8) (upd (S 9) (S 11 0).toNatClampNeg q) (S 10 0) ((S 11 0) + 1) (S 12) (S 13) (S 14 0) (S 15 0) (S 16)) := hD
    exact W.vret hx hb hr (fun t ht hW => ⟨⟨row (row S 9 (upd (S 9) (S 11 0).toNatClampNeg q)) 11 (kf ((S 11 0) + 1)), rfl, rfl, by rw [ht]; exact hP, hD⟩, hS.F ht⟩) hS.2.2 dX0_noteCalled_32
set_option maxHeartbeats 4000000 in
set_option maxRecDepth 100000 in
theorem c_X0_leaveStage (l : Launch) (D : va_G) (cI cZ : ClassId) (x : Nat) (a : Nat → Nat) (S : ST) (sz : Nat) (p : Int32) (hp : vp_in p 6) (hd : S 0 p.toNatClampNeg ≠ -1) (hc : vp_in (S 0 p.toNatClampNeg) 8) : Met l yX0_leaveStage wsX0_leaveStage rmX0_leaveStage (va_Pc [.ref x, .int p] (pW D (tyX cI cZ) (wX cI cZ x a S) sz)) (va_Qv (fun (u : ST) => u = leave S p.toNatClampNeg) (fun (u : ST) t => atW D (wX cI cZ x a u) (va_A (wX cI cZ x a S) sz) t) (va_A (wX cI cZ x a S) sz)) 0 0 (va_A (wX cI cZ x a S) sz) := by
  refine Met.ofW (cc := cX0_leaveStage) (maxL := 3) (ret := none) (by decide) rfl ?_
  intro pr env s mid args below meth cod s₁ Bd hml hv
  obtain ⟨rfl, hsz, hP, hK, hD0⟩ := hv
  have hx := Bd.exec
  have hb := Bd.bytes
  have hr := Bd.returns
  have hts := atoms_spec (ws := wsX0_leaveStage) Bd.pre
  have hown : s.vm.findClass RX0 = some mid.cls := findClass_of_methodNamed Bd.named
  have hlocks := Bd.notSynchronized
  have hin : ∀ w ∈ wsX00, w ∈ wsX0_leaveStage := fun _ h => List.mem_cons_of_mem _ (List.mem_append_right _ h)
  subst hsz
  have hD := hD0.self (sz := s.heap.size)
  generalize hAe : va_A (wX cI cZ x a S) s.heap.size = A at hD ⊢
  have hA : ∀ q : Nat, s.heap.size ≤ q → A q := fun q h => by rw [← hAe]; exact Or.inr h
  have hS : va_S A s.heap s.heap [] := va_S.rf
  have hP : va_P D vwCl (wX cI cZ x a S) s.heap := hP
  have hD : va_D A (wX cI cZ x a S) := hD
  have hl := lv_entry ([.ref x, .int p]) (n := 3) (Nat.le_of_ble_eq_true rfl)
  rw [lg_entry_eq]
  generalize (lg_sl ([.ref x, .int p]) ++ List.replicate (3 - (lg_sl ([.ref x, .int p])).length) Slot.unset).toArray = ls at hl ⊢
  have hl : lv_has ls 3 [(0, .ref x), (1, .int p)] := hl
  refine lv_aload_n hx hb dX0_leaveStage_0 rfl (lv_at hl 0 rfl) ?_
  have hf16 := hts (.fieldLink RX0 16 "Clockmask" "onStage" "[Z") (by decide +kernel)
  refine va_get (D := D) (ci := 0) (v := .ref (a 2)) (C := RX0) (T := TX0) (N := 17) hx hb hts hin hown hK hP 0 rfl rfl 2 (by decide) hf16 (fun _ h9 => h9) rfl dX0_leaveStage_1 ?_
  refine lv_iload_n hx hb dX0_leaveStage_4 rfl (lv_at hl 1 rfl) ?_
  refine lv_iconst (v := 0) hx hb dX0_leaveStage_5 (by decide) ?_
  refine va_zast (f := S 2) (n := 6) hx hb hK hP hD hS 3 1 rfl rfl (by assumption) dX0_leaveStage_6 (fun H locs hP hD hS => ?_)
  have hP : va_P D vwCl (wXr cI cZ x a (S 0) (S 1) (upd (S 2) p.toNatClampNeg 0) (S 3) (S 4) (S 5) (S 6) (S 7) (S 8) (S 9) (S 10 0) (S 11 0) (S 12) (S 13) (S 14 0) (S 15 0) (S 16)) H := hP
  have hD : va_D A (wXr cI cZ x a (S 0) (S 1) (upd (S 2) p.toNatClampNeg 0) (S 3) (S 4) (S 5) (S 6) (S 7) (S 8) (S 9) (S 10 0) (S 11 0) (S 12) (S 13) (S 14 0) (S 15 0) (S 16)) := hD
  refine lv_aload_n hx hb dX0_leaveStage_7 rfl (lv_at hl 0 rfl) ?_
  have hf9 := hts (.fieldLink RX0 9 "Clockmask" "costumeOfPlayer" "[I") (by decide +kernel)
  refine va_get (D := D) (ci := 0) (v := .ref (a 0)) (C := RX0) (T := TX0) (N := 17) hx hb hts hin hown hK hP 0 rfl rfl 0 (by decide) hf9 (fun _ h9 => h9) rfl dX0_leaveStage_8 ?_
  refine lv_iload_n hx hb dX0_leaveStage_11 rfl (lv_at hl 1 rfl) ?_
  refine va_iald (f := S 0) (n := 6) hx hb hK hP 1 0 rfl rfl (by assumption) dX0_leaveStage_12 ?_
  refine lv_istore_n (lv' := [(2, .int (S 0 p.toNatClampNeg)), (0, .ref x), (1, .int p)]) hx hb dX0_leaveStage_13 rfl hl (by decide) rfl (fun ls hl => ?_)
  refine lv_iload_n hx hb dX0_leaveStage_14 rfl (lv_at hl 0 rfl) ?_
  refine lv_iconst (v := (-1)) hx hb dX0_leaveStage_15 (by decide) ?_
  refine lv_icmp_ne (tgt := 20) hx hb dX0_leaveStage_16 (by decide) (fun c_16 => ?_) (fun c_16 => ?_)
  · skip
    refine lv_aload_n hx hb dX0_leaveStage_20 rfl (lv_at hl 1 rfl) ?_
    have hf20 := hts (.fieldLink RX0 20 "Clockmask" "wearOfCostume" "[I") (by decide +kernel)
    refine va_get (D := D) (ci := 0) (v := .ref (a 3)) (C := RX0) (T := TX0) (N := 17) hx hb hts hin hown hK hP 0 rfl rfl 3 (by decide) hf20 (fun _ h9 => h9) rfl dX0_leaveStage_21 ?_
    refine lv_iload_n hx hb dX0_leaveStage_24 rfl (lv_at hl 0 rfl) ?_
    refine lv_dup2_11 hx hb dX0_leaveStage_25 rfl rfl ?_
    refine va_iald (f := S 3) (n := 8) hx hb hK hP 4 0 rfl rfl (by assumption) dX0_leaveStage_26 ?_
    refine lv_iconst (v := 1) hx hb dX0_leaveStage_27 (by decide) ?_
    refine lv_iadd hx hb dX0_leaveStage_28 ?_
    refine va_iast (f := S 3) (n := 8) hx hb hK hP hD hS 4 0 rfl rfl (by assumption) dX0_leaveStage_29 (fun H locs hP hD hS => ?_)
    have hP : va_P D vwCl (wXr cI cZ x a (S 0) (S 1) (upd (S 2) p.toNatClampNeg 0) (upd (S 3) (S 0 p.toNatClampNeg).toNatClampNeg ((S 3 (S 0 p.toNatClampNeg).toNatClampNeg) + 1)) (S 4) (S 5) (S 6) (S 7) (S 8) (S 9) (S 10 0) (S 11 0) (S 12) (S 13) (S 14 0) (S 15 0) (S 16)) H := hP
    have hD : va_D A (wXr cI cZ x a (S 0) (S 1) (upd (S 2) p.toNatClampNeg 0) (upd (S 3) (S 0 p.toNatClampNeg).toNatClampNeg ((S 3 (S 0 p.toNatClampNeg).toNatClampNeg) + 1)) (S 4) (S 5) (S 6) (S 7) (S 8) (S 9) (S 10 0) (S 11 0) (S 12) (S 13) (S 14 0) (S 15 0) (S 16)) := hD
    refine lv_aload_n hx hb dX0_leaveStage_30 rfl (lv_at hl 1 rfl) ?_
    refine va_get (D := D) (ci := 0) (v := .ref (a 3)) (C := RX0) (T := TX0) (N := 17) hx hb hts hin hown hK hP 0 rfl rfl 3 (by decide) hf20 (fun _ h9 => h9) rfl dX0_leaveStage_31 ?_
    refine lv_iload_n hx hb dX0_leaveStage_34 rfl (lv_at hl 0 rfl) ?_
    refine va_iald (f := upd (S 3) (S 0 p.toNatClampNeg).toNatClampNeg ((S 3 (S 0 p.toNatClampNeg).toNatClampNeg) + 1)) (n := 8) hx hb hK hP 4 0 rfl rfl (by assumption) dX0_leaveStage_35 ?_
    refine lv_iconst (v := 3) hx hb dX0_leaveStage_36 (by decide) ?_
    rw [pk_us]
    refine lv_icmp_lt (tgt := 47) hx hb dX0_leaveStage_37 (by decide) (fun c_37 => ?_) (fun c_37 => ?_)
    · skip
      exact W.vret hx hb hr (fun t ht hW => ⟨⟨row (row S 2 (upd (S 2) p.toNatClampNeg 0)) 3 (upd (S 3) (S 0 p.toNatClampNeg).toNatClampNeg ((S 3 (S 0 p.toNatClampNeg).toNatClampNeg) + 1)), rfl, (leave_f (fun h => le_nlt h c_37)).symm, by rw [ht]; exact hP, hD⟩, hS.F ht⟩) hS.2.2 dX0_leaveStage_47
    · skip
      refine lv_aload_n hx hb dX0_leaveStage_40 rfl (lv_at hl 1 rfl) ?_
      refine va_get (D := D) (ci := 0) (v := .ref (a 0)) (C := RX0) (T := TX0) (N := 17) hx hb hts hin hown hK hP 0 rfl rfl 0 (by decide) hf9 (fun _ h9 => h9) rfl dX0_leaveStage_41 ?_
      refine lv_iload_n hx hb dX0_leaveStage_44 rfl (lv_at hl 2 rfl) ?_
      refine lv_iconst (v := (-1)) hx hb dX0_leaveStage_45 (by decide) ?_
      refine va_iast (f := S 0) (n := 6) hx hb hK hP hD hS 1 0 rfl rfl (by assumption) dX0_leaveStage_46 (fun H locs hP hD hS => ?_)
      have hP : va_P D vwCl (wXr cI cZ x a (upd (S 0) p.toNatClampNeg (-1)) (S 1) (upd (S 2) p.toNatClampNeg 0) (upd (S 3) (S 0 p.toNatClampNeg).toNatClampNeg ((S 3 (S 0 p.toNatClampNeg).toNatClampNeg) + 1)) (S 4) (S 5) (S 6) (S 7) (S 8) (S 9) (S 10 0) (S 11 0) (S 12) (S 13) (S 14 0) (S 15 0) (S 16)) H := hP
      have hD : va_D A (wXr cI cZ x a (upd (S 0) p.toNatClampNeg (-1)) (S 1) (upd (S 2) p.toNatClampNeg 0) (upd (S 3) (S 0 p.toNatClampNeg).toNatClampNeg ((S 3 (S 0 p.toNatClampNeg).toNatClampNeg) + 1)) (S 4) (S 5) (S 6) (S 7) (S 8) (S 9) (S 10 0) (S 11 0) (S 12) (S 13) (S 14 0) (S 15 0) (S 16)) := hD
      exact W.vret hx hb hr (fun t ht hW => ⟨⟨row (row (row S 2 (upd (S 2) p.toNatClampNeg 0)) 3 (upd (S 3) (S 0 p.toNatClampNeg).toNatClampNeg ((S 3 (S 0 p.toNatClampNeg).toNatClampNeg) + 1))) 0 (upd (S 0) p.toNatClampNeg (-1)), rfl, (leave_t (Int32.not_lt.mp c_37)).symm, by rw [ht]; exact hP, hD⟩, hS.F ht⟩) hS.2.2 dX0_leaveStage_47
  · skip
    exact absurd c_16 hd
set_option maxHeartbeats 4000000 in
set_option maxRecDepth 100000 in
theorem c_X0_moveMasks_1 (l : Launch) (D : va_G) (cI cZ : ClassId) (x : Nat) (a : Nat → Nat) (S : ST) (sz : Nat) (q : Int32) (hq : vp_in q 24) (hp : vp_in (S 5 q.toNatClampNeg) 6) (ho : S 4 q.toNatClampNeg = 2 ∨ S 4 q.toNatClampNeg = 4 → vp_in (S 6 q.toNatClampNeg) 6) : Met l yX0_moveMasks wsX0_moveMasks rmX0_moveMasks (va_Pc [.ref x, .int q, .ref (a 1)] (pW D (tyX cI cZ) (wX cI cZ x a S) sz)) (va_Qv (fun (u : ST) => u = row S 1 (mv S q.toNatClampNeg (S 1))) (fun (u : ST) t => atW D (wX cI cZ x a u) (va_A (wX cI cZ x a S) sz) t) (va_A (wX cI cZ x a S) sz)) 0 0 (va_A (wX cI cZ x a S) sz) := by
  refine Met.ofW (cc := cX0_moveMasks) (maxL := 6) (ret := none) (by decide) rfl ?_
  intro pr env s mid args below meth cod s₁ Bd hml hv
  obtain ⟨rfl, hsz, hP, hK, hD0⟩ := hv
  have hx := Bd.exec
  have hb := Bd.bytes
  have hr := Bd.returns
  have hts := atoms_spec (ws := wsX0_moveMasks) Bd.pre
  have hown : s.vm.findClass RX0 = some mid.cls := findClass_of_methodNamed Bd.named
  have hlocks := Bd.notSynchronized
  have hin : ∀ w ∈ wsX00, w ∈ wsX0_moveMasks := fun _ h => List.mem_cons_of_mem _ (List.mem_append_right _ h)
  subst hsz
  have hD := hD0.self (sz := s.heap.size)
  generalize hAe : va_A (wX cI cZ x a S) s.heap.size = A at hD ⊢
  have hA : ∀ q : Nat, s.heap.size ≤ q → A q := fun q h => by rw [← hAe]; exact Or.inr h
  have hS : va_S A s.heap s.heap [] := va_S.rf
  have hP : va_P D vwCl (wX cI cZ x a S) s.heap := hP
  have hD : va_D A (wX cI cZ x a S) := hD
  have hl := lv_entry ([.ref x, .int q, .ref (a 1)]) (n := 6) (Nat.le_of_ble_eq_true rfl)
  rw [lg_entry_eq]
  generalize (lg_sl ([.ref x, .int q, .ref (a 1)]) ++ List.replicate (6 - (lg_sl ([.ref x, .int q, .ref (a 1)])).length) Slot.unset).toArray = ls at hl ⊢
  have hl : lv_has ls 6 [(0, .ref x), (1, .int q), (2, .ref (a 1))] := hl
  refine lv_aload_n hx hb dX0_moveMasks_0 rfl (lv_at hl 0 rfl) ?_
  have hf26 := hts (.fieldLink RX0 26 "Clockmask" "cuePlayer" "[I") (by decide +kernel)
  refine va_get (D := D) (ci := 0) (v := .ref (a 5)) (C := RX0) (T := TX0) (N := 17) hx hb hts hin hown hK hP 0 rfl rfl 5 (by decide) hf26 (fun _ h9 => h9) rfl dX0_moveMasks_1 ?_
  refine lv_iload_n hx hb dX0_moveMasks_4 rfl (lv_at hl 1 rfl) ?_
  refine va_iald (f := S 5) (n := 24) hx hb hK hP 6 0 rfl rfl (by assumption) dX0_moveMasks_5 ?_
  refine lv_istore_n (lv' := [(3, .int (S 5 q.toNatClampNeg)), (0, .ref x), (1, .int q), (2, .ref (a 1))]) hx hb dX0_moveMasks_6 rfl hl (by decide) rfl (fun ls hl => ?_)
  refine lv_aload_n hx hb dX0_moveMasks_7 rfl (lv_at hl 1 rfl) ?_
  have hf29 := hts (.fieldLink RX0 29 "Clockmask" "cueOther" "[I") (by decide +kernel)
  refine va_get (D := D) (ci := 0) (v := .ref (a 6)) (C := RX0) (T := TX0) (N := 17) hx hb hts hin hown hK hP 0 rfl rfl 6 (by decide) hf29 (fun _ h9 => h9) rfl dX0_moveMasks_8 ?_
  refine lv_iload_n hx hb dX0_moveMasks_11 rfl (lv_at hl 2 rfl) ?_
  refine va_iald (f := S 6) (n := 24) hx hb hK hP 7 0 rfl rfl (by assumption) dX0_moveMasks_12 ?_
  refine lv_istore (lv' := [(4, .int (S 6 q.toNatClampNeg)), (3, .int (S 5 q.toNatClampNeg)), (0, .ref x), (1, .int q), (2, .ref (a 1))]) hx hb dX0_moveMasks_13 hl (by decide) rfl (fun ls hl => ?_)
  refine lv_aload_n hx hb dX0_moveMasks_15 rfl (lv_at hl 2 rfl) ?_
  have hf23 := hts (.fieldLink RX0 23 "Clockmask" "cueKind" "[I") (by decide +kernel)
  refine va_get (D := D) (ci := 0) (v := .ref (a 4)) (C := RX0) (T := TX0) (N := 17) hx hb hts hin hown hK hP 0 rfl rfl 4 (by decide) hf23 (fun _ h9 => h9) rfl dX0_moveMasks_16 ?_
  refine lv_iload_n hx hb dX0_moveMasks_19 rfl (lv_at hl 3 rfl) ?_
  refine va_iald (f := S 4) (n := 24) hx hb hK hP 5 0 rfl rfl (by assumption) dX0_moveMasks_20 ?_
  refine lv_iconst (v := 2) hx hb dX0_moveMasks_21 (by decide) ?_
  refine lv_icmp_ne (tgt := 33) hx hb dX0_moveMasks_22 (by decide) (fun c_22 => ?_) (fun c_22 => ?_)
  · skip
    refine lv_aload_n hx hb dX0_moveMasks_33 rfl (lv_at hl 2 rfl) ?_
    refine va_get (D := D) (ci := 0) (v := .ref (a 4)) (C := RX0) (T := TX0) (N := 17) hx hb hts hin hown hK hP 0 rfl rfl 4 (by decide) hf23 (fun _ h9 => h9) rfl dX0_moveMasks_34 ?_
    refine lv_iload_n hx hb dX0_moveMasks_37 rfl (lv_at hl 3 rfl) ?_
    refine va_iald (f := S 4) (n := 24) hx hb hK hP 5 0 rfl rfl (by assumption) dX0_moveMasks_38 ?_
    refine lv_iconst (v := 3) hx hb dX0_moveMasks_39 (by decide) ?_
    refine lv_icmp_ne (tgt := 50) hx hb dX0_moveMasks_40 (by decide) (fun c_40 => ?_) (fun c_40 => ?_)
    · skip
      refine lv_aload_n hx hb dX0_moveMasks_50 rfl (lv_at hl 2 rfl) ?_
      refine va_get (D := D) (ci := 0) (v := .ref (a 4)) (C := RX0) (T := TX0) (N := 17) hx hb hts hin hown hK hP 0 rfl rfl 4 (by decide) hf23 (fun _ h9 => h9) rfl dX0_moveMasks_51 ?_
      refine lv_iload_n hx hb dX0_moveMasks_54 rfl (lv_at hl 3 rfl) ?_
      refine va_iald (f := S 4) (n := 24) hx hb hK hP 5 0 rfl rfl (by assumption) dX0_moveMasks_55 ?_
      refine lv_iconst (v := 4) hx hb dX0_moveMasks_56 (by decide) ?_
      refine lv_icmp_ne (tgt := 78) hx hb dX0_moveMasks_57 (by decide) (fun c_57 => ?_) (fun c_57 => ?_)
      · skip
        exact W.vret hx hb hr (fun t ht hW => ⟨⟨S, rfl, (row_self' (mvn c_22 c_40 c_57)).symm, by rw [ht]; exact hP, hD⟩, hS.F ht⟩) hS.2.2 dX0_moveMasks_78
      · skip
        refine lv_aload_n hx hb dX0_moveMasks_60 rfl (lv_at hl 4 rfl) ?_
        refine lv_iload_n hx hb dX0_moveMasks_61 rfl (lv_at hl 1 rfl) ?_
        refine va_iald (f := S 1) (n := 6) hx hb hK hP 2 0 rfl rfl hp dX0_moveMasks_62 ?_
        refine lv_istore (lv' := [(5, .int (S 1 (S 5 q.toNatClampNeg).toNatClampNeg)), (4, .int (S 6 q.toNatClampNeg)), (3, .int (S 5 q.toNatClampNeg)), (0, .ref x), (1, .int q), (2, .ref (a 1))]) hx hb dX0_moveMasks_63 hl (by decide) rfl (fun ls hl => ?_)
        refine lv_aload_n hx hb dX0_moveMasks_65 rfl (lv_at hl 5 rfl) ?_
        refine lv_iload_n hx hb dX0_moveMasks_66 rfl (lv_at hl 2 rfl) ?_
        refine lv_aload_n hx hb dX0_moveMasks_67 rfl (lv_at hl 5 rfl) ?_
        refine lv_iload hx hb dX0_moveMasks_68 (lv_at hl 1 rfl) ?_
        refine va_iald (f := S 1) (n := 6) hx hb hK hP 2 0 rfl rfl (ho (Or.inr c_57)) dX0_moveMasks_70 ?_
        refine va_iast (f := S 1) (n := 6) hx hb hK hP hD hS 2 0 rfl rfl hp dX0_moveMasks_71 (fun H locs hP hD hS => ?_)
        have hP : va_P D vwCl (wXr cI cZ x a (S 0) (upd (S 1) (S 5 q.toNatClampNeg).toNatClampNeg (S 1 (S 6 q.toNatClampNeg).toNatClampNeg)) (S 2) (S 3) (S 4) (S 5) (S 6) (S 7) (S 8) (S 9) (S 10 0) (S 11 0) (S 12) (S 13) (S 14 0) (S 15 0) (S 16)) H := hP
        have hD : va_D A (wXr cI cZ x a (S 0) (upd (S 1) (S 5 q.toNatClampNeg).toNatClampNeg (S 1 (S 6 q.toNatClampNeg).toNatClampNeg)) (S 2) (S 3) (S 4) (S 5) (S 6) (S 7) (S 8) (S 9) (S 10 0) (S 11 0) (S 12) (S 13) (S 14 0) (S 15 0) (S 16)) := hD
        refine lv_aload_n hx hb dX0_moveMasks_72 rfl (lv_at hl 5 rfl) ?_
        refine lv_iload hx hb dX0_moveMasks_73 (lv_at hl 1 rfl) ?_
        refine lv_iload hx hb dX0_moveMasks_75 (lv_at hl 0 rfl) ?_
        refine va_iast (f := upd (S 1) (S 5 q.toNatClampNeg).toNatClampNeg (S 1 (S 6 q.toNatClampNeg).toNatClampNeg)) (n := 6) hx hb hK hP hD hS 2 0 rfl rfl (ho (Or.inr c_57)) dX0_moveMasks_77 (fun H locs hP hD hS => ?_)
        have hP : va_P D vwCl (wXr cI cZ x a (S 0) (upd (upd (S 1) (S 5 q.toNatClampNeg).toNatClampNeg (S 1 (S 6 q.toNatClampNeg).toNatClampNeg)) (S 6 q.toNatClampNeg).toNatClampNeg (S 1 (S 5 q.toNatClampNeg).toNatClampNeg)) (S 2) (S 3) (S 4) (S 5) (S 6) (S 7) (S 8) (S 9) (S 10 0) (S 11 0) (S 12) (S 13) (S 14 0) (S 15 0) (S 16)) H := hP
        have hD : va_D A (wXr cI cZ x a (S 0) (upd (upd (S 1) (S 5 q.toNatClampNeg).toNatClampNeg (S 1 (S 6 q.toNatClampNeg).toNatClampNeg)) (S 6 q.toNatClampNeg).toNatClampNeg (S 1 (S 5 q.toNatClampNeg).toNatClampNeg)) (S 2) (S 3) (S 4) (S 5) (S 6) (S 7) (S 8) (S 9) (S 10 0) (S 11 0) (S 12) (S 13) (S 14 0) (S 15 0) (S 16)) := hD
        exact W.vret hx hb hr (fun t ht hW => ⟨⟨row S 1 (upd (upd (S 1) (S 5 q.toNatClampNeg).toNatClampNeg (S 1 (S 6 q.toNatClampNeg).toNatClampNeg)) (S 6 q.toNatClampNeg).toNatClampNeg (S 1 (S 5 q.toNatClampNeg).toNatClampNeg)), rfl, by rw [mv4 c_57], by rw [ht]; exact hP, hD⟩, hS.F ht⟩) hS.2.2 dX0_moveMasks_78
    · skip
      refine lv_aload_n hx hb dX0_moveMasks_43 rfl (lv_at hl 4 rfl) ?_
      refine lv_iload_n hx hb dX0_moveMasks_44 rfl (lv_at hl 1 rfl) ?_
      refine lv_iconst (v := (-1)) hx hb dX0_moveMasks_45 (by decide) ?_
      refine va_iast (f := S 1) (n := 6) hx hb hK hP hD hS 2 0 rfl rfl hp dX0_moveMasks_46 (fun H locs hP hD hS => ?_)
      have hP : va_P D vwCl (wXr cI cZ x a (S 0) (upd (S 1) (S 5 q.toNatClampNeg).toNatClampNeg (-1)) (S 2) (S 3) (S 4) (S 5) (S 6) (S 7) (S 8) (S 9) (S 10 0) (S 11 0) (S 12) (S 13) (S 14 0) (S 15 0) (S 16)) H := hP
      have hD : va_D A (wXr cI cZ x a (S 0) (upd (S 1) (S 5 q.toNatClampNeg).toNatClampNeg (-1)) (S 2) (S 3) (S 4) (S 5) (S 6) (S 7) (S 8) (S 9) (S 10 0) (S 11 0) (S 12) (S 13) (S 14 0) (S 15 0) (S 16)) := hD
      refine lv_goto (tgt := 78) hx hb dX0_moveMasks_47 (by decide) ?_
      exact W.vret hx hb hr (fun t ht hW => ⟨⟨row S 1 (upd (S 1) (S 5 q.toNatClampNeg).toNatClampNeg (-1)), rfl, by rw [mv3 c_40], by rw [ht]; exact hP, hD⟩, hS.F ht⟩) hS.2.2 dX0_moveMasks_78
  · skip
    refine lv_aload_n hx hb dX0_moveMasks_25 rfl (lv_at hl 4 rfl) ?_
    refine lv_iload_n hx hb dX0_moveMasks_26 rfl (lv_at hl 1 rfl) ?_
    refine lv_iload hx hb dX0_moveMasks_27 (lv_at hl 0 rfl) ?_
    refine va_iast (f := S 1) (n := 6) hx hb hK hP hD hS 2 0 rfl rfl hp dX0_moveMasks_29 (fun H locs hP hD hS => ?_)
    have hP : va_P D vwCl (wXr cI cZ x a (S 0) (upd (S 1) (S 5 q.toNatClampNeg).toNatClampNeg (S 6 q.toNatClampNeg)) (S 2) (S 3) (S 4) (S 5) (S 6) (S 7) (S 8) (S 9) (S 10 0) (S 11 0) (S 12) (S 13) (S 14 0) (S 15 0) (S 16)) H := hP
    have hD : va_D A (wXr cI cZ x a (S 0) (upd (S 1) (S 5 q.toNatClampNeg).toNatClampNeg (S 6 q.toNatClampNeg)) (S 2) (S 3) (S 4) (S 5) (S 6) (S 7) (S 8) (S 9) (S 10 0) (S 11 0) (S 12) (S 13) (S 14 0) (S 15 0) (S 16)) := hD
    refine lv_goto (tgt := 78) hx hb dX0_moveMasks_30 (by decide) ?_
    exact W.vret hx hb hr (fun t ht hW => ⟨⟨row S 1 (upd (S 1) (S 5 q.toNatClampNeg).toNatClampNeg (S 6 q.toNatClampNeg)), rfl, by rw [mv2 c_22], by rw [ht]; exact hP, hD⟩, hS.F ht⟩) hS.2.2 dX0_moveMasks_78
set_option maxHeartbeats 4000000 in
set_option maxRecDepth 100000 in
theorem c_X0_moveMasks_16 (l : Launch) (D : va_G) (cI cZ : ClassId) (x : Nat) (a : Nat → Nat) (S : ST) (sz : Nat) (q : Int32) (hq : vp_in q 24) (hp : vp_in (S 5 q.toNatClampNeg) 6) (ho : S 4 q.toNatClampNeg = 2 ∨ S 4 q.toNatClampNeg = 4 → vp_in (S 6 q.toNatClampNeg) 6) : Met l yX0_moveMasks wsX0_moveMasks rmX0_moveMasks (va_Pc [.ref x, .int q, .ref (a 16)] (pW D (tyX cI cZ) (wX cI cZ x a S) sz)) (va_Qv (fun (u : ST) => u = row S 16 (mv S q.toNatClampNeg (S 16))) (fun (u : ST) t => atW D (wX cI cZ x a u) (va_A (wX cI cZ x a S) sz) t) (va_A (wX cI cZ x a S) sz)) 0 0 (va_A (wX cI cZ x a S) sz) := by
  refine Met.ofW (cc := cX0_moveMasks) (maxL := 6) (ret := none) (by decide) rfl ?_
  intro pr env s mid args below meth cod s₁ Bd hml hv
  obtain ⟨rfl, hsz, hP, hK, hD0⟩ := hv
  have hx := Bd.exec
  have hb := Bd.bytes
  have hr := Bd.returns
  have hts := atoms_spec (ws := wsX0_moveMasks) Bd.pre
  have hown : s.vm.findClass RX0 = some mid.cls := findClass_of_methodNamed Bd.named
  have hlocks := Bd.notSynchronized
  have hin : ∀ w ∈ wsX00, w ∈ wsX0_moveMasks := fun _ h => List.mem_cons_of_mem _ (List.mem_append_right _ h)
  subst hsz
  have hD := hD0.self (sz := s.heap.size)
  generalize hAe : va_A (wX cI cZ x a S) s.heap.size = A at hD ⊢
  have hA : ∀ q : Nat, s.heap.size ≤ q → A q := fun q h => by rw [← hAe]; exact Or.inr h
  have hS : va_S A s.heap s.heap [] := va_S.rf
  have hP : va_P D vwCl (wX cI cZ x a S) s.heap := hP
  have hD : va_D A (wX cI cZ x a S) := hD
  have hl := lv_entry ([.ref x, .int q, .ref (a 16)]) (n := 6) (Nat.le_of_ble_eq_true rfl)
  rw [lg_entry_eq]
  generalize (lg_sl ([.ref x, .int q, .ref (a 16)]) ++ List.replicate (6 - (lg_sl ([.ref x, .int q, .ref (a 16)])).length) Slot.unset).toArray = ls at hl ⊢
  have hl : lv_has ls 6 [(0, .ref x), (1, .int q), (2, .ref (a 16))] := hl
  refine lv_aload_n hx hb dX0_moveMasks_0 rfl (lv_at hl 0 rfl) ?_
  have hf26 := hts (.fieldLink RX0 26 "Clockmask" "cuePlayer" "[I") (by decide +kernel)
  refine va_get (D := D) (ci := 0) (v := .ref (a 5)) (C := RX0) (T := TX0) (N := 17) hx hb hts hin hown hK hP 0 rfl rfl 5 (by decide) hf26 (fun _ h9 => h9) rfl dX0_moveMasks_1 ?_
  refine lv_iload_n hx hb dX0_moveMasks_4 rfl (lv_at hl 1 rfl) ?_
  refine va_iald (f := S 5) (n := 24) hx hb hK hP 6 0 rfl rfl (by assumption) dX0_moveMasks_5 ?_
  refine lv_istore_n (lv' := [(3, .int (S 5 q.toNatClampNeg)), (0, .ref x), (1, .int q), (2, .ref (a 16))]) hx hb dX0_moveMasks_6 rfl hl (by decide) rfl (fun ls hl => ?_)
  refine lv_aload_n hx hb dX0_moveMasks_7 rfl (lv_at hl 1 rfl) ?_
  have hf29 := hts (.fieldLink RX0 29 "Clockmask" "cueOther" "[I") (by decide +kernel)
  refine va_get (D := D) (ci := 0) (v := .ref (a 6)) (C := RX0) (T := TX0) (N := 17) hx hb hts hin hown hK hP 0 rfl rfl 6 (by decide) hf29 (fun _ h9 => h9) rfl dX0_moveMasks_8 ?_
  refine lv_iload_n hx hb dX0_moveMasks_11 rfl (lv_at hl 2 rfl) ?_
  refine va_iald (f := S 6) (n := 24) hx hb hK hP 7 0 rfl rfl (by assumption) dX0_moveMasks_12 ?_
  refine lv_istore (lv' := [(4, .int (S 6 q.toNatClampNeg)), (3, .int (S 5 q.toNatClampNeg)), (0, .ref x), (1, .int q), (2, .ref (a 16))]) hx hb dX0_moveMasks_13 hl (by decide) rfl (fun ls hl => ?_)
  refine lv_aload_n hx hb dX0_moveMasks_15 rfl (lv_at hl 2 rfl) ?_
  have hf23 := hts (.fieldLink RX0 23 "Clockmask" "cueKind" "[I") (by decide +kernel)
  refine va_get (D := D) (ci := 0) (v := .ref (a 4)) (C := RX0) (T := TX0) (N := 17) hx hb hts hin hown hK hP 0 rfl rfl 4 (by decide) hf23 (fun _ h9 => h9) rfl dX0_moveMasks_16 ?_
  refine lv_iload_n hx hb dX0_moveMasks_19 rfl (lv_at hl 3 rfl) ?_
  refine va_iald (f := S 4) (n := 24) hx hb hK hP 5 0 rfl rfl (by assumption) dX0_moveMasks_20 ?_
  refine lv_iconst (v := 2) hx hb dX0_moveMasks_21 (by decide) ?_
  refine lv_icmp_ne (tgt := 33) hx hb dX0_moveMasks_22 (by decide) (fun c_22 => ?_) (fun c_22 => ?_)
  · skip
    refine lv_aload_n hx hb dX0_moveMasks_33 rfl (lv_at hl 2 rfl) ?_
    refine va_get (D := D) (ci := 0) (v := .ref (a 4)) (C := RX0) (T := TX0) (N := 17) hx hb hts hin hown hK hP 0 rfl rfl 4 (by decide) hf23 (fun _ h9 => h9) rfl dX0_moveMasks_34 ?_
    refine lv_iload_n hx hb dX0_moveMasks_37 rfl (lv_at hl 3 rfl) ?_
    refine va_iald (f := S 4) (n := 24) hx hb hK hP 5 0 rfl rfl (by assumption) dX0_moveMasks_38 ?_
    refine lv_iconst (v := 3) hx hb dX0_moveMasks_39 (by decide) ?_
    refine lv_icmp_ne (tgt := 50) hx hb dX0_moveMasks_40 (by decide) (fun c_40 => ?_) (fun c_40 => ?_)
    · skip
      refine lv_aload_n hx hb dX0_moveMasks_50 rfl (lv_at hl 2 rfl) ?_
      refine va_get (D := D) (ci := 0) (v := .ref (a 4)) (C := RX0) (T := TX0) (N := 17) hx hb hts hin hown hK hP 0 rfl rfl 4 (by decide) hf23 (fun _ h9 => h9) rfl dX0_moveMasks_51 ?_
      refine lv_iload_n hx hb dX0_moveMasks_54 rfl (lv_at hl 3 rfl) ?_
      refine va_iald (f := S 4) (n := 24) hx hb hK hP 5 0 rfl rfl (by assumption) dX0_moveMasks_55 ?_
      refine lv_iconst (v := 4) hx hb dX0_moveMasks_56 (by decide) ?_
      refine lv_icmp_ne (tgt := 78) hx hb dX0_moveMasks_57 (by decide) (fun c_57 => ?_) (fun c_57 => ?_)
      · skip
        exact W.vret hx hb hr (fun t ht hW => ⟨⟨S, rfl, (row_self' (mvn c_22 c_40 c_57)).symm, by rw [ht]; exact hP, hD⟩, hS.F ht⟩) hS.2.2 dX0_moveMasks_78
      · skip
        refine lv_aload_n hx hb dX0_moveMasks_60 rfl (lv_at hl 4 rfl) ?_
        refine lv_iload_n hx hb dX0_moveMasks_61 rfl (lv_at hl 1 rfl) ?_
        refine va_iald (f := S 16) (n := 6) hx hb hK hP 13 0 rfl rfl hp dX0_moveMasks_62 ?_
        refine lv_istore (lv' := [(5, .int (S 16 (S 5 q.toNatClampNeg).toNatClampNeg)), (4, .int (S 6 q.toNatClampNeg)), (3, .int (S 5 q.toNatClampNeg)), (0, .ref x), (1, .int q), (2, .ref (a 16))]) hx hb dX0_moveMasks_63 hl (by decide) rfl (fun ls hl => ?_)
        refine lv_aload_n hx hb dX0_moveMasks_65 rfl (lv_at hl 5 rfl) ?_
        refine lv_iload_n hx hb dX0_moveMasks_66 rfl (lv_at hl 2 rfl) ?_
        refine lv_aload_n hx hb dX0_moveMasks_67 rfl (lv_at hl 5 rfl) ?_
        refine lv_iload hx hb dX0_moveMasks_68 (lv_at hl 1 rfl) ?_
        refine va_iald (f := S 16) (n := 6) hx hb hK hP 13 0 rfl rfl (ho (Or.inr c_57)) dX0_moveMasks_70 ?_
        refine va_iast (f := S 16) (n := 6) hx hb hK hP hD hS 13 0 rfl rfl hp dX0_moveMasks_71 (fun H locs hP hD hS => ?_)
        have hP : va_P D vwCl (wXr cI cZ x a (S 0) (S 1) (S 2) (S 3) (S 4) (S 5) (S 6) (S 7) (S 8) (S 9) (S 10 0) (S 11 0) (S 12) (S 13) (S 14 0) (S 15 0) (upd (S 16) (S 5 q.toNatClampNeg).toNatClampNeg (S 16 (S 6 q.toNatClampNeg).toNatClampNeg))) H := hP
        have hD : va_D A (wXr cI cZ x a (S 0) (S 1) (S 2) (S 3) (S 4) (S 5) (S 6) (S 7) (S 8) (S 9) (S 10 0) (S 11 0) (S 12) (S 13) (S 14 0) (S 15 0) (upd (S 16) (S 5 q.toNatClampNeg).toNatClampNeg (S 16 (S 6 q.toNatClampNeg).toNatClampNeg))) := hD
        refine lv_aload_n hx hb dX0_moveMasks_72 rfl (lv_at hl 5 rfl) ?_
        refine lv_iload hx hb dX0_moveMasks_73 (lv_at hl 1 rfl) ?_
        refine lv_iload hx hb dX0_moveMasks_75 (lv_at hl 0 rfl) ?_
        refine va_iast (f := upd (S 16) (S 5 q.toNatClampNeg).toNatClampNeg (S 16 (S 6 q.toNatClampNeg).toNatClampNeg)) (n := 6) hx hb hK hP hD hS 13 0 rfl rfl (ho (Or.inr c_57)) dX0_moveMasks_77 (fun H locs hP hD hS => ?_)
        have hP : va_P D vwCl (wXr cI cZ x a (S 0) (S 1) (S 2) (S 3) (S 4) (S 5) (S 6) (S 7) (S 8) (S 9) (S 10 0) (S 11 0) (S 12) (S 13) (S 14 0) (S 15 0) (upd (upd (S 16) (S 5 q.toNatClampNeg).toNatClampNeg (S 16 (S 6 q.toNatClampNeg).toNatClampNeg)) (S 6 q.toNatClampNeg).toNatClampNeg (S 16 (S 5 q.toNatClampNeg).toNatClampNeg))) H := hP
        have hD : va_D A (wXr cI cZ x a (S 0) (S 1) (S 2) (S 3) (S 4) (S 5) (S 6) (S 7) (S 8) (S 9) (S 10 0) (S 11 0) (S 12) (S 13) (S 14 0) (S 15 0) (upd (upd (S 16) (S 5 q.toNatClampNeg).toNatClampNeg (S 16 (S 6 q.toNatClampNeg).toNatClampNeg)) (S 6 q.toNatClampNeg).toNatClampNeg (S 16 (S 5 q.toNatClampNeg).toNatClampNeg))) := hD
        exact W.vret hx hb hr (fun t ht hW => ⟨⟨row S 16 (upd (upd (S 16) (S 5 q.toNatClampNeg).toNatClampNeg (S 16 (S 6 q.toNatClampNeg).toNatClampNeg)) (S 6 q.toNatClampNeg).toNatClampNeg (S 16 (S 5 q.toNatClampNeg).toNatClampNeg)), rfl, by rw [mv4 c_57], by rw [ht]; exact hP, hD⟩, hS.F ht⟩) hS.2.2 dX0_moveMasks_78
    · skip
      refine lv_aload_n hx hb dX0_moveMasks_43 rfl (lv_at hl 4 rfl) ?_
      refine lv_iload_n hx hb dX0_moveMasks_44 rfl (lv_at hl 1 rfl) ?_
      refine lv_iconst (v := (-1)) hx hb dX0_moveMasks_45 (by decide) ?_
      refine va_iast (f := S 16) (n := 6) hx hb hK hP hD hS 13 0 rfl rfl hp dX0_moveMasks_46 (fun H locs hP hD hS => ?_)
      have hP : va_P D vwCl (wXr cI cZ x a (S 0) (S 1) (S 2) (S 3) (S 4) (S 5) (S 6) (S 7) (S 8) (S 9) (S 10 0) (S 11 0) (S 12) (S 13) (S 14 0) (S 15 0) (upd (S 16) (S 5 q.toNatClampNeg).toNatClampNeg (-1))) H := hP
      have hD : va_D A (wXr cI cZ x a (S 0) (S 1) (S 2) (S 3) (S 4) (S 5) (S 6) (S 7) (S 8) (S 9) (S 10 0) (S 11 0) (S 12) (S 13) (S 14 0) (S 15 0) (upd (S 16) (S 5 q.toNatClampNeg).toNatClampNeg (-1))) := hD
      refine lv_goto (tgt := 78) hx hb dX0_moveMasks_47 (by decide) ?_
      exact W.vret hx hb hr (fun t ht hW => ⟨⟨row S 16 (upd (S 16) (S 5 q.toNatClampNeg).toNatClampNeg (-1)), rfl, by rw [mv3 c_40], by rw [ht]; exact hP, hD⟩, hS.F ht⟩) hS.2.2 dX0_moveMasks_78
  · skip
    refine lv_aload_n hx hb dX0_moveMasks_25 rfl (lv_at hl 4 rfl) ?_
    refine lv_iload_n hx hb dX0_moveMasks_26 rfl (lv_at hl 1 rfl) ?_
    refine lv_iload hx hb dX0_moveMasks_27 (lv_at hl 0 rfl) ?_
    refine va_iast (f := S 16) (n := 6) hx hb hK hP hD hS 13 0 rfl rfl hp dX0_moveMasks_29 (fun H locs hP hD hS => ?_)
    have hP : va_P D vwCl (wXr cI cZ x a (S 0) (S 1) (S 2) (S 3) (S 4) (S 5) (S 6) (S 7) (S 8) (S 9) (S 10 0) (S 11 0) (S 12) (S 13) (S 14 0) (S 15 0) (upd (S 16) (S 5 q.toNatClampNeg).toNatClampNeg (S 6 q.toNatClampNeg))) H := hP
    have hD : va_D A (wXr cI cZ x a (S 0) (S 1) (S 2) (S 3) (S 4) (S 5) (S 6) (S 7) (S 8) (S 9) (S 10 0) (S 11 0) (S 12) (S 13) (S 14 0) (S 15 0) (upd (S 16) (S 5 q.toNatClampNeg).toNatClampNeg (S 6 q.toNatClampNeg))) := hD
    refine lv_goto (tgt := 78) hx hb dX0_moveMasks_30 (by decide) ?_
    exact W.vret hx hb hr (fun t ht hW => ⟨⟨row S 16 (upd (S 16) (S 5 q.toNatClampNeg).toNatClampNeg (S 6 q.toNatClampNeg)), rfl, by rw [mv2 c_22], by rw [ht]; exact hP, hD⟩, hS.F ht⟩) hS.2.2 dX0_moveMasks_78
set_option maxHeartbeats 4000000 in
set_option maxRecDepth 100000 in
theorem c_X0_carryOut (l : Launch) (D : va_G) (cI cZ : ClassId) (x : Nat) (a : Nat → Nat) (S : ST) (sz : Nat) (q : Int32) (hq : vp_in q 24) (hc : cueOK S q.toNatClampNeg) (hcl : vp_in (S 11 0) 24) (hex : S 4 q.toNatClampNeg = 1 → S 0 (S 5 q.toNatClampNeg).toNatClampNeg ≠ -1 ∧ vp_in (S 0 (S 5 q.toNatClampNeg).toNatClampNeg) 8) : Met l yX0_carryOut wsX0_carryOut rmX0_carryOut (va_Pc [.ref x, .int q] (pW D (tyX cI cZ) (wX cI cZ x a S) sz)) (va_Qv (fun (u : ST) => u = callQ S q) (fun (u : ST) t => atW D (wX cI cZ x a u) (va_A (wX cI cZ x a S) sz) t) (va_A (wX cI cZ x a S) sz)) 0 0 (va_A (wX cI cZ x a S) sz) := by
  refine Met.ofW (cc := cX0_carryOut) (maxL := 3) (ret := none) (by decide) rfl ?_
  intro pr env s mid args below meth cod s₁ Bd hml hv
  obtain ⟨rfl, hsz, hP, hK, hD0⟩ := hv
  have hx := Bd.exec
  have hb := Bd.bytes
  have hr := Bd.returns
  have hts := atoms_spec (ws := wsX0_carryOut) Bd.pre
  have hown : s.vm.findClass RX0 = some mid.cls := findClass_of_methodNamed Bd.named
  have hlocks := Bd.notSynchronized
  have hin : ∀ w ∈ wsX00, w ∈ wsX0_carryOut := fun _ h => List.mem_cons_of_mem _ (List.mem_append_right _ h)
  subst hsz
  have hD := hD0.self (sz := s.heap.size)
  generalize hAe : va_A (wX cI cZ x a S) s.heap.size = A at hD ⊢
  have hA : ∀ q : Nat, s.heap.size ≤ q → A q := fun q h => by rw [← hAe]; exact Or.inr h
  have hS : va_S A s.heap s.heap [] := va_S.rf
  have hP : va_P D vwCl (wX cI cZ x a S) s.heap := hP
  have hD : va_D A (wX cI cZ x a S) := hD
  have hl := lv_entry ([.ref x, .int q]) (n := 3) (Nat.le_of_ble_eq_true rfl)
  rw [lg_entry_eq]
  generalize (lg_sl ([.ref x, .int q]) ++ List.replicate (3 - (lg_sl ([.ref x, .int q])).length) Slot.unset).toArray = ls at hl ⊢
  have hl : lv_has ls 3 [(0, .ref x), (1, .int q)] := hl
  refine lv_aload_n hx hb dX0_carryOut_0 rfl (lv_at hl 0 rfl) ?_
  have hf26 := hts (.fieldLink RX0 26 "Clockmask" "cuePlayer" "[I") (by decide +kernel)
  refine va_get (D := D) (ci := 0) (v := .ref (a 5)) (C := RX0) (T := TX0) (N := 17) hx hb hts hin hown hK hP 0 rfl rfl 5 (by decide) hf26 (fun _ h9 => h9) rfl dX0_carryOut_1 ?_
  refine lv_iload_n hx hb dX0_carryOut_4 rfl (lv_at hl 1 rfl) ?_
  refine va_iald (f := S 5) (n := 24) hx hb hK hP 6 0 rfl rfl (by assumption) dX0_carryOut_5 ?_
  refine lv_istore_n (lv' := [(2, .int (S 5 q.toNatClampNeg)), (0, .ref x), (1, .int q)]) hx hb dX0_carryOut_6 rfl hl (by decide) rfl (fun ls hl => ?_)
  refine lv_aload_n hx hb dX0_carryOut_7 rfl (lv_at hl 1 rfl) ?_
  have hf23 := hts (.fieldLink RX0 23 "Clockmask" "cueKind" "[I") (by decide +kernel)
  refine va_get (D := D) (ci := 0) (v := .ref (a 4)) (C := RX0) (T := TX0) (N := 17) hx hb hts hin hown hK hP 0 rfl rfl 4 (by decide) hf23 (fun _ h9 => h9) rfl dX0_carryOut_8 ?_
  refine lv_iload_n hx hb dX0_carryOut_11 rfl (lv_at hl 2 rfl) ?_
  refine va_iald (f := S 4) (n := 24) hx hb hK hP 5 0 rfl rfl (by assumption) dX0_carryOut_12 ?_
  refine lv_if_ne (tgt := 26) hx hb dX0_carryOut_13 (by decide) (fun c_13 => ?_) (fun c_13 => ?_)
  · skip
    refine lv_aload_n hx hb dX0_carryOut_26 rfl (lv_at hl 1 rfl) ?_
    refine va_get (D := D) (ci := 0) (v := .ref (a 4)) (C := RX0) (T := TX0) (N := 17) hx hb hts hin hown hK hP 0 rfl rfl 4 (by decide) hf23 (fun _ h9 => h9) rfl dX0_carryOut_27 ?_
    refine lv_iload_n hx hb dX0_carryOut_30 rfl (lv_at hl 2 rfl) ?_
    refine va_iald (f := S 4) (n := 24) hx hb hK hP 5 0 rfl rfl (by assumption) dX0_carryOut_31 ?_
    refine lv_iconst (v := 1) hx hb dX0_carryOut_32 (by decide) ?_
    refine lv_icmp_ne (tgt := 44) hx hb dX0_carryOut_33 (by decide) (fun c_33 => ?_) (fun c_33 => ?_)
    · skip
      refine lv_aload_n hx hb dX0_carryOut_44 rfl (lv_at hl 1 rfl) ?_
      refine lv_iload_n hx hb dX0_carryOut_45 rfl (lv_at hl 2 rfl) ?_
      refine lv_aload_n hx hb dX0_carryOut_46 rfl (lv_at hl 1 rfl) ?_
      have hf13 := hts (.fieldLink RX0 13 "Clockmask" "maskOfPlayer" "[I") (by decide +kernel)
      refine va_get (D := D) (ci := 0) (v := .ref (a 1)) (C := RX0) (T := TX0) (N := 17) hx hb hts hin hown hK hP 0 rfl rfl 1 (by decide) hf13 (fun _ h9 => h9) rfl dX0_carryOut_47 ?_
      have hFc := wfree hD hS hA
      refine va_callv (va_runV (As := [.int q, .ref (a 1)]) (rest := []) ⟨hx, hb, hml, hown, hts⟩ (c_X0_moveMasks_1 l D cI cZ x a S s.heap.size q hq hc.2.1 hc.2.2.1) (cwV 2 hts gX0_carryOut_X0_moveMasks rfl rfl rfl (by decide +kernel) ⟨Nat.le_of_ble_eq_true rfl, Nat.le_of_ble_eq_true rfl⟩) (pW_V (ci := 0) hP hK hD rfl rfl) rfl rfl hl.1 rfl (lv_room (Nat.le_of_ble_eq_true rfl)) dX0_carryOut_50 ⟨Nat.zero_le _, Nat.zero_le _⟩) hS (fun q _ h => hFc q h) hFc (fun u_50 t9 H1 locs ht9 hvm9 h_50 hB9 hz9 hk9 hS => ?_)
      subst h_50
      have hP : va_P D vwCl (wXr cI cZ x a (S 0) (mv S q.toNatClampNeg (S 1)) (S 2) (S 3) (S 4) (S 5) (S 6) (S 7) (S 8) (S 9) (S 10 0) (S 11 0) (S 12) (S 13) (S 14 0) (S 15 0) (S 16)) H1 := atW_P hB9 ht9
      have hD : va_D A (wXr cI cZ x a (S 0) (mv S q.toNatClampNeg (S 1)) (S 2) (S 3) (S 4) (S 5) (S 6) (S 7) (S 8) (S 9) (S 10 0) (S 11 0) (S 12) (S 13) (S 14 0) (S 15 0) (S 16)) := atW_D hB9 hFc
      generalize H1 = H at hP hS ⊢
      refine lv_aload_n hx hb dX0_carryOut_53 rfl (lv_at hl 1 rfl) ?_
      have hf35 := hts (.fieldLink RX0 35 "Clockmask" "cueState" "[I") (by decide +kernel)
      refine va_get (D := D) (ci := 0) (v := .ref (a 8)) (C := RX0) (T := TX0) (N := 17) hx hb hts hin hown hK hP 0 rfl rfl 8 (by decide) hf35 (fun _ h9 => h9) rfl dX0_carryOut_54 ?_
      refine lv_iload_n hx hb dX0_carryOut_57 rfl (lv_at hl 2 rfl) ?_
      refine lv_iconst (v := 1) hx hb dX0_carryOut_58 (by decide) ?_
      refine va_iast (f := S 8) (n := 24) hx hb hK hP hD hS 9 0 rfl rfl (by assumption) dX0_carryOut_59 (fun H locs hP hD hS => ?_)
      have hP : va_P D vwCl (wXr cI cZ x a (S 0) (mv S q.toNatClampNeg (S 1)) (S 2) (S 3) (S 4) (S 5) (S 6) (S 7) (upd (S 8) q.toNatClampNeg 1) (S 9) (S 10 0) (S 11 0) (S 12) (S 13) (S 14 0) (S 15 0) (S 16)) H := hP
      have hD : va_D A (wXr cI cZ x a (S 0) (mv S q.toNatClampNeg (S 1)) (S 2) (S 3) (S 4) (S 5) (S 6) (S 7) (upd (S 8) q.toNatClampNeg 1) (S 9) (S 10 0) (S 11 0) (S 12) (S 13) (S 14 0) (S 15 0) (S 16)) := hD
      refine lv_aload_n hx hb dX0_carryOut_60 rfl (lv_at hl 1 rfl) ?_
      refine lv_iload_n hx hb dX0_carryOut_61 rfl (lv_at hl 2 rfl) ?_
      have hPs : va_P D vwCl (wX cI cZ x a (row (row S 1 (mv S q.toNatClampNeg (S 1))) 8 (upd (S 8) q.toNatClampNeg 1))) H := hP
      have hDs : va_D A (wX cI cZ x a (row (row S 1 (mv S q.toNatClampNeg (S 1))) 8 (upd (S 8) q.toNatClampNeg 1))) := hD
      have hFc := wfree hDs hS hA
      refine va_callv (va_runV (As := [.int q]) (rest := []) ⟨hx, hb, hml, hown, hts⟩ (c_X0_noteCalled l D cI cZ x a (row (row S 1 (mv S q.toNatClampNeg (S 1))) 8 (upd (S 8) q.toNatClampNeg 1)) H.size q hcl) (cwV 1 hts gX0_carryOut_X0_noteCalled rfl rfl rfl (by decide +kernel) ⟨Nat.le_of_ble_eq_true rfl, Nat.le_of_ble_eq_true rfl⟩) (pW_V (ci := 0) hPs hK hDs rfl rfl) rfl rfl hl.1 rfl (lv_room (Nat.le_of_ble_eq_true rfl)) dX0_carryOut_62 ⟨Nat.zero_le _, Nat.zero_le _⟩) hS (fun q _ h => hFc q h) hFc (fun u_62 t9 H1 locs ht9 hvm9 h_62 hB9 hz9 hk9 hS => ?_)
      subst h_62
      have hP : va_P D vwCl (wXr cI cZ x a (S 0) (mv S q.toNatClampNeg (S 1)) (S 2) (S 3) (S 4) (S 5) (S 6) (S 7) (upd (S 8) q.toNatClampNeg 1) (upd (S 9) (S 11 0).toNatClampNeg q) (S 10 0) ((S 11 0) + 1) (S 12) (S 13) (S 14 0) (S 15 0) (S 16)) H1 := atW_P hB9 ht9
      have hD : va_D A (wXr cI cZ x a (S 0) (mv S q.toNatClampNeg (S 1)) (S 2) (S 3) (S 4) (S 5) (S 6) (S 7) (upd (S 8) q.toNatClampNeg 1) (upd (S 9) (S 11 0).toNatClampNeg q) (S 10 0) ((S 11 0) + 1) (S 12) (S 13) (S 14 0) (S 15 0) (S 16)) := atW_D hB9 hFc
      generalize H1 = H at hP hS ⊢
      exact W.vret hx hb hr (fun t ht hW => ⟨⟨row (row (row (row S 1 (mv S q.toNatClampNeg (S 1))) 8 (upd (S 8) q.toNatClampNeg 1)) 9 (upd (S 9) (S 11 0).toNatClampNeg q)) 11 (kf ((S 11 0) + 1)), rfl, (callQ_m c_13 c_33).symm, by rw [ht]; exact hP, hD⟩, hS.F ht⟩) hS.2.2 dX0_carryOut_65
    · skip
      refine lv_aload_n hx hb dX0_carryOut_36 rfl (lv_at hl 1 rfl) ?_
      refine lv_iload_n hx hb dX0_carryOut_37 rfl (lv_at hl 0 rfl) ?_
      have hFc := wfree hD hS hA
      refine va_callv (va_runV (As := [.int (S 5 q.toNatClampNeg)]) (rest := []) ⟨hx, hb, hml, hown, hts⟩ (c_X0_leaveStage l D cI cZ x a S s.heap.size (S 5 q.toNatClampNeg) hc.2.1 (hex c_33).1 (hex c_33).2) (cwV 1 hts gX0_carryOut_X0_leaveStage rfl rfl rfl (by decide +kernel) ⟨Nat.le_of_ble_eq_true rfl, Nat.le_of_ble_eq_true rfl⟩) (pW_V (ci := 0) hP hK hD rfl rfl) rfl rfl hl.1 rfl (lv_room (Nat.le_of_ble_eq_true rfl)) dX0_carryOut_38 ⟨Nat.zero_le _, Nat.zero_le _⟩) hS (fun q _ h => hFc q h) hFc (fun u_38 t9 H1 locs ht9 hvm9 h_38 hB9 hz9 hk9 hS => ?_)
      have hP : va_P D vwCl (wX cI cZ x a u_38) H1 := atW_P hB9 ht9
      have hD : va_D A (wX cI cZ x a u_38) := atW_D hB9 hFc
      generalize H1 = H at hP hS ⊢
      refine lv_goto (tgt := 53) hx hb dX0_carryOut_41 (by decide) ?_
      refine lv_aload_n hx hb dX0_carryOut_53 rfl (lv_at hl 1 rfl) ?_
      have hf35 := hts (.fieldLink RX0 35 "Clockmask" "cueState" "[I") (by decide +kernel)
      refine va_get (D := D) (ci := 0) (v := .ref (a 8)) (C := RX0) (T := TX0) (N := 17) hx hb hts hin hown hK hP 0 rfl rfl 8 (by decide) hf35 (fun _ h9 => h9) rfl dX0_carryOut_54 ?_
      refine lv_iload_n hx hb dX0_carryOut_57 rfl (lv_at hl 2 rfl) ?_
      refine lv_iconst (v := 1) hx hb dX0_carryOut_58 (by decide) ?_
      refine va_iast (f := u_38 8) (n := 24) hx hb hK hP hD hS 9 0 rfl rfl (by assumption) dX0_carryOut_59 (fun H locs hP hD hS => ?_)
      have hP : va_P D vwCl (wXr cI cZ x a (u_38 0) (u_38 1) (u_38 2) (u_38 3) (u_38 4) (u_38 5) (u_38 6) (u_38 7) (upd (u_38 8) q.toNatClampNeg 1) (u_38 9) (u_38 10 0) (u_38 11 0) (u_38 12) (u_38 13) (u_38 14 0) (u_38 15 0) (u_38 16)) H := hP
      have hD : va_D A (wXr cI cZ x a (u_38 0) (u_38 1) (u_38 2) (u_38 3) (u_38 4) (u_38 5) (u_38 6) (u_38 7) (upd (u_38 8) q.toNatClampNeg 1) (u_38 9) (u_38 10 0) (u_38 11 0) (u_38 12) (u_38 13) (u_38 14 0) (u_38 15 0) (u_38 16)) := hD
      refine lv_aload_n hx hb dX0_carryOut_60 rfl (lv_at hl 1 rfl) ?_
      refine lv_iload_n hx hb dX0_carryOut_61 rfl (lv_at hl 2 rfl) ?_
      have hPs : va_P D vwCl (wX cI cZ x a (row u_38 8 (upd (u_38 8) q.toNatClampNeg 1))) H := hP
      have hDs : va_D A (wX cI cZ x a (row u_38 8 (upd (u_38 8) q.toNatClampNeg 1))) := hD
      have hFc := wfree hDs hS hA
      refine va_callv (va_runV (As := [.int q]) (rest := []) ⟨hx, hb, hml, hown, hts⟩ (c_X0_noteCalled l D cI cZ x a (row u_38 8 (upd (u_38 8) q.toNatClampNeg 1)) H.size q (show vp_in (u_38 11 0) 24 by rw [h_38, leave_other (by decide) (by decide) (by decide)]; exact hcl)) (cwV 1 hts gX0_carryOut_X0_noteCalled rfl rfl rfl (by decide +kernel) ⟨Nat.le_of_ble_eq_true rfl, Nat.le_of_ble_eq_true rfl⟩) (pW_V (ci := 0) hPs hK hDs rfl rfl) rfl rfl hl.1 rfl (lv_room (Nat.le_of_ble_eq_true rfl)) dX0_carryOut_62 ⟨Nat.zero_le _, Nat.zero_le _⟩) hS (fun q _ h => hFc q h) hFc (fun u_62 t9 H1 locs ht9 hvm9 h_62 hB9 hz9 hk9 hS => ?_)
      subst h_62
      have hP : va_P D vwCl (wXr cI cZ x a (u_38 0) (u_38 1) (u_38 2) (u_38 3) (u_38 4) (u_38 5) (u_38 6) (u_38 7) (upd (u_38 8) q.toNatClampNeg 1) (upd (u_38 9) (u_38 11 0).toNatClampNeg q) (u_38 10 0) ((u_38 11 0) + 1) (u_38 12) (u_38 13) (u_38 14 0) (u_38 15 0) (u_38 16)) H1 := atW_P hB9 ht9
      have hD : va_D A (wXr cI cZ x a (u_38 0) (u_38 1) (u_38 2) (u_38 3) (u_38 4) (u_38 5) (u_38 6) (u_38 7) (upd (u_38 8) q.toNatClampNeg 1) (upd (u_38 9) (u_38 11 0).toNatClampNeg q) (u_38 10 0) ((u_38 11 0) + 1) (u_38 12) (u_38 13) (u_38 14 0) (u_38 15 0) (u_38 16)) := atW_D hB9 hFc
      generalize H1 = H at hP hS ⊢
      exact W.vret hx hb hr (fun t ht hW => ⟨⟨row (row (row u_38 8 (upd (u_38 8) q.toNatClampNeg 1)) 9 (upd (u_38 9) (u_38 11 0).toNatClampNeg q)) 11 (kf ((u_38 11 0) + 1)), rfl, by rw [h_38]; exact (callQ_l c_33).symm, by rw [ht]; exact hP, hD⟩, hS.F ht⟩) hS.2.2 dX0_carryOut_65
  · skip
    refine lv_aload_n hx hb dX0_carryOut_16 rfl (lv_at hl 1 rfl) ?_
    have hf16 := hts (.fieldLink RX0 16 "Clockmask" "onStage" "[Z") (by decide +kernel)
    refine va_get (D := D) (ci := 0) (v := .ref (a 2)) (C := RX0) (T := TX0) (N := 17) hx hb hts hin hown hK hP 0 rfl rfl 2 (by decide) hf16 (fun _ h9 => h9) rfl dX0_carryOut_17 ?_
    refine lv_iload_n hx hb dX0_carryOut_20 rfl (lv_at hl 0 rfl) ?_
    refine lv_iconst (v := 1) hx hb dX0_carryOut_21 (by decide) ?_
    refine va_zast (f := S 2) (n := 6) hx hb hK hP hD hS 3 1 rfl rfl hc.2.1 dX0_carryOut_22 (fun H locs hP hD hS => ?_)
    have hP : va_P D vwCl (wXr cI cZ x a (S 0) (S 1) (upd (S 2) (S 5 q.toNatClampNeg).toNatClampNeg 1) (S 3) (S 4) (S 5) (S 6) (S 7) (S 8) (S 9) (S 10 0) (S 11 0) (S 12) (S 13) (S 14 0) (S 15 0) (S 16)) H := hP
    have hD : va_D A (wXr cI cZ x a (S 0) (S 1) (upd (S 2) (S 5 q.toNatClampNeg).toNatClampNeg 1) (S 3) (S 4) (S 5) (S 6) (S 7) (S 8) (S 9) (S 10 0) (S 11 0) (S 12) (S 13) (S 14 0) (S 15 0) (S 16)) := hD
    refine lv_goto (tgt := 53) hx hb dX0_carryOut_23 (by decide) ?_
    refine lv_aload_n hx hb dX0_carryOut_53 rfl (lv_at hl 1 rfl) ?_
    have hf35 := hts (.fieldLink RX0 35 "Clockmask" "cueState" "[I") (by decide +kernel)
    refine va_get (D := D) (ci := 0) (v := .ref (a 8)) (C := RX0) (T := TX0) (N := 17) hx hb hts hin hown hK hP 0 rfl rfl 8 (by decide) hf35 (fun _ h9 => h9) rfl dX0_carryOut_54 ?_
    refine lv_iload_n hx hb dX0_carryOut_57 rfl (lv_at hl 2 rfl) ?_
    refine lv_iconst (v := 1) hx hb dX0_carryOut_58 (by decide) ?_
    refine va_iast (f := S 8) (n := 24) hx hb hK hP hD hS 9 0 rfl rfl (by assumption) dX0_carryOut_59 (fun H locs hP hD hS => ?_)
    have hP : va_P D vwCl (wXr cI cZ x a (S 0) (S 1) (upd (S 2) (S 5 q.toNatClampNeg).toNatClampNeg 1) (S 3) (S 4) (S 5) (S 6) (S 7) (upd (S 8) q.toNatClampNeg 1) (S 9) (S 10 0) (S 11 0) (S 12) (S 13) (S 14 0) (S 15 0) (S 16)) H := hP
    have hD : va_D A (wXr cI cZ x a (S 0) (S 1) (upd (S 2) (S 5 q.toNatClampNeg).toNatClampNeg 1) (S 3) (S 4) (S 5) (S 6) (S 7) (upd (S 8) q.toNatClampNeg 1) (S 9) (S 10 0) (S 11 0) (S 12) (S 13) (S 14 0) (S 15 0) (S 16)) := hD
    refine lv_aload_n hx hb dX0_carryOut_60 rfl (lv_at hl 1 rfl) ?_
    refine lv_iload_n hx hb dX0_carryOut_61 rfl (lv_at hl 2 rfl) ?_
    have hPs : va_P D vwCl (wX cI cZ x a (row (row S 2 (upd (S 2) (S 5 q.toNatClampNeg).toNatClampNeg 1)) 8 (upd (S 8) q.toNatClampNeg 1))) H := hP
    have hDs : va_D A (wX cI cZ x a (row (row S 2 (upd (S 2) (S 5 q.toNatClampNeg).toNatClampNeg 1)) 8 (upd (S 8) q.toNatClampNeg 1))) := hD
    have hFc := wfree hDs hS hA
    refine va_callv (va_runV (As := [.int q]) (rest := []) ⟨hx, hb, hml, hown, hts⟩ (c_X0_noteCalled l D cI cZ x a (row (row S 2 (upd (S 2) (S 5 q.toNatClampNeg).toNatClampNeg 1)) 8 (upd (S 8) q.toNatClampNeg 1)) H.size q hcl) (cwV 1 hts gX0_carryOut_X0_noteCalled rfl rfl rfl (by decide +kernel) ⟨Nat.le_of_ble_eq_true rfl, Nat.le_of_ble_eq_true rfl⟩) (pW_V (ci := 0) hPs hK hDs rfl rfl) rfl rfl hl.1 rfl (lv_room (Nat.le_of_ble_eq_true rfl)) dX0_carryOut_62 ⟨Nat.zero_le _, Nat.zero_le _⟩) hS (fun q _ h => hFc q h) hFc (fun u_62 t9 H1 locs ht9 hvm9 h_62 hB9 hz9 hk9 hS => ?_)
    subst h_62
    have hP : va_P D vwCl (wXr cI cZ x a (S 0) (S 1) (upd (S 2) (S 5 q.toNatClampNeg).toNatClampNeg 1) (S 3) (S 4) (S 5) (S 6) (S 7) (upd (S 8) q.toNatClampNeg 1) (upd (S 9) (S 11 0).toNatClampNeg q) (S 10 0) ((S 11 0) + 1) (S 12) (S 13) (S 14 0) (S 15 0) (S 16)) H1 := atW_P hB9 ht9
    have hD : va_D A (wXr cI cZ x a (S 0) (S 1) (upd (S 2) (S 5 q.toNatClampNeg).toNatClampNeg 1) (S 3) (S 4) (S 5) (S 6) (S 7) (upd (S 8) q.toNatClampNeg 1) (upd (S 9) (S 11 0).toNatClampNeg q) (S 10 0) ((S 11 0) + 1) (S 12) (S 13) (S 14 0) (S 15 0) (S 16)) := atW_D hB9 hFc
    generalize H1 = H at hP hS ⊢
    exact W.vret hx hb hr (fun t ht hW => ⟨⟨row (row (row (row S 2 (upd (S 2) (S 5 q.toNatClampNeg).toNatClampNeg 1)) 8 (upd (S 8) q.toNatClampNeg 1)) 9 (upd (S 9) (S 11 0).toNatClampNeg q)) 11 (kf ((S 11 0) + 1)), rfl, (callQ_0 c_13).symm, by rw [ht]; exact hP, hD⟩, hS.F ht⟩) hS.2.2 dX0_carryOut_65
set_option maxHeartbeats 4000000 in
set_option maxRecDepth 100000 in
theorem c_X0_clearStage (l : Launch) (D : va_G) (cI cZ : ClassId) (x : Nat) (a : Nat → Nat) (S : ST) (sz : Nat) : Met l yX0_clearStage wsX0_clearStage rmX0_clearStage (va_Pc [.ref x] (pW D (tyX cI cZ) (wX cI cZ x a S) sz)) (va_Qv (fun (u : ST) => u = row (row S 1 (fa_fill (fun _ => -1) (S 1) 6)) 2 (fa_fill (fun _ => 0) (S 2) 6)) (fun (u : ST) t => atW D (wX cI cZ x a u) (va_A (wX cI cZ x a S) sz) t) (va_A (wX cI cZ x a S) sz)) 0 0 (va_A (wX cI cZ x a S) sz) := by
  refine Met.ofW (cc := cX0_clearStage) (maxL := 2) (ret := none) (by decide) rfl ?_
  intro pr env s mid args below meth cod s₁ Bd hml hv
  obtain ⟨rfl, hsz, hP, hK, hD0⟩ := hv
  have hx := Bd.exec
  have hb := Bd.bytes
  have hr := Bd.returns
  have hts := atoms_spec (ws := wsX0_clearStage) Bd.pre
  have hown : s.vm.findClass RX0 = some mid.cls := findClass_of_methodNamed Bd.named
  have hlocks := Bd.notSynchronized
  have hin : ∀ w ∈ wsX00, w ∈ wsX0_clearStage := fun _ h => List.mem_cons_of_mem _ (List.mem_append_right _ h)
  subst hsz
  have hD := hD0.self (sz := s.heap.size)
  generalize hAe : va_A (wX cI cZ x a S) s.heap.size = A at hD ⊢
  have hA : ∀ q : Nat, s.heap.size ≤ q → A q := fun q h => by rw [← hAe]; exact Or.inr h
  have hS : va_S A s.heap s.heap [] := va_S.rf
  have hP : va_P D vwCl (wX cI cZ x a S) s.heap := hP
  have hD : va_D A (wX cI cZ x a S) := hD
  have hl := lv_entry ([.ref x]) (n := 2) (Nat.le_of_ble_eq_true rfl)
  rw [lg_entry_eq]
  generalize (lg_sl ([.ref x]) ++ List.replicate (2 - (lg_sl ([.ref x])).length) Slot.unset).toArray = ls at hl ⊢
  have hl : lv_has ls 2 [(0, .ref x)] := hl
  refine lv_iconst (v := 0) hx hb dX0_clearStage_0 (by decide) ?_
  refine lv_istore_n (lv' := [(1, .int 0), (0, .ref x)]) hx hb dX0_clearStage_1 rfl hl (by decide) rfl (fun ls hl => ?_)
  refine W_gen (fun R Q hR hQ => ?_)
  have loop_2 : ∀ (n : Nat) (j : Nat) (i1 : Int32) (S1 : ST), (j ≤ 6) → (7 ≤ j + n) → (i1 = nI j) → (S1 = row (row S 1 (fa_fill (fun _ => -1) (S 1) j)) 2 (fa_fill (fun _ => 0) (S 2) j)) → ∀ (H : Heap) (locs : List Loc), va_P D vwCl (wX cI cZ x a S1) H → va_D A (wX cI cZ x a S1) → va_S A s.heap H locs → ∀ ls : Array Slot, lv_has ls 2 [(1, .int i1), (0, .ref x)] → W pr l env R s mid ([.ref x] : List Value).toArray below meth cod H locs 0 0 Q (F0 mid 2 ls []) := by
    subst hR; subst hQ
    intro n
    induction n with
    | zero =>
      intro j i1 S1 hj hn e1 eS H locs hP hD hS ls hl
      exfalso; omega
    | succ n ih =>
      intro j i1 S1 hj hn e1 eS H locs hP hD hS ls hl
      refine lv_iload_n hx hb dX0_clearStage_2 rfl (lv_at hl 0 rfl) ?_
      refine lv_bipush (v := 6) hx hb dX0_clearStage_3 (by decide) ?_
      refine lv_icmp_ge (tgt := 28) hx hb dX0_clearStage_5 (by decide) (fun c_5 => ?_) (fun c_5 => ?_)
      · skip
        have h6 : 6 ≤ j := ge_of (N := 6) e1 (by omega) rfl c_5
        exact W.vret hx hb hr (fun t ht hW => ⟨⟨S1, rfl, by rw [eS, show j = 6 by omega], by rw [ht]; exact hP, hD⟩, hS.F ht⟩) hS.2.2 dX0_clearStage_28
      · skip
        have h6 : j < 6 := lt_of (N := 6) e1 (by omega) rfl c_5
        refine lv_aload_n hx hb dX0_clearStage_8 rfl (lv_at hl 1 rfl) ?_
        have hf13 := hts (.fieldLink RX0 13 "Clockmask" "maskOfPlayer" "[I") (by decide +kernel)
        refine va_get (D := D) (ci := 0) (v := .ref (a 1)) (C := RX0) (T := TX0) (N := 17) hx hb hts hin hown hK hP 0 rfl rfl 1 (by decide) hf13 (fun _ h9 => h9) rfl dX0_clearStage_9 ?_
        refine lv_iload_n hx hb dX0_clearStage_12 rfl (lv_at hl 0 rfl) ?_
        refine lv_iconst (v := (-1)) hx hb dX0_clearStage_13 (by decide) ?_
        refine va_iast (f := S1 1) (n := 6) hx hb hK hP hD hS 2 0 rfl rfl (by rw [e1]; exact vp_in_nI h6 (by decide)) dX0_clearStage_14 (fun H locs hP hD hS => ?_)
        have hP : va_P D vwCl (wXr cI cZ x a (S1 0) (upd (S1 1) i1.toNatClampNeg (-1)) (S1 2) (S1 3) (S1 4) (S1 5) (S1 6) (S1 7) (S1 8) (S1 9) (S1 10 0) (S1 11 0) (S1 12) (S1 13) (S1 14 0) (S1 15 0) (S1 16)) H := hP
        have hD : va_D A (wXr cI cZ x a (S1 0) (upd (S1 1) i1.toNatClampNeg (-1)) (S1 2) (S1 3) (S1 4) (S1 5) (S1 6) (S1 7) (S1 8) (S1 9) (S1 10 0) (S1 11 0) (S1 12) (S1 13) (S1 14 0) (S1 15 0) (S1 16)) := hD
        refine lv_aload_n hx hb dX0_clearStage_15 rfl (lv_at hl 1 rfl) ?_
        have hf16 := hts (.fieldLink RX0 16 "Clockmask" "onStage" "[Z") (by decide +kernel)
        refine va_get (D := D) (ci := 0) (v := .ref (a 2)) (C := RX0) (T := TX0) (N := 17) hx hb hts hin hown hK hP 0 rfl rfl 2 (by decide) hf16 (fun _ h9 => h9) rfl dX0_clearStage_16 ?_
        refine lv_iload_n hx hb dX0_clearStage_19 rfl (lv_at hl 0 rfl) ?_
        refine lv_iconst (v := 0) hx hb dX0_clearStage_20 (by decide) ?_
        refine va_zast (f := S1 2) (n := 6) hx hb hK hP hD hS 3 1 rfl rfl (by rw [e1]; exact vp_in_nI h6 (by decide)) dX0_clearStage_21 (fun H locs hP hD hS => ?_)
        have hP : va_P D vwCl (wXr cI cZ x a (S1 0) (upd (S1 1) i1.toNatClampNeg (-1)) (upd (S1 2) i1.toNatClampNeg 0) (S1 3) (S1 4) (S1 5) (S1 6) (S1 7) (S1 8) (S1 9) (S1 10 0) (S1 11 0) (S1 12) (S1 13) (S1 14 0) (S1 15 0) (S1 16)) H := hP
        have hD : va_D A (wXr cI cZ x a (S1 0) (upd (S1 1) i1.toNatClampNeg (-1)) (upd (S1 2) i1.toNatClampNeg 0) (S1 3) (S1 4) (S1 5) (S1 6) (S1 7) (S1 8) (S1 9) (S1 10 0) (S1 11 0) (S1 12) (S1 13) (S1 14 0) (S1 15 0) (S1 16)) := hD
        refine lv_iinc (v := i1 + 1) (lv' := [(1, .int (i1 + 1)), (0, .ref x)]) hx hb dX0_clearStage_22 hl (k := 0) rfl rfl (by decide) rfl (fun ls hl => ?_)
        refine lv_goto (tgt := 2) hx hb dX0_clearStage_25 (by decide) ?_
        exact ih (j + 1) (i1 + 1) (row (row S1 1 (upd (S1 1) i1.toNatClampNeg (-1))) 2 (upd (S1 2) i1.toNatClampNeg 0)) (by omega) (by omega) (by rw [e1]; exact nI_1 j) (by subst eS; rw [e1, nI_clamp (by omega), ← fa_fill_succ (fun _ => -1), ← fa_fill_succ (fun _ => 0)]; exact fills_eq S _ _ _ _) _ _ hP hD hS _ (lv_sub hl [0, 1] rfl)
  exact loop_2 7 0 0 S (Nat.zero_le _) (by omega) nI_0.symm (by rw [fa_fill_0, fa_fill_0, row_self, row_self]) _ _ hP hD hS _ (lv_sub hl [0, 1] rfl)
set_option maxHeartbeats 4000000 in
set_option maxRecDepth 100000 in
theorem c_X0_clearGuesses (l : Launch) (D : va_G) (cI cZ : ClassId) (x : Nat) (a : Nat → Nat) (S : ST) (sz : Nat) : Met l yX0_clearGuesses wsX0_clearGuesses rmX0_clearGuesses (va_Pc [.ref x] (pW D (tyX cI cZ) (wX cI cZ x a S) sz)) (va_Qv (fun (u : ST) => u = row S 13 (fa_fill (fun _ => 0) (S 13) 18)) (fun (u : ST) t => atW D (wX cI cZ x a u) (va_A (wX cI cZ x a S) sz) t) (va_A (wX cI cZ x a S) sz)) 0 0 (va_A (wX cI cZ x a S) sz) := by
  refine Met.ofW (cc := cX0_clearGuesses) (maxL := 2) (ret := none) (by decide) rfl ?_
  intro pr env s mid args below meth cod s₁ Bd hml hv
  obtain ⟨rfl, hsz, hP, hK, hD0⟩ := hv
  have hx := Bd.exec
  have hb := Bd.bytes
  have hr := Bd.returns
  have hts := atoms_spec (ws := wsX0_clearGuesses) Bd.pre
  have hown : s.vm.findClass RX0 = some mid.cls := findClass_of_methodNamed Bd.named
  have hlocks := Bd.notSynchronized
  have hin : ∀ w ∈ wsX00, w ∈ wsX0_clearGuesses := fun _ h => List.mem_cons_of_mem _ (List.mem_append_right _ h)
  subst hsz
  have hD := hD0.self (sz := s.heap.size)
  generalize hAe : va_A (wX cI cZ x a S) s.heap.size = A at hD ⊢
  have hA : ∀ q : Nat, s.heap.size ≤ q → A q := fun q h => by rw [← hAe]; exact Or.inr h
  have hS : va_S A s.heap s.heap [] := va_S.rf
  have hP : va_P D vwCl (wX cI cZ x a S) s.heap := hP
  have hD : va_D A (wX cI cZ x a S) := hD
  have hl := lv_entry ([.ref x]) (n := 2) (Nat.le_of_ble_eq_true rfl)
  rw [lg_entry_eq]
  generalize (lg_sl ([.ref x]) ++ List.replicate (2 - (lg_sl ([.ref x])).length) Slot.unset).toArray = ls at hl ⊢
  have hl : lv_has ls 2 [(0, .ref x)] := hl
  refine lv_iconst (v := 0) hx hb dX0_clearGuesses_0 (by decide) ?_
  refine lv_istore_n (lv' := [(1, .int 0), (0, .ref x)]) hx hb dX0_clearGuesses_1 rfl hl (by decide) rfl (fun ls hl => ?_)
  refine W_gen (fun R Q hR hQ => ?_)
  have loop_2 : ∀ (n : Nat) (j : Nat) (i1 : Int32) (S1 : ST), (j ≤ 18) → (19 ≤ j + n) → (i1 = nI j) → (S1 = row S 13 (fa_fill (fun _ => 0) (S 13) j)) → ∀ (H : Heap) (locs : List Loc), va_P D vwCl (wX cI cZ x a S1) H → va_D A (wX cI cZ x a S1) → va_S A s.heap H locs → ∀ ls : Array Slot, lv_has ls 2 [(1, .int i1), (0, .ref x)] → W pr l env R s mid ([.ref x] : List Value).toArray below meth cod H locs 0 0 Q (F0 mid 2 ls []) := by
    subst hR; subst hQ
    intro n
    induction n with
    | zero =>
      intro j i1 S1 hj hn e1 eS H locs hP hD hS ls hl
      exfalso; omega
    | succ n ih =>
      intro j i1 S1 hj hn e1 eS H locs hP hD hS ls hl
      refine lv_iload_n hx hb dX0_clearGuesses_2 rfl (lv_at hl 0 rfl) ?_
      refine lv_aload_n hx hb dX0_clearGuesses_3 rfl (lv_at hl 1 rfl) ?_
      have hf44 := hts (.fieldLink RX0 44 "Clockmask" "guessed" "[Z") (by decide +kernel)
      refine va_get (D := D) (ci := 0) (v := .ref (a 13)) (C := RX0) (T := TX0) (N := 17) hx hb hts hin hown hK hP 0 rfl rfl 13 (by decide) hf44 (fun _ h9 => h9) rfl dX0_clearGuesses_4 ?_
      refine va_alen (v := 18) hx hb hK hP 12 1 rfl rfl rfl dX0_clearGuesses_7 ?_
      refine lv_icmp_ge (tgt := 24) hx hb dX0_clearGuesses_8 (by decide) (fun c_8 => ?_) (fun c_8 => ?_)
      · skip
        have h6 : 18 ≤ j := ge_of (N := 18) e1 (by omega) rfl c_8
        exact W.vret hx hb hr (fun t ht hW => ⟨⟨S1, rfl, by rw [eS, show j = 18 by omega], by rw [ht]; exact hP, hD⟩, hS.F ht⟩) hS.2.2 dX0_clearGuesses_24
      · skip
        have h6 : j < 18 := lt_of (N := 18) e1 (by omega) rfl c_8
        refine lv_aload_n hx hb dX0_clearGuesses_11 rfl (lv_at hl 1 rfl) ?_
        refine va_get (D := D) (ci := 0) (v := .ref (a 13)) (C := RX0) (T := TX0) (N := 17) hx hb hts hin hown hK hP 0 rfl rfl 13 (by decide) hf44 (fun _ h9 => h9) rfl dX0_clearGuesses_12 ?_
        refine lv_iload_n hx hb dX0_clearGuesses_15 rfl (lv_at hl 0 rfl) ?_
        refine lv_iconst (v := 0) hx hb dX0_clearGuesses_16 (by decide) ?_
        refine va_zast (f := S1 13) (n := 18) hx hb hK hP hD hS 12 1 rfl rfl (by rw [e1]; exact vp_in_nI h6 (by decide)) dX0_clearGuesses_17 (fun H locs hP hD hS => ?_)
        have hP : va_P D vwCl (wXr cI cZ x a (S1 0) (S1 1) (S1 2) (S1 3) (S1 4) (S1 5) (S1 6) (S1 7) (S1 8) (S1 9) (S1 10 0) (S1 11 0) (S1 12) (upd (S1 13) i1.toNatClampNeg 0) (S1 14 0) (S1 15 0) (S1 16)) H := hP
        have hD : va_D A (wXr cI cZ x a (S1 0) (S1 1) (S1 2) (S1 3) (S1 4) (S1 5) (S1 6) (S1 7) (S1 8) (S1 9) (S1 10 0) (S1 11 0) (S1 12) (upd (S1 13) i1.toNatClampNeg 0) (S1 14 0) (S1 15 0) (S1 16)) := hD
        refine lv_iinc (v := i1 + 1) (lv' := [(1, .int (i1 + 1)), (0, .ref x)]) hx hb dX0_clearGuesses_18 hl (k := 0) rfl rfl (by decide) rfl (fun ls hl => ?_)
        refine lv_goto (tgt := 2) hx hb dX0_clearGuesses_21 (by decide) ?_
        exact ih (j + 1) (i1 + 1) (row S1 13 (upd (S1 13) i1.toNatClampNeg 0)) (by omega) (by omega) (by rw [e1]; exact nI_1 j) (by subst eS; rw [e1, nI_clamp (by omega), ← fa_fill_succ (fun _ => 0), row_same, row_twice]) _ _ hP hD hS _ (lv_sub hl [0, 1] rfl)
  exact loop_2 19 0 0 S (Nat.zero_le _) (by omega) nI_0.symm (by rw [fa_fill_0, row_self]) _ _ hP hD hS _ (lv_sub hl [0, 1] rfl)
end
section
/-! WHAT HOLDS OF A STATE BETWEEN CALLS (B: what the purse holds at the most) -/
def cueF (S : ST) (k : Nat) : Prop := (0 ≤ (S 4 k).toInt ∧ (S 4 k).toInt ≤ 4) ∧ vp_in (S 5 k) 6 ∧ (S 4 k = 2 ∨ S 4 k = 4 → vp_in (S 6 k) 6) ∧ (S 7 k = -1 ∨ vp_in (S 7 k) k) ∧ (S 8 k = 0 ∨ S 8 k = 1 ∨ S 8 k = 2)
def Inv (B : Nat) (S : ST) : Prop :=
  (∀ k, k < 6 → S 0 k = -1 ∨ vp_in (S 0 k) 8) ∧
  (∀ j k, j < 6 → k < 6 → j ≠ k → S 0 j = S 0 k → S 0 j = -1) ∧
  (∀ j k, j < 6 → k < 6 → j ≠ k → S 1 j = S 1 k → S 1 j = -1) ∧
  (∀ k, k < 6 → S 2 k = 0 ∨ S 2 k = 1) ∧
  (∀ k, k < 6 → S 2 k ≠ 0 → S 0 k ≠ -1) ∧
  (∀ c, c < 8 → 0 ≤ (S 3 c).toInt ∧ (S 3 c).toInt ≤ 3) ∧
  (∀ k, k < 6 → S 0 k ≠ -1 → (S 3 (S 0 k).toNatClampNeg).toInt < 3) ∧
  (many S ≤ 24 ∧ S 10 0 = nI (many S) ∧ S 11 0 = nI (cN (S 8) 1 (many S))) ∧
  (∀ k, k < many S → cueF S k) ∧
  (∀ k, k < cN (S 8) 1 (many S) → vp_in (S 9 k) (many S)) ∧
  (∀ k, k < 18 → S 13 k = 0 ∨ S 13 k = 1) ∧
  (0 ≤ (S 14 0).toInt ∧ (S 14 0).toInt ≤ B)
theorem Inv.i0 {B : Nat} {S : ST} (h : Inv B S) : ∀ k, k < 6 → S 0 k = -1 ∨ vp_in (S 0 k) 8 := h.1
theorem Inv.u0 {B : Nat} {S : ST} (h : Inv B S) : ∀ j k, j < 6 → k < 6 → j ≠ k → S 0 j = S 0 k → S 0 j = -1 := h.2.1
theorem Inv.u1 {B : Nat} {S : ST} (h : Inv B S) : ∀ j k, j < 6 → k < 6 → j ≠ k → S 1 j = S 1 k → S 1 j = -1 := h.2.2.1
theorem Inv.i2 {B : Nat} {S : ST} (h : Inv B S) : ∀ k, k < 6 → S 2 k = 0 ∨ S 2 k = 1 := h.2.2.2.1
theorem Inv.i20 {B : Nat} {S : ST} (h : Inv B S) : ∀ k, k < 6 → S 2 k ≠ 0 → S 0 k ≠ -1 := h.2.2.2.2.1
theorem Inv.i3 {B : Nat} {S : ST} (h : Inv B S) : ∀ c, c < 8 → 0 ≤ (S 3 c).toInt ∧ (S 3 c).toInt ≤ 3 := h.2.2.2.2.2.1
theorem Inv.i30 {B : Nat} {S : ST} (h : Inv B S) : ∀ k, k < 6 → S 0 k ≠ -1 → (S 3 (S 0 k).toNatClampNeg).toInt < 3 := h.2.2.2.2.2.2.1
theorem Inv.m24 {B : Nat} {S : ST} (h : Inv B S) : many S ≤ 24 := h.2.2.2.2.2.2.2.1.1
theorem Inv.me {B : Nat} {S : ST} (h : Inv B S) : S 10 0 = nI (many S) := h.2.2.2.2.2.2.2.1.2.1
theorem Inv.ce {B : Nat} {S : ST} (h : Inv B S) : S 11 0 = nI (cN (S 8) 1 (many S)) := h.2.2.2.2.2.2.2.1.2.2
theorem Inv.cf {B : Nat} {S : ST} (h : Inv B S) : ∀ k, k < many S → cueF S k := h.2.2.2.2.2.2.2.2.1
theorem Inv.i9 {B : Nat} {S : ST} (h : Inv B S) : ∀ k, k < cN (S 8) 1 (many S) → vp_in (S 9 k) (many S) := h.2.2.2.2.2.2.2.2.2.1
theorem Inv.i13 {B : Nat} {S : ST} (h : Inv B S) : ∀ k, k < 18 → S 13 k = 0 ∨ S 13 k = 1 := h.2.2.2.2.2.2.2.2.2.2.1
theorem Inv.i14 {B : Nat} {S : ST} (h : Inv B S) : 0 ≤ (S 14 0).toInt ∧ (S 14 0).toInt ≤ B := h.2.2.2.2.2.2.2.2.2.2.2
theorem Inv.cue {B : Nat} {S : ST} (h : Inv B S) {k : Nat} (hk : k < many S) : cueOK S k := by
  obtain ⟨h1, h2, h3, h4, h5⟩ := h.cf k hk
  have hm_ := h.m24
  exact ⟨h1, h2, h3, h4.imp id (fun z => vin_mono z (by omega)), h.i2 _ (vin_lt h2)⟩
theorem Inv.q24 {B : Nat} {S : ST} (h : Inv B S) {q : Int32} (hq : vp_in q (many S)) : vp_in q 24 := vin_mono hq h.m24
theorem Inv.cueq {B : Nat} {S : ST} (h : Inv B S) {q : Int32} (hq : vp_in q (many S)) : cueOK S q.toNatClampNeg := h.cue (vin_lt hq)
theorem cN_lt {f : Nat → Int32} {v : Int32} : ∀ {n k : Nat}, k < n → f k ≠ v → cN f v n < n
  | 0, k, h, _ => absurd h (Nat.not_lt_zero k)
  | n + 1, k, h, hv => by
    unfold cN
    by_cases e : k = n
    · subst e
      rw [cif_f hv]
      have := cN_le f v k
      omega
    · have ih_ := cN_lt (n := n) (k := k) (by omega) hv
      by_cases q : f n = v
      · rw [cif_t q]; omega
      · rw [cif_f q]; omega
theorem Inv.cl {B : Nat} {S : ST} (h : Inv B S) {k : Nat} (hk : k < many S) (h1 : S 8 k ≠ 1) : vp_in (S 11 0) 24 := by
  have h2 := cN_lt hk h1
  have hm_ := h.m24
  rw [h.ce]
  exact vp_in_nI (by omega) (by decide)
theorem Inv.ex {B : Nat} {S : ST} (h : Inv B S) {k : Nat} (hk : k < many S) (hc_ : cal S k) : S 4 k = 1 → S 0 (S 5 k).toNatClampNeg ≠ -1 ∧ vp_in (S 0 (S 5 k).toNatClampNeg) 8 := by
  intro h1
  have hd := hc_.2.2
  rw [done1 h1] at hd
  have hp := vin_lt (h.cf k hk).2.1
  have hn := h.i20 _ hp hd
  exact ⟨hn, (h.i0 _ hp).resolve_left hn⟩
theorem Inv.lt24 {B : Nat} {S : ST} (h : Inv B S) (h1 : S 10 0 < 24) : vp_in (S 10 0) 24 := by
  rw [vp_in_iff, h.me, nI_toInt (by have := h.m24; omega)]
  rw [h.me, fa_lt, nI_toInt (by have := h.m24; omega), show (24 : Int32).toInt = 24 from rfl] at h1
  omega
theorem callQ_11 (S : ST) (q : Int32) : callQ S q 11 0 = S 11 0 + 1 := rfl
theorem runN_stop {S : ST} (h : ¬ fstN (cal S) (many S) < many S) : ∀ n, runN n S = S
  | 0 => rfl
  | n + 1 => by rw [runN, cif_f h]
theorem fc_none {S : ST} (hm_ : many S ≤ 24) (h : cif (fstN (cal S) (many S) < many S) (nI (fstN (cal S) (many S))) (-1) = -1) : ¬ fstN (cal S) (many S) < many S := by
  intro z
  rw [cif_t z] at h
  exact nI_ne_m1 (by omega) h
theorem fc_some {S : ST} {i : Int32} (e : i = cif (fstN (cal S) (many S) < many S) (nI (fstN (cal S) (many S))) (-1)) (h : ¬ i = -1) : fstN (cal S) (many S) < many S := by
  rcases Nat.lt_or_ge (fstN (cal S) (many S)) (many S) with z | z
  · exact z
  · rw [cif_f (by omega)] at e
    exact absurd e h
theorem mv_cong {S S' : ST} {k : Nat} {f : Nat → Int32} (h4 : S' 4 = S 4) (h5 : S' 5 = S 5) (h6 : S' 6 = S 6) : mv S' k f = mv S k f := by
  unfold mv
  rw [h4, h5, h6]
theorem gp_in {g p : Int32} (hg : vp_in g 3) (hp : vp_in p 6) : vp_in (g * 6 + p) 18 := by
  obtain ⟨j, hj, rfl⟩ := vp_in_of hg (by decide)
  obtain ⟨k, hk, rfl⟩ := vp_in_of hp (by decide)
  have h6 : (6 : Int32) = nI 6 := rfl
  rw [h6, pk_mul, nI_add]
  exact vp_in_nI (by omega) (by decide)
theorem gp_comm (g p : Int32) : 6 * g + p = g * 6 + p := by rw [Int32.mul_comm]
theorem purse_eq {B : Nat} {S : ST} (h : Inv B S) (hB_ : B ≤ 100000) : (if 0 < S 14 0 + nI (cN (S 8) 1 (many S)) - nI (cN (S 8) 2 (many S)) then S 14 0 + nI (cN (S 8) 1 (many S)) - nI (cN (S 8) 2 (many S)) else 0) = purseE S := by
  have hm_ := h.m24
  have h1 := cN_le (S 8) 1 (many S)
  have h2 := cN_le (S 8) 2 (many S)
  have hp := h.i14
  unfold purseE
  rw [h.ce]
  generalize cN (S 8) 1 (many S) = c1 at h1 ⊢
  generalize cN (S 8) 2 (many S) = c2 at h2 ⊢
  have e1_ : (nI c1).toInt = c1 := nI_toInt (by omega)
  have e2_ : (nI c2).toInt = c2 := nI_toInt (by omega)
  have e3_ : (S 14 0 + nI c1).toInt = (S 14 0).toInt + c1 := by rw [fb_addI] <;> rw [e1_] <;> omega
  have e4_ : (S 14 0 + nI c1 - nI c2).toInt = (S 14 0).toInt + c1 - c2 := by rw [fb_subI] <;> rw [e3_, e2_] <;> omega
  by_cases q : S 14 0 + nI c1 < nI c2
  · rw [cif_t q, if_neg]
    intro z
    rw [fa_lt, e4_, show (0 : Int32).toInt = 0 from rfl] at z
    rw [fa_lt, e3_, e2_] at q
    omega
  · rw [cif_f q]
    by_cases z : 0 < S 14 0 + nI c1 - nI c2
    · rw [if_pos z]
    · rw [if_neg z]
      rw [fa_lt, e3_, e2_] at q
      rw [fa_lt, e4_, show (0 : Int32).toInt = 0 from rfl] at z
      rw [fa_eq, e4_, show (0 : Int32).toInt = 0 from rfl]
      omega
theorem no_zero {S : ST} {n : Nat} (hn : n ≤ 24) (h : nI (cN (S 8) 0 n) ≤ 0) : ∀ k, k < n → S 8 k ≠ 0 := by
  intro k hk e
  have h1 := cN_pos hk e
  have h2 := cN_le (S 8) 0 n
  exact absurd h (nI_nle h1 (by omega))
/-! the invariant goes on, call by call -/
def uq (f : Nat → Int32) : Prop := ∀ j k, j < 6 → k < 6 → j ≠ k → f j = f k → f j = -1
def InvA (c s w : Nat → Int32) : Prop :=
  (∀ k, k < 6 → c k = -1 ∨ vp_in (c k) 8) ∧ uq c ∧ (∀ k, k < 6 → s k = 0 ∨ s k = 1) ∧ (∀ k, k < 6 → s k ≠ 0 → c k ≠ -1) ∧
  (∀ x, x < 8 → 0 ≤ (w x).toInt ∧ (w x).toInt ≤ 3) ∧ (∀ k, k < 6 → c k ≠ -1 → (w (c k).toNatClampNeg).toInt < 3)
def InvC (S : ST) : Prop :=
  (many S ≤ 24 ∧ S 10 0 = nI (many S) ∧ S 11 0 = nI (cN (S 8) 1 (many S))) ∧ (∀ k, k < many S → cueF S k) ∧ (∀ k, k < cN (S 8) 1 (many S) → vp_in (S 9 k) (many S))
def InvD (B : Nat) (g : Nat → Int32) (p : Int32) : Prop := (∀ k, k < 18 → g k = 0 ∨ g k = 1) ∧ (0 ≤ p.toInt ∧ p.toInt ≤ B)
theorem Inv.mk {B : Nat} {S : ST} (h1 : InvA (S 0) (S 2) (S 3)) (h2 : uq (S 1)) (h3 : InvC S) (h4 : InvD B (S 13) (S 14 0)) : Inv B S :=
  ⟨h1.1, h1.2.1, h2, h1.2.2.1, h1.2.2.2.1, h1.2.2.2.2.1, h1.2.2.2.2.2, h3.1, h3.2.1, h3.2.2, h4.1, h4.2⟩
theorem Inv.a {B : Nat} {S : ST} (h : Inv B S) : InvA (S 0) (S 2) (S 3) := ⟨h.i0, h.u0, h.i2, h.i20, h.i3, h.i30⟩
theorem Inv.c {B : Nat} {S : ST} (h : Inv B S) : InvC S := ⟨⟨h.m24, h.me, h.ce⟩, h.cf, h.i9⟩
theorem Inv.d {B : Nat} {S : ST} (h : Inv B S) : InvD B (S 13) (S 14 0) := ⟨h.i13, h.i14⟩
theorem InvA.enter {c s w : Nat → Int32} (h : InvA c s w) {a : Nat} (hc_ : c a ≠ -1) : InvA c (upd s a 1) w := by
  obtain ⟨h1, h2, h3, h4, h5, h6⟩ := h
  refine ⟨h1, h2, fun k hk => ?_, fun k hk hs => ?_, h5, h6⟩
  · by_cases e : k = a
    · rw [e, pk_us]; exact Or.inr rfl
    · rw [pk_un e]; exact h3 k hk
  · by_cases e : k = a
    · rw [e]; exact hc_
    · rw [pk_un e] at hs; exact h4 k hk hs
theorem InvA.exit {c s w : Nat → Int32} (h : InvA c s w) {a : Nat} (ha : a < 6) (hc_ : c a ≠ -1) :
    InvA (cif (3 ≤ w (c a).toNatClampNeg + 1) (upd c a (-1)) c) (upd s a 0) (upd w (c a).toNatClampNeg (w (c a).toNatClampNeg + 1)) := by
  obtain ⟨h1, h2, h3, h4, h5, h6⟩ := h
  have hv := (h1 a ha).resolve_left hc_
  have hx := vin_lt hv
  have hw := h6 a ha hc_
  have hw0 := (h5 _ hx).1
  have e1_ : (1 : Int32).toInt = 1 := rfl
  have e3_ : (3 : Int32).toInt = 3 := rfl
  have hw1 : (w (c a).toNatClampNeg + 1).toInt = (w (c a).toNatClampNeg).toInt + 1 := by rw [fb_addI] <;> rw [e1_] <;> omega
  have hs : ∀ k, k < 6 → upd s a 0 k = 0 ∨ upd s a 0 k = 1 := by
    intro k hk
    by_cases e : k = a
    · rw [e, pk_us]; exact Or.inl rfl
    · rw [pk_un e]; exact h3 k hk
  have hwr : ∀ x, x < 8 → 0 ≤ (upd w (c a).toNatClampNeg (w (c a).toNatClampNeg + 1) x).toInt ∧ (upd w (c a).toNatClampNeg (w (c a).toNatClampNeg + 1) x).toInt ≤ 3 := by
    intro x hx8
    by_cases e : x = (c a).toNatClampNeg
    · rw [e, pk_us, hw1]; omega
    · rw [pk_un e]; exact h5 x hx8
  have same : ∀ k, k < 6 → c k ≠ -1 → k ≠ a → (c k).toNatClampNeg ≠ (c a).toNatClampNeg := by
    intro k hk hck hka e
    have hvk := (h1 k hk).resolve_left hck
    have : c k = c a := by rw [vin_nI hvk (by decide), vin_nI hv (by decide), e]
    exact hck (h2 k a hk ha hka this)
  by_cases q : 3 ≤ w (c a).toNatClampNeg + 1
  · rw [cif_t q]
    refine ⟨fun k hk => ?_, fun j k hj hk hjk e => ?_, hs, fun k hk hsk => ?_, hwr, fun k hk hck => ?_⟩
    · by_cases e : k = a
      · rw [e, pk_us]; exact Or.inl rfl
      · rw [pk_un e]; exact h1 k hk
    · by_cases ej : j = a
      · rw [ej, pk_us]
      · rw [pk_un ej] at e ⊢
        by_cases ek : k = a
        · rw [ek, pk_us] at e; exact e
        · rw [pk_un ek] at e; exact h2 j k hj hk hjk e
    · by_cases e : k = a
      · rw [e, pk_us] at hsk; exact absurd rfl hsk
      · rw [pk_un e] at hsk ⊢; exact h4 k hk hsk
    · by_cases e : k = a
      · rw [e, pk_us] at hck; exact absurd rfl hck
      · rw [pk_un e] at hck ⊢
        rw [pk_un (same k hk hck e)]
        exact h6 k hk hck
  · rw [cif_f q]
    refine ⟨h1, h2, hs, fun k hk hsk => ?_, hwr, fun k hk hck => ?_⟩
    · by_cases e : k = a
      · rw [e]; exact hc_
      · rw [pk_un e] at hsk; exact h4 k hk hsk
    · by_cases e : k = a
      · rw [e, pk_us, hw1]
        rw [fa_le, hw1, e3_] at q
        omega
      · rw [pk_un (same k hk hck e)]
        exact h6 k hk hck
theorem own_one {c : Nat → Int32} {x p : Int32} (hu : uq c) (hx : x ≠ -1) (hp : vp_in p 6) (h : fI c x = -1 ∨ fI c x = p) : ∀ k, k < 6 → c k = x → k = p.toNatClampNeg := by
  intro k hk e
  rcases h with h | h
  · exact absurd e (fI_m1 h k hk)
  · rcases fI_cases c x with ⟨e1_, -⟩ | ⟨j, hj, e1_, e2_⟩
    · exact absurd (e1_.symm.trans h) (fun z => vin_ne hp z.symm)
    · have hjp : p.toNatClampNeg = j := by rw [← h, e1_]; exact nI_clamp (by omega)
      rw [hjp]
      by_cases z : k = j
      · exact z
      · exact absurd (e.symm.trans (hu k j hk hj z (e.trans e2_.symm))) hx
theorem InvA.dress {c s w : Nat → Int32} (h : InvA c s w) {p x : Int32} (hp : vp_in p 6) (hx : vp_in x 8) (hs : s p.toNatClampNeg = 0) (hf : fI c x = -1 ∨ fI c x = p) (hw : w x.toNatClampNeg < 3) : InvA (upd c p.toNatClampNeg x) s w := by
  obtain ⟨h1, h2, h3, h4, h5, h6⟩ := h
  have ho := own_one h2 (vin_ne hx) hp hf
  have e3_ : (3 : Int32).toInt = 3 := rfl
  refine ⟨fun k hk => ?_, fun j k hj hk hjk e => ?_, h3, fun k hk hsk => ?_, h5, fun k hk hck => ?_⟩
  · by_cases e : k = p.toNatClampNeg
    · rw [e, pk_us]; exact Or.inr hx
    · rw [pk_un e]; exact h1 k hk
  · by_cases ej : j = p.toNatClampNeg
    · have ek : k ≠ p.toNatClampNeg := fun z => hjk (ej.trans z.symm)
      rw [ej, pk_us, pk_un ek] at e
      exact absurd (ho k hk e.symm) ek
    · by_cases ek : k = p.toNatClampNeg
      · rw [ek, pk_us, pk_un ej] at e
        exact absurd (ho j hj e) ej
      · rw [pk_un ej, pk_un ek] at e
        rw [pk_un ej]
        exact h2 j k hj hk hjk e
  · by_cases e : k = p.toNatClampNeg
    · rw [e] at hsk; exact absurd hs hsk
    · rw [pk_un e]; exact h4 k hk hsk
  · by_cases e : k = p.toNatClampNeg
    · rw [e, pk_us]; rw [fa_lt, e3_] at hw; exact hw
    · rw [pk_un e] at hck ⊢; exact h6 k hk hck
theorem InvA.repair {c s w : Nat → Int32} (h : InvA c s w) (x : Nat) : InvA c s (upd w x 0) := by
  obtain ⟨h1, h2, h3, h4, h5, h6⟩ := h
  have e0 : (0 : Int32).toInt = 0 := rfl
  refine ⟨h1, h2, h3, h4, fun y hy => ?_, fun k hk hck => ?_⟩
  · by_cases e : y = x
    · rw [e, pk_us, e0]; omega
    · rw [pk_un e]; exact h5 y hy
  · by_cases e : (c k).toNatClampNeg = x
    · rw [e, pk_us, e0]; omega
    · rw [pk_un e]; exact h6 k hk hck
theorem InvA.clear {c s w : Nat → Int32} (h : InvA c s w) : InvA c (fa_fill (fun _ => 0) s 6) w := by
  obtain ⟨h1, h2, h3, h4, h5, h6⟩ := h
  refine ⟨h1, h2, fun k hk => ?_, fun k hk hs => ?_, h5, h6⟩
  · rw [fa_fill_in hk]; exact Or.inl rfl
  · rw [fa_fill_in hk] at hs; exact absurd rfl hs
theorem uq.clear (f : Nat → Int32) : uq (fa_fill (fun _ => -1) f 6) := fun j k hj hk hjk e => fa_fill_in hj
theorem uq.mv {S : ST} {k : Nat} (h : uq (S 1)) (hF : cueF S k) (hd : done S k) : uq (mv S k (S 1)) := by
  obtain ⟨hk4, hp, ho, -, -⟩ := hF
  by_cases e2_ : S 4 k = 2
  · rw [mv2 e2_]
    rw [done2 e2_] at hd
    have hn := fI_m1 hd.2
    intro i j hi hj hij e
    by_cases ei : i = (S 5 k).toNatClampNeg
    · have ej : j ≠ (S 5 k).toNatClampNeg := fun z => hij (ei.trans z.symm)
      rw [ei, pk_us, pk_un ej] at e
      exact absurd e.symm (hn j hj)
    · by_cases ej : j = (S 5 k).toNatClampNeg
      · rw [ej, pk_us, pk_un ei] at e
        exact absurd e (hn i hi)
      · rw [pk_un ei, pk_un ej] at e
        rw [pk_un ei]
        exact h i j hi hj hij e
  · by_cases e3_ : S 4 k = 3
    · rw [mv3 e3_]
      intro i j hi hj hij e
      by_cases ei : i = (S 5 k).toNatClampNeg
      · rw [ei, pk_us]
      · rw [pk_un ei] at e ⊢
        by_cases ej : j = (S 5 k).toNatClampNeg
        · rw [ej, pk_us] at e; exact e
        · rw [pk_un ej] at e; exact h i j hi hj hij e
    · by_cases e4_ : S 4 k = 4
      · rw [mv4 e4_]
        have ha := vin_lt hp
        have hb := vin_lt (ho (Or.inr e4_))
        generalize (S 5 k).toNatClampNeg = a at ha ⊢
        generalize (S 6 k).toNatClampNeg = b at hb ⊢
        have hg : ∀ i, upd (upd (S 1) a (S 1 b)) b (S 1 a) i = S 1 (if i = b then a else if i = a then b else i) := by
          intro i
          unfold upd
          by_cases q : i = b
          · simp [q]
          · by_cases q2 : i = a
            · subst q2
              simp [q]
            · simp [q, q2]
        intro i j hi hj hij e
        rw [hg, hg] at e
        rw [hg]
        refine h _ _ ?_ ?_ ?_ e
        · split
          · exact ha
          · split
            · exact hb
            · exact hi
        · split
          · exact ha
          · split
            · exact hb
            · exact hj
        · split <;> split <;> (try split) <;> (try split) <;> omega
      · rw [mvn e2_ e3_ e4_]; exact h
theorem InvC.call {S : ST} (h : InvC S) {q : Int32} (hq : vp_in q (many S)) (hc_ : S 8 q.toNatClampNeg = 0) : InvC (row (row (row S 8 (upd (S 8) q.toNatClampNeg 1)) 9 (upd (S 9) (S 11 0).toNatClampNeg q)) 11 (kf (S 11 0 + 1))) := by
  obtain ⟨⟨hm_, he, hce⟩, hf, ho⟩ := h
  have hk := vin_lt hq
  have h1 : S 8 q.toNatClampNeg ≠ 1 := by rw [hc_]; decide
  have hcl := cN_lt hk h1
  have hcp := cN_put h1 hk
  have hcc : (S 11 0).toNatClampNeg = cN (S 8) 1 (many S) := by rw [hce]; exact nI_clamp (by omega)
  refine ⟨⟨hm_, he, ?_⟩, fun k hk2 => ?_, fun k hk2 => ?_⟩
  · show S 11 0 + 1 = nI (cN (upd (S 8) q.toNatClampNeg 1) 1 (many S))
    rw [hcp, hce]; exact nI_1 _
  · obtain ⟨a1, a2, a3, a4, a5⟩ := hf k hk2
    refine ⟨a1, a2, a3, a4, ?_⟩
    show upd (S 8) q.toNatClampNeg 1 k = 0 ∨ upd (S 8) q.toNatClampNeg 1 k = 1 ∨ upd (S 8) q.toNatClampNeg 1 k = 2
    by_cases e : k = q.toNatClampNeg
    · rw [e, pk_us]; exact Or.inr (Or.inl rfl)
    · rw [pk_un e]; exact a5
  · have hk3 : k < cN (upd (S 8) q.toNatClampNeg 1) 1 (many S) := hk2
    show vp_in (upd (S 9) (S 11 0).toNatClampNeg q k) (many S)
    rw [hcp] at hk3
    by_cases e : k = (S 11 0).toNatClampNeg
    · rw [e, pk_us]; exact hq
    · rw [pk_un e]; exact ho k (by omega)
theorem InvC.other {S T : ST} (h : InvC S) (h4 : T 4 = S 4) (h5 : T 5 = S 5) (h6 : T 6 = S 6) (h7 : T 7 = S 7) (h8 : T 8 = S 8) (h9 : T 9 = S 9) (h10 : T 10 = S 10) (h11 : T 11 = S 11) : InvC T := by
  unfold InvC cueF many at *
  rw [h4, h5, h6, h7, h8, h9, h10, h11]
  exact h
theorem Inv.call {B : Nat} {S : ST} (h : Inv B S) {q : Int32} (hq : vp_in q (many S)) (hc_ : cal S q.toNatClampNeg) : Inv B (callQ S q) := by
  have hk := vin_lt hq
  have hF := h.cf _ hk
  have hp := vin_lt hF.2.1
  have hC := h.c.call hq hc_.1
  have hd := hc_.2.2
  by_cases e0 : S 4 q.toNatClampNeg = 0
  · rw [callQ_0 e0]
    rw [done0 e0] at hd
    exact Inv.mk (h.a.enter hd.2) h.u1 (hC.other rfl rfl rfl rfl rfl rfl rfl rfl) h.d
  · by_cases e1_ : S 4 q.toNatClampNeg = 1
    · have hx := h.ex hk hc_ e1_
      rw [callQ_1 e1_]
      have hA := h.a.exit hp hx.1
      refine Inv.mk hA h.u1 (hC.other rfl rfl rfl rfl rfl rfl rfl rfl) h.d
    · rw [callQ_m e0 e1_]
      exact Inv.mk h.a (uq.mv h.u1 hF hd) (hC.other rfl rfl rfl rfl rfl rfl rfl rfl) h.d
theorem Inv.mono {B B' : Nat} {S : ST} (h : Inv B S) (hB_ : B ≤ B') : Inv B' S := Inv.mk h.a h.u1 h.c ⟨h.i13, h.i14.1, by have := h.i14.2; omega⟩
theorem inv_runN {B : Nat} : ∀ (n : Nat) {S : ST}, Inv B S → Inv B (runN n S)
  | 0, _, h => h
  | n + 1, S, h => by
    rw [runN]
    by_cases q : fstN (cal S) (many S) < many S
    · rw [cif_t q]
      have hm_ := h.m24
      exact inv_runN n (h.call (vp_in_nI q (by omega)) (by rw [nI_clamp (by omega)]; exact fstN_yes _ _ q))
    · rw [cif_f q]; exact h
end
section
set_option maxHeartbeats 4000000 in
set_option maxRecDepth 100000 in
theorem c_X0_costumeOf (l : Launch) (hfl : l.stackTraces = false) (D : va_G) (cI cZ : ClassId) (x : Nat) (a : Nat → Nat) (S : ST) (p : Int32) : vy_Met l yX0_costumeOf wsX0_costumeOf rmX0_costumeOf (va_Pc [.ref x, .int p] (fun U => (pR D (tyX cI cZ) (wX cI cZ x a S)) U ∧ pG U)) (vp_Si (fun r => k_costumeOf S p = (0, r, S))) (xcs (fun E => E = xIO ∧ k_costumeOf S p = (1, 0, S))) 1 6 (fun _ => False) := by
  refine vy_ofW (cc := cX0_costumeOf) (maxL := 2) (ret := (some .int)) (by decide) rfl ?_
  intro pr env s mid args below meth cod s₁ Bd hml hout hv
  obtain ⟨rfl, ⟨hP, hK⟩, hG0⟩ := hv
  have hG : xG (fun q => s.heap.size ≤ q) s s.heap := hG0
  have hx := Bd.exec
  have hb := Bd.bytes
  have hr := Bd.returns
  have hts := atoms_spec (ws := wsX0_costumeOf) Bd.pre
  have hown : s.vm.findClass RX0 = some mid.cls := findClass_of_methodNamed Bd.named
  have hlocks := Bd.notSynchronized
  have hin : ∀ w ∈ wsX00, w ∈ wsX0_costumeOf := fun _ h => List.mem_cons_of_mem _ (List.mem_append_left _ (List.mem_append_right _ h))
  have hl := lv_entry ([.ref x, .int p]) (n := 2) (Nat.le_of_ble_eq_true rfl)
  rw [lg_entry_eq]
  generalize (lg_sl ([.ref x, .int p]) ++ List.replicate (2 - (lg_sl ([.ref x, .int p])).length) Slot.unset).toArray = ls at hl ⊢
  have hl : lv_has ls 2 [(0, .ref x), (1, .int p)] := hl
  refine lv_iload_n hx hb dX0_costumeOf_0 rfl (lv_at hl 1 rfl) ?_
  refine vy_csv (vy_runS (As := [.int p]) (rest := []) ⟨hx, hb, hml, hown, hts⟩ (c_X0_requirePlayer l hfl p) (va_cwS 1 hts gX0_costumeOf_X0_requirePlayer rfl rfl rfl (by decide +kernel) ⟨Nat.le_of_ble_eq_true rfl, Nat.le_of_ble_eq_true rfl⟩) (pT_S (pN_S) hG (fun _ h => h)) rfl rfl hl.1 rfl (lv_room (Nat.le_of_ble_eq_true rfl)) dX0_costumeOf_1 ⟨Nat.le_of_ble_eq_true rfl, Nat.le_of_ble_eq_true rfl⟩) (fun E ce q9 H1 hPE hz9 hk9 hc9 hv9 hcl9 => vy_out hout hlocks (⟨hPE.1, cif_f hPE.2⟩) hz9 hk9 hc9 hv9 hcl9 (by decide) (by decide)) (fun h_1 => ?_)
  refine lv_aload_n hx hb dX0_costumeOf_4 rfl (lv_at hl 0 rfl) ?_
  have hf9 := hts (.fieldLink RX0 9 "Clockmask" "costumeOfPlayer" "[I") (by decide +kernel)
  refine va_get (D := D) (ci := 0) (v := .ref (a 0)) (C := RX0) (T := TX0) (N := 17) hx hb hts hin hown hK hP 0 rfl rfl 0 (by decide) hf9 (fun _ h9 => h9) rfl dX0_costumeOf_5 ?_
  refine lv_iload_n hx hb dX0_costumeOf_8 rfl (lv_at hl 1 rfl) ?_
  refine va_iald (f := S 0) (n := 6) hx hb hK hP 1 0 rfl rfl (by assumption) dX0_costumeOf_9 ?_
  exact vy_ret (W.iret (v := S 0 p.toNatClampNeg) hx hb hr (fun t ht hW => ⟨_, rfl, cif_t h_1, ht⟩) (fun q h => by cases h) dX0_costumeOf_10)
set_option maxHeartbeats 4000000 in
set_option maxRecDepth 100000 in
theorem c_X0_wear (l : Launch) (hfl : l.stackTraces = false) (D : va_G) (cI cZ : ClassId) (x : Nat) (a : Nat → Nat) (S : ST) (c : Int32) : vy_Met l yX0_wear wsX0_wear rmX0_wear (va_Pc [.ref x, .int c] (fun U => (pR D (tyX cI cZ) (wX cI cZ x a S)) U ∧ pG U)) (vp_Si (fun r => k_wear S c = (0, r, S))) (xcs (fun E => E = xIO ∧ k_wear S c = (1, 0, S))) 1 6 (fun _ => False) := by
  refine vy_ofW (cc := cX0_wear) (maxL := 2) (ret := (some .int)) (by decide) rfl ?_
  intro pr env s mid args below meth cod s₁ Bd hml hout hv
  obtain ⟨rfl, ⟨hP, hK⟩, hG0⟩ := hv
  have hG : xG (fun q => s.heap.size ≤ q) s s.heap := hG0
  have hx := Bd.exec
  have hb := Bd.bytes
  have hr := Bd.returns
  have hts := atoms_spec (ws := wsX0_wear) Bd.pre
  have hown : s.vm.findClass RX0 = some mid.cls := findClass_of_methodNamed Bd.named
  have hlocks := Bd.notSynchronized
  have hin : ∀ w ∈ wsX00, w ∈ wsX0_wear := fun _ h => List.mem_cons_of_mem _ (List.mem_append_left _ (List.mem_append_right _ h))
  have hl := lv_entry ([.ref x, .int c]) (n := 2) (Nat.le_of_ble_eq_true rfl)
  rw [lg_entry_eq]
  generalize (lg_sl ([.ref x, .int c]) ++ List.replicate (2 - (lg_sl ([.ref x, .int c])).length) Slot.unset).toArray = ls at hl ⊢
  have hl : lv_has ls 2 [(0, .ref x), (1, .int c)] := hl
  refine lv_iload_n hx hb dX0_wear_0 rfl (lv_at hl 1 rfl) ?_
  refine vy_csv (vy_runS (As := [.int c]) (rest := []) ⟨hx, hb, hml, hown, hts⟩ (c_X0_requireCostume l hfl c) (va_cwS 1 hts gX0_wear_X0_requireCostume rfl rfl rfl (by decide +kernel) ⟨Nat.le_of_ble_eq_true rfl, Nat.le_of_ble_eq_true rfl⟩) (pT_S (pN_S) hG (fun _ h => h)) rfl rfl hl.1 rfl (lv_room (Nat.le_of_ble_eq_true rfl)) dX0_wear_1 ⟨Nat.le_of_ble_eq_true rfl, Nat.le_of_ble_eq_true rfl⟩) (fun E ce q9 H1 hPE hz9 hk9 hc9 hv9 hcl9 => vy_out hout hlocks (⟨hPE.1, cif_f hPE.2⟩) hz9 hk9 hc9 hv9 hcl9 (by decide) (by decide)) (fun h_1 => ?_)
  refine lv_aload_n hx hb dX0_wear_4 rfl (lv_at hl 0 rfl) ?_
  have hf20 := hts (.fieldLink RX0 20 "Clockmask" "wearOfCostume" "[I") (by decide +kernel)
  refine va_get (D := D) (ci := 0) (v := .ref (a 3)) (C := RX0) (T := TX0) (N := 17) hx hb hts hin hown hK hP 0 rfl rfl 3 (by decide) hf20 (fun _ h9 => h9) rfl dX0_wear_5 ?_
  refine lv_iload_n hx hb dX0_wear_8 rfl (lv_at hl 1 rfl) ?_
  refine va_iald (f := S 3) (n := 8) hx hb hK hP 4 0 rfl rfl (by assumption) dX0_wear_9 ?_
  exact vy_ret (W.iret (v := S 3 c.toNatClampNeg) hx hb hr (fun t ht hW => ⟨_, rfl, cif_t h_1, ht⟩) (fun q h => by cases h) dX0_wear_10)
set_option maxHeartbeats 4000000 in
set_option maxRecDepth 100000 in
theorem c_X0_maskOf (l : Launch) (hfl : l.stackTraces = false) (D : va_G) (cI cZ : ClassId) (x : Nat) (a : Nat → Nat) (S : ST) (p : Int32) : vy_Met l yX0_maskOf wsX0_maskOf rmX0_maskOf (va_Pc [.ref x, .int p] (fun U => (pR D (tyX cI cZ) (wX cI cZ x a S)) U ∧ pG U)) (vp_Si (fun r => k_maskOf S p = (0, r, S))) (xcs (fun E => E = xIO ∧ k_maskOf S p = (1, 0, S))) 1 6 (fun _ => False) := by
  refine vy_ofW (cc := cX0_maskOf) (maxL := 2) (ret := (some .int)) (by decide) rfl ?_
  intro pr env s mid args below meth cod s₁ Bd hml hout hv
  obtain ⟨rfl, ⟨hP, hK⟩, hG0⟩ := hv
  have hG : xG (fun q => s.heap.size ≤ q) s s.heap := hG0
  have hx := Bd.exec
  have hb := Bd.bytes
  have hr := Bd.returns
  have hts := atoms_spec (ws := wsX0_maskOf) Bd.pre
  have hown : s.vm.findClass RX0 = some mid.cls := findClass_of_methodNamed Bd.named
  have hlocks := Bd.notSynchronized
  have hin : ∀ w ∈ wsX00, w ∈ wsX0_maskOf := fun _ h => List.mem_cons_of_mem _ (List.mem_append_left _ (List.mem_append_right _ h))
  have hl := lv_entry ([.ref x, .int p]) (n := 2) (Nat.le_of_ble_eq_true rfl)
  rw [lg_entry_eq]
  generalize (lg_sl ([.ref x, .int p]) ++ List.replicate (2 - (lg_sl ([.ref x, .int p])).length) Slot.unset).toArray = ls at hl ⊢
  have hl : lv_has ls 2 [(0, .ref x), (1, .int p)] := hl
  refine lv_iload_n hx hb dX0_maskOf_0 rfl (lv_at hl 1 rfl) ?_
  refine vy_csv (vy_runS (As := [.int p]) (rest := []) ⟨hx, hb, hml, hown, hts⟩ (c_X0_requirePlayer l hfl p) (va_cwS 1 hts gX0_maskOf_X0_requirePlayer rfl rfl rfl (by decide +kernel) ⟨Nat.le_of_ble_eq_true rfl, Nat.le_of_ble_eq_true rfl⟩) (pT_S (pN_S) hG (fun _ h => h)) rfl rfl hl.1 rfl (lv_room (Nat.le_of_ble_eq_true rfl)) dX0_maskOf_1 ⟨Nat.le_of_ble_eq_true rfl, Nat.le_of_ble_eq_true rfl⟩) (fun E ce q9 H1 hPE hz9 hk9 hc9 hv9 hcl9 => vy_out hout hlocks (⟨hPE.1, cif_f hPE.2⟩) hz9 hk9 hc9 hv9 hcl9 (by decide) (by decide)) (fun h_1 => ?_)
  refine lv_aload_n hx hb dX0_maskOf_4 rfl (lv_at hl 0 rfl) ?_
  have hf13 := hts (.fieldLink RX0 13 "Clockmask" "maskOfPlayer" "[I") (by decide +kernel)
  refine va_get (D := D) (ci := 0) (v := .ref (a 1)) (C := RX0) (T := TX0) (N := 17) hx hb hts hin hown hK hP 0 rfl rfl 1 (by decide) hf13 (fun _ h9 => h9) rfl dX0_maskOf_5 ?_
  refine lv_iload_n hx hb dX0_maskOf_8 rfl (lv_at hl 1 rfl) ?_
  refine va_iald (f := S 1) (n := 6) hx hb hK hP 2 0 rfl rfl (by assumption) dX0_maskOf_9 ?_
  exact vy_ret (W.iret (v := S 1 p.toNatClampNeg) hx hb hr (fun t ht hW => ⟨_, rfl, cif_t h_1, ht⟩) (fun q h => by cases h) dX0_maskOf_10)
set_option maxHeartbeats 4000000 in
set_option maxRecDepth 100000 in
theorem c_X0_points (l : Launch) (hfl : l.stackTraces = false) (D : va_G) (cI cZ : ClassId) (x : Nat) (a : Nat → Nat) (S : ST) (g : Int32) : vy_Met l yX0_points wsX0_points rmX0_points (va_Pc [.ref x, .int g] (fun U => (pR D (tyX cI cZ) (wX cI cZ x a S)) U ∧ pG U)) (vp_Si (fun r => k_points S g = (0, r, S))) (xcs (fun E => E = xIO ∧ k_points S g = (1, 0, S))) 1 6 (fun _ => False) := by
  refine vy_ofW (cc := cX0_points) (maxL := 2) (ret := (some .int)) (by decide) rfl ?_
  intro pr env s mid args below meth cod s₁ Bd hml hout hv
  obtain ⟨rfl, ⟨hP, hK⟩, hG0⟩ := hv
  have hG : xG (fun q => s.heap.size ≤ q) s s.heap := hG0
  have hx := Bd.exec
  have hb := Bd.bytes
  have hr := Bd.returns
  have hts := atoms_spec (ws := wsX0_points) Bd.pre
  have hown : s.vm.findClass RX0 = some mid.cls := findClass_of_methodNamed Bd.named
  have hlocks := Bd.notSynchronized
  have hin : ∀ w ∈ wsX00, w ∈ wsX0_points := fun _ h => List.mem_cons_of_mem _ (List.mem_append_left _ (List.mem_append_right _ h))
  have hl := lv_entry ([.ref x, .int g]) (n := 2) (Nat.le_of_ble_eq_true rfl)
  rw [lg_entry_eq]
  generalize (lg_sl ([.ref x, .int g]) ++ List.replicate (2 - (lg_sl ([.ref x, .int g])).length) Slot.unset).toArray = ls at hl ⊢
  have hl : lv_has ls 2 [(0, .ref x), (1, .int g)] := hl
  refine lv_iload_n hx hb dX0_points_0 rfl (lv_at hl 1 rfl) ?_
  refine vy_csv (vy_runS (As := [.int g]) (rest := []) ⟨hx, hb, hml, hown, hts⟩ (c_X0_requireGuesser l hfl g) (va_cwS 1 hts gX0_points_X0_requireGuesser rfl rfl rfl (by decide +kernel) ⟨Nat.le_of_ble_eq_true rfl, Nat.le_of_ble_eq_true rfl⟩) (pT_S (pN_S) hG (fun _ h => h)) rfl rfl hl.1 rfl (lv_room (Nat.le_of_ble_eq_true rfl)) dX0_points_1 ⟨Nat.le_of_ble_eq_true rfl, Nat.le_of_ble_eq_true rfl⟩) (fun E ce q9 H1 hPE hz9 hk9 hc9 hv9 hcl9 => vy_out hout hlocks (⟨hPE.1, cif_f hPE.2⟩) hz9 hk9 hc9 hv9 hcl9 (by decide) (by decide)) (fun h_1 => ?_)
  refine lv_aload_n hx hb dX0_points_4 rfl (lv_at hl 0 rfl) ?_
  have hf41 := hts (.fieldLink RX0 41 "Clockmask" "pointsOfGuesser" "[I") (by decide +kernel)
  refine va_get (D := D) (ci := 0) (v := .ref (a 12)) (C := RX0) (T := TX0) (N := 17) hx hb hts hin hown hK hP 0 rfl rfl 12 (by decide) hf41 (fun _ h9 => h9) rfl dX0_points_5 ?_
  refine lv_iload_n hx hb dX0_points_8 rfl (lv_at hl 1 rfl) ?_
  refine va_iald (f := S 12) (n := 3) hx hb hK hP 11 0 rfl rfl (by assumption) dX0_points_9 ?_
  exact vy_ret (W.iret (v := S 12 g.toNatClampNeg) hx hb hr (fun t ht hW => ⟨_, rfl, cif_t h_1, ht⟩) (fun q h => by cases h) dX0_points_10)
set_option maxHeartbeats 4000000 in
set_option maxRecDepth 100000 in
theorem c_X0_isOn (l : Launch) (hfl : l.stackTraces = false) (D : va_G) (cI cZ : ClassId) (x : Nat) (a : Nat → Nat) (S : ST) (p : Int32) (B : Nat) (hI : Inv B S) : vy_Met l yX0_isOn wsX0_isOn rmX0_isOn (va_Pc [.ref x, .int p] (fun U => (pR D (tyX cI cZ) (wX cI cZ x a S)) U ∧ pG U)) (vp_Si (fun r => k_isOn S p = (0, r, S))) (xcs (fun E => E = xIO ∧ k_isOn S p = (1, 0, S))) 1 6 (fun _ => False) := by
  refine vy_ofW (cc := cX0_isOn) (maxL := 2) (ret := (some .boolean)) (by decide) rfl ?_
  intro pr env s mid args below meth cod s₁ Bd hml hout hv
  obtain ⟨rfl, ⟨hP, hK⟩, hG0⟩ := hv
  have hG : xG (fun q => s.heap.size ≤ q) s s.heap := hG0
  have hx := Bd.exec
  have hb := Bd.bytes
  have hr := Bd.returns
  have hts := atoms_spec (ws := wsX0_isOn) Bd.pre
  have hown : s.vm.findClass RX0 = some mid.cls := findClass_of_methodNamed Bd.named
  have hlocks := Bd.notSynchronized
  have hin : ∀ w ∈ wsX00, w ∈ wsX0_isOn := fun _ h => List.mem_cons_of_mem _ (List.mem_append_left _ (List.mem_append_right _ h))
  have hl := lv_entry ([.ref x, .int p]) (n := 2) (Nat.le_of_ble_eq_true rfl)
  rw [lg_entry_eq]
  generalize (lg_sl ([.ref x, .int p]) ++ List.replicate (2 - (lg_sl ([.ref x, .int p])).length) Slot.unset).toArray = ls at hl ⊢
  have hl : lv_has ls 2 [(0, .ref x), (1, .int p)] := hl
  refine lv_iload_n hx hb dX0_isOn_0 rfl (lv_at hl 1 rfl) ?_
  refine vy_csv (vy_runS (As := [.int p]) (rest := []) ⟨hx, hb, hml, hown, hts⟩ (c_X0_requirePlayer l hfl p) (va_cwS 1 hts gX0_isOn_X0_requirePlayer rfl rfl rfl (by decide +kernel) ⟨Nat.le_of_ble_eq_true rfl, Nat.le_of_ble_eq_true rfl⟩) (pT_S (pN_S) hG (fun _ h => h)) rfl rfl hl.1 rfl (lv_room (Nat.le_of_ble_eq_true rfl)) dX0_isOn_1 ⟨Nat.le_of_ble_eq_true rfl, Nat.le_of_ble_eq_true rfl⟩) (fun E ce q9 H1 hPE hz9 hk9 hc9 hv9 hcl9 => vy_out hout hlocks (⟨hPE.1, cif_f hPE.2⟩) hz9 hk9 hc9 hv9 hcl9 (by decide) (by decide)) (fun h_1 => ?_)
  refine lv_aload_n hx hb dX0_isOn_4 rfl (lv_at hl 0 rfl) ?_
  have hf16 := hts (.fieldLink RX0 16 "Clockmask" "onStage" "[Z") (by decide +kernel)
  refine va_get (D := D) (ci := 0) (v := .ref (a 2)) (C := RX0) (T := TX0) (N := 17) hx hb hts hin hown hK hP 0 rfl rfl 2 (by decide) hf16 (fun _ h9 => h9) rfl dX0_isOn_5 ?_
  refine lv_iload_n hx hb dX0_isOn_8 rfl (lv_at hl 1 rfl) ?_
  refine va_zald (f := S 2) (n := 6) hx hb hK hP 3 1 rfl rfl (by assumption) dX0_isOn_9 ?_
  exact vy_ret (W.zret (v := S 2 p.toNatClampNeg) (ty := .boolean) hx hb hr (by rcases hI.i2 _ (vin_lt h_1) with h | h <;> rw [h] <;> rfl) (fun t ht hW => ⟨_, rfl, cif_t h_1, ht⟩) (fun q h => by cases h) dX0_isOn_10)
set_option maxHeartbeats 4000000 in
set_option maxRecDepth 100000 in
theorem c_X0_stateOf (l : Launch) (hfl : l.stackTraces = false) (D : va_G) (cI cZ : ClassId) (x : Nat) (a : Nat → Nat) (S : ST) (q : Int32) (B : Nat) (hI : Inv B S) : vy_Met l yX0_stateOf wsX0_stateOf rmX0_stateOf (va_Pc [.ref x, .int q] (fun U => (pR D (tyX cI cZ) (wX cI cZ x a S)) U ∧ pG U)) (vp_Si (fun r => k_stateOf S q = (0, r, S))) (xcs (fun E => E = xIO ∧ k_stateOf S q = (1, 0, S))) 1 6 (fun _ => False) := by
  refine vy_ofW (cc := cX0_stateOf) (maxL := 2) (ret := (some .int)) (by decide) rfl ?_
  intro pr env s mid args below meth cod s₁ Bd hml hout hv
  obtain ⟨rfl, ⟨hP, hK⟩, hG0⟩ := hv
  have hG : xG (fun q => s.heap.size ≤ q) s s.heap := hG0
  have hx := Bd.exec
  have hb := Bd.bytes
  have hr := Bd.returns
  have hts := atoms_spec (ws := wsX0_stateOf) Bd.pre
  have hown : s.vm.findClass RX0 = some mid.cls := findClass_of_methodNamed Bd.named
  have hlocks := Bd.notSynchronized
  have hin : ∀ w ∈ wsX00, w ∈ wsX0_stateOf := fun _ h => List.mem_cons_of_mem _ (List.mem_append_left _ (List.mem_append_right _ h))
  have hl := lv_entry ([.ref x, .int q]) (n := 2) (Nat.le_of_ble_eq_true rfl)
  rw [lg_entry_eq]
  generalize (lg_sl ([.ref x, .int q]) ++ List.replicate (2 - (lg_sl ([.ref x, .int q])).length) Slot.unset).toArray = ls at hl ⊢
  have hl : lv_has ls 2 [(0, .ref x), (1, .int q)] := hl
  refine lv_aload_n hx hb dX0_stateOf_0 rfl (lv_at hl 0 rfl) ?_
  refine lv_iload_n hx hb dX0_stateOf_1 rfl (lv_at hl 1 rfl) ?_
  refine vy_csv (vy_runV (As := [.int q]) (rest := []) ⟨hx, hb, hml, hown, hts⟩ (c_X0_requireCue l hfl D cI cZ x a S q) (cwV 1 hts gX0_stateOf_X0_requireCue rfl rfl rfl (by decide +kernel) ⟨Nat.le_of_ble_eq_true rfl, Nat.le_of_ble_eq_true rfl⟩) (pT_V (pR_V (ci := 0) hP hK rfl rfl) hG (fun _ h => h)) rfl rfl hl.1 rfl (lv_room (Nat.le_of_ble_eq_true rfl)) dX0_stateOf_2 ⟨Nat.le_of_ble_eq_true rfl, Nat.le_of_ble_eq_true rfl⟩) (fun E ce q9 H1 hPE hz9 hk9 hc9 hv9 hcl9 => vy_out hout hlocks (⟨hPE.1, cif_f hPE.2⟩) hz9 hk9 hc9 hv9 hcl9 (by decide) (by decide)) (fun h_2 => ?_)
  refine lv_aload_n hx hb dX0_stateOf_5 rfl (lv_at hl 0 rfl) ?_
  have hf35 := hts (.fieldLink RX0 35 "Clockmask" "cueState" "[I") (by decide +kernel)
  refine va_get (D := D) (ci := 0) (v := .ref (a 8)) (C := RX0) (T := TX0) (N := 17) hx hb hts hin hown hK hP 0 rfl rfl 8 (by decide) hf35 (fun _ h9 => h9) rfl dX0_stateOf_6 ?_
  refine lv_iload_n hx hb dX0_stateOf_9 rfl (lv_at hl 1 rfl) ?_
  refine va_iald (f := S 8) (n := 24) hx hb hK hP 9 0 rfl rfl (hI.q24 h_2) dX0_stateOf_10 ?_
  exact vy_ret (W.iret (v := S 8 q.toNatClampNeg) hx hb hr (fun t ht hW => ⟨_, rfl, cif_t h_2, ht⟩) (fun q h => by cases h) dX0_stateOf_11)
set_option maxHeartbeats 4000000 in
set_option maxRecDepth 100000 in
theorem c_X0_wearerOf (l : Launch) (hfl : l.stackTraces = false) (D : va_G) (cI cZ : ClassId) (x : Nat) (a : Nat → Nat) (S : ST) (m : Int32) : vy_Met l yX0_wearerOf wsX0_wearerOf rmX0_wearerOf (va_Pc [.ref x, .int m] (fun U => (pR D (tyX cI cZ) (wX cI cZ x a S)) U ∧ pG U)) (vp_Si (fun r => k_wearerOf S m = (0, r, S))) (xcs (fun E => E = xIO ∧ k_wearerOf S m = (1, 0, S))) 1 6 (fun _ => False) := by
  refine vy_ofW (cc := cX0_wearerOf) (maxL := 2) (ret := (some .int)) (by decide) rfl ?_
  intro pr env s mid args below meth cod s₁ Bd hml hout hv
  obtain ⟨rfl, ⟨hP, hK⟩, hG0⟩ := hv
  have hG : xG (fun q => s.heap.size ≤ q) s s.heap := hG0
  have hx := Bd.exec
  have hb := Bd.bytes
  have hr := Bd.returns
  have hts := atoms_spec (ws := wsX0_wearerOf) Bd.pre
  have hown : s.vm.findClass RX0 = some mid.cls := findClass_of_methodNamed Bd.named
  have hlocks := Bd.notSynchronized
  have hin : ∀ w ∈ wsX00, w ∈ wsX0_wearerOf := fun _ h => List.mem_cons_of_mem _ (List.mem_append_left _ (List.mem_append_right _ h))
  have hl := lv_entry ([.ref x, .int m]) (n := 2) (Nat.le_of_ble_eq_true rfl)
  rw [lg_entry_eq]
  generalize (lg_sl ([.ref x, .int m]) ++ List.replicate (2 - (lg_sl ([.ref x, .int m])).length) Slot.unset).toArray = ls at hl ⊢
  have hl : lv_has ls 2 [(0, .ref x), (1, .int m)] := hl
  refine lv_iload_n hx hb dX0_wearerOf_0 rfl (lv_at hl 1 rfl) ?_
  refine vy_csv (vy_runS (As := [.int m]) (rest := []) ⟨hx, hb, hml, hown, hts⟩ (c_X0_requireMask l hfl m) (va_cwS 1 hts gX0_wearerOf_X0_requireMask rfl rfl rfl (by decide +kernel) ⟨Nat.le_of_ble_eq_true rfl, Nat.le_of_ble_eq_true rfl⟩) (pT_S (pN_S) hG (fun _ h => h)) rfl rfl hl.1 rfl (lv_room (Nat.le_of_ble_eq_true rfl)) dX0_wearerOf_1 ⟨Nat.le_of_ble_eq_true rfl, Nat.le_of_ble_eq_true rfl⟩) (fun E ce q9 H1 hPE hz9 hk9 hc9 hv9 hcl9 => vy_out hout hlocks (⟨hPE.1, cif_f hPE.2⟩) hz9 hk9 hc9 hv9 hcl9 (by decide) (by decide)) (fun h_1 => ?_)
  refine lv_aload_n hx hb dX0_wearerOf_4 rfl (lv_at hl 0 rfl) ?_
  refine lv_iload_n hx hb dX0_wearerOf_5 rfl (lv_at hl 1 rfl) ?_
  refine vp_callSi (W.runV (As := [.int m]) (rest := []) ⟨hx, hb, hml, hown, hts⟩ (c_X0_playerBehind l D cI cZ x a S m) (cwV 1 hts gX0_wearerOf_X0_playerBehind rfl rfl rfl (by decide +kernel) ⟨Nat.le_of_ble_eq_true rfl, Nat.le_of_ble_eq_true rfl⟩) (pR_V (ci := 0) hP hK rfl rfl) rfl rfl hl.1 rfl (lv_room (Nat.le_of_ble_eq_true rfl)) dX0_wearerOf_6 ⟨Nat.zero_le _, Nat.zero_le _⟩) (fun r_6 h_6 => ?_)
  subst h_6
  exact vy_ret (W.iret (v := fI (S 1) m) hx hb hr (fun t ht hW => ⟨_, rfl, cif_t h_1, ht⟩) (fun q h => by cases h) dX0_wearerOf_9)
set_option maxHeartbeats 4000000 in
set_option maxRecDepth 100000 in
theorem c_X0_canCall (l : Launch) (hfl : l.stackTraces = false) (D : va_G) (cI cZ : ClassId) (x : Nat) (a : Nat → Nat) (S : ST) (q : Int32) (B : Nat) (hI : Inv B S) : vy_Met l yX0_canCall wsX0_canCall rmX0_canCall (va_Pc [.ref x, .int q] (fun U => (pR D (tyX cI cZ) (wX cI cZ x a S)) U ∧ pG U)) (vp_Si (fun r => k_canCall S q = (0, r, S))) (xcs (fun E => E = xIO ∧ k_canCall S q = (1, 0, S))) 1 6 (fun _ => False) := by
  refine vy_ofW (cc := cX0_canCall) (maxL := 2) (ret := (some .boolean)) (by decide) rfl ?_
  intro pr env s mid args below meth cod s₁ Bd hml hout hv
  obtain ⟨rfl, ⟨hP, hK⟩, hG0⟩ := hv
  have hG : xG (fun q => s.heap.size ≤ q) s s.heap := hG0
  have hx := Bd.exec
  have hb := Bd.bytes
  have hr := Bd.returns
  have hts := atoms_spec (ws := wsX0_canCall) Bd.pre
  have hown : s.vm.findClass RX0 = some mid.cls := findClass_of_methodNamed Bd.named
  have hlocks := Bd.notSynchronized
  have hin : ∀ w ∈ wsX00, w ∈ wsX0_canCall := fun _ h => List.mem_cons_of_mem _ (List.mem_append_left _ (List.mem_append_right _ h))
  have hl := lv_entry ([.ref x, .int q]) (n := 2) (Nat.le_of_ble_eq_true rfl)
  rw [lg_entry_eq]
  generalize (lg_sl ([.ref x, .int q]) ++ List.replicate (2 - (lg_sl ([.ref x, .int q])).length) Slot.unset).toArray = ls at hl ⊢
  have hl : lv_has ls 2 [(0, .ref x), (1, .int q)] := hl
  refine lv_aload_n hx hb dX0_canCall_0 rfl (lv_at hl 0 rfl) ?_
  refine lv_iload_n hx hb dX0_canCall_1 rfl (lv_at hl 1 rfl) ?_
  refine vy_csv (vy_runV (As := [.int q]) (rest := []) ⟨hx, hb, hml, hown, hts⟩ (c_X0_requireCue l hfl D cI cZ x a S q) (cwV 1 hts gX0_canCall_X0_requireCue rfl rfl rfl (by decide +kernel) ⟨Nat.le_of_ble_eq_true rfl, Nat.le_of_ble_eq_true rfl⟩) (pT_V (pR_V (ci := 0) hP hK rfl rfl) hG (fun _ h => h)) rfl rfl hl.1 rfl (lv_room (Nat.le_of_ble_eq_true rfl)) dX0_canCall_2 ⟨Nat.le_of_ble_eq_true rfl, Nat.le_of_ble_eq_true rfl⟩) (fun E ce q9 H1 hPE hz9 hk9 hc9 hv9 hcl9 => vy_out hout hlocks (⟨hPE.1, cif_f hPE.2⟩) hz9 hk9 hc9 hv9 hcl9 (by decide) (by decide)) (fun h_2 => ?_)
  refine lv_aload_n hx hb dX0_canCall_5 rfl (lv_at hl 0 rfl) ?_
  refine lv_iload_n hx hb dX0_canCall_6 rfl (lv_at hl 1 rfl) ?_
  refine vp_callSi (W.runV (As := [.int q]) (rest := []) ⟨hx, hb, hml, hown, hts⟩ (c_X0_isCallable l D cI cZ x a S q (hI.q24 h_2) (hI.cueq h_2)) (cwV 1 hts gX0_canCall_X0_isCallable rfl rfl rfl (by decide +kernel) ⟨Nat.le_of_ble_eq_true rfl, Nat.le_of_ble_eq_true rfl⟩) (pR_V (ci := 0) hP hK rfl rfl) rfl rfl hl.1 rfl (lv_room (Nat.le_of_ble_eq_true rfl)) dX0_canCall_7 ⟨Nat.zero_le _, Nat.zero_le _⟩) (fun r_7 h_7 => ?_)
  exact vy_ret (W.zret (v := r_7) (ty := .boolean) hx hb hr (by rw [h_7]; exact cif_nar) (fun t ht hW => ⟨_, rfl, by rw [h_7]; exact cif_t h_2, ht⟩) (fun q h => by cases h) dX0_canCall_10)
set_option maxHeartbeats 4000000 in
set_option maxRecDepth 100000 in
theorem c_X0_purse (l : Launch) (D : va_G) (cI cZ : ClassId) (x : Nat) (a : Nat → Nat) (S : ST) : Met l yX0_purse wsX0_purse rmX0_purse (va_Pc [.ref x] (pR D (tyX cI cZ) (wX cI cZ x a S))) (vp_Si (fun r => r = S 14 0)) 0 0 (fun _ => False) := by
  refine Met.ofW (cc := cX0_purse) (maxL := 1) (ret := (some .int)) (by decide) rfl ?_
  intro pr env s mid args below meth cod s₁ Bd hml hv
  obtain ⟨rfl, hP, hK⟩ := hv
  have hx := Bd.exec
  have hb := Bd.bytes
  have hr := Bd.returns
  have hts := atoms_spec (ws := wsX0_purse) Bd.pre
  have hown : s.vm.findClass RX0 = some mid.cls := findClass_of_methodNamed Bd.named
  have hlocks := Bd.notSynchronized
  have hin : ∀ w ∈ wsX00, w ∈ wsX0_purse := fun _ h => List.mem_cons_of_mem _ (List.mem_append_right _ h)
  have hl := lv_entry ([.ref x]) (n := 1) (Nat.le_of_ble_eq_true rfl)
  rw [lg_entry_eq]
  generalize (lg_sl ([.ref x]) ++ List.replicate (1 - (lg_sl ([.ref x])).length) Slot.unset).toArray = ls at hl ⊢
  have hl : lv_has ls 1 [(0, .ref x)] := hl
  refine lv_aload_n hx hb dX0_purse_0 rfl (lv_at hl 0 rfl) ?_
  have hf47 := hts (.fieldLink RX0 47 "Clockmask" "purse" "I") (by decide +kernel)
  refine va_get (D := D) (ci := 0) (v := .int (S 14 0)) (C := RX0) (T := TX0) (N := 17) hx hb hts hin hown hK hP 0 rfl rfl 14 (by decide) hf47 (fun _ h9 => h9) rfl dX0_purse_1 ?_
  exact W.iret (v := S 14 0) hx hb hr (fun t ht hW => ⟨_, rfl, rfl, ht⟩) (fun q h => by cases h) dX0_purse_4
set_option maxHeartbeats 4000000 in
set_option maxRecDepth 100000 in
theorem c_X0_cues (l : Launch) (D : va_G) (cI cZ : ClassId) (x : Nat) (a : Nat → Nat) (S : ST) : Met l yX0_cues wsX0_cues rmX0_cues (va_Pc [.ref x] (pR D (tyX cI cZ) (wX cI cZ x a S))) (vp_Si (fun r => r = S 10 0)) 0 0 (fun _ => False) := by
  refine Met.ofW (cc := cX0_cues) (maxL := 1) (ret := (some .int)) (by decide) rfl ?_
  intro pr env s mid args below meth cod s₁ Bd hml hv
  obtain ⟨rfl, hP, hK⟩ := hv
  have hx := Bd.exec
  have hb := Bd.bytes
  have hr := Bd.returns
  have hts := atoms_spec (ws := wsX0_cues) Bd.pre
  have hown : s.vm.findClass RX0 = some mid.cls := findClass_of_methodNamed Bd.named
  have hlocks := Bd.notSynchronized
  have hin : ∀ w ∈ wsX00, w ∈ wsX0_cues := fun _ h => List.mem_cons_of_mem _ (List.mem_append_right _ h)
  have hl := lv_entry ([.ref x]) (n := 1) (Nat.le_of_ble_eq_true rfl)
  rw [lg_entry_eq]
  generalize (lg_sl ([.ref x]) ++ List.replicate (1 - (lg_sl ([.ref x])).length) Slot.unset).toArray = ls at hl ⊢
  have hl : lv_has ls 1 [(0, .ref x)] := hl
  refine lv_aload_n hx hb dX0_cues_0 rfl (lv_at hl 0 rfl) ?_
  have hf104 := hts (.fieldLink RX0 104 "Clockmask" "cueCount" "I") (by decide +kernel)
  refine va_get (D := D) (ci := 0) (v := .int (S 10 0)) (C := RX0) (T := TX0) (N := 17) hx hb hts hin hown hK hP 0 rfl rfl 10 (by decide) hf104 (fun _ h9 => h9) rfl dX0_cues_1 ?_
  exact W.iret (v := S 10 0) hx hb hr (fun t ht hW => ⟨_, rfl, rfl, ht⟩) (fun q h => by cases h) dX0_cues_4
set_option maxHeartbeats 4000000 in
set_option maxRecDepth 100000 in
theorem c_X0_plays (l : Launch) (D : va_G) (cI cZ : ClassId) (x : Nat) (a : Nat → Nat) (S : ST) : Met l yX0_plays wsX0_plays rmX0_plays (va_Pc [.ref x] (pR D (tyX cI cZ) (wX cI cZ x a S))) (vp_Si (fun r => r = S 15 0)) 0 0 (fun _ => False) := by
  refine Met.ofW (cc := cX0_plays) (maxL := 1) (ret := (some .int)) (by decide) rfl ?_
  intro pr env s mid args below meth cod s₁ Bd hml hv
  obtain ⟨rfl, hP, hK⟩ := hv
  have hx := Bd.exec
  have hb := Bd.bytes
  have hr := Bd.returns
  have hts := atoms_spec (ws := wsX0_plays) Bd.pre
  have hown : s.vm.findClass RX0 = some mid.cls := findClass_of_methodNamed Bd.named
  have hlocks := Bd.notSynchronized
  have hin : ∀ w ∈ wsX00, w ∈ wsX0_plays := fun _ h => List.mem_cons_of_mem _ (List.mem_append_right _ h)
  have hl := lv_entry ([.ref x]) (n := 1) (Nat.le_of_ble_eq_true rfl)
  rw [lg_entry_eq]
  generalize (lg_sl ([.ref x]) ++ List.replicate (1 - (lg_sl ([.ref x])).length) Slot.unset).toArray = ls at hl ⊢
  have hl : lv_has ls 1 [(0, .ref x)] := hl
  refine lv_aload_n hx hb dX0_plays_0 rfl (lv_at hl 0 rfl) ?_
  have hf162 := hts (.fieldLink RX0 162 "Clockmask" "endedPlays" "I") (by decide +kernel)
  refine va_get (D := D) (ci := 0) (v := .int (S 15 0)) (C := RX0) (T := TX0) (N := 17) hx hb hts hin hown hK hP 0 rfl rfl 15 (by decide) hf162 (fun _ h9 => h9) rfl dX0_plays_1 ?_
  exact W.iret (v := S 15 0) hx hb hr (fun t ht hW => ⟨_, rfl, rfl, ht⟩) (fun q h => by cases h) dX0_plays_4
set_option maxHeartbeats 4000000 in
set_option maxRecDepth 100000 in
theorem c_X0_dress (l : Launch) (hfl : l.stackTraces = false) (D : va_G) (cI cZ : ClassId) (x : Nat) (a : Nat → Nat) (S : ST) (sz : Nat) (p : Int32) (c : Int32) : vy_Met l yX0_dress wsX0_dress rmX0_dress (va_Pc [.ref x, .int p, .int c] (fun U => (pW D (tyX cI cZ) (wX cI cZ x a S) sz) U ∧ pG U)) (va_Qi (fun (r : Int32) (u : ST) => k_dress S p c = (0, r, u)) (fun (u : ST) t => atW D (wX cI cZ x a u) (va_A (wX cI cZ x a S) sz) t) (va_A (wX cI cZ x a S) sz)) (xcs (fun E => (E = xIO ∧ k_dress S p c = (1, 0, S)) ∨ (E = xIA ∧ k_dress S p c = (2, 0, S)) ∨ (E = xIS ∧ k_dress S p c = (3, 0, S)))) 1 6 (va_A (wX cI cZ x a S) sz) := by
  refine vy_ofW (cc := cX0_dress) (maxL := 5) (ret := (some .int)) (by decide) rfl ?_
  intro pr env s mid args below meth cod s₁ Bd hml hout hv
  obtain ⟨rfl, ⟨hsz, hP, hK, hD0⟩, hG0⟩ := hv
  have hG : xG (fun q => s.heap.size ≤ q) s s.heap := hG0
  have hx := Bd.exec
  have hb := Bd.bytes
  have hr := Bd.returns
  have hts := atoms_spec (ws := wsX0_dress) Bd.pre
  have hown : s.vm.findClass RX0 = some mid.cls := findClass_of_methodNamed Bd.named
  have hlocks := Bd.notSynchronized
  have hin : ∀ w ∈ wsX00, w ∈ wsX0_dress := fun _ h => List.mem_cons_of_mem _ (List.mem_append_left _ (List.mem_append_left _ (List.mem_append_left _ (List.mem_append_right _ h))))
  subst hsz
  have hD := hD0.self (sz := s.heap.size)
  generalize hAe : va_A (wX cI cZ x a S) s.heap.size = A at hD ⊢
  have hA : ∀ q : Nat, s.heap.size ≤ q → A q := fun q h => by rw [← hAe]; exact Or.inr h
  have hS : va_S A s.heap s.heap [] := va_S.rf
  have hP : va_P D vwCl (wX cI cZ x a S) s.heap := hP
  have hD : va_D A (wX cI cZ x a S) := hD
  have hl := lv_entry ([.ref x, .int p, .int c]) (n := 5) (Nat.le_of_ble_eq_true rfl)
  rw [lg_entry_eq]
  generalize (lg_sl ([.ref x, .int p, .int c]) ++ List.replicate (5 - (lg_sl ([.ref x, .int p, .int c])).length) Slot.unset).toArray = ls at hl ⊢
  have hl : lv_has ls 5 [(0, .ref x), (1, .int p), (2, .int c)] := hl
  refine lv_iload_n hx hb dX0_dress_0 rfl (lv_at hl 1 rfl) ?_
  refine vy_csv (vy_runS (As := [.int p]) (rest := []) ⟨hx, hb, hml, hown, hts⟩ (c_X0_requirePlayer l hfl p) (va_cwS 1 hts gX0_dress_X0_requirePlayer rfl rfl rfl (by decide +kernel) ⟨Nat.le_of_ble_eq_true rfl, Nat.le_of_ble_eq_true rfl⟩) (pT_S (pN_S) hG (fun _ h => h)) rfl rfl hl.1 rfl (lv_room (Nat.le_of_ble_eq_true rfl)) dX0_dress_1 ⟨Nat.le_of_ble_eq_true rfl, Nat.le_of_ble_eq_true rfl⟩) (fun E ce q9 H1 hPE hz9 hk9 hc9 hv9 hcl9 => vy_out hout hlocks (Or.inl ⟨hPE.1, cif_f (fun h => hPE.2 h.1)⟩) hz9 hk9 hc9 hv9 hcl9 (by decide) (by decide)) (fun h_1 => ?_)
  refine lv_iload_n hx hb dX0_dress_4 rfl (lv_at hl 2 rfl) ?_
  refine vy_csv (vy_runS (As := [.int c]) (rest := []) ⟨hx, hb, hml, hown, hts⟩ (c_X0_requireCostume l hfl c) (va_cwS 1 hts gX0_dress_X0_requireCostume rfl rfl rfl (by decide +kernel) ⟨Nat.le_of_ble_eq_true rfl, Nat.le_of_ble_eq_true rfl⟩) (pT_S (pN_S) hG (fun _ h => h)) rfl rfl hl.1 rfl (lv_room (Nat.le_of_ble_eq_true rfl)) dX0_dress_5 ⟨Nat.le_of_ble_eq_true rfl, Nat.le_of_ble_eq_true rfl⟩) (fun E ce q9 H1 hPE hz9 hk9 hc9 hv9 hcl9 => vy_out hout hlocks (Or.inl ⟨hPE.1, cif_f (fun h => hPE.2 h.2)⟩) hz9 hk9 hc9 hv9 hcl9 (by decide) (by decide)) (fun h_5 => ?_)
  refine lv_iload_n hx hb dX0_dress_8 rfl (lv_at hl 2 rfl) ?_
  refine lv_iload_n hx hb dX0_dress_9 rfl (lv_at hl 1 rfl) ?_
  refine vp_callSi (W.runS (As := [.int c, .int p]) (rest := []) ⟨hx, hb, hml, hown, hts⟩ (c_X0_fits l c p h_5 h_1) (va_cwS 2 hts gX0_dress_X0_fits rfl rfl rfl (by decide +kernel) ⟨Nat.le_of_ble_eq_true rfl, Nat.le_of_ble_eq_true rfl⟩) (pN_S) rfl rfl hl.1 rfl (lv_room (Nat.le_of_ble_eq_true rfl)) dX0_dress_10 ⟨Nat.zero_le _, Nat.zero_le _⟩) (fun r_10 h_10 => ?_)
  refine lv_if_ne (tgt := 26) hx hb dX0_dress_13 (by decide) (fun c_13 => ?_) (fun c_13 => ?_)
  · skip
    have b_10 := cif_b1 h_10 c_13
    refine lv_aload_n hx hb dX0_dress_26 rfl (lv_at hl 0 rfl) ?_
    have hf16 := hts (.fieldLink RX0 16 "Clockmask" "onStage" "[Z") (by decide +kernel)
    refine va_get (D := D) (ci := 0) (v := .ref (a 2)) (C := RX0) (T := TX0) (N := 17) hx hb hts hin hown hK hP 0 rfl rfl 2 (by decide) hf16 (fun _ h9 => h9) rfl dX0_dress_27 ?_
    refine lv_iload_n hx hb dX0_dress_30 rfl (lv_at hl 1 rfl) ?_
    refine va_zald (f := S 2) (n := 6) hx hb hK hP 3 1 rfl rfl (by assumption) dX0_dress_31 ?_
    refine lv_if_eq (tgt := 45) hx hb dX0_dress_32 (by decide) (fun c_32 => ?_) (fun c_32 => ?_)
    · skip
      refine lv_aload_n hx hb dX0_dress_45 rfl (lv_at hl 0 rfl) ?_
      refine lv_iload_n hx hb dX0_dress_46 rfl (lv_at hl 2 rfl) ?_
      refine vp_callSi (W.runV (As := [.int c]) (rest := []) ⟨hx, hb, hml, hown, hts⟩ (c_X0_playerIn l D cI cZ x a S c) (cwV 1 hts gX0_dress_X0_playerIn rfl rfl rfl (by decide +kernel) ⟨Nat.le_of_ble_eq_true rfl, Nat.le_of_ble_eq_true rfl⟩) (pR_V (ci := 0) hP hK rfl rfl) rfl rfl hl.1 rfl (lv_room (Nat.le_of_ble_eq_true rfl)) dX0_dress_47 ⟨Nat.zero_le _, Nat.zero_le _⟩) (fun r_47 h_47 => ?_)
      subst h_47
      refine lv_istore_n (lv' := [(3, .int (fI (S 0) c)), (0, .ref x), (1, .int p), (2, .int c)]) hx hb dX0_dress_50 rfl hl (by decide) rfl (fun ls hl => ?_)
      refine lv_iload_n hx hb dX0_dress_51 rfl (lv_at hl 0 rfl) ?_
      refine lv_iconst (v := (-1)) hx hb dX0_dress_52 (by decide) ?_
      refine lv_icmp_eq (tgt := 71) hx hb dX0_dress_53 (by decide) (fun c_53 => ?_) (fun c_53 => ?_)
      · skip
        have hf : fI (S 0) c = -1 ∨ fI (S 0) c = p := Or.inl c_53
        refine lv_aload_n hx hb dX0_dress_71 rfl (lv_at hl 1 rfl) ?_
        have hf20 := hts (.fieldLink RX0 20 "Clockmask" "wearOfCostume" "[I") (by decide +kernel)
        refine va_get (D := D) (ci := 0) (v := .ref (a 3)) (C := RX0) (T := TX0) (N := 17) hx hb hts hin hown hK hP 0 rfl rfl 3 (by decide) hf20 (fun _ h9 => h9) rfl dX0_dress_72 ?_
        refine lv_iload_n hx hb dX0_dress_75 rfl (lv_at hl 3 rfl) ?_
        refine va_iald (f := S 3) (n := 8) hx hb hK hP 4 0 rfl rfl (by assumption) dX0_dress_76 ?_
        refine lv_iconst (v := 3) hx hb dX0_dress_77 (by decide) ?_
        refine lv_icmp_lt (tgt := 91) hx hb dX0_dress_78 (by decide) (fun c_78 => ?_) (fun c_78 => ?_)
        · skip
          refine lv_aload_n hx hb dX0_dress_91 rfl (lv_at hl 1 rfl) ?_
          have hf9 := hts (.fieldLink RX0 9 "Clockmask" "costumeOfPlayer" "[I") (by decide +kernel)
          refine va_get (D := D) (ci := 0) (v := .ref (a 0)) (C := RX0) (T := TX0) (N := 17) hx hb hts hin hown hK hP 0 rfl rfl 0 (by decide) hf9 (fun _ h9 => h9) rfl dX0_dress_92 ?_
          refine lv_iload_n hx hb dX0_dress_95 rfl (lv_at hl 2 rfl) ?_
          refine va_iald (f := S 0) (n := 6) hx hb hK hP 1 0 rfl rfl (by assumption) dX0_dress_96 ?_
          refine lv_istore (lv' := [(4, .int (S 0 p.toNatClampNeg)), (3, .int (fI (S 0) c)), (0, .ref x), (1, .int p), (2, .int c)]) hx hb dX0_dress_97 hl (by decide) rfl (fun ls hl => ?_)
          refine lv_aload_n hx hb dX0_dress_99 rfl (lv_at hl 2 rfl) ?_
          refine va_get (D := D) (ci := 0) (v := .ref (a 0)) (C := RX0) (T := TX0) (N := 17) hx hb hts hin hown hK hP 0 rfl rfl 0 (by decide) hf9 (fun _ h9 => h9) rfl dX0_dress_100 ?_
          refine lv_iload_n hx hb dX0_dress_103 rfl (lv_at hl 3 rfl) ?_
          refine lv_iload_n hx hb dX0_dress_104 rfl (lv_at hl 4 rfl) ?_
          refine va_iast (f := S 0) (n := 6) hx hb hK hP hD hS 1 0 rfl rfl (by assumption) dX0_dress_105 (fun H locs hP hD hS => ?_)
          have hP : va_P D vwCl (wXr cI cZ x a (upd (S 0) p.toNatClampNeg c) (S 1) (S 2) (S 3) (S 4) (S 5) (S 6) (S 7) (S 8) (S 9) (S 10 0) (S 11 0) (S 12) (S 13) (S 14 0) (S 15 0) (S 16)) H := hP
          have hD : va_D A (wXr cI cZ x a (upd (S 0) p.toNatClampNeg c) (S 1) (S 2) (S 3) (S 4) (S 5) (S 6) (S 7) (S 8) (S 9) (S 10 0) (S 11 0) (S 12) (S 13) (S 14 0) (S 15 0) (S 16)) := hD
          refine lv_iload hx hb dX0_dress_106 (lv_at hl 0 rfl) ?_
          exact vy_ret (W.iret (v := S 0 p.toNatClampNeg) hx hb hr (fun t ht hW => ⟨⟨_, row S 0 (upd (S 0) p.toNatClampNeg c), rfl, (cif_t ⟨h_1, h_5⟩).trans ((cif_t b_10).trans (cif_t ⟨c_32, hf, c_78⟩)), by rw [ht]; exact hP, hD⟩, hS.F ht⟩) hS.2.2 dX0_dress_108)
        · skip
          exact x_throwS (text := "the costume is torn") hx hb hfl hown (by decide) (hts (.classLink RX0 78 xIS) (by decide +kernel)) (hts (.initialized xIS) (by decide +kernel)) (fun w h => hts w (List.mem_cons_of_mem _ (List.mem_append_left _ (List.mem_append_right _ h)))) xIS_b xIS_g hG (by decide) (hl.1.trans hml.symm) dX0_dress_81 dX0_dress_84 dX0_dress_85 dX0_dress_87 dX0_dress_90 hout ⟨by decide, by decide, by decide, by decide⟩ hlocks (Or.inr (Or.inr ⟨rfl, (cif_t ⟨h_1, h_5⟩).trans ((cif_t b_10).trans (cif_f (fun h => c_78 h.2.2)))⟩))
      · skip
        refine lv_iload_n hx hb dX0_dress_56 rfl (lv_at hl 0 rfl) ?_
        refine lv_iload_n hx hb dX0_dress_57 rfl (lv_at hl 2 rfl) ?_
        refine lv_icmp_eq (tgt := 71) hx hb dX0_dress_58 (by decide) (fun c_58 => ?_) (fun c_58 => ?_)
        · skip
          have hf : fI (S 0) c = -1 ∨ fI (S 0) c = p := Or.inr c_58
          refine lv_aload_n hx hb dX0_dress_71 rfl (lv_at hl 1 rfl) ?_
          have hf20 := hts (.fieldLink RX0 20 "Clockmask" "wearOfCostume" "[I") (by decide +kernel)
          refine va_get (D := D) (ci := 0) (v := .ref (a 3)) (C := RX0) (T := TX0) (N := 17) hx hb hts hin hown hK hP 0 rfl rfl 3 (by decide) hf20 (fun _ h9 => h9) rfl dX0_dress_72 ?_
          refine lv_iload_n hx hb dX0_dress_75 rfl (lv_at hl 3 rfl) ?_
          refine va_iald (f := S 3) (n := 8) hx hb hK hP 4 0 rfl rfl (by assumption) dX0_dress_76 ?_
          refine lv_iconst (v := 3) hx hb dX0_dress_77 (by decide) ?_
          refine lv_icmp_lt (tgt := 91) hx hb dX0_dress_78 (by decide) (fun c_78 => ?_) (fun c_78 => ?_)
          · skip
            refine lv_aload_n hx hb dX0_dress_91 rfl (lv_at hl 1 rfl) ?_
            have hf9 := hts (.fieldLink RX0 9 "Clockmask" "costumeOfPlayer" "[I") (by decide +kernel)
            refine va_get (D := D) (ci := 0) (v := .ref (a 0)) (C := RX0) (T := TX0) (N := 17) hx hb hts hin hown hK hP 0 rfl rfl 0 (by decide) hf9 (fun _ h9 => h9) rfl dX0_dress_92 ?_
            refine lv_iload_n hx hb dX0_dress_95 rfl (lv_at hl 2 rfl) ?_
            refine va_iald (f := S 0) (n := 6) hx hb hK hP 1 0 rfl rfl (by assumption) dX0_dress_96 ?_
            refine lv_istore (lv' := [(4, .int (S 0 p.toNatClampNeg)), (3, .int (fI (S 0) c)), (0, .ref x), (1, .int p), (2, .int c)]) hx hb dX0_dress_97 hl (by decide) rfl (fun ls hl => ?_)
            refine lv_aload_n hx hb dX0_dress_99 rfl (lv_at hl 2 rfl) ?_
            refine va_get (D := D) (ci := 0) (v := .ref (a 0)) (C := RX0) (T := TX0) (N := 17) hx hb hts hin hown hK hP 0 rfl rfl 0 (by decide) hf9 (fun _ h9 => h9) rfl dX0_dress_100 ?_
            refine lv_iload_n hx hb dX0_dress_103 rfl (lv_at hl 3 rfl) ?_
            refine lv_iload_n hx hb dX0_dress_104 rfl (lv_at hl 4 rfl) ?_
            refine va_iast (f := S 0) (n := 6) hx hb hK hP hD hS 1 0 rfl rfl (by assumption) dX0_dress_105 (fun H locs hP hD hS => ?_)
            have hP : va_P D vwCl (wXr cI cZ x a (upd (S 0) p.toNatClampNeg c) (S 1) (S 2) (S 3) (S 4) (S 5) (S 6) (S 7) (S 8) (S 9) (S 10 0) (S 11 0) (S 12) (S 13) (S 14 0) (S 15 0) (S 16)) H := hP
            have hD : va_D A (wXr cI cZ x a (upd (S 0) p.toNatClampNeg c) (S 1) (S 2) (S 3) (S 4) (S 5) (S 6) (S 7) (S 8) (S 9) (S 10 0) (S 11 0) (S 12) (S 13) (S 14 0) (S 15 0) (S 16)) := hD
            refine lv_iload hx hb dX0_dress_106 (lv_at hl 0 rfl) ?_
            exact vy_ret (W.iret (v := S 0 p.toNatClampNeg) hx hb hr (fun t ht hW => ⟨⟨_, row S 0 (upd (S 0) p.toNatClampNeg c), rfl, (cif_t ⟨h_1, h_5⟩).trans ((cif_t b_10).trans (cif_t ⟨c_32, hf, c_78⟩)), by rw [ht]; exact hP, hD⟩, hS.F ht⟩) hS.2.2 dX0_dress_108)
          · skip
            exact x_throwS (text := "the costume is torn") hx hb hfl hown (by decide) (hts (.classLink RX0 78 xIS) (by decide +kernel)) (hts (.initialized xIS) (by decide +kernel)) (fun w h => hts w (List.mem_cons_of_mem _ (List.mem_append_left _ (List.mem_append_right _ h)))) xIS_b xIS_g hG (by decide) (hl.1.trans hml.symm) dX0_dress_81 dX0_dress_84 dX0_dress_85 dX0_dress_87 dX0_dress_90 hout ⟨by decide, by decide, by decide, by decide⟩ hlocks (Or.inr (Or.inr ⟨rfl, (cif_t ⟨h_1, h_5⟩).trans ((cif_t b_10).trans (cif_f (fun h => c_78 h.2.2)))⟩))
        · skip
          exact x_throwS (text := "the costume is on another player") hx hb hfl hown (by decide) (hts (.classLink RX0 78 xIS) (by decide +kernel)) (hts (.initialized xIS) (by decide +kernel)) (fun w h => hts w (List.mem_cons_of_mem _ (List.mem_append_left _ (List.mem_append_right _ h)))) xIS_b xIS_g hG (by decide) (hl.1.trans hml.symm) dX0_dress_61 dX0_dress_64 dX0_dress_65 dX0_dress_67 dX0_dress_70 hout ⟨by decide, by decide, by decide, by decide⟩ hlocks (Or.inr (Or.inr ⟨rfl, (cif_t ⟨h_1, h_5⟩).trans ((cif_t b_10).trans (cif_f (fun h => h.2.1.elim c_53 c_58)))⟩))
    · skip
      exact x_throwS (text := "the player is on stage") hx hb hfl hown (by decide) (hts (.classLink RX0 78 xIS) (by decide +kernel)) (hts (.initialized xIS) (by decide +kernel)) (fun w h => hts w (List.mem_cons_of_mem _ (List.mem_append_left _ (List.mem_append_right _ h)))) xIS_b xIS_g hG (by decide) (hl.1.trans hml.symm) dX0_dress_35 dX0_dress_38 dX0_dress_39 dX0_dress_41 dX0_dress_44 hout ⟨by decide, by decide, by decide, by decide⟩ hlocks (Or.inr (Or.inr ⟨rfl, (cif_t ⟨h_1, h_5⟩).trans ((cif_t b_10).trans (cif_f (fun h => c_32 h.1)))⟩))
  · skip
    have b_10 := cif_b0 h_10 c_13
    exact x_throwS (text := "the costume does not fit") hx hb hfl hown (by decide) (hts (.classLink RX0 71 xIA) (by decide +kernel)) (hts (.initialized xIA) (by decide +kernel)) (fun w h => hts w (List.mem_cons_of_mem _ (List.mem_append_left _ (List.mem_append_left _ (List.mem_append_right _ h))))) xIA_b xIA_g hG (by decide) (hl.1.trans hml.symm) dX0_dress_16 dX0_dress_19 dX0_dress_20 dX0_dress_22 dX0_dress_25 hout ⟨by decide, by decide, by decide, by decide⟩ hlocks (Or.inr (Or.inl ⟨rfl, (cif_t ⟨h_1, h_5⟩).trans (cif_f b_10)⟩))
set_option maxHeartbeats 4000000 in
set_option maxRecDepth 100000 in
theorem c_X0_addCue (l : Launch) (hfl : l.stackTraces = false) (D : va_G) (cI cZ : ClassId) (x : Nat) (a : Nat → Nat) (S : ST) (sz : Nat) (k : Int32) (p : Int32) (o : Int32) (w : Int32) (B : Nat) (hI : Inv B S) : vy_Met l yX0_addCue wsX0_addCue rmX0_addCue (va_Pc [.ref x, .int k, .int p, .int o, .int w] (fun U => (pW D (tyX cI cZ) (wX cI cZ x a S) sz) U ∧ pG U)) (va_Qi (fun (r : Int32) (u : ST) => k_addCue S k p o w = (0, r, u)) (fun (u : ST) t => atW D (wX cI cZ x a u) (va_A (wX cI cZ x a S) sz) t) (va_A (wX cI cZ x a S) sz)) (xcs (fun E => (E = xIA ∧ k_addCue S k p o w = (1, 0, S)) ∨ (E = xIO ∧ k_addCue S k p o w = (2, 0, S)) ∨ (E = xIS ∧ k_addCue S k p o w = (3, 0, S)))) 1 6 (va_A (wX cI cZ x a S) sz) := by
  refine vy_ofW (cc := cX0_addCue) (maxL := 6) (ret := (some .int)) (by decide) rfl ?_
  intro pr env s mid args below meth cod s₁ Bd hml hout hv
  obtain ⟨rfl, ⟨hsz, hP, hK, hD0⟩, hG0⟩ := hv
  have hG : xG (fun q => s.heap.size ≤ q) s s.heap := hG0
  have hx := Bd.exec
  have hb := Bd.bytes
  have hr := Bd.returns
  have hts := atoms_spec (ws := wsX0_addCue) Bd.pre
  have hown : s.vm.findClass RX0 = some mid.cls := findClass_of_methodNamed Bd.named
  have hlocks := Bd.notSynchronized
  have hin : ∀ w ∈ wsX00, w ∈ wsX0_addCue := fun _ h => List.mem_cons_of_mem _ (List.mem_append_left _ (List.mem_append_left _ (List.mem_append_left _ (List.mem_append_right _ h))))
  subst hsz
  have hD := hD0.self (sz := s.heap.size)
  generalize hAe : va_A (wX cI cZ x a S) s.heap.size = A at hD ⊢
  have hA : ∀ q : Nat, s.heap.size ≤ q → A q := fun q h => by rw [← hAe]; exact Or.inr h
  have hS : va_S A s.heap s.heap [] := va_S.rf
  have hP : va_P D vwCl (wX cI cZ x a S) s.heap := hP
  have hD : va_D A (wX cI cZ x a S) := hD
  have hl := lv_entry ([.ref x, .int k, .int p, .int o, .int w]) (n := 6) (Nat.le_of_ble_eq_true rfl)
  rw [lg_entry_eq]
  generalize (lg_sl ([.ref x, .int k, .int p, .int o, .int w]) ++ List.replicate (6 - (lg_sl ([.ref x, .int k, .int p, .int o, .int w])).length) Slot.unset).toArray = ls at hl ⊢
  have hl : lv_has ls 6 [(0, .ref x), (1, .int k), (2, .int p), (3, .int o), (4, .int w)] := hl
  refine lv_iload_n hx hb dX0_addCue_0 rfl (lv_at hl 1 rfl) ?_
  refine lv_if_lt (tgt := 9) hx hb dX0_addCue_1 (by decide) (fun c_1 => ?_) (fun c_1 => ?_)
  · skip
    exact x_throwS (text := "no such kind of cue") hx hb hfl hown (by decide) (hts (.classLink RX0 71 xIA) (by decide +kernel)) (hts (.initialized xIA) (by decide +kernel)) (fun w h => hts w (List.mem_cons_of_mem _ (List.mem_append_left _ (List.mem_append_left _ (List.mem_append_right _ h))))) xIA_b xIA_g hG (by decide) (hl.1.trans hml.symm) dX0_addCue_9 dX0_addCue_12 dX0_addCue_13 dX0_addCue_15 dX0_addCue_18 hout ⟨by decide, by decide, by decide, by decide⟩ hlocks (Or.inl ⟨rfl, cif_f (fun h => h.1 c_1)⟩)
  · skip
    refine lv_iload_n hx hb dX0_addCue_4 rfl (lv_at hl 1 rfl) ?_
    refine lv_iconst (v := 4) hx hb dX0_addCue_5 (by decide) ?_
    refine lv_icmp_le (tgt := 19) hx hb dX0_addCue_6 (by decide) (fun c_6 => ?_) (fun c_6 => ?_)
    · skip
      refine lv_iload_n hx hb dX0_addCue_19 rfl (lv_at hl 2 rfl) ?_
      refine vy_csv (vy_runS (As := [.int p]) (rest := []) ⟨hx, hb, hml, hown, hts⟩ (c_X0_requirePlayer l hfl p) (va_cwS 1 hts gX0_addCue_X0_requirePlayer rfl rfl rfl (by decide +kernel) ⟨Nat.le_of_ble_eq_true rfl, Nat.le_of_ble_eq_true rfl⟩) (pT_S (pN_S) hG (fun _ h => h)) rfl rfl hl.1 rfl (lv_room (Nat.le_of_ble_eq_true rfl)) dX0_addCue_20 ⟨Nat.le_of_ble_eq_true rfl, Nat.le_of_ble_eq_true rfl⟩) (fun E ce q9 H1 hPE hz9 hk9 hc9 hv9 hcl9 => vy_out hout hlocks (Or.inr (Or.inl ⟨hPE.1, (cif_t ⟨c_1, c_6⟩).trans (cif_f (fun h => hPE.2 h.1))⟩)) hz9 hk9 hc9 hv9 hcl9 (by decide) (by decide)) (fun h_20 => ?_)
      refine lv_iload_n hx hb dX0_addCue_23 rfl (lv_at hl 1 rfl) ?_
      refine lv_iload_n hx hb dX0_addCue_24 rfl (lv_at hl 3 rfl) ?_
      refine vy_csv (vy_runS (As := [.int k, .int o]) (rest := []) ⟨hx, hb, hml, hown, hts⟩ (c_X0_requireOther l hfl k o) (va_cwS 2 hts gX0_addCue_X0_requireOther rfl rfl rfl (by decide +kernel) ⟨Nat.le_of_ble_eq_true rfl, Nat.le_of_ble_eq_true rfl⟩) (pT_S (pN_S) hG (fun _ h => h)) rfl rfl hl.1 rfl (lv_room (Nat.le_of_ble_eq_true rfl)) dX0_addCue_25 ⟨Nat.le_of_ble_eq_true rfl, Nat.le_of_ble_eq_true rfl⟩) (fun E ce q9 H1 hPE hz9 hk9 hc9 hv9 hcl9 => vy_out hout hlocks (Or.inr (Or.inl ⟨hPE.1, (cif_t ⟨c_1, c_6⟩).trans (cif_f (fun h => hPE.2 h.2.1))⟩)) hz9 hk9 hc9 hv9 hcl9 (by decide) (by decide)) (fun h_25 => ?_)
      refine lv_iload hx hb dX0_addCue_28 (lv_at hl 4 rfl) ?_
      refine lv_iconst (v := (-1)) hx hb dX0_addCue_30 (by decide) ?_
      refine lv_icmp_eq (tgt := 40) hx hb dX0_addCue_31 (by decide) (fun c_31 => ?_) (fun c_31 => ?_)
      · skip
        have h2 : w = -1 ∨ vp_in w (many S) := Or.inl c_31
        refine lv_aload_n hx hb dX0_addCue_40 rfl (lv_at hl 0 rfl) ?_
        have hf104 := hts (.fieldLink RX0 104 "Clockmask" "cueCount" "I") (by decide +kernel)
        refine va_get (D := D) (ci := 0) (v := .int (S 10 0)) (C := RX0) (T := TX0) (N := 17) hx hb hts hin hown hK hP 0 rfl rfl 10 (by decide) hf104 (fun _ h9 => h9) rfl dX0_addCue_41 ?_
        refine lv_bipush (v := 24) hx hb dX0_addCue_44 (by decide) ?_
        refine lv_icmp_lt (tgt := 59) hx hb dX0_addCue_46 (by decide) (fun c_46 => ?_) (fun c_46 => ?_)
        · skip
          refine lv_iload_n hx hb dX0_addCue_59 rfl (lv_at hl 1 rfl) ?_
          refine lv_iconst (v := 4) hx hb dX0_addCue_60 (by decide) ?_
          refine lv_icmp_ne (tgt := 79) hx hb dX0_addCue_61 (by decide) (fun c_61 => ?_) (fun c_61 => ?_)
          · skip
            have hn : ¬ (k = 4 ∧ p = o) := fun z => c_61 z.1
            refine lv_iload hx hb dX0_addCue_79 (lv_at hl 4 rfl) ?_
            refine lv_iconst (v := (-1)) hx hb dX0_addCue_81 (by decide) ?_
            refine lv_icmp_eq (tgt := 106) hx hb dX0_addCue_82 (by decide) (fun c_82 => ?_) (fun c_82 => ?_)
            · skip
              have hw3 : w = -1 ∨ S 8 w.toNatClampNeg ≠ 2 := Or.inl c_82
              have hc24 : vp_in (S 10 0) 24 := hI.lt24 c_46
              refine lv_aload_n hx hb dX0_addCue_106 rfl (lv_at hl 0 rfl) ?_
              refine va_get (D := D) (ci := 0) (v := .int (S 10 0)) (C := RX0) (T := TX0) (N := 17) hx hb hts hin hown hK hP 0 rfl rfl 10 (by decide) hf104 (fun _ h9 => h9) rfl dX0_addCue_107 ?_
              refine lv_istore (lv' := [(5, .int (S 10 0)), (0, .ref x), (1, .int k), (2, .int p), (3, .int o), (4, .int w)]) hx hb dX0_addCue_110 hl (by decide) rfl (fun ls hl => ?_)
              refine lv_aload_n hx hb dX0_addCue_112 rfl (lv_at hl 1 rfl) ?_
              have hf23 := hts (.fieldLink RX0 23 "Clockmask" "cueKind" "[I") (by decide +kernel)
              refine va_get (D := D) (ci := 0) (v := .ref (a 4)) (C := RX0) (T := TX0) (N := 17) hx hb hts hin hown hK hP 0 rfl rfl 4 (by decide) hf23 (fun _ h9 => h9) rfl dX0_addCue_113 ?_
              refine lv_iload hx hb dX0_addCue_116 (lv_at hl 0 rfl) ?_
              refine lv_iload_n hx hb dX0_addCue_118 rfl (lv_at hl 2 rfl) ?_
              refine va_iast (f := S 4) (n := 24) hx hb hK hP hD hS 5 0 rfl rfl (by assumption) dX0_addCue_119 (fun H locs hP hD hS => ?_)
              have hP : va_P D vwCl (wXr cI cZ x a (S 0) (S 1) (S 2) (S 3) (upd (S 4) (S 10 0).toNatClampNeg k) (S 5) (S 6) (S 7) (S 8) (S 9) (S 10 0) (S 11 0) (S 12) (S 13) (S 14 0) (S 15 0) (S 16)) H := hP
              have hD : va_D A (wXr cI cZ x a (S 0) (S 1) (S 2) (S 3) (upd (S 4) (S 10 0).toNatClampNeg k) (S 5) (S 6) (S 7) (S 8) (S 9) (S 10 0) (S 11 0) (S 12) (S 13) (S 14 0) (S 15 0) (S 16)) := hD
              refine lv_aload_n hx hb dX0_addCue_120 rfl (lv_at hl 1 rfl) ?_
              have hf26 := hts (.fieldLink RX0 26 "Clockmask" "cuePlayer" "[I") (by decide +kernel)
              refine va_get (D := D) (ci := 0) (v := .ref (a 5)) (C := RX0) (T := TX0) (N := 17) hx hb hts hin hown hK hP 0 rfl rfl 5 (by decide) hf26 (fun _ h9 => h9) rfl dX0_addCue_121 ?_
              refine lv_iload hx hb dX0_addCue_124 (lv_at hl 0 rfl) ?_
              refine lv_iload_n hx hb dX0_addCue_126 rfl (lv_at hl 3 rfl) ?_
              refine va_iast (f := S 5) (n := 24) hx hb hK hP hD hS 6 0 rfl rfl (by assumption) dX0_addCue_127 (fun H locs hP hD hS => ?_)
              have hP : va_P D vwCl (wXr cI cZ x a (S 0) (S 1) (S 2) (S 3) (upd (S 4) (S 10 0).toNatClampNeg k) (upd (S 5) (S 10 0).toNatClampNeg p) (S 6) (S 7) (S 8) (S 9) (S 10 0) (S 11 0) (S 12) (S 13) (S 14 0) (S 15 0) (S 16)) H := hP
              have hD : va_D A (wXr cI cZ x a (S 0) (S 1) (S 2) (S 3) (upd (S 4) (S 10 0).toNatClampNeg k) (upd (S 5) (S 10 0).toNatClampNeg p) (S 6) (S 7) (S 8) (S 9) (S 10 0) (S 11 0) (S 12) (S 13) (S 14 0) (S 15 0) (S 16)) := hD
              refine lv_aload_n hx hb dX0_addCue_128 rfl (lv_at hl 1 rfl) ?_
              have hf29 := hts (.fieldLink RX0 29 "Clockmask" "cueOther" "[I") (by decide +kernel)
              refine va_get (D := D) (ci := 0) (v := .ref (a 6)) (C := RX0) (T := TX0) (N := 17) hx hb hts hin hown hK hP 0 rfl rfl 6 (by decide) hf29 (fun _ h9 => h9) rfl dX0_addCue_129 ?_
              refine lv_iload hx hb dX0_addCue_132 (lv_at hl 0 rfl) ?_
              refine lv_iload_n hx hb dX0_addCue_134 rfl (lv_at hl 4 rfl) ?_
              refine va_iast (f := S 6) (n := 24) hx hb hK hP hD hS 7 0 rfl rfl (by assumption) dX0_addCue_135 (fun H locs hP hD hS => ?_)
              have hP : va_P D vwCl (wXr cI cZ x a (S 0) (S 1) (S 2) (S 3) (upd (S 4) (S 10 0).toNatClampNeg k) (upd (S 5) (S 10 0).toNatClampNeg p) (upd (S 6) (S 10 0).toNatClampNeg o) (S 7) (S 8) (S 9) (S 10 0) (S 11 0) (S 12) (S 13) (S 14 0) (S 15 0) (S 16)) H := hP
              have hD : va_D A (wXr cI cZ x a (S 0) (S 1) (S 2) (S 3) (upd (S 4) (S 10 0).toNatClampNeg k) (upd (S 5) (S 10 0).toNatClampNeg p) (upd (S 6) (S 10 0).toNatClampNeg o) (S 7) (S 8) (S 9) (S 10 0) (S 11 0) (S 12) (S 13) (S 14 0) (S 15 0) (S 16)) := hD
              refine lv_aload_n hx hb dX0_addCue_136 rfl (lv_at hl 1 rfl) ?_
              have hf32 := hts (.fieldLink RX0 32 "Clockmask" "cueWaits" "[I") (by decide +kernel)
              refine va_get (D := D) (ci := 0) (v := .ref (a 7)) (C := RX0) (T := TX0) (N := 17) hx hb hts hin hown hK hP 0 rfl rfl 7 (by decide) hf32 (fun _ h9 => h9) rfl dX0_addCue_137 ?_
              refine lv_iload hx hb dX0_addCue_140 (lv_at hl 0 rfl) ?_
              refine lv_iload hx hb dX0_addCue_142 (lv_at hl 5 rfl) ?_
              refine va_iast (f := S 7) (n := 24) hx hb hK hP hD hS 8 0 rfl rfl (by assumption) dX0_addCue_144 (fun H locs hP hD hS => ?_)
              have hP : va_P D vwCl (wXr cI cZ x a (S 0) (S 1) (S 2) (S 3) (upd (S 4) (S 10 0).toNatClampNeg k) (upd (S 5) (S 10 0).toNatClampNeg p) (upd (S 6) (S 10 0).toNatClampNeg o) (upd (S 7) (S 10 0).toNatClampNeg w) (S 8) (S 9) (S 10 0) (S 11 0) (S 12) (S 13) (S 14 0) (S 15 0) (S 16)) H := hP
              have hD : va_D A (wXr cI cZ x a (S 0) (S 1) (S 2) (S 3) (upd (S 4) (S 10 0).toNatClampNeg k) (upd (S 5) (S 10 0).toNatClampNeg p) (upd (S 6) (S 10 0).toNatClampNeg o) (upd (S 7) (S 10 0).toNatClampNeg w) (S 8) (S 9) (S 10 0) (S 11 0) (S 12) (S 13) (S 14 0) (S 15 0) (S 16)) := hD
              refine lv_aload_n hx hb dX0_addCue_145 rfl (lv_at hl 1 rfl) ?_
              have hf35 := hts (.fieldLink RX0 35 "Clockmask" "cueState" "[I") (by decide +kernel)
              refine va_get (D := D) (ci := 0) (v := .ref (a 8)) (C := RX0) (T := TX0) (N := 17) hx hb hts hin hown hK hP 0 rfl rfl 8 (by decide) hf35 (fun _ h9 => h9) rfl dX0_addCue_146 ?_
              refine lv_iload hx hb dX0_addCue_149 (lv_at hl 0 rfl) ?_
              refine lv_iconst (v := 0) hx hb dX0_addCue_151 (by decide) ?_
              refine va_iast (f := S 8) (n := 24) hx hb hK hP hD hS 9 0 rfl rfl (by assumption) dX0_addCue_152 (fun H locs hP hD hS => ?_)
              have hP : va_P D vwCl (wXr cI cZ x a (S 0) (S 1) (S 2) (S 3) (upd (S 4) (S 10 0).toNatClampNeg k) (upd (S 5) (S 10 0).toNatClampNeg p) (upd (S 6) (S 10 0).toNatClampNeg o) (upd (S 7) (S 10 0).toNatClampNeg w) (upd (S 8) (S 10 0).toNatClampNeg 0) (S 9) (S 10 0) (S 11 0) (S 12) (S 13) (S 14 0) (S 15 0) (S 16)) H := hP
              have hD : va_D A (wXr cI cZ x a (S 0) (S 1) (S 2) (S 3) (upd (S 4) (S 10 0).toNatClampNeg k) (upd (S 5) (S 10 0).toNatClampNeg p) (upd (S 6) (S 10 0).toNatClampNeg o) (upd (S 7) (S 10 0).toNatClampNeg w) (upd (S 8) (S 10 0).toNatClampNeg 0) (S 9) (S 10 0) (S 11 0) (S 12) (S 13) (S 14 0) (S 15 0) (S 16)) := hD
              refine lv_aload_n hx hb dX0_addCue_153 rfl (lv_at hl 1 rfl) ?_
              refine lv_dup hx hb dX0_addCue_154 rfl ?_
              refine va_get (D := D) (ci := 0) (v := .int (S 10 0)) (C := RX0) (T := TX0) (N := 17) hx hb hts hin hown hK hP 0 rfl rfl 10 (by decide) hf104 (fun _ h9 => h9) rfl dX0_addCue_155 ?_
              refine lv_iconst (v := 1) hx hb dX0_addCue_158 (by decide) ?_
              refine lv_iadd hx hb dX0_addCue_159 ?_
              refine va_put (D := D) (ci := 0) (v := .int ((S 10 0) + 1)) (ty := .int) (C := RX0) (T := TX0) (N := 17) hx hb hts hin tyX0 tyX0_ok nmX0 hown hK hP hD hS 0 rfl rfl 10 (by decide) hf104 (fun _ h9 => h9) rfl (by decide +kernel) rfl rfl (Nat.le_of_ble_eq_true rfl) dX0_addCue_160 (fun H locs hP hD hS => ?_)
              have hP : va_P D vwCl (wXr cI cZ x a (S 0) (S 1) (S 2) (S 3) (upd (S 4) (S 10 0).toNatClampNeg k) (upd (S 5) (S 10 0).toNatClampNeg p) (upd (S 6) (S 10 0).toNatClampNeg o) (upd (S 7) (S 10 0).toNatClampNeg w) (upd (S 8) (S 10 0).toNatClampNeg 0) (S 9) ((S 10 0) + 1) (S 11 0) (S 12) (S 13) (S 14 0) (S 15 0) (S 16)) H := hP
              have hD : va_D A (wXr cI cZ x a (S 0) (S 1) (S 2) (S 3) (upd (S 4) (S 10 0).toNatClampNeg k) (upd (S 5) (S 10 0).toNatClampNeg p) (upd (S 6) (S 10 0).toNatClampNeg o) (upd (S 7) (S 10 0).toNatClampNeg w) (upd (S 8) (S 10 0).toNatClampNeg 0) (S 9) ((S 10 0) + 1) (S 11 0) (S 12) (S 13) (S 14 0) (S 15 0) (S 16)) := hD
              refine lv_iload hx hb dX0_addCue_163 (lv_at hl 0 rfl) ?_
              exact vy_ret (W.iret (v := S 10 0) hx hb hr (fun t ht hW => ⟨⟨_, row (row (row (row (row (row S 4 (upd (S 4) (S 10 0).toNatClampNeg k)) 5 (upd (S 5) (S 10 0).toNatClampNeg p)) 6 (upd (S 6) (S 10 0).toNatClampNeg o)) 7 (upd (S 7) (S 10 0).toNatClampNeg w)) 8 (upd (S 8) (S 10 0).toNatClampNeg 0)) 10 (kf ((S 10 0) + 1)), rfl, (cif_t ⟨c_1, c_6⟩).trans ((cif_t ⟨h_20, h_25, h2⟩).trans (cif_t ⟨c_46, hn, hw3⟩)), by rw [ht]; exact hP, hD⟩, hS.F ht⟩) hS.2.2 dX0_addCue_165)
            · skip
              refine lv_aload_n hx hb dX0_addCue_85 rfl (lv_at hl 0 rfl) ?_
              have hf35 := hts (.fieldLink RX0 35 "Clockmask" "cueState" "[I") (by decide +kernel)
              refine va_get (D := D) (ci := 0) (v := .ref (a 8)) (C := RX0) (T := TX0) (N := 17) hx hb hts hin hown hK hP 0 rfl rfl 8 (by decide) hf35 (fun _ h9 => h9) rfl dX0_addCue_86 ?_
              refine lv_iload hx hb dX0_addCue_89 (lv_at hl 4 rfl) ?_
              refine va_iald (f := S 8) (n := 24) hx hb hK hP 9 0 rfl rfl (hI.q24 (h2.resolve_left c_82)) dX0_addCue_91 ?_
              refine lv_iconst (v := 2) hx hb dX0_addCue_92 (by decide) ?_
              refine lv_icmp_ne (tgt := 106) hx hb dX0_addCue_93 (by decide) (fun c_93 => ?_) (fun c_93 => ?_)
              · skip
                have hw3 : w = -1 ∨ S 8 w.toNatClampNeg ≠ 2 := Or.inr c_93
                have hc24 : vp_in (S 10 0) 24 := hI.lt24 c_46
                refine lv_aload_n hx hb dX0_addCue_106 rfl (lv_at hl 0 rfl) ?_
                refine va_get (D := D) (ci := 0) (v := .int (S 10 0)) (C := RX0) (T := TX0) (N := 17) hx hb hts hin hown hK hP 0 rfl rfl 10 (by decide) hf104 (fun _ h9 => h9) rfl dX0_addCue_107 ?_
                refine lv_istore (lv' := [(5, .int (S 10 0)), (0, .ref x), (1, .int k), (2, .int p), (3, .int o), (4, .int w)]) hx hb dX0_addCue_110 hl (by decide) rfl (fun ls hl => ?_)
                refine lv_aload_n hx hb dX0_addCue_112 rfl (lv_at hl 1 rfl) ?_
                have hf23 := hts (.fieldLink RX0 23 "Clockmask" "cueKind" "[I") (by decide +kernel)
                refine va_get (D := D) (ci := 0) (v := .ref (a 4)) (C := RX0) (T := TX0) (N := 17) hx hb hts hin hown hK hP 0 rfl rfl 4 (by decide) hf23 (fun _ h9 => h9) rfl dX0_addCue_113 ?_
                refine lv_iload hx hb dX0_addCue_116 (lv_at hl 0 rfl) ?_
                refine lv_iload_n hx hb dX0_addCue_118 rfl (lv_at hl 2 rfl) ?_
                refine va_iast (f := S 4) (n := 24) hx hb hK hP hD hS 5 0 rfl rfl (by assumption) dX0_addCue_119 (fun H locs hP hD hS => ?_)
                have hP : va_P D vwCl (wXr cI cZ x a (S 0) (S 1) (S 2) (S 3) (upd (S 4) (S 10 0).toNatClampNeg k) (S 5) (S 6) (S 7) (S 8) (S 9) (S 10 0) (S 11 0) (S 12) (S 13) (S 14 0) (S 15 0) (S 16)) H := hP
                have hD : va_D A (wXr cI cZ x a (S 0) (S 1) (S 2) (S 3) (upd (S 4) (S 10 0).toNatClampNeg k) (S 5) (S 6) (S 7) (S 8) (S 9) (S 10 0) (S 11 0) (S 12) (S 13) (S 14 0) (S 15 0) (S 16)) := hD
                refine lv_aload_n hx hb dX0_addCue_120 rfl (lv_at hl 1 rfl) ?_
                have hf26 := hts (.fieldLink RX0 26 "Clockmask" "cuePlayer" "[I") (by decide +kernel)
                refine va_get (D := D) (ci := 0) (v := .ref (a 5)) (C := RX0) (T := TX0) (N := 17) hx hb hts hin hown hK hP 0 rfl rfl 5 (by decide) hf26 (fun _ h9 => h9) rfl dX0_addCue_121 ?_
                refine lv_iload hx hb dX0_addCue_124 (lv_at hl 0 rfl) ?_
                refine lv_iload_n hx hb dX0_addCue_126 rfl (lv_at hl 3 rfl) ?_
                refine va_iast (f := S 5) (n := 24) hx hb hK hP hD hS 6 0 rfl rfl (by assumption) dX0_addCue_127 (fun H locs hP hD hS => ?_)
                have hP : va_P D vwCl (wXr cI cZ x a (S 0) (S 1) (S 2) (S 3) (upd (S 4) (S 10 0).toNatClampNeg k) (upd (S 5) (S 10 0).toNatClampNeg p) (S 6) (S 7) (S 8) (S 9) (S 10 0) (S 11 0) (S 12) (S 13) (S 14 0) (S 15 0) (S 16)) H := hP
                have hD : va_D A (wXr cI cZ x a (S 0) (S 1) (S 2) (S 3) (upd (S 4) (S 10 0).toNatClampNeg k) (upd (S 5) (S 10 0).toNatClampNeg p) (S 6) (S 7) (S 8) (S 9) (S 10 0) (S 11 0) (S 12) (S 13) (S 14 0) (S 15 0) (S 16)) := hD
                refine lv_aload_n hx hb dX0_addCue_128 rfl (lv_at hl 1 rfl) ?_
                have hf29 := hts (.fieldLink RX0 29 "Clockmask" "cueOther" "[I") (by decide +kernel)
                refine va_get (D := D) (ci := 0) (v := .ref (a 6)) (C := RX0) (T := TX0) (N := 17) hx hb hts hin hown hK hP 0 rfl rfl 6 (by decide) hf29 (fun _ h9 => h9) rfl dX0_addCue_129 ?_
                refine lv_iload hx hb dX0_addCue_132 (lv_at hl 0 rfl) ?_
                refine lv_iload_n hx hb dX0_addCue_134 rfl (lv_at hl 4 rfl) ?_
                refine va_iast (f := S 6) (n := 24) hx hb hK hP hD hS 7 0 rfl rfl (by assumption) dX0_addCue_135 (fun H locs hP hD hS => ?_)
                have hP : va_P D vwCl (wXr cI cZ x a (S 0) (S 1) (S 2) (S 3) (upd (S 4) (S 10 0).toNatClampNeg k) (upd (S 5) (S 10 0).toNatClampNeg p) (upd (S 6) (S 10 0).toNatClampNeg o) (S 7) (S 8) (S 9) (S 10 0) (S 11 0) (S 12) (S 13) (S 14 0) (S 15 0) (S 16)) H := hP
                have hD : va_D A (wXr cI cZ x a (S 0) (S 1) (S 2) (S 3) (upd (S 4) (S 10 0).toNatClampNeg k) (upd (S 5) (S 10 0).toNatClampNeg p) (upd (S 6) (S 10 0).toNatClampNeg o) (S 7) (S 8) (S 9) (S 10 0) (S 11 0) (S 12) (S 13) (S 14 0) (S 15 0) (S 16)) := hD
                refine lv_aload_n hx hb dX0_addCue_136 rfl (lv_at hl 1 rfl) ?_
                have hf32 := hts (.fieldLink RX0 32 "Clockmask" "cueWaits" "[I") (by decide +kernel)
                refine va_get (D := D) (ci := 0) (v := .ref (a 7)) (C := RX0) (T := TX0) (N := 17) hx hb hts hin hown hK hP 0 rfl rfl 7 (by decide) hf32 (fun _ h9 => h9) rfl dX0_addCue_137 ?_
                refine lv_iload hx hb dX0_addCue_140 (lv_at hl 0 rfl) ?_
                refine lv_iload hx hb dX0_addCue_142 (lv_at hl 5 rfl) ?_
                refine va_iast (f := S 7) (n := 24) hx hb hK hP hD hS 8 0 rfl rfl (by assumption) dX0_addCue_144 (fun H locs hP hD hS => ?_)
                have hP : va_P D vwCl (wXr cI cZ x a (S 0) (S 1) (S 2) (S 3) (upd (S 4) (S 10 0).toNatClampNeg k) (upd (S 5) (S 10 0).toNatClampNeg p) (upd (S 6) (S 10 0).toNatClampNeg o) (upd (S 7) (S 10 0).toNatClampNeg w) (S 8) (S 9) (S 10 0) (S 11 0) (S 12) (S 13) (S 14 0) (S 15 0) (S 16)) H := hP
                have hD : va_D A (wXr cI cZ x a (S 0) (S 1) (S 2) (S 3) (upd (S 4) (S 10 0).toNatClampNeg k) (upd (S 5) (S 10 0).toNatClampNeg p) (upd (S 6) (S 10 0).toNatClampNeg o) (upd (S 7) (S 10 0).toNatClampNeg w) (S 8) (S 9) (S 10 0) (S 11 0) (S 12) (S 13) (S 14 0) (S 15 0) (S 16)) := hD
                refine lv_aload_n hx hb dX0_addCue_145 rfl (lv_at hl 1 rfl) ?_
                refine va_get (D := D) (ci := 0) (v := .ref (a 8)) (C := RX0) (T := TX0) (N := 17) hx hb hts hin hown hK hP 0 rfl rfl 8 (by decide) hf35 (fun _ h9 => h9) rfl dX0_addCue_146 ?_
                refine lv_iload hx hb dX0_addCue_149 (lv_at hl 0 rfl) ?_
                refine lv_iconst (v := 0) hx hb dX0_addCue_151 (by decide) ?_
                refine va_iast (f := S 8) (n := 24) hx hb hK hP hD hS 9 0 rfl rfl (by assumption) dX0_addCue_152 (fun H locs hP hD hS => ?_)
                have hP : va_P D vwCl (wXr cI cZ x a (S 0) (S 1) (S 2) (S 3) (upd (S 4) (S 10 0).toNatClampNeg k) (upd (S 5) (S 10 0).toNatClampNeg p) (upd (S 6) (S 10 0).toNatClampNeg o) (upd (S 7) (S 10 0).toNatClampNeg w) (upd (S 8) (S 10 0).toNatClampNeg 0) (S 9) (S 10 0) (S 11 0) (S 12) (S 13) (S 14 0) (S 15 0) (S 16)) H := hP
                have hD : va_D A (wXr cI cZ x a (S 0) (S 1) (S 2) (S 3) (upd (S 4) (S 10 0).toNatClampNeg k) (upd (S 5) (S 10 0).toNatClampNeg p) (upd (S 6) (S 10 0).toNatClampNeg o) (upd (S 7) (S 10 0).toNatClampNeg w) (upd (S 8) (S 10 0).toNatClampNeg 0) (S 9) (S 10 0) (S 11 0) (S 12) (S 13) (S 14 0) (S 15 0) (S 16)) := hD
                refine lv_aload_n hx hb dX0_addCue_153 rfl (lv_at hl 1 rfl) ?_
                refine lv_dup hx hb dX0_addCue_154 rfl ?_
                refine va_get (D := D) (ci := 0) (v := .int (S 10 0)) (C := RX0) (T := TX0) (N := 17) hx hb hts hin hown hK hP 0 rfl rfl 10 (by decide) hf104 (fun _ h9 => h9) rfl dX0_addCue_155 ?_
                refine lv_iconst (v := 1) hx hb dX0_addCue_158 (by decide) ?_
                refine lv_iadd hx hb dX0_addCue_159 ?_
                refine va_put (D := D) (ci := 0) (v := .int ((S 10 0) + 1)) (ty := .int) (C := RX0) (T := TX0) (N := 17) hx hb hts hin tyX0 tyX0_ok nmX0 hown hK hP hD hS 0 rfl rfl 10 (by decide) hf104 (fun _ h9 => h9) rfl (by decide +kernel) rfl rfl (Nat.le_of_ble_eq_true rfl) dX0_addCue_160 (fun H locs hP hD hS => ?_)
                have hP : va_P D vwCl (wXr cI cZ x a (S 0) (S 1) (S 2) (S 3) (upd (S 4) (S 10 0).toNatClampNeg k) (upd (S 5) (S 10 0).toNatClampNeg p) (upd (S 6) (S 10 0).toNatClampNeg o) (upd (S 7) (S 10 0).toNatClampNeg w) (upd (S 8) (S 10 0).toNatClampNeg 0) (S 9) ((S 10 0) + 1) (S 11 0) (S 12) (S 13) (S 14 0) (S 15 0) (S 16)) H := hP
                have hD : va_D A (wXr cI cZ x a (S 0) (S 1) (S 2) (S 3) (upd (S 4) (S 10 0).toNatClampNeg k) (upd (S 5) (S 10 0).toNatClampNeg p) (upd (S 6) (S 10 0).toNatClampNeg o) (upd (S 7) (S 10 0).toNatClampNeg w) (upd (S 8) (S 10 0).toNatClampNeg 0) (S 9) ((S 10 0) + 1) (S 11 0) (S 12) (S 13) (S 14 0) (S 15 0) (S 16)) := hD
                refine lv_iload hx hb dX0_addCue_163 (lv_at hl 0 rfl) ?_
                exact vy_ret (W.iret (v := S 10 0) hx hb hr (fun t ht hW => ⟨⟨_, row (row (row (row (row (row S 4 (upd (S 4) (S 10 0).toNatClampNeg k)) 5 (upd (S 5) (S 10 0).toNatClampNeg p)) 6 (upd (S 6) (S 10 0).toNatClampNeg o)) 7 (upd (S 7) (S 10 0).toNatClampNeg w)) 8 (upd (S 8) (S 10 0).toNatClampNeg 0)) 10 (kf ((S 10 0) + 1)), rfl, (cif_t ⟨c_1, c_6⟩).trans ((cif_t ⟨h_20, h_25, h2⟩).trans (cif_t ⟨c_46, hn, hw3⟩)), by rw [ht]; exact hP, hD⟩, hS.F ht⟩) hS.2.2 dX0_addCue_165)
              · skip
                exact x_throwS (text := "the cue for which to wait was missed") hx hb hfl hown (by decide) (hts (.classLink RX0 78 xIS) (by decide +kernel)) (hts (.initialized xIS) (by decide +kernel)) (fun w h => hts w (List.mem_cons_of_mem _ (List.mem_append_left _ (List.mem_append_right _ h)))) xIS_b xIS_g hG (by decide) (hl.1.trans hml.symm) dX0_addCue_96 dX0_addCue_99 dX0_addCue_100 dX0_addCue_102 dX0_addCue_105 hout ⟨by decide, by decide, by decide, by decide⟩ hlocks (Or.inr (Or.inr ⟨rfl, (cif_t ⟨c_1, c_6⟩).trans ((cif_t ⟨h_20, h_25, h2⟩).trans (cif_f (fun h => h.2.2.elim c_82 (fun z => z c_93))))⟩))
          · skip
            refine lv_iload_n hx hb dX0_addCue_64 rfl (lv_at hl 2 rfl) ?_
            refine lv_iload_n hx hb dX0_addCue_65 rfl (lv_at hl 3 rfl) ?_
            refine lv_icmp_ne (tgt := 79) hx hb dX0_addCue_66 (by decide) (fun c_66 => ?_) (fun c_66 => ?_)
            · skip
              have hn : ¬ (k = 4 ∧ p = o) := fun z => c_66 z.2
              refine lv_iload hx hb dX0_addCue_79 (lv_at hl 4 rfl) ?_
              refine lv_iconst (v := (-1)) hx hb dX0_addCue_81 (by decide) ?_
              refine lv_icmp_eq (tgt := 106) hx hb dX0_addCue_82 (by decide) (fun c_82 => ?_) (fun c_82 => ?_)
              · skip
                have hw3 : w = -1 ∨ S 8 w.toNatClampNeg ≠ 2 := Or.inl c_82
                have hc24 : vp_in (S 10 0) 24 := hI.lt24 c_46
                refine lv_aload_n hx hb dX0_addCue_106 rfl (lv_at hl 0 rfl) ?_
                refine va_get (D := D) (ci := 0) (v := .int (S 10 0)) (C := RX0) (T := TX0) (N := 17) hx hb hts hin hown hK hP 0 rfl rfl 10 (by decide) hf104 (fun _ h9 => h9) rfl dX0_addCue_107 ?_
                refine lv_istore (lv' := [(5, .int (S 10 0)), (0, .ref x), (1, .int k), (2, .int p), (3, .int o), (4, .int w)]) hx hb dX0_addCue_110 hl (by decide) rfl (fun ls hl => ?_)
                refine lv_aload_n hx hb dX0_addCue_112 rfl (lv_at hl 1 rfl) ?_
                have hf23 := hts (.fieldLink RX0 23 "Clockmask" "cueKind" "[I") (by decide +kernel)
                refine va_get (D := D) (ci := 0) (v := .ref (a 4)) (C := RX0) (T := TX0) (N := 17) hx hb hts hin hown hK hP 0 rfl rfl 4 (by decide) hf23 (fun _ h9 => h9) rfl dX0_addCue_113 ?_
                refine lv_iload hx hb dX0_addCue_116 (lv_at hl 0 rfl) ?_
                refine lv_iload_n hx hb dX0_addCue_118 rfl (lv_at hl 2 rfl) ?_
                refine va_iast (f := S 4) (n := 24) hx hb hK hP hD hS 5 0 rfl rfl (by assumption) dX0_addCue_119 (fun H locs hP hD hS => ?_)
                have hP : va_P D vwCl (wXr cI cZ x a (S 0) (S 1) (S 2) (S 3) (upd (S 4) (S 10 0).toNatClampNeg k) (S 5) (S 6) (S 7) (S 8) (S 9) (S 10 0) (S 11 0) (S 12) (S 13) (S 14 0) (S 15 0) (S 16)) H := hP
                have hD : va_D A (wXr cI cZ x a (S 0) (S 1) (S 2) (S 3) (upd (S 4) (S 10 0).toNatClampNeg k) (S 5) (S 6) (S 7) (S 8) (S 9) (S 10 0) (S 11 0) (S 12) (S 13) (S 14 0) (S 15 0) (S 16)) := hD
                refine lv_aload_n hx hb dX0_addCue_120 rfl (lv_at hl 1 rfl) ?_
                have hf26 := hts (.fieldLink RX0 26 "Clockmask" "cuePlayer" "[I") (by decide +kernel)
                refine va_get (D := D) (ci := 0) (v := .ref (a 5)) (C := RX0) (T := TX0) (N := 17) hx hb hts hin hown hK hP 0 rfl rfl 5 (by decide) hf26 (fun _ h9 => h9) rfl dX0_addCue_121 ?_
                refine lv_iload hx hb dX0_addCue_124 (lv_at hl 0 rfl) ?_
                refine lv_iload_n hx hb dX0_addCue_126 rfl (lv_at hl 3 rfl) ?_
                refine va_iast (f := S 5) (n := 24) hx hb hK hP hD hS 6 0 rfl rfl (by assumption) dX0_addCue_127 (fun H locs hP hD hS => ?_)
                have hP : va_P D vwCl (wXr cI cZ x a (S 0) (S 1) (S 2) (S 3) (upd (S 4) (S 10 0).toNatClampNeg k) (upd (S 5) (S 10 0).toNatClampNeg p) (S 6) (S 7) (S 8) (S 9) (S 10 0) (S 11 0) (S 12) (S 13) (S 14 0) (S 15 0) (S 16)) H := hP
                have hD : va_D A (wXr cI cZ x a (S 0) (S 1) (S 2) (S 3) (upd (S 4) (S 10 0).toNatClampNeg k) (upd (S 5) (S 10 0).toNatClampNeg p) (S 6) (S 7) (S 8) (S 9) (S 10 0) (S 11 0) (S 12) (S 13) (S 14 0) (S 15 0) (S 16)) := hD
                refine lv_aload_n hx hb dX0_addCue_128 rfl (lv_at hl 1 rfl) ?_
                have hf29 := hts (.fieldLink RX0 29 "Clockmask" "cueOther" "[I") (by decide +kernel)
                refine va_get (D := D) (ci := 0) (v := .ref (a 6)) (C := RX0) (T := TX0) (N := 17) hx hb hts hin hown hK hP 0 rfl rfl 6 (by decide) hf29 (fun _ h9 => h9) rfl dX0_addCue_129 ?_
                refine lv_iload hx hb dX0_addCue_132 (lv_at hl 0 rfl) ?_
                refine lv_iload_n hx hb dX0_addCue_134 rfl (lv_at hl 4 rfl) ?_
                refine va_iast (f := S 6) (n := 24) hx hb hK hP hD hS 7 0 rfl rfl (by assumption) dX0_addCue_135 (fun H locs hP hD hS => ?_)
                have hP : va_P D vwCl (wXr cI cZ x a (S 0) (S 1) (S 2) (S 3) (upd (S 4) (S 10 0).toNatClampNeg k) (upd (S 5) (S 10 0).toNatClampNeg p) (upd (S 6) (S 10 0).toNatClampNeg o) (S 7) (S 8) (S 9) (S 10 0) (S 11 0) (S 12) (S 13) (S 14 0) (S 15 0) (S 16)) H := hP
                have hD : va_D A (wXr cI cZ x a (S 0) (S 1) (S 2) (S 3) (upd (S 4) (S 10 0).toNatClampNeg k) (upd (S 5) (S 10 0).toNatClampNeg p) (upd (S 6) (S 10 0).toNatClampNeg o) (S 7) (S 8) (S 9) (S 10 0) (S 11 0) (S 12) (S 13) (S 14 0) (S 15 0) (S 16)) := hD
                refine lv_aload_n hx hb dX0_addCue_136 rfl (lv_at hl 1 rfl) ?_
                have hf32 := hts (.fieldLink RX0 32 "Clockmask" "cueWaits" "[I") (by decide +kernel)
                refine va_get (D := D) (ci := 0) (v := .ref (a 7)) (C := RX0) (T := TX0) (N := 17) hx hb hts hin hown hK hP 0 rfl rfl 7 (by decide) hf32 (fun _ h9 => h9) rfl dX0_addCue_137 ?_
                refine lv_iload hx hb dX0_addCue_140 (lv_at hl 0 rfl) ?_
                refine lv_iload hx hb dX0_addCue_142 (lv_at hl 5 rfl) ?_
                refine va_iast (f := S 7) (n := 24) hx hb hK hP hD hS 8 0 rfl rfl (by assumption) dX0_addCue_144 (fun H locs hP hD hS => ?_)
                have hP : va_P D vwCl (wXr cI cZ x a (S 0) (S 1) (S 2) (S 3) (upd (S 4) (S 10 0).toNatClampNeg k) (upd (S 5) (S 10 0).toNatClampNeg p) (upd (S 6) (S 10 0).toNatClampNeg o) (upd (S 7) (S 10 0).toNatClampNeg w) (S 8) (S 9) (S 10 0) (S 11 0) (S 12) (S 13) (S 14 0) (S 15 0) (S 16)) H := hP
                have hD : va_D A (wXr cI cZ x a (S 0) (S 1) (S 2) (S 3) (upd (S 4) (S 10 0).toNatClampNeg k) (upd (S 5) (S 10 0).toNatClampNeg p) (upd (S 6) (S 10 0).toNatClampNeg o) (upd (S 7) (S 10 0).toNatClampNeg w) (S 8) (S 9) (S 10 0) (S 11 0) (S 12) (S 13) (S 14 0) (S 15 0) (S 16)) := hD
                refine lv_aload_n hx hb dX0_addCue_145 rfl (lv_at hl 1 rfl) ?_
                have hf35 := hts (.fieldLink RX0 35 "Clockmask" "cueState" "[I") (by decide +kernel)
                refine va_get (D := D) (ci := 0) (v := .ref (a 8)) (C := RX0) (T := TX0) (N := 17) hx hb hts hin hown hK hP 0 rfl rfl 8 (by decide) hf35 (fun _ h9 => h9) rfl dX0_addCue_146 ?_
                refine lv_iload hx hb dX0_addCue_149 (lv_at hl 0 rfl) ?_
                refine lv_iconst (v := 0) hx hb dX0_addCue_151 (by decide) ?_
                refine va_iast (f := S 8) (n := 24) hx hb hK hP hD hS 9 0 rfl rfl (by assumption) dX0_addCue_152 (fun H locs hP hD hS => ?_)
                have hP : va_P D vwCl (wXr cI cZ x a (S 0) (S 1) (S 2) (S 3) (upd (S 4) (S 10 0).toNatClampNeg k) (upd (S 5) (S 10 0).toNatClampNeg p) (upd (S 6) (S 10 0).toNatClampNeg o) (upd (S 7) (S 10 0).toNatClampNeg w) (upd (S 8) (S 10 0).toNatClampNeg 0) (S 9) (S 10 0) (S 11 0) (S 12) (S 13) (S 14 0) (S 15 0) (S 16)) H := hP
                have hD : va_D A (wXr cI cZ x a (S 0) (S 1) (S 2) (S 3) (upd (S 4) (S 10 0).toNatClampNeg k) (upd (S 5) (S 10 0).toNatClampNeg p) (upd (S 6) (S 10 0).toNatClampNeg o) (upd (S 7) (S 10 0).toNatClampNeg w) (upd (S 8) (S 10 0).toNatClampNeg 0) (S 9) (S 10 0) (S 11 0) (S 12) (S 13) (S 14 0) (S 15 0) (S 16)) := hD
                refine lv_aload_n hx hb dX0_addCue_153 rfl (lv_at hl 1 rfl) ?_
                refine lv_dup hx hb dX0_addCue_154 rfl ?_
                refine va_get (D := D) (ci := 0) (v := .int (S 10 0)) (C := RX0) (T := TX0) (N := 17) hx hb hts hin hown hK hP 0 rfl rfl 10 (by decide) hf104 (fun _ h9 => h9) rfl dX0_addCue_155 ?_
                refine lv_iconst (v := 1) hx hb dX0_addCue_158 (by decide) ?_
                refine lv_iadd hx hb dX0_addCue_159 ?_
                refine va_put (D := D) (ci := 0) (v := .int ((S 10 0) + 1)) (ty := .int) (C := RX0) (T := TX0) (N := 17) hx hb hts hin tyX0 tyX0_ok nmX0 hown hK hP hD hS 0 rfl rfl 10 (by decide) hf104 (fun _ h9 => h9) rfl (by decide +kernel) rfl rfl (Nat.le_of_ble_eq_true rfl) dX0_addCue_160 (fun H locs hP hD hS => ?_)
                have hP : va_P D vwCl (wXr cI cZ x a (S 0) (S 1) (S 2) (S 3) (upd (S 4) (S 10 0).toNatClampNeg k) (upd (S 5) (S 10 0).toNatClampNeg p) (upd (S 6) (S 10 0).toNatClampNeg o) (upd (S 7) (S 10 0).toNatClampNeg w) (upd (S 8) (S 10 0).toNatClampNeg 0) (S 9) ((S 10 0) + 1) (S 11 0) (S 12) (S 13) (S 14 0) (S 15 0) (S 16)) H := hP
                have hD : va_D A (wXr cI cZ x a (S 0) (S 1) (S 2) (S 3) (upd (S 4) (S 10 0).toNatClampNeg k) (upd (S 5) (S 10 0).toNatClampNeg p) (upd (S 6) (S 10 0).toNatClampNeg o) (upd (S 7) (S 10 0).toNatClampNeg w) (upd (S 8) (S 10 0).toNatClampNeg 0) (S 9) ((S 10 0) + 1) (S 11 0) (S 12) (S 13) (S 14 0) (S 15 0) (S 16)) := hD
                refine lv_iload hx hb dX0_addCue_163 (lv_at hl 0 rfl) ?_
                exact vy_ret (W.iret (v := S 10 0) hx hb hr (fun t ht hW => ⟨⟨_, row (row (row (row (row (row S 4 (upd (S 4) (S 10 0).toNatClampNeg k)) 5 (upd (S 5) (S 10 0).toNatClampNeg p)) 6 (upd (S 6) (S 10 0).toNatClampNeg o)) 7 (upd (S 7) (S 10 0).toNatClampNeg w)) 8 (upd (S 8) (S 10 0).toNatClampNeg 0)) 10 (kf ((S 10 0) + 1)), rfl, (cif_t ⟨c_1, c_6⟩).trans ((cif_t ⟨h_20, h_25, h2⟩).trans (cif_t ⟨c_46, hn, hw3⟩)), by rw [ht]; exact hP, hD⟩, hS.F ht⟩) hS.2.2 dX0_addCue_165)
              · skip
                refine lv_aload_n hx hb dX0_addCue_85 rfl (lv_at hl 0 rfl) ?_
                have hf35 := hts (.fieldLink RX0 35 "Clockmask" "cueState" "[I") (by decide +kernel)
                refine va_get (D := D) (ci := 0) (v := .ref (a 8)) (C := RX0) (T := TX0) (N := 17) hx hb hts hin hown hK hP 0 rfl rfl 8 (by decide) hf35 (fun _ h9 => h9) rfl dX0_addCue_86 ?_
                refine lv_iload hx hb dX0_addCue_89 (lv_at hl 4 rfl) ?_
                refine va_iald (f := S 8) (n := 24) hx hb hK hP 9 0 rfl rfl (hI.q24 (h2.resolve_left c_82)) dX0_addCue_91 ?_
                refine lv_iconst (v := 2) hx hb dX0_addCue_92 (by decide) ?_
                refine lv_icmp_ne (tgt := 106) hx hb dX0_addCue_93 (by decide) (fun c_93 => ?_) (fun c_93 => ?_)
                · skip
                  have hw3 : w = -1 ∨ S 8 w.toNatClampNeg ≠ 2 := Or.inr c_93
                  have hc24 : vp_in (S 10 0) 24 := hI.lt24 c_46
                  refine lv_aload_n hx hb dX0_addCue_106 rfl (lv_at hl 0 rfl) ?_
                  refine va_get (D := D) (ci := 0) (v := .int (S 10 0)) (C := RX0) (T := TX0) (N := 17) hx hb hts hin hown hK hP 0 rfl rfl 10 (by decide) hf104 (fun _ h9 => h9) rfl dX0_addCue_107 ?_
                  refine lv_istore (lv' := [(5, .int (S 10 0)), (0, .ref x), (1, .int k), (2, .int p), (3, .int o), (4, .int w)]) hx hb dX0_addCue_110 hl (by decide) rfl (fun ls hl => ?_)
                  refine lv_aload_n hx hb dX0_addCue_112 rfl (lv_at hl 1 rfl) ?_
                  have hf23 := hts (.fieldLink RX0 23 "Clockmask" "cueKind" "[I") (by decide +kernel)
                  refine va_get (D := D) (ci := 0) (v := .ref (a 4)) (C := RX0) (T := TX0) (N := 17) hx hb hts hin hown hK hP 0 rfl rfl 4 (by decide) hf23 (fun _ h9 => h9) rfl dX0_addCue_113 ?_
                  refine lv_iload hx hb dX0_addCue_116 (lv_at hl 0 rfl) ?_
                  refine lv_iload_n hx hb dX0_addCue_118 rfl (lv_at hl 2 rfl) ?_
                  refine va_iast (f := S 4) (n := 24) hx hb hK hP hD hS 5 0 rfl rfl (by assumption) dX0_addCue_119 (fun H locs hP hD hS => ?_)
                  have hP : va_P D vwCl (wXr cI cZ x a (S 0) (S 1) (S 2) (S 3) (upd (S 4) (S 10 0).toNatClampNeg k) (S 5) (S 6) (S 7) (S 8) (S 9) (S 10 0) (S 11 0) (S 12) (S 13) (S 14 0) (S 15 0) (S 16)) H := hP
                  have hD : va_D A (wXr cI cZ x a (S 0) (S 1) (S 2) (S 3) (upd (S 4) (S 10 0).toNatClampNeg k) (S 5) (S 6) (S 7) (S 8) (S 9) (S 10 0) (S 11 0) (S 12) (S 13) (S 14 0) (S 15 0) (S 16)) := hD
                  refine lv_aload_n hx hb dX0_addCue_120 rfl (lv_at hl 1 rfl) ?_
                  have hf26 := hts (.fieldLink RX0 26 "Clockmask" "cuePlayer" "[I") (by decide +kernel)
                  refine va_get (D := D) (ci := 0) (v := .ref (a 5)) (C := RX0) (T := TX0) (N := 17) hx hb hts hin hown hK hP 0 rfl rfl 5 (by decide) hf26 (fun _ h9 => h9) rfl dX0_addCue_121 ?_
                  refine lv_iload hx hb dX0_addCue_124 (lv_at hl 0 rfl) ?_
                  refine lv_iload_n hx hb dX0_addCue_126 rfl (lv_at hl 3 rfl) ?_
                  refine va_iast (f := S 5) (n := 24) hx hb hK hP hD hS 6 0 rfl rfl (by assumption) dX0_addCue_127 (fun H locs hP hD hS => ?_)
                  have hP : va_P D vwCl (wXr cI cZ x a (S 0) (S 1) (S 2) (S 3) (upd (S 4) (S 10 0).toNatClampNeg k) (upd (S 5) (S 10 0).toNatClampNeg p) (S 6) (S 7) (S 8) (S 9) (S 10 0) (S 11 0) (S 12) (S 13) (S 14 0) (S 15 0) (S 16)) H := hP
                  have hD : va_D A (wXr cI cZ x a (S 0) (S 1) (S 2) (S 3) (upd (S 4) (S 10 0).toNatClampNeg k) (upd (S 5) (S 10 0).toNatClampNeg p) (S 6) (S 7) (S 8) (S 9) (S 10 0) (S 11 0) (S 12) (S 13) (S 14 0) (S 15 0) (S 16)) := hD
                  refine lv_aload_n hx hb dX0_addCue_128 rfl (lv_at hl 1 rfl) ?_
                  have hf29 := hts (.fieldLink RX0 29 "Clockmask" "cueOther" "[I") (by decide +kernel)
                  refine va_get (D := D) (ci := 0) (v := .ref (a 6)) (C := RX0) (T := TX0) (N := 17) hx hb hts hin hown hK hP 0 rfl rfl 6 (by decide) hf29 (fun _ h9 => h9) rfl dX0_addCue_129 ?_
                  refine lv_iload hx hb dX0_addCue_132 (lv_at hl 0 rfl) ?_
                  refine lv_iload_n hx hb dX0_addCue_134 rfl (lv_at hl 4 rfl) ?_
                  refine va_iast (f := S 6) (n := 24) hx hb hK hP hD hS 7 0 rfl rfl (by assumption) dX0_addCue_135 (fun H locs hP hD hS => ?_)
                  have hP : va_P D vwCl (wXr cI cZ x a (S 0) (S 1) (S 2) (S 3) (upd (S 4) (S 10 0).toNatClampNeg k) (upd (S 5) (S 10 0).toNatClampNeg p) (upd (S 6) (S 10 0).toNatClampNeg o) (S 7) (S 8) (S 9) (S 10 0) (S 11 0) (S 12) (S 13) (S 14 0) (S 15 0) (S 16)) H := hP
                  have hD : va_D A (wXr cI cZ x a (S 0) (S 1) (S 2) (S 3) (upd (S 4) (S 10 0).toNatClampNeg k) (upd (S 5) (S 10 0).toNatClampNeg p) (upd (S 6) (S 10 0).toNatClampNeg o) (S 7) (S 8) (S 9) (S 10 0) (S 11 0) (S 12) (S 13) (S 14 0) (S 15 0) (S 16)) := hD
                  refine lv_aload_n hx hb dX0_addCue_136 rfl (lv_at hl 1 rfl) ?_
                  have hf32 := hts (.fieldLink RX0 32 "Clockmask" "cueWaits" "[I") (by decide +kernel)
                  refine va_get (D := D) (ci := 0) (v := .ref (a 7)) (C := RX0) (T := TX0) (N := 17) hx hb hts hin hown hK hP 0 rfl rfl 7 (by decide) hf32 (fun _ h9 => h9) rfl dX0_addCue_137 ?_
                  refine lv_iload hx hb dX0_addCue_140 (lv_at hl 0 rfl) ?_
                  refine lv_iload hx hb dX0_addCue_142 (lv_at hl 5 rfl) ?_
                  refine va_iast (f := S 7) (n := 24) hx hb hK hP hD hS 8 0 rfl rfl (by assumption) dX0_addCue_144 (fun H locs hP hD hS => ?_)
                  have hP : va_P D vwCl (wXr cI cZ x a (S 0) (S 1) (S 2) (S 3) (upd (S 4) (S 10 0).toNatClampNeg k) (upd (S 5) (S 10 0).toNatClampNeg p) (upd (S 6) (S 10 0).toNatClampNeg o) (upd (S 7) (S 10 0).toNatClampNeg w) (S 8) (S 9) (S 10 0) (S 11 0) (S 12) (S 13) (S 14 0) (S 15 0) (S 16)) H := hP
                  have hD : va_D A (wXr cI cZ x a (S 0) (S 1) (S 2) (S 3) (upd (S 4) (S 10 0).toNatClampNeg k) (upd (S 5) (S 10 0).toNatClampNeg p) (upd (S 6) (S 10 0).toNatClampNeg o) (upd (S 7) (S 10 0).toNatClampNeg w) (S 8) (S 9) (S 10 0) (S 11 0) (S 12) (S 13) (S 14 0) (S 15 0) (S 16)) := hD
                  refine lv_aload_n hx hb dX0_addCue_145 rfl (lv_at hl 1 rfl) ?_
                  refine va_get (D := D) (ci := 0) (v := .ref (a 8)) (C := RX0) (T := TX0) (N := 17) hx hb hts hin hown hK hP 0 rfl rfl 8 (by decide) hf35 (fun _ h9 => h9) rfl dX0_addCue_146 ?_
                  refine lv_iload hx hb dX0_addCue_149 (lv_at hl 0 rfl) ?_
                  refine lv_iconst (v := 0) hx hb dX0_addCue_151 (by decide) ?_
                  refine va_iast (f := S 8) (n := 24) hx hb hK hP hD hS 9 0 rfl rfl (by assumption) dX0_addCue_152 (fun H locs hP hD hS => ?_)
                  have hP : va_P D vwCl (wXr cI cZ x a (S 0) (S 1) (S 2) (S 3) (upd (S 4) (S 10 0).toNatClampNeg k) (upd (S 5) (S 10 0).toNatClampNeg p) (upd (S 6) (S 10 0).toNatClampNeg o) (upd (S 7) (S 10 0).toNatClampNeg w) (upd (S 8) (S 10 0).toNatClampNeg 0) (S 9) (S 10 0) (S 11 0) (S 12) (S 13) (S 14 0) (S 15 0) (S 16)) H := hP
                  have hD : va_D A (wXr cI cZ x a (S 0) (S 1) (S 2) (S 3) (upd (S 4) (S 10 0).toNatClampNeg k) (upd (S 5) (S 10 0).toNatClampNeg p) (upd (S 6) (S 10 0).toNatClampNeg o) (upd (S 7) (S 10 0).toNatClampNeg w) (upd (S 8) (S 10 0).toNatClampNeg 0) (S 9) (S 10 0) (S 11 0) (S 12) (S 13) (S 14 0) (S 15 0) (S 16)) := hD
                  refine lv_aload_n hx hb dX0_addCue_153 rfl (lv_at hl 1 rfl) ?_
                  refine lv_dup hx hb dX0_addCue_154 rfl ?_
                  refine va_get (D := D) (ci := 0) (v := .int (S 10 0)) (C := RX0) (T := TX0) (N := 17) hx hb hts hin hown hK hP 0 rfl rfl 10 (by decide) hf104 (fun _ h9 => h9) rfl dX0_addCue_155 ?_
                  refine lv_iconst (v := 1) hx hb dX0_addCue_158 (by decide) ?_
                  refine lv_iadd hx hb dX0_addCue_159 ?_
                  refine va_put (D := D) (ci := 0) (v := .int ((S 10 0) + 1)) (ty := .int) (C := RX0) (T := TX0) (N := 17) hx hb hts hin tyX0 tyX0_ok nmX0 hown hK hP hD hS 0 rfl rfl 10 (by decide) hf104 (fun _ h9 => h9) rfl (by decide +kernel) rfl rfl (Nat.le_of_ble_eq_true rfl) dX0_addCue_160 (fun H locs hP hD hS => ?_)
                  have hP : va_P D vwCl (wXr cI cZ x a (S 0) (S 1) (S 2) (S 3) (upd (S 4) (S 10 0).toNatClampNeg k) (upd (S 5) (S 10 0).toNatClampNeg p) (upd (S 6) (S 10 0).toNatClampNeg o) (upd (S 7) (S 10 0).toNatClampNeg w) (upd (S 8) (S 10 0).toNatClampNeg 0) (S 9) ((S 10 0) + 1) (S 11 0) (S 12) (S 13) (S 14 0) (S 15 0) (S 16)) H := hP
                  have hD : va_D A (wXr cI cZ x a (S 0) (S 1) (S 2) (S 3) (upd (S 4) (S 10 0).toNatClampNeg k) (upd (S 5) (S 10 0).toNatClampNeg p) (upd (S 6) (S 10 0).toNatClampNeg o) (upd (S 7) (S 10 0).toNatClampNeg w) (upd (S 8) (S 10 0).toNatClampNeg 0) (S 9) ((S 10 0) + 1) (S 11 0) (S 12) (S 13) (S 14 0) (S 15 0) (S 16)) := hD
                  refine lv_iload hx hb dX0_addCue_163 (lv_at hl 0 rfl) ?_
                  exact vy_ret (W.iret (v := S 10 0) hx hb hr (fun t ht hW => ⟨⟨_, row (row (row (row (row (row S 4 (upd (S 4) (S 10 0).toNatClampNeg k)) 5 (upd (S 5) (S 10 0).toNatClampNeg p)) 6 (upd (S 6) (S 10 0).toNatClampNeg o)) 7 (upd (S 7) (S 10 0).toNatClampNeg w)) 8 (upd (S 8) (S 10 0).toNatClampNeg 0)) 10 (kf ((S 10 0) + 1)), rfl, (cif_t ⟨c_1, c_6⟩).trans ((cif_t ⟨h_20, h_25, h2⟩).trans (cif_t ⟨c_46, hn, hw3⟩)), by rw [ht]; exact hP, hD⟩, hS.F ht⟩) hS.2.2 dX0_addCue_165)
                · skip
                  exact x_throwS (text := "the cue for which to wait was missed") hx hb hfl hown (by decide) (hts (.classLink RX0 78 xIS) (by decide +kernel)) (hts (.initialized xIS) (by decide +kernel)) (fun w h => hts w (List.mem_cons_of_mem _ (List.mem_append_left _ (List.mem_append_right _ h)))) xIS_b xIS_g hG (by decide) (hl.1.trans hml.symm) dX0_addCue_96 dX0_addCue_99 dX0_addCue_100 dX0_addCue_102 dX0_addCue_105 hout ⟨by decide, by decide, by decide, by decide⟩ hlocks (Or.inr (Or.inr ⟨rfl, (cif_t ⟨c_1, c_6⟩).trans ((cif_t ⟨h_20, h_25, h2⟩).trans (cif_f (fun h => h.2.2.elim c_82 (fun z => z c_93))))⟩))
            · skip
              exact x_throwS (text := "a player cannot swap with itself") hx hb hfl hown (by decide) (hts (.classLink RX0 78 xIS) (by decide +kernel)) (hts (.initialized xIS) (by decide +kernel)) (fun w h => hts w (List.mem_cons_of_mem _ (List.mem_append_left _ (List.mem_append_right _ h)))) xIS_b xIS_g hG (by decide) (hl.1.trans hml.symm) dX0_addCue_69 dX0_addCue_72 dX0_addCue_73 dX0_addCue_75 dX0_addCue_78 hout ⟨by decide, by decide, by decide, by decide⟩ hlocks (Or.inr (Or.inr ⟨rfl, (cif_t ⟨c_1, c_6⟩).trans ((cif_t ⟨h_20, h_25, h2⟩).trans (cif_f (fun h => h.2.1 ⟨c_61, c_66⟩)))⟩))
        · skip
          exact x_throwS (text := "the play has no room for another cue") hx hb hfl hown (by decide) (hts (.classLink RX0 78 xIS) (by decide +kernel)) (hts (.initialized xIS) (by decide +kernel)) (fun w h => hts w (List.mem_cons_of_mem _ (List.mem_append_left _ (List.mem_append_right _ h)))) xIS_b xIS_g hG (by decide) (hl.1.trans hml.symm) dX0_addCue_49 dX0_addCue_52 dX0_addCue_53 dX0_addCue_55 dX0_addCue_58 hout ⟨by decide, by decide, by decide, by decide⟩ hlocks (Or.inr (Or.inr ⟨rfl, (cif_t ⟨c_1, c_6⟩).trans ((cif_t ⟨h_20, h_25, h2⟩).trans (cif_f (fun h => c_46 h.1)))⟩))
      · skip
        refine lv_aload_n hx hb dX0_addCue_34 rfl (lv_at hl 0 rfl) ?_
        refine lv_iload hx hb dX0_addCue_35 (lv_at hl 4 rfl) ?_
        refine vy_csv (vy_runV (As := [.int w]) (rest := []) ⟨hx, hb, hml, hown, hts⟩ (c_X0_requireCue l hfl D cI cZ x a S w) (cwV 1 hts gX0_addCue_X0_requireCue rfl rfl rfl (by decide +kernel) ⟨Nat.le_of_ble_eq_true rfl, Nat.le_of_ble_eq_true rfl⟩) (pT_V (pR_V (ci := 0) hP hK rfl rfl) hG (fun _ h => h)) rfl rfl hl.1 rfl (lv_room (Nat.le_of_ble_eq_true rfl)) dX0_addCue_37 ⟨Nat.le_of_ble_eq_true rfl, Nat.le_of_ble_eq_true rfl⟩) (fun E ce q9 H1 hPE hz9 hk9 hc9 hv9 hcl9 => vy_out hout hlocks (Or.inr (Or.inl ⟨hPE.1, (cif_t ⟨c_1, c_6⟩).trans (cif_f (fun h => h.2.2.elim c_31 hPE.2))⟩)) hz9 hk9 hc9 hv9 hcl9 (by decide) (by decide)) (fun h_37 => ?_)
        have h2 : w = -1 ∨ vp_in w (many S) := Or.inr h_37
        refine lv_aload_n hx hb dX0_addCue_40 rfl (lv_at hl 0 rfl) ?_
        have hf104 := hts (.fieldLink RX0 104 "Clockmask" "cueCount" "I") (by decide +kernel)
        refine va_get (D := D) (ci := 0) (v := .int (S 10 0)) (C := RX0) (T := TX0) (N := 17) hx hb hts hin hown hK hP 0 rfl rfl 10 (by decide) hf104 (fun _ h9 => h9) rfl dX0_addCue_41 ?_
        refine lv_bipush (v := 24) hx hb dX0_addCue_44 (by decide) ?_
        refine lv_icmp_lt (tgt := 59) hx hb dX0_addCue_46 (by decide) (fun c_46 => ?_) (fun c_46 => ?_)
        · skip
          refine lv_iload_n hx hb dX0_addCue_59 rfl (lv_at hl 1 rfl) ?_
          refine lv_iconst (v := 4) hx hb dX0_addCue_60 (by decide) ?_
          refine lv_icmp_ne (tgt := 79) hx hb dX0_addCue_61 (by decide) (fun c_61 => ?_) (fun c_61 => ?_)
          · skip
            have hn : ¬ (k = 4 ∧ p = o) := fun z => c_61 z.1
            refine lv_iload hx hb dX0_addCue_79 (lv_at hl 4 rfl) ?_
            refine lv_iconst (v := (-1)) hx hb dX0_addCue_81 (by decide) ?_
            refine lv_icmp_eq (tgt := 106) hx hb dX0_addCue_82 (by decide) (fun c_82 => ?_) (fun c_82 => ?_)
            · skip
              have hw3 : w = -1 ∨ S 8 w.toNatClampNeg ≠ 2 := Or.inl c_82
              have hc24 : vp_in (S 10 0) 24 := hI.lt24 c_46
              refine lv_aload_n hx hb dX0_addCue_106 rfl (lv_at hl 0 rfl) ?_
              refine va_get (D := D) (ci := 0) (v := .int (S 10 0)) (C := RX0) (T := TX0) (N := 17) hx hb hts hin hown hK hP 0 rfl rfl 10 (by decide) hf104 (fun _ h9 => h9) rfl dX0_addCue_107 ?_
              refine lv_istore (lv' := [(5, .int (S 10 0)), (0, .ref x), (1, .int k), (2, .int p), (3, .int o), (4, .int w)]) hx hb dX0_addCue_110 hl (by decide) rfl (fun ls hl => ?_)
              refine lv_aload_n hx hb dX0_addCue_112 rfl (lv_at hl 1 rfl) ?_
              have hf23 := hts (.fieldLink RX0 23 "Clockmask" "cueKind" "[I") (by decide +kernel)
              refine va_get (D := D) (ci := 0) (v := .ref (a 4)) (C := RX0) (T := TX0) (N := 17) hx hb hts hin hown hK hP 0 rfl rfl 4 (by decide) hf23 (fun _ h9 => h9) rfl dX0_addCue_113 ?_
              refine lv_iload hx hb dX0_addCue_116 (lv_at hl 0 rfl) ?_
              refine lv_iload_n hx hb dX0_addCue_118 rfl (lv_at hl 2 rfl) ?_
              refine va_iast (f := S 4) (n := 24) hx hb hK hP hD hS 5 0 rfl rfl (by assumption) dX0_addCue_119 (fun H locs hP hD hS => ?_)
              have hP : va_P D vwCl (wXr cI cZ x a (S 0) (S 1) (S 2) (S 3) (upd (S 4) (S 10 0).toNatClampNeg k) (S 5) (S 6) (S 7) (S 8) (S 9) (S 10 0) (S 11 0) (S 12) (S 13) (S 14 0) (S 15 0) (S 16)) H := hP
              have hD : va_D A (wXr cI cZ x a (S 0) (S 1) (S 2) (S 3) (upd (S 4) (S 10 0).toNatClampNeg k) (S 5) (S 6) (S 7) (S 8) (S 9) (S 10 0) (S 11 0) (S 12) (S 13) (S 14 0) (S 15 0) (S 16)) := hD
              refine lv_aload_n hx hb dX0_addCue_120 rfl (lv_at hl 1 rfl) ?_
              have hf26 := hts (.fieldLink RX0 26 "Clockmask" "cuePlayer" "[I") (by decide +kernel)
              refine va_get (D := D) (ci := 0) (v := .ref (a 5)) (C := RX0) (T := TX0) (N := 17) hx hb hts hin hown hK hP 0 rfl rfl 5 (by decide) hf26 (fun _ h9 => h9) rfl dX0_addCue_121 ?_
              refine lv_iload hx hb dX0_addCue_124 (lv_at hl 0 rfl) ?_
              refine lv_iload_n hx hb dX0_addCue_126 rfl (lv_at hl 3 rfl) ?_
              refine va_iast (f := S 5) (n := 24) hx hb hK hP hD hS 6 0 rfl rfl (by assumption) dX0_addCue_127 (fun H locs hP hD hS => ?_)
              have hP : va_P D vwCl (wXr cI cZ x a (S 0) (S 1) (S 2) (S 3) (upd (S 4) (S 10 0).toNatClampNeg k) (upd (S 5) (S 10 0).toNatClampNeg p) (S 6) (S 7) (S 8) (S 9) (S 10 0) (S 11 0) (S 12) (S 13) (S 14 0) (S 15 0) (S 16)) H := hP
              have hD : va_D A (wXr cI cZ x a (S 0) (S 1) (S 2) (S 3) (upd (S 4) (S 10 0).toNatClampNeg k) (upd (S 5) (S 10 0).toNatClampNeg p) (S 6) (S 7) (S 8) (S 9) (S 10 0) (S 11 0) (S 12) (S 13) (S 14 0) (S 15 0) (S 16)) := hD
              refine lv_aload_n hx hb dX0_addCue_128 rfl (lv_at hl 1 rfl) ?_
              have hf29 := hts (.fieldLink RX0 29 "Clockmask" "cueOther" "[I") (by decide +kernel)
              refine va_get (D := D) (ci := 0) (v := .ref (a 6)) (C := RX0) (T := TX0) (N := 17) hx hb hts hin hown hK hP 0 rfl rfl 6 (by decide) hf29 (fun _ h9 => h9) rfl dX0_addCue_129 ?_
              refine lv_iload hx hb dX0_addCue_132 (lv_at hl 0 rfl) ?_
              refine lv_iload_n hx hb dX0_addCue_134 rfl (lv_at hl 4 rfl) ?_
              refine va_iast (f := S 6) (n := 24) hx hb hK hP hD hS 7 0 rfl rfl (by assumption) dX0_addCue_135 (fun H locs hP hD hS => ?_)
              have hP : va_P D vwCl (wXr cI cZ x a (S 0) (S 1) (S 2) (S 3) (upd (S 4) (S 10 0).toNatClampNeg k) (upd (S 5) (S 10 0).toNatClampNeg p) (upd (S 6) (S 10 0).toNatClampNeg o) (S 7) (S 8) (S 9) (S 10 0) (S 11 0) (S 12) (S 13) (S 14 0) (S 15 0) (S 16)) H := hP
              have hD : va_D A (wXr cI cZ x a (S 0) (S 1) (S 2) (S 3) (upd (S 4) (S 10 0).toNatClampNeg k) (upd (S 5) (S 10 0).toNatClampNeg p) (upd (S 6) (S 10 0).toNatClampNeg o) (S 7) (S 8) (S 9) (S 10 0) (S 11 0) (S 12) (S 13) (S 14 0) (S 15 0) (S 16)) := hD
              refine lv_aload_n hx hb dX0_addCue_136 rfl (lv_at hl 1 rfl) ?_
              have hf32 := hts (.fieldLink RX0 32 "Clockmask" "cueWaits" "[I") (by decide +kernel)
              refine va_get (D := D) (ci := 0) (v := .ref (a 7)) (C := RX0) (T := TX0) (N := 17) hx hb hts hin hown hK hP 0 rfl rfl 7 (by decide) hf32 (fun _ h9 => h9) rfl dX0_addCue_137 ?_
              refine lv_iload hx hb dX0_addCue_140 (lv_at hl 0 rfl) ?_
              refine lv_iload hx hb dX0_addCue_142 (lv_at hl 5 rfl) ?_
              refine va_iast (f := S 7) (n := 24) hx hb hK hP hD hS 8 0 rfl rfl (by assumption) dX0_addCue_144 (fun H locs hP hD hS => ?_)
              have hP : va_P D vwCl (wXr cI cZ x a (S 0) (S 1) (S 2) (S 3) (upd (S 4) (S 10 0).toNatClampNeg k) (upd (S 5) (S 10 0).toNatClampNeg p) (upd (S 6) (S 10 0).toNatClampNeg o) (upd (S 7) (S 10 0).toNatClampNeg w) (S 8) (S 9) (S 10 0) (S 11 0) (S 12) (S 13) (S 14 0) (S 15 0) (S 16)) H := hP
              have hD : va_D A (wXr cI cZ x a (S 0) (S 1) (S 2) (S 3) (upd (S 4) (S 10 0).toNatClampNeg k) (upd (S 5) (S 10 0).toNatClampNeg p) (upd (S 6) (S 10 0).toNatClampNeg o) (upd (S 7) (S 10 0).toNatClampNeg w) (S 8) (S 9) (S 10 0) (S 11 0) (S 12) (S 13) (S 14 0) (S 15 0) (S 16)) := hD
              refine lv_aload_n hx hb dX0_addCue_145 rfl (lv_at hl 1 rfl) ?_
              have hf35 := hts (.fieldLink RX0 35 "Clockmask" "cueState" "[I") (by decide +kernel)
              refine va_get (D := D) (ci := 0) (v := .ref (a 8)) (C := RX0) (T := TX0) (N := 17) hx hb hts hin hown hK hP 0 rfl rfl 8 (by decide) hf35 (fun _ h9 => h9) rfl dX0_addCue_146 ?_
              refine lv_iload hx hb dX0_addCue_149 (lv_at hl 0 rfl) ?_
              refine lv_iconst (v := 0) hx hb dX0_addCue_151 (by decide) ?_
              refine va_iast (f := S 8) (n := 24) hx hb hK hP hD hS 9 0 rfl rfl (by assumption) dX0_addCue_152 (fun H locs hP hD hS => ?_)
              have hP : va_P D vwCl (wXr cI cZ x a (S 0) (S 1) (S 2) (S 3) (upd (S 4) (S 10 0).toNatClampNeg k) (upd (S 5) (S 10 0).toNatClampNeg p) (upd (S 6) (S 10 0).toNatClampNeg o) (upd (S 7) (S 10 0).toNatClampNeg w) (upd (S 8) (S 10 0).toNatClampNeg 0) (S 9) (S 10 0) (S 11 0) (S 12) (S 13) (S 14 0) (S 15 0) (S 16)) H := hP
              have hD : va_D A (wXr cI cZ x a (S 0) (S 1) (S 2) (S 3) (upd (S 4) (S 10 0).toNatClampNeg k) (upd (S 5) (S 10 0).toNatClampNeg p) (upd (S 6) (S 10 0).toNatClampNeg o) (upd (S 7) (S 10 0).toNatClampNeg w) (upd (S 8) (S 10 0).toNatClampNeg 0) (S 9) (S 10 0) (S 11 0) (S 12) (S 13) (S 14 0) (S 15 0) (S 16)) := hD
              refine lv_aload_n hx hb dX0_addCue_153 rfl (lv_at hl 1 rfl) ?_
              refine lv_dup hx hb dX0_addCue_154 rfl ?_
              refine va_get (D := D) (ci := 0) (v := .int (S 10 0)) (C := RX0) (T := TX0) (N := 17) hx hb hts hin hown hK hP 0 rfl rfl 10 (by decide) hf104 (fun _ h9 => h9) rfl dX0_addCue_155 ?_
              refine lv_iconst (v := 1) hx hb dX0_addCue_158 (by decide) ?_
              refine lv_iadd hx hb dX0_addCue_159 ?_
              refine va_put (D := D) (ci := 0) (v := .int ((S 10 0) + 1)) (ty := .int) (C := RX0) (T := TX0) (N := 17) hx hb hts hin tyX0 tyX0_ok nmX0 hown hK hP hD hS 0 rfl rfl 10 (by decide) hf104 (fun _ h9 => h9) rfl (by decide +kernel) rfl rfl (Nat.le_of_ble_eq_true rfl) dX0_addCue_160 (fun H locs hP hD hS => ?_)
              have hP : va_P D vwCl (wXr cI cZ x a (S 0) (S 1) (S 2) (S 3) (upd (S 4) (S 10 0).toNatClampNeg k) (upd (S 5) (S 10 0).toNatClampNeg p) (upd (S 6) (S 10 0).toNatClampNeg o) (upd (S 7) (S 10 0).toNatClampNeg w) (upd (S 8) (S 10 0).toNatClampNeg 0) (S 9) ((S 10 0) + 1) (S 11 0) (S 12) (S 13) (S 14 0) (S 15 0) (S 16)) H := hP
              have hD : va_D A (wXr cI cZ x a (S 0) (S 1) (S 2) (S 3) (upd (S 4) (S 10 0).toNatClampNeg k) (upd (S 5) (S 10 0).toNatClampNeg p) (upd (S 6) (S 10 0).toNatClampNeg o) (upd (S 7) (S 10 0).toNatClampNeg w) (upd (S 8) (S 10 0).toNatClampNeg 0) (S 9) ((S 10 0) + 1) (S 11 0) (S 12) (S 13) (S 14 0) (S 15 0) (S 16)) := hD
              refine lv_iload hx hb dX0_addCue_163 (lv_at hl 0 rfl) ?_
              exact vy_ret (W.iret (v := S 10 0) hx hb hr (fun t ht hW => ⟨⟨_, row (row (row (row (row (row S 4 (upd (S 4) (S 10 0).toNatClampNeg k)) 5 (upd (S 5) (S 10 0).toNatClampNeg p)) 6 (upd (S 6) (S 10 0).toNatClampNeg o)) 7 (upd (S 7) (S 10 0).toNatClampNeg w)) 8 (upd (S 8) (S 10 0).toNatClampNeg 0)) 10 (kf ((S 10 0) + 1)), rfl, (cif_t ⟨c_1, c_6⟩).trans ((cif_t ⟨h_20, h_25, h2⟩).trans (cif_t ⟨c_46, hn, hw3⟩)), by rw [ht]; exact hP, hD⟩, hS.F ht⟩) hS.2.2 dX0_addCue_165)
            · skip
              refine lv_aload_n hx hb dX0_addCue_85 rfl (lv_at hl 0 rfl) ?_
              have hf35 := hts (.fieldLink RX0 35 "Clockmask" "cueState" "[I") (by decide +kernel)
              refine va_get (D := D) (ci := 0) (v := .ref (a 8)) (C := RX0) (T := TX0) (N := 17) hx hb hts hin hown hK hP 0 rfl rfl 8 (by decide) hf35 (fun _ h9 => h9) rfl dX0_addCue_86 ?_
              refine lv_iload hx hb dX0_addCue_89 (lv_at hl 4 rfl) ?_
              refine va_iald (f := S 8) (n := 24) hx hb hK hP 9 0 rfl rfl (hI.q24 (h2.resolve_left c_82)) dX0_addCue_91 ?_
              refine lv_iconst (v := 2) hx hb dX0_addCue_92 (by decide) ?_
              refine lv_icmp_ne (tgt := 106) hx hb dX0_addCue_93 (by decide) (fun c_93 => ?_) (fun c_93 => ?_)
              · skip
                have hw3 : w = -1 ∨ S 8 w.toNatClampNeg ≠ 2 := Or.inr c_93
                have hc24 : vp_in (S 10 0) 24 := hI.lt24 c_46
                refine lv_aload_n hx hb dX0_addCue_106 rfl (lv_at hl 0 rfl) ?_
                refine va_get (D := D) (ci := 0) (v := .int (S 10 0)) (C := RX0) (T := TX0) (N := 17) hx hb hts hin hown hK hP 0 rfl rfl 10 (by decide) hf104 (fun _ h9 => h9) rfl dX0_addCue_107 ?_
                refine lv_istore (lv' := [(5, .int (S 10 0)), (0, .ref x), (1, .int k), (2, .int p), (3, .int o), (4, .int w)]) hx hb dX0_addCue_110 hl (by decide) rfl (fun ls hl => ?_)
                refine lv_aload_n hx hb dX0_addCue_112 rfl (lv_at hl 1 rfl) ?_
                have hf23 := hts (.fieldLink RX0 23 "Clockmask" "cueKind" "[I") (by decide +kernel)
                refine va_get (D := D) (ci := 0) (v := .ref (a 4)) (C := RX0) (T := TX0) (N := 17) hx hb hts hin hown hK hP 0 rfl rfl 4 (by decide) hf23 (fun _ h9 => h9) rfl dX0_addCue_113 ?_
                refine lv_iload hx hb dX0_addCue_116 (lv_at hl 0 rfl) ?_
                refine lv_iload_n hx hb dX0_addCue_118 rfl (lv_at hl 2 rfl) ?_
                refine va_iast (f := S 4) (n := 24) hx hb hK hP hD hS 5 0 rfl rfl (by assumption) dX0_addCue_119 (fun H locs hP hD hS => ?_)
                have hP : va_P D vwCl (wXr cI cZ x a (S 0) (S 1) (S 2) (S 3) (upd (S 4) (S 10 0).toNatClampNeg k) (S 5) (S 6) (S 7) (S 8) (S 9) (S 10 0) (S 11 0) (S 12) (S 13) (S 14 0) (S 15 0) (S 16)) H := hP
                have hD : va_D A (wXr cI cZ x a (S 0) (S 1) (S 2) (S 3) (upd (S 4) (S 10 0).toNatClampNeg k) (S 5) (S 6) (S 7) (S 8) (S 9) (S 10 0) (S 11 0) (S 12) (S 13) (S 14 0) (S 15 0) (S 16)) := hD
                refine lv_aload_n hx hb dX0_addCue_120 rfl (lv_at hl 1 rfl) ?_
                have hf26 := hts (.fieldLink RX0 26 "Clockmask" "cuePlayer" "[I") (by decide +kernel)
                refine va_get (D := D) (ci := 0) (v := .ref (a 5)) (C := RX0) (T := TX0) (N := 17) hx hb hts hin hown hK hP 0 rfl rfl 5 (by decide) hf26 (fun _ h9 => h9) rfl dX0_addCue_121 ?_
                refine lv_iload hx hb dX0_addCue_124 (lv_at hl 0 rfl) ?_
                refine lv_iload_n hx hb dX0_addCue_126 rfl (lv_at hl 3 rfl) ?_
                refine va_iast (f := S 5) (n := 24) hx hb hK hP hD hS 6 0 rfl rfl (by assumption) dX0_addCue_127 (fun H locs hP hD hS => ?_)
                have hP : va_P D vwCl (wXr cI cZ x a (S 0) (S 1) (S 2) (S 3) (upd (S 4) (S 10 0).toNatClampNeg k) (upd (S 5) (S 10 0).toNatClampNeg p) (S 6) (S 7) (S 8) (S 9) (S 10 0) (S 11 0) (S 12) (S 13) (S 14 0) (S 15 0) (S 16)) H := hP
                have hD : va_D A (wXr cI cZ x a (S 0) (S 1) (S 2) (S 3) (upd (S 4) (S 10 0).toNatClampNeg k) (upd (S 5) (S 10 0).toNatClampNeg p) (S 6) (S 7) (S 8) (S 9) (S 10 0) (S 11 0) (S 12) (S 13) (S 14 0) (S 15 0) (S 16)) := hD
                refine lv_aload_n hx hb dX0_addCue_128 rfl (lv_at hl 1 rfl) ?_
                have hf29 := hts (.fieldLink RX0 29 "Clockmask" "cueOther" "[I") (by decide +kernel)
                refine va_get (D := D) (ci := 0) (v := .ref (a 6)) (C := RX0) (T := TX0) (N := 17) hx hb hts hin hown hK hP 0 rfl rfl 6 (by decide) hf29 (fun _ h9 => h9) rfl dX0_addCue_129 ?_
                refine lv_iload hx hb dX0_addCue_132 (lv_at hl 0 rfl) ?_
                refine lv_iload_n hx hb dX0_addCue_134 rfl (lv_at hl 4 rfl) ?_
                refine va_iast (f := S 6) (n := 24) hx hb hK hP hD hS 7 0 rfl rfl (by assumption) dX0_addCue_135 (fun H locs hP hD hS => ?_)
                have hP : va_P D vwCl (wXr cI cZ x a (S 0) (S 1) (S 2) (S 3) (upd (S 4) (S 10 0).toNatClampNeg k) (upd (S 5) (S 10 0).toNatClampNeg p) (upd (S 6) (S 10 0).toNatClampNeg o) (S 7) (S 8) (S 9) (S 10 0) (S 11 0) (S 12) (S 13) (S 14 0) (S 15 0) (S 16)) H := hP
                have hD : va_D A (wXr cI cZ x a (S 0) (S 1) (S 2) (S 3) (upd (S 4) (S 10 0).toNatClampNeg k) (upd (S 5) (S 10 0).toNatClampNeg p) (upd (S 6) (S 10 0).toNatClampNeg o) (S 7) (S 8) (S 9) (S 10 0) (S 11 0) (S 12) (S 13) (S 14 0) (S 15 0) (S 16)) := hD
                refine lv_aload_n hx hb dX0_addCue_136 rfl (lv_at hl 1 rfl) ?_
                have hf32 := hts (.fieldLink RX0 32 "Clockmask" "cueWaits" "[I") (by decide +kernel)
                refine va_get (D := D) (ci := 0) (v := .ref (a 7)) (C := RX0) (T := TX0) (N := 17) hx hb hts hin hown hK hP 0 rfl rfl 7 (by decide) hf32 (fun _ h9 => h9) rfl dX0_addCue_137 ?_
                refine lv_iload hx hb dX0_addCue_140 (lv_at hl 0 rfl) ?_
                refine lv_iload hx hb dX0_addCue_142 (lv_at hl 5 rfl) ?_
                refine va_iast (f := S 7) (n := 24) hx hb hK hP hD hS 8 0 rfl rfl (by assumption) dX0_addCue_144 (fun H locs hP hD hS => ?_)
                have hP : va_P D vwCl (wXr cI cZ x a (S 0) (S 1) (S 2) (S 3) (upd (S 4) (S 10 0).toNatClampNeg k) (upd (S 5) (S 10 0).toNatClampNeg p) (upd (S 6) (S 10 0).toNatClampNeg o) (upd (S 7) (S 10 0).toNatClampNeg w) (S 8) (S 9) (S 10 0) (S 11 0) (S 12) (S 13) (S 14 0) (S 15 0) (S 16)) H := hP
                have hD : va_D A (wXr cI cZ x a (S 0) (S 1) (S 2) (S 3) (upd (S 4) (S 10 0).toNatClampNeg k) (upd (S 5) (S 10 0).toNatClampNeg p) (upd (S 6) (S 10 0).toNatClampNeg o) (upd (S 7) (S 10 0).toNatClampNeg w) (S 8) (S 9) (S 10 0) (S 11 0) (S 12) (S 13) (S 14 0) (S 15 0) (S 16)) := hD
                refine lv_aload_n hx hb dX0_addCue_145 rfl (lv_at hl 1 rfl) ?_
                refine va_get (D := D) (ci := 0) (v := .ref (a 8)) (C := RX0) (T := TX0) (N := 17) hx hb hts hin hown hK hP 0 rfl rfl 8 (by decide) hf35 (fun _ h9 => h9) rfl dX0_addCue_146 ?_
                refine lv_iload hx hb dX0_addCue_149 (lv_at hl 0 rfl) ?_
                refine lv_iconst (v := 0) hx hb dX0_addCue_151 (by decide) ?_
                refine va_iast (f := S 8) (n := 24) hx hb hK hP hD hS 9 0 rfl rfl (by assumption) dX0_addCue_152 (fun H locs hP hD hS => ?_)
                have hP : va_P D vwCl (wXr cI cZ x a (S 0) (S 1) (S 2) (S 3) (upd (S 4) (S 10 0).toNatClampNeg k) (upd (S 5) (S 10 0).toNatClampNeg p) (upd (S 6) (S 10 0).toNatClampNeg o) (upd (S 7) (S 10 0).toNatClampNeg w) (upd (S 8) (S 10 0).toNatClampNeg 0) (S 9) (S 10 0) (S 11 0) (S 12) (S 13) (S 14 0) (S 15 0) (S 16)) H := hP
                have hD : va_D A (wXr cI cZ x a (S 0) (S 1) (S 2) (S 3) (upd (S 4) (S 10 0).toNatClampNeg k) (upd (S 5) (S 10 0).toNatClampNeg p) (upd (S 6) (S 10 0).toNatClampNeg o) (upd (S 7) (S 10 0).toNatClampNeg w) (upd (S 8) (S 10 0).toNatClampNeg 0) (S 9) (S 10 0) (S 11 0) (S 12) (S 13) (S 14 0) (S 15 0) (S 16)) := hD
                refine lv_aload_n hx hb dX0_addCue_153 rfl (lv_at hl 1 rfl) ?_
                refine lv_dup hx hb dX0_addCue_154 rfl ?_
                refine va_get (D := D) (ci := 0) (v := .int (S 10 0)) (C := RX0) (T := TX0) (N := 17) hx hb hts hin hown hK hP 0 rfl rfl 10 (by decide) hf104 (fun _ h9 => h9) rfl dX0_addCue_155 ?_
                refine lv_iconst (v := 1) hx hb dX0_addCue_158 (by decide) ?_
                refine lv_iadd hx hb dX0_addCue_159 ?_
                refine va_put (D := D) (ci := 0) (v := .int ((S 10 0) + 1)) (ty := .int) (C := RX0) (T := TX0) (N := 17) hx hb hts hin tyX0 tyX0_ok nmX0 hown hK hP hD hS 0 rfl rfl 10 (by decide) hf104 (fun _ h9 => h9) rfl (by decide +kernel) rfl rfl (Nat.le_of_ble_eq_true rfl) dX0_addCue_160 (fun H locs hP hD hS => ?_)
                have hP : va_P D vwCl (wXr cI cZ x a (S 0) (S 1) (S 2) (S 3) (upd (S 4) (S 10 0).toNatClampNeg k) (upd (S 5) (S 10 0).toNatClampNeg p) (upd (S 6) (S 10 0).toNatClampNeg o) (upd (S 7) (S 10 0).toNatClampNeg w) (upd (S 8) (S 10 0).toNatClampNeg 0) (S 9) ((S 10 0) + 1) (S 11 0) (S 12) (S 13) (S 14 0) (S 15 0) (S 16)) H := hP
                have hD : va_D A (wXr cI cZ x a (S 0) (S 1) (S 2) (S 3) (upd (S 4) (S 10 0).toNatClampNeg k) (upd (S 5) (S 10 0).toNatClampNeg p) (upd (S 6) (S 10 0).toNatClampNeg o) (upd (S 7) (S 10 0).toNatClampNeg w) (upd (S 8) (S 10 0).toNatClampNeg 0) (S 9) ((S 10 0) + 1) (S 11 0) (S 12) (S 13) (S 14 0) (S 15 0) (S 16)) := hD
                refine lv_iload hx hb dX0_addCue_163 (lv_at hl 0 rfl) ?_
                exact vy_ret (W.iret (v := S 10 0) hx hb hr (fun t ht hW => ⟨⟨_, row (row (row (row (row (row S 4 (upd (S 4) (S 10 0).toNatClampNeg k)) 5 (upd (S 5) (S 10 0).toNatClampNeg p)) 6 (upd (S 6) (S 10 0).toNatClampNeg o)) 7 (upd (S 7) (S 10 0).toNatClampNeg w)) 8 (upd (S 8) (S 10 0).toNatClampNeg 0)) 10 (kf ((S 10 0) + 1)), rfl, (cif_t ⟨c_1, c_6⟩).trans ((cif_t ⟨h_20, h_25, h2⟩).trans (cif_t ⟨c_46, hn, hw3⟩)), by rw [ht]; exact hP, hD⟩, hS.F ht⟩) hS.2.2 dX0_addCue_165)
              · skip
                exact x_throwS (text := "the cue for which to wait was missed") hx hb hfl hown (by decide) (hts (.classLink RX0 78 xIS) (by decide +kernel)) (hts (.initialized xIS) (by decide +kernel)) (fun w h => hts w (List.mem_cons_of_mem _ (List.mem_append_left _ (List.mem_append_right _ h)))) xIS_b xIS_g hG (by decide) (hl.1.trans hml.symm) dX0_addCue_96 dX0_addCue_99 dX0_addCue_100 dX0_addCue_102 dX0_addCue_105 hout ⟨by decide, by decide, by decide, by decide⟩ hlocks (Or.inr (Or.inr ⟨rfl, (cif_t ⟨c_1, c_6⟩).trans ((cif_t ⟨h_20, h_25, h2⟩).trans (cif_f (fun h => h.2.2.elim c_82 (fun z => z c_93))))⟩))
          · skip
            refine lv_iload_n hx hb dX0_addCue_64 rfl (lv_at hl 2 rfl) ?_
            refine lv_iload_n hx hb dX0_addCue_65 rfl (lv_at hl 3 rfl) ?_
            refine lv_icmp_ne (tgt := 79) hx hb dX0_addCue_66 (by decide) (fun c_66 => ?_) (fun c_66 => ?_)
            · skip
              have hn : ¬ (k = 4 ∧ p = o) := fun z => c_66 z.2
              refine lv_iload hx hb dX0_addCue_79 (lv_at hl 4 rfl) ?_
              refine lv_iconst (v := (-1)) hx hb dX0_addCue_81 (by decide) ?_
              refine lv_icmp_eq (tgt := 106) hx hb dX0_addCue_82 (by decide) (fun c_82 => ?_) (fun c_82 => ?_)
              · skip
                have hw3 : w = -1 ∨ S 8 w.toNatClampNeg ≠ 2 := Or.inl c_82
                have hc24 : vp_in (S 10 0) 24 := hI.lt24 c_46
                refine lv_aload_n hx hb dX0_addCue_106 rfl (lv_at hl 0 rfl) ?_
                refine va_get (D := D) (ci := 0) (v := .int (S 10 0)) (C := RX0) (T := TX0) (N := 17) hx hb hts hin hown hK hP 0 rfl rfl 10 (by decide) hf104 (fun _ h9 => h9) rfl dX0_addCue_107 ?_
                refine lv_istore (lv' := [(5, .int (S 10 0)), (0, .ref x), (1, .int k), (2, .int p), (3, .int o), (4, .int w)]) hx hb dX0_addCue_110 hl (by decide) rfl (fun ls hl => ?_)
                refine lv_aload_n hx hb dX0_addCue_112 rfl (lv_at hl 1 rfl) ?_
                have hf23 := hts (.fieldLink RX0 23 "Clockmask" "cueKind" "[I") (by decide +kernel)
                refine va_get (D := D) (ci := 0) (v := .ref (a 4)) (C := RX0) (T := TX0) (N := 17) hx hb hts hin hown hK hP 0 rfl rfl 4 (by decide) hf23 (fun _ h9 => h9) rfl dX0_addCue_113 ?_
                refine lv_iload hx hb dX0_addCue_116 (lv_at hl 0 rfl) ?_
                refine lv_iload_n hx hb dX0_addCue_118 rfl (lv_at hl 2 rfl) ?_
                refine va_iast (f := S 4) (n := 24) hx hb hK hP hD hS 5 0 rfl rfl (by assumption) dX0_addCue_119 (fun H locs hP hD hS => ?_)
                have hP : va_P D vwCl (wXr cI cZ x a (S 0) (S 1) (S 2) (S 3) (upd (S 4) (S 10 0).toNatClampNeg k) (S 5) (S 6) (S 7) (S 8) (S 9) (S 10 0) (S 11 0) (S 12) (S 13) (S 14 0) (S 15 0) (S 16)) H := hP
                have hD : va_D A (wXr cI cZ x a (S 0) (S 1) (S 2) (S 3) (upd (S 4) (S 10 0).toNatClampNeg k) (S 5) (S 6) (S 7) (S 8) (S 9) (S 10 0) (S 11 0) (S 12) (S 13) (S 14 0) (S 15 0) (S 16)) := hD
                refine lv_aload_n hx hb dX0_addCue_120 rfl (lv_at hl 1 rfl) ?_
                have hf26 := hts (.fieldLink RX0 26 "Clockmask" "cuePlayer" "[I") (by decide +kernel)
                refine va_get (D := D) (ci := 0) (v := .ref (a 5)) (C := RX0) (T := TX0) (N := 17) hx hb hts hin hown hK hP 0 rfl rfl 5 (by decide) hf26 (fun _ h9 => h9) rfl dX0_addCue_121 ?_
                refine lv_iload hx hb dX0_addCue_124 (lv_at hl 0 rfl) ?_
                refine lv_iload_n hx hb dX0_addCue_126 rfl (lv_at hl 3 rfl) ?_
                refine va_iast (f := S 5) (n := 24) hx hb hK hP hD hS 6 0 rfl rfl (by assumption) dX0_addCue_127 (fun H locs hP hD hS => ?_)
                have hP : va_P D vwCl (wXr cI cZ x a (S 0) (S 1) (S 2) (S 3) (upd (S 4) (S 10 0).toNatClampNeg k) (upd (S 5) (S 10 0).toNatClampNeg p) (S 6) (S 7) (S 8) (S 9) (S 10 0) (S 11 0) (S 12) (S 13) (S 14 0) (S 15 0) (S 16)) H := hP
                have hD : va_D A (wXr cI cZ x a (S 0) (S 1) (S 2) (S 3) (upd (S 4) (S 10 0).toNatClampNeg k) (upd (S 5) (S 10 0).toNatClampNeg p) (S 6) (S 7) (S 8) (S 9) (S 10 0) (S 11 0) (S 12) (S 13) (S 14 0) (S 15 0) (S 16)) := hD
                refine lv_aload_n hx hb dX0_addCue_128 rfl (lv_at hl 1 rfl) ?_
                have hf29 := hts (.fieldLink RX0 29 "Clockmask" "cueOther" "[I") (by decide +kernel)
                refine va_get (D := D) (ci := 0) (v := .ref (a 6)) (C := RX0) (T := TX0) (N := 17) hx hb hts hin hown hK hP 0 rfl rfl 6 (by decide) hf29 (fun _ h9 => h9) rfl dX0_addCue_129 ?_
                refine lv_iload hx hb dX0_addCue_132 (lv_at hl 0 rfl) ?_
                refine lv_iload_n hx hb dX0_addCue_134 rfl (lv_at hl 4 rfl) ?_
                refine va_iast (f := S 6) (n := 24) hx hb hK hP hD hS 7 0 rfl rfl (by assumption) dX0_addCue_135 (fun H locs hP hD hS => ?_)
                have hP : va_P D vwCl (wXr cI cZ x a (S 0) (S 1) (S 2) (S 3) (upd (S 4) (S 10 0).toNatClampNeg k) (upd (S 5) (S 10 0).toNatClampNeg p) (upd (S 6) (S 10 0).toNatClampNeg o) (S 7) (S 8) (S 9) (S 10 0) (S 11 0) (S 12) (S 13) (S 14 0) (S 15 0) (S 16)) H := hP
                have hD : va_D A (wXr cI cZ x a (S 0) (S 1) (S 2) (S 3) (upd (S 4) (S 10 0).toNatClampNeg k) (upd (S 5) (S 10 0).toNatClampNeg p) (upd (S 6) (S 10 0).toNatClampNeg o) (S 7) (S 8) (S 9) (S 10 0) (S 11 0) (S 12) (S 13) (S 14 0) (S 15 0) (S 16)) := hD
                refine lv_aload_n hx hb dX0_addCue_136 rfl (lv_at hl 1 rfl) ?_
                have hf32 := hts (.fieldLink RX0 32 "Clockmask" "cueWaits" "[I") (by decide +kernel)
                refine va_get (D := D) (ci := 0) (v := .ref (a 7)) (C := RX0) (T := TX0) (N := 17) hx hb hts hin hown hK hP 0 rfl rfl 7 (by decide) hf32 (fun _ h9 => h9) rfl dX0_addCue_137 ?_
                refine lv_iload hx hb dX0_addCue_140 (lv_at hl 0 rfl) ?_
                refine lv_iload hx hb dX0_addCue_142 (lv_at hl 5 rfl) ?_
                refine va_iast (f := S 7) (n := 24) hx hb hK hP hD hS 8 0 rfl rfl (by assumption) dX0_addCue_144 (fun H locs hP hD hS => ?_)
                have hP : va_P D vwCl (wXr cI cZ x a (S 0) (S 1) (S 2) (S 3) (upd (S 4) (S 10 0).toNatClampNeg k) (upd (S 5) (S 10 0).toNatClampNeg p) (upd (S 6) (S 10 0).toNatClampNeg o) (upd (S 7) (S 10 0).toNatClampNeg w) (S 8) (S 9) (S 10 0) (S 11 0) (S 12) (S 13) (S 14 0) (S 15 0) (S 16)) H := hP
                have hD : va_D A (wXr cI cZ x a (S 0) (S 1) (S 2) (S 3) (upd (S 4) (S 10 0).toNatClampNeg k) (upd (S 5) (S 10 0).toNatClampNeg p) (upd (S 6) (S 10 0).toNatClampNeg o) (upd (S 7) (S 10 0).toNatClampNeg w) (S 8) (S 9) (S 10 0) (S 11 0) (S 12) (S 13) (S 14 0) (S 15 0) (S 16)) := hD
                refine lv_aload_n hx hb dX0_addCue_145 rfl (lv_at hl 1 rfl) ?_
                have hf35 := hts (.fieldLink RX0 35 "Clockmask" "cueState" "[I") (by decide +kernel)
                refine va_get (D := D) (ci := 0) (v := .ref (a 8)) (C := RX0) (T := TX0) (N := 17) hx hb hts hin hown hK hP 0 rfl rfl 8 (by decide) hf35 (fun _ h9 => h9) rfl dX0_addCue_146 ?_
                refine lv_iload hx hb dX0_addCue_149 (lv_at hl 0 rfl) ?_
                refine lv_iconst (v := 0) hx hb dX0_addCue_151 (by decide) ?_
                refine va_iast (f := S 8) (n := 24) hx hb hK hP hD hS 9 0 rfl rfl (by assumption) dX0_addCue_152 (fun H locs hP hD hS => ?_)
                have hP : va_P D vwCl (wXr cI cZ x a (S 0) (S 1) (S 2) (S 3) (upd (S 4) (S 10 0).toNatClampNeg k) (upd (S 5) (S 10 0).toNatClampNeg p) (upd (S 6) (S 10 0).toNatClampNeg o) (upd (S 7) (S 10 0).toNatClampNeg w) (upd (S 8) (S 10 0).toNatClampNeg 0) (S 9) (S 10 0) (S 11 0) (S 12) (S 13) (S 14 0) (S 15 0) (S 16)) H := hP
                have hD : va_D A (wXr cI cZ x a (S 0) (S 1) (S 2) (S 3) (upd (S 4) (S 10 0).toNatClampNeg k) (upd (S 5) (S 10 0).toNatClampNeg p) (upd (S 6) (S 10 0).toNatClampNeg o) (upd (S 7) (S 10 0).toNatClampNeg w) (upd (S 8) (S 10 0).toNatClampNeg 0) (S 9) (S 10 0) (S 11 0) (S 12) (S 13) (S 14 0) (S 15 0) (S 16)) := hD
                refine lv_aload_n hx hb dX0_addCue_153 rfl (lv_at hl 1 rfl) ?_
                refine lv_dup hx hb dX0_addCue_154 rfl ?_
                refine va_get (D := D) (ci := 0) (v := .int (S 10 0)) (C := RX0) (T := TX0) (N := 17) hx hb hts hin hown hK hP 0 rfl rfl 10 (by decide) hf104 (fun _ h9 => h9) rfl dX0_addCue_155 ?_
                refine lv_iconst (v := 1) hx hb dX0_addCue_158 (by decide) ?_
                refine lv_iadd hx hb dX0_addCue_159 ?_
                refine va_put (D := D) (ci := 0) (v := .int ((S 10 0) + 1)) (ty := .int) (C := RX0) (T := TX0) (N := 17) hx hb hts hin tyX0 tyX0_ok nmX0 hown hK hP hD hS 0 rfl rfl 10 (by decide) hf104 (fun _ h9 => h9) rfl (by decide +kernel) rfl rfl (Nat.le_of_ble_eq_true rfl) dX0_addCue_160 (fun H locs hP hD hS => ?_)
                have hP : va_P D vwCl (wXr cI cZ x a (S 0) (S 1) (S 2) (S 3) (upd (S 4) (S 10 0).toNatClampNeg k) (upd (S 5) (S 10 0).toNatClampNeg p) (upd (S 6) (S 10 0).toNatClampNeg o) (upd (S 7) (S 10 0).toNatClampNeg w) (upd (S 8) (S 10 0).toNatClampNeg 0) (S 9) ((S 10 0) + 1) (S 11 0) (S 12) (S 13) (S 14 0) (S 15 0) (S 16)) H := hP
                have hD : va_D A (wXr cI cZ x a (S 0) (S 1) (S 2) (S 3) (upd (S 4) (S 10 0).toNatClampNeg k) (upd (S 5) (S 10 0).toNatClampNeg p) (upd (S 6) (S 10 0).toNatClampNeg o) (upd (S 7) (S 10 0).toNatClampNeg w) (upd (S 8) (S 10 0).toNatClampNeg 0) (S 9) ((S 10 0) + 1) (S 11 0) (S 12) (S 13) (S 14 0) (S 15 0) (S 16)) := hD
                refine lv_iload hx hb dX0_addCue_163 (lv_at hl 0 rfl) ?_
                exact vy_ret (W.iret (v := S 10 0) hx hb hr (fun t ht hW => ⟨⟨_, row (row (row (row (row (row S 4 (upd (S 4) (S 10 0).toNatClampNeg k)) 5 (upd (S 5) (S 10 0).toNatClampNeg p)) 6 (upd (S 6) (S 10 0).toNatClampNeg o)) 7 (upd (S 7) (S 10 0).toNatClampNeg w)) 8 (upd (S 8) (S 10 0).toNatClampNeg 0)) 10 (kf ((S 10 0) + 1)), rfl, (cif_t ⟨c_1, c_6⟩).trans ((cif_t ⟨h_20, h_25, h2⟩).trans (cif_t ⟨c_46, hn, hw3⟩)), by rw [ht]; exact hP, hD⟩, hS.F ht⟩) hS.2.2 dX0_addCue_165)
              · skip
                refine lv_aload_n hx hb dX0_addCue_85 rfl (lv_at hl 0 rfl) ?_
                have hf35 := hts (.fieldLink RX0 35 "Clockmask" "cueState" "[I") (by decide +kernel)
                refine va_get (D := D) (ci := 0) (v := .ref (a 8)) (C := RX0) (T := TX0) (N := 17) hx hb hts hin hown hK hP 0 rfl rfl 8 (by decide) hf35 (fun _ h9 => h9) rfl dX0_addCue_86 ?_
                refine lv_iload hx hb dX0_addCue_89 (lv_at hl 4 rfl) ?_
                refine va_iald (f := S 8) (n := 24) hx hb hK hP 9 0 rfl rfl (hI.q24 (h2.resolve_left c_82)) dX0_addCue_91 ?_
                refine lv_iconst (v := 2) hx hb dX0_addCue_92 (by decide) ?_
                refine lv_icmp_ne (tgt := 106) hx hb dX0_addCue_93 (by decide) (fun c_93 => ?_) (fun c_93 => ?_)
                · skip
                  have hw3 : w = -1 ∨ S 8 w.toNatClampNeg ≠ 2 := Or.inr c_93
                  have hc24 : vp_in (S 10 0) 24 := hI.lt24 c_46
                  refine lv_aload_n hx hb dX0_addCue_106 rfl (lv_at hl 0 rfl) ?_
                  refine va_get (D := D) (ci := 0) (v := .int (S 10 0)) (C := RX0) (T := TX0) (N := 17) hx hb hts hin hown hK hP 0 rfl rfl 10 (by decide) hf104 (fun _ h9 => h9) rfl dX0_addCue_107 ?_
                  refine lv_istore (lv' := [(5, .int (S 10 0)), (0, .ref x), (1, .int k), (2, .int p), (3, .int o), (4, .int w)]) hx hb dX0_addCue_110 hl (by decide) rfl (fun ls hl => ?_)
                  refine lv_aload_n hx hb dX0_addCue_112 rfl (lv_at hl 1 rfl) ?_
                  have hf23 := hts (.fieldLink RX0 23 "Clockmask" "cueKind" "[I") (by decide +kernel)
                  refine va_get (D := D) (ci := 0) (v := .ref (a 4)) (C := RX0) (T := TX0) (N := 17) hx hb hts hin hown hK hP 0 rfl rfl 4 (by decide) hf23 (fun _ h9 => h9) rfl dX0_addCue_113 ?_
                  refine lv_iload hx hb dX0_addCue_116 (lv_at hl 0 rfl) ?_
                  refine lv_iload_n hx hb dX0_addCue_118 rfl (lv_at hl 2 rfl) ?_
                  refine va_iast (f := S 4) (n := 24) hx hb hK hP hD hS 5 0 rfl rfl (by assumption) dX0_addCue_119 (fun H locs hP hD hS => ?_)
                  have hP : va_P D vwCl (wXr cI cZ x a (S 0) (S 1) (S 2) (S 3) (upd (S 4) (S 10 0).toNatClampNeg k) (S 5) (S 6) (S 7) (S 8) (S 9) (S 10 0) (S 11 0) (S 12) (S 13) (S 14 0) (S 15 0) (S 16)) H := hP
                  have hD : va_D A (wXr cI cZ x a (S 0) (S 1) (S 2) (S 3) (upd (S 4) (S 10 0).toNatClampNeg k) (S 5) (S 6) (S 7) (S 8) (S 9) (S 10 0) (S 11 0) (S 12) (S 13) (S 14 0) (S 15 0) (S 16)) := hD
                  refine lv_aload_n hx hb dX0_addCue_120 rfl (lv_at hl 1 rfl) ?_
                  have hf26 := hts (.fieldLink RX0 26 "Clockmask" "cuePlayer" "[I") (by decide +kernel)
                  refine va_get (D := D) (ci := 0) (v := .ref (a 5)) (C := RX0) (T := TX0) (N := 17) hx hb hts hin hown hK hP 0 rfl rfl 5 (by decide) hf26 (fun _ h9 => h9) rfl dX0_addCue_121 ?_
                  refine lv_iload hx hb dX0_addCue_124 (lv_at hl 0 rfl) ?_
                  refine lv_iload_n hx hb dX0_addCue_126 rfl (lv_at hl 3 rfl) ?_
                  refine va_iast (f := S 5) (n := 24) hx hb hK hP hD hS 6 0 rfl rfl (by assumption) dX0_addCue_127 (fun H locs hP hD hS => ?_)
                  have hP : va_P D vwCl (wXr cI cZ x a (S 0) (S 1) (S 2) (S 3) (upd (S 4) (S 10 0).toNatClampNeg k) (upd (S 5) (S 10 0).toNatClampNeg p) (S 6) (S 7) (S 8) (S 9) (S 10 0) (S 11 0) (S 12) (S 13) (S 14 0) (S 15 0) (S 16)) H := hP
                  have hD : va_D A (wXr cI cZ x a (S 0) (S 1) (S 2) (S 3) (upd (S 4) (S 10 0).toNatClampNeg k) (upd (S 5) (S 10 0).toNatClampNeg p) (S 6) (S 7) (S 8) (S 9) (S 10 0) (S 11 0) (S 12) (S 13) (S 14 0) (S 15 0) (S 16)) := hD
                  refine lv_aload_n hx hb dX0_addCue_128 rfl (lv_at hl 1 rfl) ?_
                  have hf29 := hts (.fieldLink RX0 29 "Clockmask" "cueOther" "[I") (by decide +kernel)
                  refine va_get (D := D) (ci := 0) (v := .ref (a 6)) (C := RX0) (T := TX0) (N := 17) hx hb hts hin hown hK hP 0 rfl rfl 6 (by decide) hf29 (fun _ h9 => h9) rfl dX0_addCue_129 ?_
                  refine lv_iload hx hb dX0_addCue_132 (lv_at hl 0 rfl) ?_
                  refine lv_iload_n hx hb dX0_addCue_134 rfl (lv_at hl 4 rfl) ?_
                  refine va_iast (f := S 6) (n := 24) hx hb hK hP hD hS 7 0 rfl rfl (by assumption) dX0_addCue_135 (fun H locs hP hD hS => ?_)
                  have hP : va_P D vwCl (wXr cI cZ x a (S 0) (S 1) (S 2) (S 3) (upd (S 4) (S 10 0).toNatClampNeg k) (upd (S 5) (S 10 0).toNatClampNeg p) (upd (S 6) (S 10 0).toNatClampNeg o) (S 7) (S 8) (S 9) (S 10 0) (S 11 0) (S 12) (S 13) (S 14 0) (S 15 0) (S 16)) H := hP
                  have hD : va_D A (wXr cI cZ x a (S 0) (S 1) (S 2) (S 3) (upd (S 4) (S 10 0).toNatClampNeg k) (upd (S 5) (S 10 0).toNatClampNeg p) (upd (S 6) (S 10 0).toNatClampNeg o) (S 7) (S 8) (S 9) (S 10 0) (S 11 0) (S 12) (S 13) (S 14 0) (S 15 0) (S 16)) := hD
                  refine lv_aload_n hx hb dX0_addCue_136 rfl (lv_at hl 1 rfl) ?_
                  have hf32 := hts (.fieldLink RX0 32 "Clockmask" "cueWaits" "[I") (by decide +kernel)
                  refine va_get (D := D) (ci := 0) (v := .ref (a 7)) (C := RX0) (T := TX0) (N := 17) hx hb hts hin hown hK hP 0 rfl rfl 7 (by decide) hf32 (fun _ h9 => h9) rfl dX0_addCue_137 ?_
                  refine lv_iload hx hb dX0_addCue_140 (lv_at hl 0 rfl) ?_
                  refine lv_iload hx hb dX0_addCue_142 (lv_at hl 5 rfl) ?_
                  refine va_iast (f := S 7) (n := 24) hx hb hK hP hD hS 8 0 rfl rfl (by assumption) dX0_addCue_144 (fun H locs hP hD hS => ?_)
                  have hP : va_P D vwCl (wXr cI cZ x a (S 0) (S 1) (S 2) (S 3) (upd (S 4) (S 10 0).toNatClampNeg k) (upd (S 5) (S 10 0).toNatClampNeg p) (upd (S 6) (S 10 0).toNatClampNeg o) (upd (S 7) (S 10 0).toNatClampNeg w) (S 8) (S 9) (S 10 0) (S 11 0) (S 12) (S 13) (S 14 0) (S 15 0) (S 16)) H := hP
                  have hD : va_D A (wXr cI cZ x a (S 0) (S 1) (S 2) (S 3) (upd (S 4) (S 10 0).toNatClampNeg k) (upd (S 5) (S 10 0).toNatClampNeg p) (upd (S 6) (S 10 0).toNatClampNeg o) (upd (S 7) (S 10 0).toNatClampNeg w) (S 8) (S 9) (S 10 0) (S 11 0) (S 12) (S 13) (S 14 0) (S 15 0) (S 16)) := hD
                  refine lv_aload_n hx hb dX0_addCue_145 rfl (lv_at hl 1 rfl) ?_
                  refine va_get (D := D) (ci := 0) (v := .ref (a 8)) (C := RX0) (T := TX0) (N := 17) hx hb hts hin hown hK hP 0 rfl rfl 8 (by decide) hf35 (fun _ h9 => h9) rfl dX0_addCue_146 ?_
                  refine lv_iload hx hb dX0_addCue_149 (lv_at hl 0 rfl) ?_
                  refine lv_iconst (v := 0) hx hb dX0_addCue_151 (by decide) ?_
                  refine va_iast (f := S 8) (n := 24) hx hb hK hP hD hS 9 0 rfl rfl (by assumption) dX0_addCue_152 (fun H locs hP hD hS => ?_)
                  have hP : va_P D vwCl (wXr cI cZ x a (S 0) (S 1) (S 2) (S 3) (upd (S 4) (S 10 0).toNatClampNeg k) (upd (S 5) (S 10 0).toNatClampNeg p) (upd (S 6) (S 10 0).toNatClampNeg o) (upd (S 7) (S 10 0).toNatClampNeg w) (upd (S 8) (S 10 0).toNatClampNeg 0) (S 9) (S 10 0) (S 11 0) (S 12) (S 13) (S 14 0) (S 15 0) (S 16)) H := hP
                  have hD : va_D A (wXr cI cZ x a (S 0) (S 1) (S 2) (S 3) (upd (S 4) (S 10 0).toNatClampNeg k) (upd (S 5) (S 10 0).toNatClampNeg p) (upd (S 6) (S 10 0).toNatClampNeg o) (upd (S 7) (S 10 0).toNatClampNeg w) (upd (S 8) (S 10 0).toNatClampNeg 0) (S 9) (S 10 0) (S 11 0) (S 12) (S 13) (S 14 0) (S 15 0) (S 16)) := hD
                  refine lv_aload_n hx hb dX0_addCue_153 rfl (lv_at hl 1 rfl) ?_
                  refine lv_dup hx hb dX0_addCue_154 rfl ?_
                  refine va_get (D := D) (ci := 0) (v := .int (S 10 0)) (C := RX0) (T := TX0) (N := 17) hx hb hts hin hown hK hP 0 rfl rfl 10 (by decide) hf104 (fun _ h9 => h9) rfl dX0_addCue_155 ?_
                  refine lv_iconst (v := 1) hx hb dX0_addCue_158 (by decide) ?_
                  refine lv_iadd hx hb dX0_addCue_159 ?_
                  refine va_put (D := D) (ci := 0) (v := .int ((S 10 0) + 1)) (ty := .int) (C := RX0) (T := TX0) (N := 17) hx hb hts hin tyX0 tyX0_ok nmX0 hown hK hP hD hS 0 rfl rfl 10 (by decide) hf104 (fun _ h9 => h9) rfl (by decide +kernel) rfl rfl (Nat.le_of_ble_eq_true rfl) dX0_addCue_160 (fun H locs hP hD hS => ?_)
                  have hP : va_P D vwCl (wXr cI cZ x a (S 0) (S 1) (S 2) (S 3) (upd (S 4) (S 10 0).toNatClampNeg k) (upd (S 5) (S 10 0).toNatClampNeg p) (upd (S 6) (S 10 0).toNatClampNeg o) (upd (S 7) (S 10 0).toNatClampNeg w) (upd (S 8) (S 10 0).toNatClampNeg 0) (S 9) ((S 10 0) + 1) (S 11 0) (S 12) (S 13) (S 14 0) (S 15 0) (S 16)) H := hP
                  have hD : va_D A (wXr cI cZ x a (S 0) (S 1) (S 2) (S 3) (upd (S 4) (S 10 0).toNatClampNeg k) (upd (S 5) (S 10 0).toNatClampNeg p) (upd (S 6) (S 10 0).toNatClampNeg o) (upd (S 7) (S 10 0).toNatClampNeg w) (upd (S 8) (S 10 0).toNatClampNeg 0) (S 9) ((S 10 0) + 1) (S 11 0) (S 12) (S 13) (S 14 0) (S 15 0) (S 16)) := hD
                  refine lv_iload hx hb dX0_addCue_163 (lv_at hl 0 rfl) ?_
                  exact vy_ret (W.iret (v := S 10 0) hx hb hr (fun t ht hW => ⟨⟨_, row (row (row (row (row (row S 4 (upd (S 4) (S 10 0).toNatClampNeg k)) 5 (upd (S 5) (S 10 0).toNatClampNeg p)) 6 (upd (S 6) (S 10 0).toNatClampNeg o)) 7 (upd (S 7) (S 10 0).toNatClampNeg w)) 8 (upd (S 8) (S 10 0).toNatClampNeg 0)) 10 (kf ((S 10 0) + 1)), rfl, (cif_t ⟨c_1, c_6⟩).trans ((cif_t ⟨h_20, h_25, h2⟩).trans (cif_t ⟨c_46, hn, hw3⟩)), by rw [ht]; exact hP, hD⟩, hS.F ht⟩) hS.2.2 dX0_addCue_165)
                · skip
                  exact x_throwS (text := "the cue for which to wait was missed") hx hb hfl hown (by decide) (hts (.classLink RX0 78 xIS) (by decide +kernel)) (hts (.initialized xIS) (by decide +kernel)) (fun w h => hts w (List.mem_cons_of_mem _ (List.mem_append_left _ (List.mem_append_right _ h)))) xIS_b xIS_g hG (by decide) (hl.1.trans hml.symm) dX0_addCue_96 dX0_addCue_99 dX0_addCue_100 dX0_addCue_102 dX0_addCue_105 hout ⟨by decide, by decide, by decide, by decide⟩ hlocks (Or.inr (Or.inr ⟨rfl, (cif_t ⟨c_1, c_6⟩).trans ((cif_t ⟨h_20, h_25, h2⟩).trans (cif_f (fun h => h.2.2.elim c_82 (fun z => z c_93))))⟩))
            · skip
              exact x_throwS (text := "a player cannot swap with itself") hx hb hfl hown (by decide) (hts (.classLink RX0 78 xIS) (by decide +kernel)) (hts (.initialized xIS) (by decide +kernel)) (fun w h => hts w (List.mem_cons_of_mem _ (List.mem_append_left _ (List.mem_append_right _ h)))) xIS_b xIS_g hG (by decide) (hl.1.trans hml.symm) dX0_addCue_69 dX0_addCue_72 dX0_addCue_73 dX0_addCue_75 dX0_addCue_78 hout ⟨by decide, by decide, by decide, by decide⟩ hlocks (Or.inr (Or.inr ⟨rfl, (cif_t ⟨c_1, c_6⟩).trans ((cif_t ⟨h_20, h_25, h2⟩).trans (cif_f (fun h => h.2.1 ⟨c_61, c_66⟩)))⟩))
        · skip
          exact x_throwS (text := "the play has no room for another cue") hx hb hfl hown (by decide) (hts (.classLink RX0 78 xIS) (by decide +kernel)) (hts (.initialized xIS) (by decide +kernel)) (fun w h => hts w (List.mem_cons_of_mem _ (List.mem_append_left _ (List.mem_append_right _ h)))) xIS_b xIS_g hG (by decide) (hl.1.trans hml.symm) dX0_addCue_49 dX0_addCue_52 dX0_addCue_53 dX0_addCue_55 dX0_addCue_58 hout ⟨by decide, by decide, by decide, by decide⟩ hlocks (Or.inr (Or.inr ⟨rfl, (cif_t ⟨c_1, c_6⟩).trans ((cif_t ⟨h_20, h_25, h2⟩).trans (cif_f (fun h => c_46 h.1)))⟩))
    · skip
      exact x_throwS (text := "no such kind of cue") hx hb hfl hown (by decide) (hts (.classLink RX0 71 xIA) (by decide +kernel)) (hts (.initialized xIA) (by decide +kernel)) (fun w h => hts w (List.mem_cons_of_mem _ (List.mem_append_left _ (List.mem_append_left _ (List.mem_append_right _ h))))) xIA_b xIA_g hG (by decide) (hl.1.trans hml.symm) dX0_addCue_9 dX0_addCue_12 dX0_addCue_13 dX0_addCue_15 dX0_addCue_18 hout ⟨by decide, by decide, by decide, by decide⟩ hlocks (Or.inl ⟨rfl, cif_f (fun h => c_6 h.2)⟩)
set_option maxHeartbeats 4000000 in
set_option maxRecDepth 100000 in
theorem c_X0_call (l : Launch) (hfl : l.stackTraces = false) (D : va_G) (cI cZ : ClassId) (x : Nat) (a : Nat → Nat) (S : ST) (sz : Nat) (q : Int32) (B : Nat) (hI : Inv B S) : vy_Met l yX0_call wsX0_call rmX0_call (va_Pc [.ref x, .int q] (fun U => (pW D (tyX cI cZ) (wX cI cZ x a S) sz) U ∧ pG U)) (va_Qi (fun (r : Int32) (u : ST) => k_call S q = (0, r, u)) (fun (u : ST) t => atW D (wX cI cZ x a u) (va_A (wX cI cZ x a S) sz) t) (va_A (wX cI cZ x a S) sz)) (xcs (fun E => (E = xIO ∧ k_call S q = (1, 0, S)) ∨ (E = xIS ∧ k_call S q = (2, 0, S)))) 1 6 (va_A (wX cI cZ x a S) sz) := by
  refine vy_ofW (cc := cX0_call) (maxL := 2) (ret := (some .int)) (by decide) rfl ?_
  intro pr env s mid args below meth cod s₁ Bd hml hout hv
  obtain ⟨rfl, ⟨hsz, hP, hK, hD0⟩, hG0⟩ := hv
  have hG : xG (fun q => s.heap.size ≤ q) s s.heap := hG0
  have hx := Bd.exec
  have hb := Bd.bytes
  have hr := Bd.returns
  have hts := atoms_spec (ws := wsX0_call) Bd.pre
  have hown : s.vm.findClass RX0 = some mid.cls := findClass_of_methodNamed Bd.named
  have hlocks := Bd.notSynchronized
  have hin : ∀ w ∈ wsX00, w ∈ wsX0_call := fun _ h => List.mem_cons_of_mem _ (List.mem_append_left _ (List.mem_append_left _ (List.mem_append_right _ h)))
  subst hsz
  have hD := hD0.self (sz := s.heap.size)
  generalize hAe : va_A (wX cI cZ x a S) s.heap.size = A at hD ⊢
  have hA : ∀ q : Nat, s.heap.size ≤ q → A q := fun q h => by rw [← hAe]; exact Or.inr h
  have hS : va_S A s.heap s.heap [] := va_S.rf
  have hP : va_P D vwCl (wX cI cZ x a S) s.heap := hP
  have hD : va_D A (wX cI cZ x a S) := hD
  have hl := lv_entry ([.ref x, .int q]) (n := 2) (Nat.le_of_ble_eq_true rfl)
  rw [lg_entry_eq]
  generalize (lg_sl ([.ref x, .int q]) ++ List.replicate (2 - (lg_sl ([.ref x, .int q])).length) Slot.unset).toArray = ls at hl ⊢
  have hl : lv_has ls 2 [(0, .ref x), (1, .int q)] := hl
  refine lv_aload_n hx hb dX0_call_0 rfl (lv_at hl 0 rfl) ?_
  refine lv_iload_n hx hb dX0_call_1 rfl (lv_at hl 1 rfl) ?_
  refine vy_csv (vy_runV (As := [.int q]) (rest := []) ⟨hx, hb, hml, hown, hts⟩ (c_X0_requireCue l hfl D cI cZ x a S q) (cwV 1 hts gX0_call_X0_requireCue rfl rfl rfl (by decide +kernel) ⟨Nat.le_of_ble_eq_true rfl, Nat.le_of_ble_eq_true rfl⟩) (pT_V (pR_V (ci := 0) hP hK rfl rfl) hG (fun _ h => h)) rfl rfl hl.1 rfl (lv_room (Nat.le_of_ble_eq_true rfl)) dX0_call_2 ⟨Nat.le_of_ble_eq_true rfl, Nat.le_of_ble_eq_true rfl⟩) (fun E ce q9 H1 hPE hz9 hk9 hc9 hv9 hcl9 => vy_out hout hlocks (Or.inl ⟨hPE.1, cif_f hPE.2⟩) hz9 hk9 hc9 hv9 hcl9 (by decide) (by decide)) (fun h_2 => ?_)
  refine lv_aload_n hx hb dX0_call_5 rfl (lv_at hl 0 rfl) ?_
  refine lv_iload_n hx hb dX0_call_6 rfl (lv_at hl 1 rfl) ?_
  refine vp_callSi (W.runV (As := [.int q]) (rest := []) ⟨hx, hb, hml, hown, hts⟩ (c_X0_isCallable l D cI cZ x a S q (hI.q24 h_2) (hI.cueq h_2)) (cwV 1 hts gX0_call_X0_isCallable rfl rfl rfl (by decide +kernel) ⟨Nat.le_of_ble_eq_true rfl, Nat.le_of_ble_eq_true rfl⟩) (pR_V (ci := 0) hP hK rfl rfl) rfl rfl hl.1 rfl (lv_room (Nat.le_of_ble_eq_true rfl)) dX0_call_7 ⟨Nat.zero_le _, Nat.zero_le _⟩) (fun r_7 h_7 => ?_)
  refine lv_if_ne (tgt := 23) hx hb dX0_call_10 (by decide) (fun c_10 => ?_) (fun c_10 => ?_)
  · skip
    have b_7 := cif_b1 h_7 c_10
    refine lv_aload_n hx hb dX0_call_23 rfl (lv_at hl 0 rfl) ?_
    refine lv_iload_n hx hb dX0_call_24 rfl (lv_at hl 1 rfl) ?_
    have hFc := wfree hD hS hA
    refine va_callv (va_runV (As := [.int q]) (rest := []) ⟨hx, hb, hml, hown, hts⟩ (c_X0_carryOut l D cI cZ x a S s.heap.size q (hI.q24 h_2) (hI.cueq h_2) (hI.cl (vin_lt h_2) (by rw [b_7.1]; decide)) (hI.ex (vin_lt h_2) b_7)) (cwV 1 hts gX0_call_X0_carryOut rfl rfl rfl (by decide +kernel) ⟨Nat.le_of_ble_eq_true rfl, Nat.le_of_ble_eq_true rfl⟩) (pW_V (ci := 0) hP hK hD rfl rfl) rfl rfl hl.1 rfl (lv_room (Nat.le_of_ble_eq_true rfl)) dX0_call_25 ⟨Nat.zero_le _, Nat.zero_le _⟩) hS (fun q _ h => hFc q h) hFc (fun u_25 t9 H1 locs ht9 hvm9 h_25 hB9 hz9 hk9 hS => ?_)
    have hP : va_P D vwCl (wX cI cZ x a u_25) H1 := atW_P hB9 ht9
    have hD : va_D A (wX cI cZ x a u_25) := atW_D hB9 hFc
    generalize H1 = H at hP hS ⊢
    refine lv_aload_n hx hb dX0_call_28 rfl (lv_at hl 0 rfl) ?_
    have hf122 := hts (.fieldLink RX0 122 "Clockmask" "calledCount" "I") (by decide +kernel)
    refine va_get (D := D) (ci := 0) (v := .int (u_25 11 0)) (C := RX0) (T := TX0) (N := 17) hx hb hts hin hown hK hP 0 rfl rfl 11 (by decide) hf122 (fun _ h9 => h9) rfl dX0_call_29 ?_
    exact vy_ret (W.iret (v := u_25 11 0) hx hb hr (fun t ht hW => ⟨⟨_, u_25, rfl, by rw [h_25, callQ_11]; exact (cif_t h_2).trans (cif_t b_7), by rw [ht]; exact hP, hD⟩, hS.F ht⟩) hS.2.2 dX0_call_32)
  · skip
    have b_7 := cif_b0 h_7 c_10
    exact x_throwS (text := "the cue cannot be called") hx hb hfl hown (by decide) (hts (.classLink RX0 78 xIS) (by decide +kernel)) (hts (.initialized xIS) (by decide +kernel)) (fun w h => hts w (List.mem_cons_of_mem _ (List.mem_append_left _ (List.mem_append_right _ h)))) xIS_b xIS_g hG (by decide) (hl.1.trans hml.symm) dX0_call_13 dX0_call_16 dX0_call_17 dX0_call_19 dX0_call_22 hout ⟨by decide, by decide, by decide, by decide⟩ hlocks (Or.inr ⟨rfl, (cif_t h_2).trans (cif_f b_7)⟩)
set_option maxHeartbeats 4000000 in
set_option maxRecDepth 100000 in
theorem c_X0_run (l : Launch) (D : va_G) (cI cZ : ClassId) (x : Nat) (a : Nat → Nat) (S : ST) (sz : Nat) (B : Nat) (hI : Inv B S) : Met l yX0_run wsX0_run rmX0_run (va_Pc [.ref x] (pW D (tyX cI cZ) (wX cI cZ x a S) sz)) (va_Qi (fun (r : Int32) (u : ST) => k_run S = (0, r, u)) (fun (u : ST) t => atW D (wX cI cZ x a u) (va_A (wX cI cZ x a S) sz) t) (va_A (wX cI cZ x a S) sz)) 0 0 (va_A (wX cI cZ x a S) sz) := by
  refine Met.ofW (cc := cX0_run) (maxL := 4) (ret := (some .int)) (by decide) rfl ?_
  intro pr env s mid args below meth cod s₁ Bd hml hv
  obtain ⟨rfl, hsz, hP, hK, hD0⟩ := hv
  have hx := Bd.exec
  have hb := Bd.bytes
  have hr := Bd.returns
  have hts := atoms_spec (ws := wsX0_run) Bd.pre
  have hown : s.vm.findClass RX0 = some mid.cls := findClass_of_methodNamed Bd.named
  have hlocks := Bd.notSynchronized
  have hin : ∀ w ∈ wsX00, w ∈ wsX0_run := fun _ h => List.mem_cons_of_mem _ (List.mem_append_right _ h)
  subst hsz
  have hD := hD0.self (sz := s.heap.size)
  generalize hAe : va_A (wX cI cZ x a S) s.heap.size = A at hD ⊢
  have hA : ∀ q : Nat, s.heap.size ≤ q → A q := fun q h => by rw [← hAe]; exact Or.inr h
  have hS : va_S A s.heap s.heap [] := va_S.rf
  have hP : va_P D vwCl (wX cI cZ x a S) s.heap := hP
  have hD : va_D A (wX cI cZ x a S) := hD
  have hl := lv_entry ([.ref x]) (n := 4) (Nat.le_of_ble_eq_true rfl)
  rw [lg_entry_eq]
  generalize (lg_sl ([.ref x]) ++ List.replicate (4 - (lg_sl ([.ref x])).length) Slot.unset).toArray = ls at hl ⊢
  have hl : lv_has ls 4 [(0, .ref x)] := hl
  refine lv_aload_n hx hb dX0_run_0 rfl (lv_at hl 0 rfl) ?_
  have hf122 := hts (.fieldLink RX0 122 "Clockmask" "calledCount" "I") (by decide +kernel)
  refine va_get (D := D) (ci := 0) (v := .int (S 11 0)) (C := RX0) (T := TX0) (N := 17) hx hb hts hin hown hK hP 0 rfl rfl 11 (by decide) hf122 (fun _ h9 => h9) rfl dX0_run_1 ?_
  refine lv_istore_n (lv' := [(1, .int (S 11 0)), (0, .ref x)]) hx hb dX0_run_4 rfl hl (by decide) rfl (fun ls hl => ?_)
  refine lv_aload_n hx hb dX0_run_5 rfl (lv_at hl 1 rfl) ?_
  refine vp_callSi (W.runV (As := []) (rest := []) ⟨hx, hb, hml, hown, hts⟩ (c_X0_firstCallable l D cI cZ x a S hI.m24 hI.me (fun k hk => hI.cue hk)) (cwV 0 hts gX0_run_X0_firstCallable rfl rfl rfl (by decide +kernel) ⟨Nat.le_of_ble_eq_true rfl, Nat.le_of_ble_eq_true rfl⟩) (pR_V (ci := 0) hP hK rfl rfl) rfl rfl hl.1 rfl (lv_room (Nat.le_of_ble_eq_true rfl)) dX0_run_6 ⟨Nat.zero_le _, Nat.zero_le _⟩) (fun r_6 h_6 => ?_)
  subst h_6
  refine lv_istore_n (lv' := [(2, .int (cif (fstN (cal S) (many S) < many S) (nI (fstN (cal S) (many S))) (-1))), (1, .int (S 11 0)), (0, .ref x)]) hx hb dX0_run_9 rfl hl (by decide) rfl (fun ls hl => ?_)
  refine lv_iconst (v := 0) hx hb dX0_run_10 (by decide) ?_
  refine lv_istore_n (lv' := [(3, .int 0), (2, .int (cif (fstN (cal S) (many S) < many S) (nI (fstN (cal S) (many S))) (-1))), (1, .int (S 11 0)), (0, .ref x)]) hx hb dX0_run_11 rfl hl (by decide) rfl (fun ls hl => ?_)
  refine W_gen (fun R Q hR hQ => ?_)
  have loop_12 : ∀ (n : Nat) (j : Nat) (i2 : Int32) (i3 : Int32) (S1 : ST), (j ≤ 24) → (25 ≤ j + n) → (i3 = nI j) → (i2 = cif (fstN (cal S1) (many S1) < many S1) (nI (fstN (cal S1) (many S1))) (-1)) → (runN (24 - j) S1 = runN 24 S) → (Inv B S1) → ∀ (H : Heap) (locs : List Loc), va_P D vwCl (wX cI cZ x a S1) H → va_D A (wX cI cZ x a S1) → va_S A s.heap H locs → ∀ ls : Array Slot, lv_has ls 4 [(3, .int i3), (2, .int i2), (1, .int (S 11 0)), (0, .ref x)] → W pr l env R s mid ([.ref x] : List Value).toArray below meth cod H locs 0 0 Q (F0 mid 12 ls []) := by
    subst hR; subst hQ
    intro n
    induction n with
    | zero =>
      intro j i2 i3 S1 hj hn e3 e2 eR hI1 H locs hP hD hS ls hl
      exfalso; omega
    | succ n ih =>
      intro j i2 i3 S1 hj hn e3 e2 eR hI1 H locs hP hD hS ls hl
      refine lv_iload_n hx hb dX0_run_12 rfl (lv_at hl 0 rfl) ?_
      refine lv_bipush (v := 24) hx hb dX0_run_13 (by decide) ?_
      refine lv_icmp_ge (tgt := 39) hx hb dX0_run_15 (by decide) (fun c_15 => ?_) (fun c_15 => ?_)
      · skip
        have h6 : 24 ≤ j := ge_of (N := 24) e3 (by omega) rfl c_15
        refine lv_aload_n hx hb dX0_run_39 rfl (lv_at hl 3 rfl) ?_
        refine va_get (D := D) (ci := 0) (v := .int (S1 11 0)) (C := RX0) (T := TX0) (N := 17) hx hb hts hin hown hK hP 0 rfl rfl 11 (by decide) hf122 (fun _ h9 => h9) rfl dX0_run_40 ?_
        refine lv_iload_n hx hb dX0_run_43 rfl (lv_at hl 2 rfl) ?_
        refine lv_isub hx hb dX0_run_44 ?_
        exact W.iret (v := (S1 11 0) - (S 11 0)) hx hb hr (fun t ht hW => ⟨⟨_, S1, rfl, by unfold k_run; rw [← eR, show 24 - j = 0 by omega]; rfl, by rw [ht]; exact hP, hD⟩, hS.F ht⟩) hS.2.2 dX0_run_45
      · skip
        have h6 : j < 24 := lt_of (N := 24) e3 (by omega) rfl c_15
        refine lv_iload_n hx hb dX0_run_18 rfl (lv_at hl 1 rfl) ?_
        refine lv_iconst (v := (-1)) hx hb dX0_run_19 (by decide) ?_
        refine lv_icmp_eq (tgt := 39) hx hb dX0_run_20 (by decide) (fun c_20 => ?_) (fun c_20 => ?_)
        · skip
          refine lv_aload_n hx hb dX0_run_39 rfl (lv_at hl 3 rfl) ?_
          refine va_get (D := D) (ci := 0) (v := .int (S1 11 0)) (C := RX0) (T := TX0) (N := 17) hx hb hts hin hown hK hP 0 rfl rfl 11 (by decide) hf122 (fun _ h9 => h9) rfl dX0_run_40 ?_
          refine lv_iload_n hx hb dX0_run_43 rfl (lv_at hl 2 rfl) ?_
          refine lv_isub hx hb dX0_run_44 ?_
          exact W.iret (v := (S1 11 0) - (S 11 0)) hx hb hr (fun t ht hW => ⟨⟨_, S1, rfl, by unfold k_run; rw [← eR, runN_stop (fc_none hI1.m24 (e2.symm.trans c_20))], by rw [ht]; exact hP, hD⟩, hS.F ht⟩) hS.2.2 dX0_run_45
        · skip
          have hlt : fstN (cal S1) (many S1) < many S1 := fc_some e2 c_20
          have ei : i2 = nI (fstN (cal S1) (many S1)) := by rw [e2, cif_t hlt]
          have hm1 := hI1.m24
          have hq : vp_in i2 (many S1) := by rw [ei]; exact vp_in_nI hlt (by omega)
          have hk : cal S1 i2.toNatClampNeg := by rw [ei, nI_clamp (by omega)]; exact fstN_yes _ _ hlt
          refine lv_aload_n hx hb dX0_run_23 rfl (lv_at hl 3 rfl) ?_
          refine lv_iload_n hx hb dX0_run_24 rfl (lv_at hl 1 rfl) ?_
          have hFc := wfree hD hS hA
          refine va_callv (va_runV (As := [.int i2]) (rest := []) ⟨hx, hb, hml, hown, hts⟩ (c_X0_carryOut l D cI cZ x a S1 H.size i2 (hI1.q24 hq) (hI1.cueq hq) (hI1.cl (vin_lt hq) (by rw [hk.1]; decide)) (hI1.ex (vin_lt hq) hk)) (cwV 1 hts gX0_run_X0_carryOut rfl rfl rfl (by decide +kernel) ⟨Nat.le_of_ble_eq_true rfl, Nat.le_of_ble_eq_true rfl⟩) (pW_V (ci := 0) hP hK hD rfl rfl) rfl rfl hl.1 rfl (lv_room (Nat.le_of_ble_eq_true rfl)) dX0_run_25 ⟨Nat.zero_le _, Nat.zero_le _⟩) hS (fun q _ h => hFc q h) hFc (fun u_25 t9 H1 locs ht9 hvm9 h_25 hB9 hz9 hk9 hS => ?_)
          have hP : va_P D vwCl (wX cI cZ x a u_25) H1 := atW_P hB9 ht9
          have hD : va_D A (wX cI cZ x a u_25) := atW_D hB9 hFc
          generalize H1 = H at hP hS ⊢
          have hI2 : Inv B u_25 := by rw [h_25]; exact hI1.call hq hk
          refine lv_aload_n hx hb dX0_run_28 rfl (lv_at hl 3 rfl) ?_
          refine vp_callSi (W.runV (As := []) (rest := []) ⟨hx, hb, hml, hown, hts⟩ (c_X0_firstCallable l D cI cZ x a u_25 hI2.m24 hI2.me (fun k hk => hI2.cue hk)) (cwV 0 hts gX0_run_X0_firstCallable rfl rfl rfl (by decide +kernel) ⟨Nat.le_of_ble_eq_true rfl, Nat.le_of_ble_eq_true rfl⟩) (pR_V (ci := 0) hP hK rfl rfl) rfl rfl hl.1 rfl (lv_room (Nat.le_of_ble_eq_true rfl)) dX0_run_29 ⟨Nat.zero_le _, Nat.zero_le _⟩) (fun r_29 h_29 => ?_)
          subst h_29
          refine lv_istore_n (lv' := [(2, .int (cif (fstN (cal u_25) (many u_25) < many u_25) (nI (fstN (cal u_25) (many u_25))) (-1))), (3, .int i3), (1, .int (S 11 0)), (0, .ref x)]) hx hb dX0_run_32 rfl hl (by decide) rfl (fun ls hl => ?_)
          refine lv_iinc (v := i3 + 1) (lv' := [(3, .int (i3 + 1)), (2, .int (cif (fstN (cal u_25) (many u_25) < many u_25) (nI (fstN (cal u_25) (many u_25))) (-1))), (1, .int (S 11 0)), (0, .ref x)]) hx hb dX0_run_33 hl (k := 1) rfl rfl (by decide) rfl (fun ls hl => ?_)
          refine lv_goto (tgt := 12) hx hb dX0_run_36 (by decide) ?_
          exact ih (j + 1) (cif (fstN (cal u_25) (many u_25) < many u_25) (nI (fstN (cal u_25) (many u_25))) (-1)) (i3 + 1) u_25 (by omega) (by omega) (by rw [e3]; exact nI_1 j) rfl (by rw [← eR, show 24 - j = (24 - (j + 1)) + 1 by omega, runN, cif_t hlt, h_25, ei]) hI2 _ _ hP hD hS _ (lv_sub hl [0, 1, 2, 3] rfl)
  exact loop_12 25 0 (cif (fstN (cal S) (many S) < many S) (nI (fstN (cal S) (many S))) (-1)) 0 S (Nat.zero_le _) (by omega) nI_0.symm rfl rfl hI _ _ hP hD hS _ (lv_sub hl [0, 1, 2, 3] rfl)
set_option maxHeartbeats 4000000 in
set_option maxRecDepth 100000 in
theorem c_X0_miss (l : Launch) (hfl : l.stackTraces = false) (D : va_G) (cI cZ : ClassId) (x : Nat) (a : Nat → Nat) (S : ST) (sz : Nat) (q : Int32) (B : Nat) (hI : Inv B S) : vy_Met l yX0_miss wsX0_miss rmX0_miss (va_Pc [.ref x, .int q] (fun U => (pW D (tyX cI cZ) (wX cI cZ x a S) sz) U ∧ pG U)) (va_Qi (fun (r : Int32) (u : ST) => k_miss S q = (0, r, u)) (fun (u : ST) t => atW D (wX cI cZ x a u) (va_A (wX cI cZ x a S) sz) t) (va_A (wX cI cZ x a S) sz)) (xcs (fun E => (E = xIO ∧ k_miss S q = (1, 0, S)) ∨ (E = xIS ∧ k_miss S q = (2, 0, S)))) 1 6 (va_A (wX cI cZ x a S) sz) := by
  refine vy_ofW (cc := cX0_miss) (maxL := 4) (ret := (some .int)) (by decide) rfl ?_
  intro pr env s mid args below meth cod s₁ Bd hml hout hv
  obtain ⟨rfl, ⟨hsz, hP, hK, hD0⟩, hG0⟩ := hv
  have hG : xG (fun q => s.heap.size ≤ q) s s.heap := hG0
  have hx := Bd.exec
  have hb := Bd.bytes
  have hr := Bd.returns
  have hts := atoms_spec (ws := wsX0_miss) Bd.pre
  have hown : s.vm.findClass RX0 = some mid.cls := findClass_of_methodNamed Bd.named
  have hlocks := Bd.notSynchronized
  have hin : ∀ w ∈ wsX00, w ∈ wsX0_miss := fun _ h => List.mem_cons_of_mem _ (List.mem_append_left _ (List.mem_append_left _ (List.mem_append_right _ h)))
  subst hsz
  have hD := hD0.self (sz := s.heap.size)
  generalize hAe : va_A (wX cI cZ x a S) s.heap.size = A at hD ⊢
  have hA : ∀ q : Nat, s.heap.size ≤ q → A q := fun q h => by rw [← hAe]; exact Or.inr h
  have hS : va_S A s.heap s.heap [] := va_S.rf
  have hP : va_P D vwCl (wX cI cZ x a S) s.heap := hP
  have hD : va_D A (wX cI cZ x a S) := hD
  have hl := lv_entry ([.ref x, .int q]) (n := 4) (Nat.le_of_ble_eq_true rfl)
  rw [lg_entry_eq]
  generalize (lg_sl ([.ref x, .int q]) ++ List.replicate (4 - (lg_sl ([.ref x, .int q])).length) Slot.unset).toArray = ls at hl ⊢
  have hl : lv_has ls 4 [(0, .ref x), (1, .int q)] := hl
  refine lv_aload_n hx hb dX0_miss_0 rfl (lv_at hl 0 rfl) ?_
  refine lv_iload_n hx hb dX0_miss_1 rfl (lv_at hl 1 rfl) ?_
  refine vy_csv (vy_runV (As := [.int q]) (rest := []) ⟨hx, hb, hml, hown, hts⟩ (c_X0_requireCue l hfl D cI cZ x a S q) (cwV 1 hts gX0_miss_X0_requireCue rfl rfl rfl (by decide +kernel) ⟨Nat.le_of_ble_eq_true rfl, Nat.le_of_ble_eq_true rfl⟩) (pT_V (pR_V (ci := 0) hP hK rfl rfl) hG (fun _ h => h)) rfl rfl hl.1 rfl (lv_room (Nat.le_of_ble_eq_true rfl)) dX0_miss_2 ⟨Nat.le_of_ble_eq_true rfl, Nat.le_of_ble_eq_true rfl⟩) (fun E ce q9 H1 hPE hz9 hk9 hc9 hv9 hcl9 => vy_out hout hlocks (Or.inl ⟨hPE.1, cif_f hPE.2⟩) hz9 hk9 hc9 hv9 hcl9 (by decide) (by decide)) (fun h_2 => ?_)
  refine lv_aload_n hx hb dX0_miss_5 rfl (lv_at hl 0 rfl) ?_
  have hf35 := hts (.fieldLink RX0 35 "Clockmask" "cueState" "[I") (by decide +kernel)
  refine va_get (D := D) (ci := 0) (v := .ref (a 8)) (C := RX0) (T := TX0) (N := 17) hx hb hts hin hown hK hP 0 rfl rfl 8 (by decide) hf35 (fun _ h9 => h9) rfl dX0_miss_6 ?_
  refine lv_iload_n hx hb dX0_miss_9 rfl (lv_at hl 1 rfl) ?_
  refine va_iald (f := S 8) (n := 24) hx hb hK hP 9 0 rfl rfl (hI.q24 h_2) dX0_miss_10 ?_
  refine lv_if_eq (tgt := 24) hx hb dX0_miss_11 (by decide) (fun c_11 => ?_) (fun c_11 => ?_)
  · skip
    refine lv_aload_n hx hb dX0_miss_24 rfl (lv_at hl 0 rfl) ?_
    refine va_get (D := D) (ci := 0) (v := .ref (a 8)) (C := RX0) (T := TX0) (N := 17) hx hb hts hin hown hK hP 0 rfl rfl 8 (by decide) hf35 (fun _ h9 => h9) rfl dX0_miss_25 ?_
    refine lv_iload_n hx hb dX0_miss_28 rfl (lv_at hl 1 rfl) ?_
    refine lv_iconst (v := 2) hx hb dX0_miss_29 (by decide) ?_
    refine va_iast (f := S 8) (n := 24) hx hb hK hP hD hS 9 0 rfl rfl (hI.q24 h_2) dX0_miss_30 (fun H locs hP hD hS => ?_)
    have hP : va_P D vwCl (wXr cI cZ x a (S 0) (S 1) (S 2) (S 3) (S 4) (S 5) (S 6) (S 7) (upd (S 8) q.toNatClampNeg 2) (S 9) (S 10 0) (S 11 0) (S 12) (S 13) (S 14 0) (S 15 0) (S 16)) H := hP
    have hD : va_D A (wXr cI cZ x a (S 0) (S 1) (S 2) (S 3) (S 4) (S 5) (S 6) (S 7) (upd (S 8) q.toNatClampNeg 2) (S 9) (S 10 0) (S 11 0) (S 12) (S 13) (S 14 0) (S 15 0) (S 16)) := hD
    refine lv_iconst (v := 1) hx hb dX0_miss_31 (by decide) ?_
    refine lv_istore_n (lv' := [(2, .int 1), (0, .ref x), (1, .int q)]) hx hb dX0_miss_32 rfl hl (by decide) rfl (fun ls hl => ?_)
    refine lv_iload_n hx hb dX0_miss_33 rfl (lv_at hl 2 rfl) ?_
    refine lv_iconst (v := 1) hx hb dX0_miss_34 (by decide) ?_
    refine lv_iadd hx hb dX0_miss_35 ?_
    refine lv_istore_n (lv' := [(3, .int (q + 1)), (2, .int 1), (0, .ref x), (1, .int q)]) hx hb dX0_miss_36 rfl hl (by decide) rfl (fun ls hl => ?_)
    refine W_gen (fun R Q hR hQ => ?_)
    have loop_37 : ∀ (n : Nat) (j d : Nat) (i2 : Int32) (i3 : Int32) (g : Nat → Int32), (j + d = many S) → (d < n) → (i3 = nI j) → (ms S g i2 j d = ms S (upd (S 8) q.toNatClampNeg 2) 1 (q.toNatClampNeg + 1) (many S - (q.toNatClampNeg + 1))) → ∀ (H : Heap) (locs : List Loc), va_P D vwCl (wXr cI cZ x a (S 0) (S 1) (S 2) (S 3) (S 4) (S 5) (S 6) (S 7) g (S 9) (S 10 0) (S 11 0) (S 12) (S 13) (S 14 0) (S 15 0) (S 16)) H → va_D A (wXr cI cZ x a (S 0) (S 1) (S 2) (S 3) (S 4) (S 5) (S 6) (S 7) g (S 9) (S 10 0) (S 11 0) (S 12) (S 13) (S 14 0) (S 15 0) (S 16)) → va_S A s.heap H locs → ∀ ls : Array Slot, lv_has ls 4 [(3, .int i3), (2, .int i2), (0, .ref x), (1, .int q)] → W pr l env R s mid ([.ref x, .int q] : List Value).toArray below meth cod H locs 0 0 Q (F0 mid 37 ls []) := by
      subst hR; subst hQ
      intro n
      induction n with
      | zero =>
        intro j d i2 i3 g hj hn e3 eM H locs hP hD hS ls hl
        exfalso; omega
      | succ n ih =>
        intro j d i2 i3 g hj hn e3 eM H locs hP hD hS ls hl
        refine lv_iload_n hx hb dX0_miss_37 rfl (lv_at hl 0 rfl) ?_
        refine lv_aload_n hx hb dX0_miss_38 rfl (lv_at hl 2 rfl) ?_
        have hf104 := hts (.fieldLink RX0 104 "Clockmask" "cueCount" "I") (by decide +kernel)
        refine va_get (D := D) (ci := 0) (v := .int (S 10 0)) (C := RX0) (T := TX0) (N := 17) hx hb hts hin hown hK hP 0 rfl rfl 10 (by decide) hf104 (fun _ h9 => h9) rfl dX0_miss_39 ?_
        refine lv_icmp_ge (tgt := 78) hx hb dX0_miss_42 (by decide) (fun c_42 => ?_) (fun c_42 => ?_)
        · skip
          have h6 : many S ≤ j := by rw [e3, hI.me] at c_42; exact (nI_leI (by have := hI.m24; omega) (by have := hI.m24; omega)).mp c_42
          refine lv_iload_n hx hb dX0_miss_78 rfl (lv_at hl 1 rfl) ?_
          exact vy_ret (W.iret (v := i2) hx hb hr (fun t ht hW => ⟨⟨_, row S 8 g, rfl, (cif_t h_2).trans ((cif_t c_11).trans (by rw [← eM, show d = 0 by omega]; rfl)), by rw [ht]; exact hP, hD⟩, hS.F ht⟩) hS.2.2 dX0_miss_79)
        · skip
          have hm := hI.m24
          have h6 : j < many S := by rw [e3, hI.me] at c_42; exact Nat.lt_of_not_le (fun z => c_42 ((nI_leI (by omega) (by omega)).mpr z))
          obtain ⟨d1, rfl⟩ : ∃ d1, d = d1 + 1 := ⟨d - 1, by omega⟩
          have hi24 : vp_in i3 24 := by rw [e3]; exact vp_in_nI (by omega) (by decide)
          have hw24 : S 7 i3.toNatClampNeg = -1 ∨ vp_in (S 7 i3.toNatClampNeg) 24 := by rw [e3, nI_clamp (by omega)]; exact (hI.cue h6).2.2.2.1
          refine lv_aload_n hx hb dX0_miss_45 rfl (lv_at hl 2 rfl) ?_
          refine va_get (D := D) (ci := 0) (v := .ref (a 8)) (C := RX0) (T := TX0) (N := 17) hx hb hts hin hown hK hP 0 rfl rfl 8 (by decide) hf35 (fun _ h9 => h9) rfl dX0_miss_46 ?_
          refine lv_iload_n hx hb dX0_miss_49 rfl (lv_at hl 0 rfl) ?_
          refine va_iald (f := g) (n := 24) hx hb hK hP 9 0 rfl rfl hi24 dX0_miss_50 ?_
          refine lv_if_ne (tgt := 72) hx hb dX0_miss_51 (by decide) (fun c_51 => ?_) (fun c_51 => ?_)
          · skip
            have c51 : ¬ g j = 0 := by rwa [e3, nI_clamp (by omega)] at c_51
            refine lv_iinc (v := i3 + 1) (lv' := [(3, .int (i3 + 1)), (2, .int i2), (0, .ref x), (1, .int q)]) hx hb dX0_miss_72 hl (k := 0) rfl rfl (by decide) rfl (fun ls hl => ?_)
            refine lv_goto (tgt := 37) hx hb dX0_miss_75 (by decide) ?_
            exact ih (j + 1) d1 i2 (i3 + 1) g (by omega) (by omega) (by rw [e3]; exact nI_1 j) (by rw [← eM, ms, cif_f (fun h => c51 h.1)]) _ _ hP hD hS _ (lv_sub hl [0, 1, 2, 3] rfl)
          · skip
            have c51 : g j = 0 := by rwa [e3, nI_clamp (by omega)] at c_51
            refine lv_aload_n hx hb dX0_miss_54 rfl (lv_at hl 2 rfl) ?_
            refine lv_iload_n hx hb dX0_miss_55 rfl (lv_at hl 0 rfl) ?_
            have hPs : va_P D vwCl (wX cI cZ x a (row S 8 g)) H := hP
            refine vp_callSi (W.runV (As := [.int i3]) (rest := []) ⟨hx, hb, hml, hown, hts⟩ (c_X0_waitsForMissed l D cI cZ x a (row S 8 g) i3 hi24 (by rw [row_ne (by decide)]; exact hw24)) (cwV 1 hts gX0_miss_X0_waitsForMissed rfl rfl rfl (by decide +kernel) ⟨Nat.le_of_ble_eq_true rfl, Nat.le_of_ble_eq_true rfl⟩) (pR_V (ci := 0) hPs hK rfl rfl) rfl rfl hl.1 rfl (lv_room (Nat.le_of_ble_eq_true rfl)) dX0_miss_56 ⟨Nat.zero_le _, Nat.zero_le _⟩) (fun r_56 h_56 => ?_)
            refine lv_if_eq (tgt := 72) hx hb dX0_miss_59 (by decide) (fun c_59 => ?_) (fun c_59 => ?_)
            · skip
              have b_56 := cif_b0 h_56 c_59
              have b56 : ¬ (S 7 j ≠ -1 ∧ g (S 7 j).toNatClampNeg = 2) := by rwa [e3, nI_clamp (by omega), row_ne (by decide), row_same] at b_56
              refine lv_iinc (v := i3 + 1) (lv' := [(3, .int (i3 + 1)), (2, .int i2), (0, .ref x), (1, .int q)]) hx hb dX0_miss_72 hl (k := 0) rfl rfl (by decide) rfl (fun ls hl => ?_)
              refine lv_goto (tgt := 37) hx hb dX0_miss_75 (by decide) ?_
              exact ih (j + 1) d1 i2 (i3 + 1) g (by omega) (by omega) (by rw [e3]; exact nI_1 j) (by rw [← eM, ms, cif_f (fun h => b56 h.2)]) _ _ hP hD hS _ (lv_sub hl [0, 1, 2, 3] rfl)
            · skip
              have b_56 := cif_b1 h_56 c_59
              have b56 : S 7 j ≠ -1 ∧ g (S 7 j).toNatClampNeg = 2 := by rwa [e3, nI_clamp (by omega), row_ne (by decide), row_same] at b_56
              refine lv_aload_n hx hb dX0_miss_62 rfl (lv_at hl 2 rfl) ?_
              refine va_get (D := D) (ci := 0) (v := .ref (a 8)) (C := RX0) (T := TX0) (N := 17) hx hb hts hin hown hK hP 0 rfl rfl 8 (by decide) hf35 (fun _ h9 => h9) rfl dX0_miss_63 ?_
              refine lv_iload_n hx hb dX0_miss_66 rfl (lv_at hl 0 rfl) ?_
              refine lv_iconst (v := 2) hx hb dX0_miss_67 (by decide) ?_
              refine va_iast (f := g) (n := 24) hx hb hK hP hD hS 9 0 rfl rfl hi24 dX0_miss_68 (fun H locs hP hD hS => ?_)
              have hP : va_P D vwCl (wXr cI cZ x a (S 0) (S 1) (S 2) (S 3) (S 4) (S 5) (S 6) (S 7) (upd g i3.toNatClampNeg 2) (S 9) (S 10 0) (S 11 0) (S 12) (S 13) (S 14 0) (S 15 0) (S 16)) H := hP
              have hD : va_D A (wXr cI cZ x a (S 0) (S 1) (S 2) (S 3) (S 4) (S 5) (S 6) (S 7) (upd g i3.toNatClampNeg 2) (S 9) (S 10 0) (S 11 0) (S 12) (S 13) (S 14 0) (S 15 0) (S 16)) := hD
              refine lv_iinc (v := i2 + 1) (lv' := [(2, .int (i2 + 1)), (3, .int i3), (0, .ref x), (1, .int q)]) hx hb dX0_miss_69 hl (k := 1) rfl rfl (by decide) rfl (fun ls hl => ?_)
              refine lv_iinc (v := i3 + 1) (lv' := [(3, .int (i3 + 1)), (2, .int (i2 + 1)), (0, .ref x), (1, .int q)]) hx hb dX0_miss_72 hl (k := 1) rfl rfl (by decide) rfl (fun ls hl => ?_)
              refine lv_goto (tgt := 37) hx hb dX0_miss_75 (by decide) ?_
              exact ih (j + 1) d1 (i2 + 1) (i3 + 1) (upd g i3.toNatClampNeg 2) (by omega) (by omega) (by rw [e3]; exact nI_1 j) (by rw [← eM, ms, cif_t ⟨c51, b56⟩, e3, nI_clamp (by omega)]) _ _ hP hD hS _ (lv_sub hl [0, 1, 2, 3] rfl)
    have hq2 := vin_lt h_2
    exact loop_37 (many S + 1) (q.toNatClampNeg + 1) (many S - (q.toNatClampNeg + 1)) 1 (q + 1) (upd (S 8) q.toNatClampNeg 2) (by omega) (by omega) ((congrArg (fun z => z + 1) (vin_nI (hI.q24 h_2) (by decide))).trans (nI_1 _)) rfl _ _ hP hD hS _ (lv_sub hl [0, 1, 2, 3] rfl)
  · skip
    exact x_throwS (text := "the cue is not waiting") hx hb hfl hown (by decide) (hts (.classLink RX0 78 xIS) (by decide +kernel)) (hts (.initialized xIS) (by decide +kernel)) (fun w h => hts w (List.mem_cons_of_mem _ (List.mem_append_left _ (List.mem_append_right _ h)))) xIS_b xIS_g hG (by decide) (hl.1.trans hml.symm) dX0_miss_14 dX0_miss_17 dX0_miss_18 dX0_miss_20 dX0_miss_23 hout ⟨by decide, by decide, by decide, by decide⟩ hlocks (Or.inr ⟨rfl, (cif_t h_2).trans (cif_f c_11)⟩)
set_option maxHeartbeats 4000000 in
set_option maxRecDepth 100000 in
theorem c_X0_maskByCues (l : Launch) (hfl : l.stackTraces = false) (D : va_G) (cI cZ : ClassId) (x : Nat) (a : Nat → Nat) (S : ST) (sz : Nat) (p : Int32) (B : Nat) (hI : Inv B S) : vy_Met l yX0_maskByCues wsX0_maskByCues rmX0_maskByCues (va_Pc [.ref x, .int p] (fun U => (pW D (tyX cI cZ) (wX cI cZ x a S) sz) U ∧ pG U)) (va_Qi (fun (r : Int32) (u : ST) => k_maskByCues S p = (0, r, u)) (fun (u : ST) t => atW D (wX cI cZ x a u) (va_A (wX cI cZ x a S) sz) t) (va_A (wX cI cZ x a S) sz)) (xcs (fun E => E = xIO ∧ k_maskByCues S p = (1, 0, S))) 1 6 (va_A (wX cI cZ x a S) sz) := by
  refine vy_ofW (cc := cX0_maskByCues) (maxL := 3) (ret := (some .int)) (by decide) rfl ?_
  intro pr env s mid args below meth cod s₁ Bd hml hout hv
  obtain ⟨rfl, ⟨hsz, hP, hK, hD0⟩, hG0⟩ := hv
  have hG : xG (fun q => s.heap.size ≤ q) s s.heap := hG0
  have hx := Bd.exec
  have hb := Bd.bytes
  have hr := Bd.returns
  have hts := atoms_spec (ws := wsX0_maskByCues) Bd.pre
  have hown : s.vm.findClass RX0 = some mid.cls := findClass_of_methodNamed Bd.named
  have hlocks := Bd.notSynchronized
  have hin : ∀ w ∈ wsX00, w ∈ wsX0_maskByCues := fun _ h => List.mem_cons_of_mem _ (List.mem_append_left _ (List.mem_append_right _ h))
  subst hsz
  have hD := hD0.self (sz := s.heap.size)
  generalize hAe : va_A (wX cI cZ x a S) s.heap.size = A at hD ⊢
  have hA : ∀ q : Nat, s.heap.size ≤ q → A q := fun q h => by rw [← hAe]; exact Or.inr h
  have hS : va_S A s.heap s.heap [] := va_S.rf
  have hP : va_P D vwCl (wX cI cZ x a S) s.heap := hP
  have hD : va_D A (wX cI cZ x a S) := hD
  have hl := lv_entry ([.ref x, .int p]) (n := 3) (Nat.le_of_ble_eq_true rfl)
  rw [lg_entry_eq]
  generalize (lg_sl ([.ref x, .int p]) ++ List.replicate (3 - (lg_sl ([.ref x, .int p])).length) Slot.unset).toArray = ls at hl ⊢
  have hl : lv_has ls 3 [(0, .ref x), (1, .int p)] := hl
  refine lv_iload_n hx hb dX0_maskByCues_0 rfl (lv_at hl 1 rfl) ?_
  refine vy_csv (vy_runS (As := [.int p]) (rest := []) ⟨hx, hb, hml, hown, hts⟩ (c_X0_requirePlayer l hfl p) (va_cwS 1 hts gX0_maskByCues_X0_requirePlayer rfl rfl rfl (by decide +kernel) ⟨Nat.le_of_ble_eq_true rfl, Nat.le_of_ble_eq_true rfl⟩) (pT_S (pN_S) hG (fun _ h => h)) rfl rfl hl.1 rfl (lv_room (Nat.le_of_ble_eq_true rfl)) dX0_maskByCues_1 ⟨Nat.le_of_ble_eq_true rfl, Nat.le_of_ble_eq_true rfl⟩) (fun E ce q9 H1 hPE hz9 hk9 hc9 hv9 hcl9 => vy_out hout hlocks (⟨hPE.1, cif_f hPE.2⟩) hz9 hk9 hc9 hv9 hcl9 (by decide) (by decide)) (fun h_1 => ?_)
  refine lv_aload_n hx hb dX0_maskByCues_4 rfl (lv_at hl 0 rfl) ?_
  have hf51 := hts (.fieldLink RX0 51 "Clockmask" "replayedMasks" "[I") (by decide +kernel)
  refine va_get (D := D) (ci := 0) (v := .ref (a 16)) (C := RX0) (T := TX0) (N := 17) hx hb hts hin hown hK hP 0 rfl rfl 16 (by decide) hf51 (fun _ h9 => h9) rfl dX0_maskByCues_5 ?_
  refine lv_iconst (v := (-1)) hx hb dX0_maskByCues_8 (by decide) ?_
  have hFc := va_free (wc := [(a 16, .inl (cI, 6, .inl (S 16)))]) hD hS hA [13] rfl
  refine va_callv (va_runS (As := [.ref (a 16), .int (-1)]) (rest := []) ⟨hx, hb, hml, hown, hts⟩ (c_J7_fill_53178 l D cI (a 16) (S 16) s.heap.size (-1)) (va_cwS 2 hts gX0_maskByCues_J7_fill_53178 rfl rfl rfl (by decide +kernel) ⟨Nat.le_of_ble_eq_true rfl, Nat.le_of_ble_eq_true rfl⟩) (pW_S (hP.sub (ws' := [(a 16, .inl (cI, 6, .inl (S 16)))]) [13] rfl) (hK.sub (tys' := tyM cI) [0] rfl) (hD.sub [13] (by decide) rfl)) rfl rfl hl.1 rfl (lv_room (Nat.le_of_ble_eq_true rfl)) dX0_maskByCues_9 ⟨Nat.zero_le _, Nat.zero_le _⟩) hS (fun q _ h => hFc q h) hFc (fun u_9 t9 H1 locs ht9 hvm9 h_9 hB9 hz9 hk9 hS => ?_)
  have hP1 := atW_P hB9 ht9
  have hD1 := hB9.2
  have hJ9 := va_join (wr := (wX cI cZ x a S).eraseIdx 13) hP hD [13] [0, 1, 2, 3, 4, 5, 6, 7, 8, 9, 10, 11, 12] rfl rfl (by decide) (by decide) hk9 hFc hP1 hD1
  subst h_9
  have hP : va_P D vwCl (wXr cI cZ x a (S 0) (S 1) (S 2) (S 3) (S 4) (S 5) (S 6) (S 7) (S 8) (S 9) (S 10 0) (S 11 0) (S 12) (S 13) (S 14 0) (S 15 0) (fa_fill (fun _ => (-1)) (S 16) 6)) H1 := hJ9.1.sub [0, 1, 2, 3, 4, 5, 6, 7, 8, 9, 10, 11, 12, 13] rfl
  have hD : va_D A (wXr cI cZ x a (S 0) (S 1) (S 2) (S 3) (S 4) (S 5) (S 6) (S 7) (S 8) (S 9) (S 10 0) (S 11 0) (S 12) (S 13) (S 14 0) (S 15 0) (fa_fill (fun _ => (-1)) (S 16) 6)) := hJ9.2.sub [0, 1, 2, 3, 4, 5, 6, 7, 8, 9, 10, 11, 12, 13] (by decide) rfl
  generalize H1 = H at hP hS ⊢
  refine lv_iconst (v := 0) hx hb dX0_maskByCues_12 (by decide) ?_
  refine lv_istore_n (lv' := [(2, .int 0), (0, .ref x), (1, .int p)]) hx hb dX0_maskByCues_13 rfl hl (by decide) rfl (fun ls hl => ?_)
  refine W_gen (fun R Q hR hQ => ?_)
  have loop_14 : ∀ (n : Nat) (j : Nat) (i2 : Int32) (g : Nat → Int32), (j ≤ cN (S 8) 1 (many S)) → (cN (S 8) 1 (many S) + 1 ≤ j + n) → (i2 = nI j) → (g = rpN S j) → ∀ (H : Heap) (locs : List Loc), va_P D vwCl (wXr cI cZ x a (S 0) (S 1) (S 2) (S 3) (S 4) (S 5) (S 6) (S 7) (S 8) (S 9) (S 10 0) (S 11 0) (S 12) (S 13) (S 14 0) (S 15 0) g) H → va_D A (wXr cI cZ x a (S 0) (S 1) (S 2) (S 3) (S 4) (S 5) (S 6) (S 7) (S 8) (S 9) (S 10 0) (S 11 0) (S 12) (S 13) (S 14 0) (S 15 0) g) → va_S A s.heap H locs → ∀ ls : Array Slot, lv_has ls 3 [(2, .int i2), (0, .ref x), (1, .int p)] → W pr l env R s mid ([.ref x, .int p] : List Value).toArray below meth cod H locs 0 0 Q (F0 mid 14 ls []) := by
    subst hR; subst hQ
    intro n
    induction n with
    | zero =>
      intro j i2 g hj hn e2 eg H locs hP hD hS ls hl
      exfalso; omega
    | succ n ih =>
      intro j i2 g hj hn e2 eg H locs hP hD hS ls hl
      have hm := hI.m24
      have hc9 := cN_le (S 8) 1 (many S)
      refine lv_iload_n hx hb dX0_maskByCues_14 rfl (lv_at hl 0 rfl) ?_
      refine lv_aload_n hx hb dX0_maskByCues_15 rfl (lv_at hl 1 rfl) ?_
      have hf122 := hts (.fieldLink RX0 122 "Clockmask" "calledCount" "I") (by decide +kernel)
      refine va_get (D := D) (ci := 0) (v := .int (S 11 0)) (C := RX0) (T := TX0) (N := 17) hx hb hts hin hown hK hP 0 rfl rfl 11 (by decide) hf122 (fun _ h9 => h9) rfl dX0_maskByCues_16 ?_
      refine lv_icmp_ge (tgt := 42) hx hb dX0_maskByCues_19 (by decide) (fun c_19 => ?_) (fun c_19 => ?_)
      · skip
        have h6 : cN (S 8) 1 (many S) ≤ j := by rw [e2, hI.ce] at c_19; exact (nI_leI (by omega) (by omega)).mp c_19
        refine lv_aload_n hx hb dX0_maskByCues_42 rfl (lv_at hl 1 rfl) ?_
        refine va_get (D := D) (ci := 0) (v := .ref (a 16)) (C := RX0) (T := TX0) (N := 17) hx hb hts hin hown hK hP 0 rfl rfl 16 (by decide) hf51 (fun _ h9 => h9) rfl dX0_maskByCues_43 ?_
        refine lv_iload_n hx hb dX0_maskByCues_46 rfl (lv_at hl 2 rfl) ?_
        refine va_iald (f := g) (n := 6) hx hb hK hP 13 0 rfl rfl (by assumption) dX0_maskByCues_47 ?_
        exact vy_ret (W.iret (v := g p.toNatClampNeg) hx hb hr (fun t ht hW => ⟨⟨_, row S 16 g, rfl, by rw [eg, show j = (S 11 0).toNatClampNeg by rw [hI.ce, nI_clamp (by omega)]; omega]; exact cif_t h_1, by rw [ht]; exact hP, hD⟩, hS.F ht⟩) hS.2.2 dX0_maskByCues_48)
      · skip
        have h6 : j < cN (S 8) 1 (many S) := by rw [e2, hI.ce] at c_19; exact Nat.lt_of_not_le (fun z => c_19 ((nI_leI (by omega) (by omega)).mpr z))
        have h9 : vp_in (S 9 i2.toNatClampNeg) (many S) := by rw [e2, nI_clamp (by omega)]; exact hI.i9 j h6
        have hcf := hI.cueq h9
        refine lv_aload_n hx hb dX0_maskByCues_22 rfl (lv_at hl 1 rfl) ?_
        refine lv_aload_n hx hb dX0_maskByCues_23 rfl (lv_at hl 1 rfl) ?_
        have hf38 := hts (.fieldLink RX0 38 "Clockmask" "calledCues" "[I") (by decide +kernel)
        refine va_get (D := D) (ci := 0) (v := .ref (a 9)) (C := RX0) (T := TX0) (N := 17) hx hb hts hin hown hK hP 0 rfl rfl 9 (by decide) hf38 (fun _ h9 => h9) rfl dX0_maskByCues_24 ?_
        refine lv_iload_n hx hb dX0_maskByCues_27 rfl (lv_at hl 0 rfl) ?_
        refine va_iald (f := S 9) (n := 24) hx hb hK hP 10 0 rfl rfl (by rw [e2]; exact vp_in_nI (by omega) (by decide)) dX0_maskByCues_28 ?_
        refine lv_aload_n hx hb dX0_maskByCues_29 rfl (lv_at hl 1 rfl) ?_
        refine va_get (D := D) (ci := 0) (v := .ref (a 16)) (C := RX0) (T := TX0) (N := 17) hx hb hts hin hown hK hP 0 rfl rfl 16 (by decide) hf51 (fun _ h9 => h9) rfl dX0_maskByCues_30 ?_
        have hPs : va_P D vwCl (wX cI cZ x a (row S 16 g)) H := hP
        have hDs : va_D A (wX cI cZ x a (row S 16 g)) := hD
        have hFc := wfree hDs hS hA
        refine va_callv (va_runV (As := [.int (S 9 i2.toNatClampNeg), .ref (a 16)]) (rest := []) ⟨hx, hb, hml, hown, hts⟩ (c_X0_moveMasks_16 l D cI cZ x a (row S 16 g) H.size (S 9 i2.toNatClampNeg) (hI.q24 h9) (by rw [row_ne (by decide)]; exact hcf.2.1) (by rw [row_ne (by decide), row_ne (by decide)]; exact hcf.2.2.1)) (cwV 2 hts gX0_maskByCues_X0_moveMasks rfl rfl rfl (by decide +kernel) ⟨Nat.le_of_ble_eq_true rfl, Nat.le_of_ble_eq_true rfl⟩) (pW_V (ci := 0) hPs hK hDs rfl rfl) rfl rfl hl.1 rfl (lv_room (Nat.le_of_ble_eq_true rfl)) dX0_maskByCues_33 ⟨Nat.zero_le _, Nat.zero_le _⟩) hS (fun q _ h => hFc q h) hFc (fun u_33 t9 H1 locs ht9 hvm9 h_33 hB9 hz9 hk9 hS => ?_)
        subst h_33
        have hP : va_P D vwCl (wXr cI cZ x a (S 0) (S 1) (S 2) (S 3) (S 4) (S 5) (S 6) (S 7) (S 8) (S 9) (S 10 0) (S 11 0) (S 12) (S 13) (S 14 0) (S 15 0) (mv (row S 16 g) (S 9 i2.toNatClampNeg).toNatClampNeg g)) H1 := atW_P hB9 ht9
        have hD : va_D A (wXr cI cZ x a (S 0) (S 1) (S 2) (S 3) (S 4) (S 5) (S 6) (S 7) (S 8) (S 9) (S 10 0) (S 11 0) (S 12) (S 13) (S 14 0) (S 15 0) (mv (row S 16 g) (S 9 i2.toNatClampNeg).toNatClampNeg g)) := atW_D hB9 hFc
        generalize H1 = H at hP hS ⊢
        refine lv_iinc (v := i2 + 1) (lv' := [(2, .int (i2 + 1)), (0, .ref x), (1, .int p)]) hx hb dX0_maskByCues_36 hl (k := 0) rfl rfl (by decide) rfl (fun ls hl => ?_)
        refine lv_goto (tgt := 14) hx hb dX0_maskByCues_39 (by decide) ?_
        exact ih (j + 1) (i2 + 1) (mv (row S 16 g) (S 9 i2.toNatClampNeg).toNatClampNeg g) (by omega) (by omega) (by rw [e2]; exact nI_1 j) (by rw [mv_cong (S := S) (row_ne (by decide)) (row_ne (by decide)) (row_ne (by decide)), eg, e2, nI_clamp (by omega)]; rfl) _ _ hP hD hS _ (lv_sub hl [0, 1, 2] rfl)
  exact loop_14 (cN (S 8) 1 (many S) + 1) 0 0 (fa_fill (fun _ => (-1)) (S 16) 6) (Nat.zero_le _) (by omega) nI_0.symm rfl _ _ hP hD hS _ (lv_sub hl [0, 1, 2] rfl)
set_option maxHeartbeats 4000000 in
set_option maxRecDepth 100000 in
theorem c_X0_guess (l : Launch) (hfl : l.stackTraces = false) (D : va_G) (cI cZ : ClassId) (x : Nat) (a : Nat → Nat) (S : ST) (sz : Nat) (g : Int32) (p : Int32) (m : Int32) : vy_Met l yX0_guess wsX0_guess rmX0_guess (va_Pc [.ref x, .int g, .int p, .int m] (fun U => (pW D (tyX cI cZ) (wX cI cZ x a S) sz) U ∧ pG U)) (va_Qi (fun (r : Int32) (u : ST) => k_guess S g p m = (0, r, u)) (fun (u : ST) t => atW D (wX cI cZ x a u) (va_A (wX cI cZ x a S) sz) t) (va_A (wX cI cZ x a S) sz)) (xcs (fun E => (E = xIO ∧ k_guess S g p m = (1, 0, S)) ∨ (E = xIS ∧ k_guess S g p m = (2, 0, S)))) 1 6 (va_A (wX cI cZ x a S) sz) := by
  refine vy_ofW (cc := cX0_guess) (maxL := 6) (ret := (some .boolean)) (by decide) rfl ?_
  intro pr env s mid args below meth cod s₁ Bd hml hout hv
  obtain ⟨rfl, ⟨hsz, hP, hK, hD0⟩, hG0⟩ := hv
  have hG : xG (fun q => s.heap.size ≤ q) s s.heap := hG0
  have hx := Bd.exec
  have hb := Bd.bytes
  have hr := Bd.returns
  have hts := atoms_spec (ws := wsX0_guess) Bd.pre
  have hown : s.vm.findClass RX0 = some mid.cls := findClass_of_methodNamed Bd.named
  have hlocks := Bd.notSynchronized
  have hin : ∀ w ∈ wsX00, w ∈ wsX0_guess := fun _ h => List.mem_cons_of_mem _ (List.mem_append_left _ (List.mem_append_left _ (List.mem_append_right _ h)))
  subst hsz
  have hD := hD0.self (sz := s.heap.size)
  generalize hAe : va_A (wX cI cZ x a S) s.heap.size = A at hD ⊢
  have hA : ∀ q : Nat, s.heap.size ≤ q → A q := fun q h => by rw [← hAe]; exact Or.inr h
  have hS : va_S A s.heap s.heap [] := va_S.rf
  have hP : va_P D vwCl (wX cI cZ x a S) s.heap := hP
  have hD : va_D A (wX cI cZ x a S) := hD
  have hl := lv_entry ([.ref x, .int g, .int p, .int m]) (n := 6) (Nat.le_of_ble_eq_true rfl)
  rw [lg_entry_eq]
  generalize (lg_sl ([.ref x, .int g, .int p, .int m]) ++ List.replicate (6 - (lg_sl ([.ref x, .int g, .int p, .int m])).length) Slot.unset).toArray = ls at hl ⊢
  have hl : lv_has ls 6 [(0, .ref x), (1, .int g), (2, .int p), (3, .int m)] := hl
  refine lv_iload_n hx hb dX0_guess_0 rfl (lv_at hl 1 rfl) ?_
  refine vy_csv (vy_runS (As := [.int g]) (rest := []) ⟨hx, hb, hml, hown, hts⟩ (c_X0_requireGuesser l hfl g) (va_cwS 1 hts gX0_guess_X0_requireGuesser rfl rfl rfl (by decide +kernel) ⟨Nat.le_of_ble_eq_true rfl, Nat.le_of_ble_eq_true rfl⟩) (pT_S (pN_S) hG (fun _ h => h)) rfl rfl hl.1 rfl (lv_room (Nat.le_of_ble_eq_true rfl)) dX0_guess_1 ⟨Nat.le_of_ble_eq_true rfl, Nat.le_of_ble_eq_true rfl⟩) (fun E ce q9 H1 hPE hz9 hk9 hc9 hv9 hcl9 => vy_out hout hlocks (Or.inl ⟨hPE.1, cif_f (fun h => hPE.2 h.1)⟩) hz9 hk9 hc9 hv9 hcl9 (by decide) (by decide)) (fun h_1 => ?_)
  refine lv_iload_n hx hb dX0_guess_4 rfl (lv_at hl 2 rfl) ?_
  refine vy_csv (vy_runS (As := [.int p]) (rest := []) ⟨hx, hb, hml, hown, hts⟩ (c_X0_requirePlayer l hfl p) (va_cwS 1 hts gX0_guess_X0_requirePlayer rfl rfl rfl (by decide +kernel) ⟨Nat.le_of_ble_eq_true rfl, Nat.le_of_ble_eq_true rfl⟩) (pT_S (pN_S) hG (fun _ h => h)) rfl rfl hl.1 rfl (lv_room (Nat.le_of_ble_eq_true rfl)) dX0_guess_5 ⟨Nat.le_of_ble_eq_true rfl, Nat.le_of_ble_eq_true rfl⟩) (fun E ce q9 H1 hPE hz9 hk9 hc9 hv9 hcl9 => vy_out hout hlocks (Or.inl ⟨hPE.1, cif_f (fun h => hPE.2 h.2.1)⟩) hz9 hk9 hc9 hv9 hcl9 (by decide) (by decide)) (fun h_5 => ?_)
  refine lv_iload_n hx hb dX0_guess_8 rfl (lv_at hl 3 rfl) ?_
  refine vy_csv (vy_runS (As := [.int m]) (rest := []) ⟨hx, hb, hml, hown, hts⟩ (c_X0_requireMask l hfl m) (va_cwS 1 hts gX0_guess_X0_requireMask rfl rfl rfl (by decide +kernel) ⟨Nat.le_of_ble_eq_true rfl, Nat.le_of_ble_eq_true rfl⟩) (pT_S (pN_S) hG (fun _ h => h)) rfl rfl hl.1 rfl (lv_room (Nat.le_of_ble_eq_true rfl)) dX0_guess_9 ⟨Nat.le_of_ble_eq_true rfl, Nat.le_of_ble_eq_true rfl⟩) (fun E ce q9 H1 hPE hz9 hk9 hc9 hv9 hcl9 => vy_out hout hlocks (Or.inl ⟨hPE.1, cif_f (fun h => hPE.2 h.2.2)⟩) hz9 hk9 hc9 hv9 hcl9 (by decide) (by decide)) (fun h_9 => ?_)
  refine lv_aload_n hx hb dX0_guess_12 rfl (lv_at hl 0 rfl) ?_
  have hf16 := hts (.fieldLink RX0 16 "Clockmask" "onStage" "[Z") (by decide +kernel)
  refine va_get (D := D) (ci := 0) (v := .ref (a 2)) (C := RX0) (T := TX0) (N := 17) hx hb hts hin hown hK hP 0 rfl rfl 2 (by decide) hf16 (fun _ h9 => h9) rfl dX0_guess_13 ?_
  refine lv_iload_n hx hb dX0_guess_16 rfl (lv_at hl 2 rfl) ?_
  refine va_zald (f := S 2) (n := 6) hx hb hK hP 3 1 rfl rfl (by assumption) dX0_guess_17 ?_
  refine lv_if_eq (tgt := 31) hx hb dX0_guess_18 (by decide) (fun c_18 => ?_) (fun c_18 => ?_)
  · skip
    exact x_throwS (text := "the player is not on stage with a mask") hx hb hfl hown (by decide) (hts (.classLink RX0 78 xIS) (by decide +kernel)) (hts (.initialized xIS) (by decide +kernel)) (fun w h => hts w (List.mem_cons_of_mem _ (List.mem_append_left _ (List.mem_append_right _ h)))) xIS_b xIS_g hG (by decide) (hl.1.trans hml.symm) dX0_guess_31 dX0_guess_34 dX0_guess_35 dX0_guess_37 dX0_guess_40 hout ⟨by decide, by decide, by decide, by decide⟩ hlocks (Or.inr ⟨rfl, (cif_t ⟨h_1, h_5, h_9⟩).trans (cif_f (fun h => h.1 c_18))⟩)
  · skip
    refine lv_aload_n hx hb dX0_guess_21 rfl (lv_at hl 0 rfl) ?_
    have hf13 := hts (.fieldLink RX0 13 "Clockmask" "maskOfPlayer" "[I") (by decide +kernel)
    refine va_get (D := D) (ci := 0) (v := .ref (a 1)) (C := RX0) (T := TX0) (N := 17) hx hb hts hin hown hK hP 0 rfl rfl 1 (by decide) hf13 (fun _ h9 => h9) rfl dX0_guess_22 ?_
    refine lv_iload_n hx hb dX0_guess_25 rfl (lv_at hl 2 rfl) ?_
    refine va_iald (f := S 1) (n := 6) hx hb hK hP 2 0 rfl rfl (by assumption) dX0_guess_26 ?_
    refine lv_iconst (v := (-1)) hx hb dX0_guess_27 (by decide) ?_
    refine lv_icmp_ne (tgt := 41) hx hb dX0_guess_28 (by decide) (fun c_28 => ?_) (fun c_28 => ?_)
    · skip
      refine lv_iload_n hx hb dX0_guess_41 rfl (lv_at hl 1 rfl) ?_
      refine lv_bipush (v := 6) hx hb dX0_guess_42 (by decide) ?_
      refine lv_imul hx hb dX0_guess_44 ?_
      refine lv_iload_n hx hb dX0_guess_45 rfl (lv_at hl 2 rfl) ?_
      refine lv_iadd hx hb dX0_guess_46 ?_
      refine lv_istore (lv' := [(4, .int ((g * 6) + p)), (0, .ref x), (1, .int g), (2, .int p), (3, .int m)]) hx hb dX0_guess_47 hl (by decide) rfl (fun ls hl => ?_)
      refine lv_aload_n hx hb dX0_guess_49 rfl (lv_at hl 1 rfl) ?_
      have hf44 := hts (.fieldLink RX0 44 "Clockmask" "guessed" "[Z") (by decide +kernel)
      refine va_get (D := D) (ci := 0) (v := .ref (a 13)) (C := RX0) (T := TX0) (N := 17) hx hb hts hin hown hK hP 0 rfl rfl 13 (by decide) hf44 (fun _ h9 => h9) rfl dX0_guess_50 ?_
      refine lv_iload hx hb dX0_guess_53 (lv_at hl 0 rfl) ?_
      refine va_zald (f := S 13) (n := 18) hx hb hK hP 12 1 rfl rfl (gp_in h_1 h_5) dX0_guess_55 ?_
      refine lv_if_eq (tgt := 69) hx hb dX0_guess_56 (by decide) (fun c_56 => ?_) (fun c_56 => ?_)
      · skip
        refine lv_aload_n hx hb dX0_guess_69 rfl (lv_at hl 1 rfl) ?_
        refine va_get (D := D) (ci := 0) (v := .ref (a 13)) (C := RX0) (T := TX0) (N := 17) hx hb hts hin hown hK hP 0 rfl rfl 13 (by decide) hf44 (fun _ h9 => h9) rfl dX0_guess_70 ?_
        refine lv_iload hx hb dX0_guess_73 (lv_at hl 0 rfl) ?_
        refine lv_iconst (v := 1) hx hb dX0_guess_75 (by decide) ?_
        refine va_zast (f := S 13) (n := 18) hx hb hK hP hD hS 12 1 rfl rfl (gp_in h_1 h_5) dX0_guess_76 (fun H locs hP hD hS => ?_)
        have hP : va_P D vwCl (wXr cI cZ x a (S 0) (S 1) (S 2) (S 3) (S 4) (S 5) (S 6) (S 7) (S 8) (S 9) (S 10 0) (S 11 0) (S 12) (upd (S 13) ((g * 6) + p).toNatClampNeg 1) (S 14 0) (S 15 0) (S 16)) H := hP
        have hD : va_D A (wXr cI cZ x a (S 0) (S 1) (S 2) (S 3) (S 4) (S 5) (S 6) (S 7) (S 8) (S 9) (S 10 0) (S 11 0) (S 12) (upd (S 13) ((g * 6) + p).toNatClampNeg 1) (S 14 0) (S 15 0) (S 16)) := hD
        refine lv_aload_n hx hb dX0_guess_77 rfl (lv_at hl 1 rfl) ?_
        refine va_get (D := D) (ci := 0) (v := .ref (a 1)) (C := RX0) (T := TX0) (N := 17) hx hb hts hin hown hK hP 0 rfl rfl 1 (by decide) hf13 (fun _ h9 => h9) rfl dX0_guess_78 ?_
        refine lv_iload_n hx hb dX0_guess_81 rfl (lv_at hl 3 rfl) ?_
        refine va_iald (f := S 1) (n := 6) hx hb hK hP 2 0 rfl rfl (by assumption) dX0_guess_82 ?_
        refine lv_iload_n hx hb dX0_guess_83 rfl (lv_at hl 4 rfl) ?_
        refine lv_icmp_ne (tgt := 91) hx hb dX0_guess_84 (by decide) (fun c_84 => ?_) (fun c_84 => ?_)
        · skip
          refine lv_iconst (v := 0) hx hb dX0_guess_91 (by decide) ?_
          refine lv_istore (lv' := [(5, .int 0), (4, .int ((g * 6) + p)), (0, .ref x), (1, .int g), (2, .int p), (3, .int m)]) hx hb dX0_guess_92 hl (by decide) rfl (fun ls hl => ?_)
          refine lv_aload_n hx hb dX0_guess_94 rfl (lv_at hl 2 rfl) ?_
          have hf41 := hts (.fieldLink RX0 41 "Clockmask" "pointsOfGuesser" "[I") (by decide +kernel)
          refine va_get (D := D) (ci := 0) (v := .ref (a 12)) (C := RX0) (T := TX0) (N := 17) hx hb hts hin hown hK hP 0 rfl rfl 12 (by decide) hf41 (fun _ h9 => h9) rfl dX0_guess_95 ?_
          refine lv_iload_n hx hb dX0_guess_98 rfl (lv_at hl 3 rfl) ?_
          refine lv_dup2_11 hx hb dX0_guess_99 rfl rfl ?_
          refine va_iald (f := S 12) (n := 3) hx hb hK hP 11 0 rfl rfl (by assumption) dX0_guess_100 ?_
          refine lv_iload hx hb dX0_guess_101 (lv_at hl 0 rfl) ?_
          refine lv_if_eq (tgt := 110) hx hb dX0_guess_103 (by decide) (fun c_103 => ?_) (fun c_103 => ?_)
          · skip
            refine lv_iconst (v := (-1)) hx hb dX0_guess_110 (by decide) ?_
            refine lv_iadd hx hb dX0_guess_111 ?_
            refine va_iast (f := S 12) (n := 3) hx hb hK hP hD hS 11 0 rfl rfl (by assumption) dX0_guess_112 (fun H locs hP hD hS => ?_)
            have hP : va_P D vwCl (wXr cI cZ x a (S 0) (S 1) (S 2) (S 3) (S 4) (S 5) (S 6) (S 7) (S 8) (S 9) (S 10 0) (S 11 0) (upd (S 12) g.toNatClampNeg ((S 12 g.toNatClampNeg) + (-1))) (upd (S 13) ((g * 6) + p).toNatClampNeg 1) (S 14 0) (S 15 0) (S 16)) H := hP
            have hD : va_D A (wXr cI cZ x a (S 0) (S 1) (S 2) (S 3) (S 4) (S 5) (S 6) (S 7) (S 8) (S 9) (S 10 0) (S 11 0) (upd (S 12) g.toNatClampNeg ((S 12 g.toNatClampNeg) + (-1))) (upd (S 13) ((g * 6) + p).toNatClampNeg 1) (S 14 0) (S 15 0) (S 16)) := hD
            refine lv_iload hx hb dX0_guess_113 (lv_at hl 0 rfl) ?_
            exact vy_ret (W.zret (v := 0) (ty := .boolean) hx hb hr rfl (fun t ht hW => ⟨⟨_, row (row S 13 (upd (S 13) ((g * 6) + p).toNatClampNeg 1)) 12 (upd (S 12) g.toNatClampNeg ((S 12 g.toNatClampNeg) + (-1))), rfl, (cif_t ⟨h_1, h_5, h_9⟩).trans ((cif_t ⟨c_18, c_28, c_56⟩).trans (by rw [cif_f c_84, cif_f c_84])), by rw [ht]; exact hP, hD⟩, hS.F ht⟩) hS.2.2 dX0_guess_115)
          · skip
            exact absurd c_103 (by decide)
        · skip
          refine lv_iconst (v := 1) hx hb dX0_guess_87 (by decide) ?_
          refine lv_goto (tgt := 92) hx hb dX0_guess_88 (by decide) ?_
          refine lv_istore (lv' := [(5, .int 1), (4, .int ((g * 6) + p)), (0, .ref x), (1, .int g), (2, .int p), (3, .int m)]) hx hb dX0_guess_92 hl (by decide) rfl (fun ls hl => ?_)
          refine lv_aload_n hx hb dX0_guess_94 rfl (lv_at hl 2 rfl) ?_
          have hf41 := hts (.fieldLink RX0 41 "Clockmask" "pointsOfGuesser" "[I") (by decide +kernel)
          refine va_get (D := D) (ci := 0) (v := .ref (a 12)) (C := RX0) (T := TX0) (N := 17) hx hb hts hin hown hK hP 0 rfl rfl 12 (by decide) hf41 (fun _ h9 => h9) rfl dX0_guess_95 ?_
          refine lv_iload_n hx hb dX0_guess_98 rfl (lv_at hl 3 rfl) ?_
          refine lv_dup2_11 hx hb dX0_guess_99 rfl rfl ?_
          refine va_iald (f := S 12) (n := 3) hx hb hK hP 11 0 rfl rfl (by assumption) dX0_guess_100 ?_
          refine lv_iload hx hb dX0_guess_101 (lv_at hl 0 rfl) ?_
          refine lv_if_eq (tgt := 110) hx hb dX0_guess_103 (by decide) (fun c_103 => ?_) (fun c_103 => ?_)
          · skip
            exact absurd c_103 (by decide)
          · skip
            refine lv_iconst (v := 3) hx hb dX0_guess_106 (by decide) ?_
            refine lv_goto (tgt := 111) hx hb dX0_guess_107 (by decide) ?_
            refine lv_iadd hx hb dX0_guess_111 ?_
            refine va_iast (f := S 12) (n := 3) hx hb hK hP hD hS 11 0 rfl rfl (by assumption) dX0_guess_112 (fun H locs hP hD hS => ?_)
            have hP : va_P D vwCl (wXr cI cZ x a (S 0) (S 1) (S 2) (S 3) (S 4) (S 5) (S 6) (S 7) (S 8) (S 9) (S 10 0) (S 11 0) (upd (S 12) g.toNatClampNeg ((S 12 g.toNatClampNeg) + 3)) (upd (S 13) ((g * 6) + p).toNatClampNeg 1) (S 14 0) (S 15 0) (S 16)) H := hP
            have hD : va_D A (wXr cI cZ x a (S 0) (S 1) (S 2) (S 3) (S 4) (S 5) (S 6) (S 7) (S 8) (S 9) (S 10 0) (S 11 0) (upd (S 12) g.toNatClampNeg ((S 12 g.toNatClampNeg) + 3)) (upd (S 13) ((g * 6) + p).toNatClampNeg 1) (S 14 0) (S 15 0) (S 16)) := hD
            refine lv_iload hx hb dX0_guess_113 (lv_at hl 0 rfl) ?_
            exact vy_ret (W.zret (v := 1) (ty := .boolean) hx hb hr rfl (fun t ht hW => ⟨⟨_, row (row S 13 (upd (S 13) ((g * 6) + p).toNatClampNeg 1)) 12 (upd (S 12) g.toNatClampNeg ((S 12 g.toNatClampNeg) + 3)), rfl, (cif_t ⟨h_1, h_5, h_9⟩).trans ((cif_t ⟨c_18, c_28, c_56⟩).trans (by rw [cif_t c_84, cif_t c_84])), by rw [ht]; exact hP, hD⟩, hS.F ht⟩) hS.2.2 dX0_guess_115)
      · skip
        exact x_throwS (text := "the guesser has guessed this part in this play") hx hb hfl hown (by decide) (hts (.classLink RX0 78 xIS) (by decide +kernel)) (hts (.initialized xIS) (by decide +kernel)) (fun w h => hts w (List.mem_cons_of_mem _ (List.mem_append_left _ (List.mem_append_right _ h)))) xIS_b xIS_g hG (by decide) (hl.1.trans hml.symm) dX0_guess_59 dX0_guess_62 dX0_guess_63 dX0_guess_65 dX0_guess_68 hout ⟨by decide, by decide, by decide, by decide⟩ hlocks (Or.inr ⟨rfl, (cif_t ⟨h_1, h_5, h_9⟩).trans (cif_f (fun h => c_56 h.2.2))⟩)
    · skip
      exact x_throwS (text := "the player is not on stage with a mask") hx hb hfl hown (by decide) (hts (.classLink RX0 78 xIS) (by decide +kernel)) (hts (.initialized xIS) (by decide +kernel)) (fun w h => hts w (List.mem_cons_of_mem _ (List.mem_append_left _ (List.mem_append_right _ h)))) xIS_b xIS_g hG (by decide) (hl.1.trans hml.symm) dX0_guess_31 dX0_guess_34 dX0_guess_35 dX0_guess_37 dX0_guess_40 hout ⟨by decide, by decide, by decide, by decide⟩ hlocks (Or.inr ⟨rfl, (cif_t ⟨h_1, h_5, h_9⟩).trans (cif_f (fun h => h.2.1 c_28))⟩)
set_option maxHeartbeats 4000000 in
set_option maxRecDepth 100000 in
theorem c_X0_endPlay (l : Launch) (hfl : l.stackTraces = false) (D : va_G) (cI cZ : ClassId) (x : Nat) (a : Nat → Nat) (S : ST) (sz : Nat) (B : Nat) (hI : Inv B S) (hB : B ≤ 100000) : vy_Met l yX0_endPlay wsX0_endPlay rmX0_endPlay (va_Pc [.ref x] (fun U => (pW D (tyX cI cZ) (wX cI cZ x a S) sz) U ∧ pG U)) (va_Qi (fun (r : Int32) (u : ST) => k_endPlay S = (0, r, u)) (fun (u : ST) t => atW D (wX cI cZ x a u) (va_A (wX cI cZ x a S) sz) t) (va_A (wX cI cZ x a S) sz)) (xcs (fun E => E = xIS ∧ k_endPlay S = (1, 0, S))) 1 6 (va_A (wX cI cZ x a S) sz) := by
  refine vy_ofW (cc := cX0_endPlay) (maxL := 1) (ret := (some .int)) (by decide) rfl ?_
  intro pr env s mid args below meth cod s₁ Bd hml hout hv
  obtain ⟨rfl, ⟨hsz, hP, hK, hD0⟩, hG0⟩ := hv
  have hG : xG (fun q => s.heap.size ≤ q) s s.heap := hG0
  have hx := Bd.exec
  have hb := Bd.bytes
  have hr := Bd.returns
  have hts := atoms_spec (ws := wsX0_endPlay) Bd.pre
  have hown : s.vm.findClass RX0 = some mid.cls := findClass_of_methodNamed Bd.named
  have hlocks := Bd.notSynchronized
  have hin : ∀ w ∈ wsX00, w ∈ wsX0_endPlay := fun _ h => List.mem_cons_of_mem _ (List.mem_append_left _ (List.mem_append_right _ h))
  subst hsz
  have hD := hD0.self (sz := s.heap.size)
  generalize hAe : va_A (wX cI cZ x a S) s.heap.size = A at hD ⊢
  have hA : ∀ q : Nat, s.heap.size ≤ q → A q := fun q h => by rw [← hAe]; exact Or.inr h
  have hS : va_S A s.heap s.heap [] := va_S.rf
  have hP : va_P D vwCl (wX cI cZ x a S) s.heap := hP
  have hD : va_D A (wX cI cZ x a S) := hD
  have hl := lv_entry ([.ref x]) (n := 1) (Nat.le_of_ble_eq_true rfl)
  rw [lg_entry_eq]
  generalize (lg_sl ([.ref x]) ++ List.replicate (1 - (lg_sl ([.ref x])).length) Slot.unset).toArray = ls at hl ⊢
  have hl : lv_has ls 1 [(0, .ref x)] := hl
  refine lv_aload_n hx hb dX0_endPlay_0 rfl (lv_at hl 0 rfl) ?_
  refine lv_iconst (v := 0) hx hb dX0_endPlay_1 (by decide) ?_
  refine vp_callSi (W.runV (As := [.int 0]) (rest := []) ⟨hx, hb, hml, hown, hts⟩ (c_X0_countCues l D cI cZ x a S 0 hI.m24 hI.me) (cwV 1 hts gX0_endPlay_X0_countCues rfl rfl rfl (by decide +kernel) ⟨Nat.le_of_ble_eq_true rfl, Nat.le_of_ble_eq_true rfl⟩) (pR_V (ci := 0) hP hK rfl rfl) rfl rfl hl.1 rfl (lv_room (Nat.le_of_ble_eq_true rfl)) dX0_endPlay_2 ⟨Nat.zero_le _, Nat.zero_le _⟩) (fun r_2 h_2 => ?_)
  subst h_2
  refine lv_if_le (tgt := 18) hx hb dX0_endPlay_5 (by decide) (fun c_5 => ?_) (fun c_5 => ?_)
  · skip
    have hz := no_zero hI.m24 c_5
    refine lv_aload_n hx hb dX0_endPlay_18 rfl (lv_at hl 0 rfl) ?_
    refine lv_iconst (v := 0) hx hb dX0_endPlay_19 (by decide) ?_
    refine lv_aload_n hx hb dX0_endPlay_20 rfl (lv_at hl 0 rfl) ?_
    have hf47 := hts (.fieldLink RX0 47 "Clockmask" "purse" "I") (by decide +kernel)
    refine va_get (D := D) (ci := 0) (v := .int (S 14 0)) (C := RX0) (T := TX0) (N := 17) hx hb hts hin hown hK hP 0 rfl rfl 14 (by decide) hf47 (fun _ h9 => h9) rfl dX0_endPlay_21 ?_
    refine lv_aload_n hx hb dX0_endPlay_24 rfl (lv_at hl 0 rfl) ?_
    refine lv_iconst (v := 1) hx hb dX0_endPlay_25 (by decide) ?_
    refine vp_callSi (W.runV (As := [.int 1]) (rest := [.int (S 14 0), .int 0, .ref x]) ⟨hx, hb, hml, hown, hts⟩ (c_X0_countCues l D cI cZ x a S 1 hI.m24 hI.me) (cwV 1 hts gX0_endPlay_X0_countCues rfl rfl rfl (by decide +kernel) ⟨Nat.le_of_ble_eq_true rfl, Nat.le_of_ble_eq_true rfl⟩) (pR_V (ci := 0) hP hK rfl rfl) rfl rfl hl.1 rfl (lv_room (Nat.le_of_ble_eq_true rfl)) dX0_endPlay_26 ⟨Nat.zero_le _, Nat.zero_le _⟩) (fun r_26 h_26 => ?_)
    subst h_26
    refine lv_iadd hx hb dX0_endPlay_29 ?_
    refine lv_aload_n hx hb dX0_endPlay_30 rfl (lv_at hl 0 rfl) ?_
    refine lv_iconst (v := 2) hx hb dX0_endPlay_31 (by decide) ?_
    refine vp_callSi (W.runV (As := [.int 2]) (rest := [.int ((S 14 0) + (nI (cN (S 8) 1 (many S)))), .int 0, .ref x]) ⟨hx, hb, hml, hown, hts⟩ (c_X0_countCues l D cI cZ x a S 2 hI.m24 hI.me) (cwV 1 hts gX0_endPlay_X0_countCues rfl rfl rfl (by decide +kernel) ⟨Nat.le_of_ble_eq_true rfl, Nat.le_of_ble_eq_true rfl⟩) (pR_V (ci := 0) hP hK rfl rfl) rfl rfl hl.1 rfl (lv_room (Nat.le_of_ble_eq_true rfl)) dX0_endPlay_32 ⟨Nat.zero_le _, Nat.zero_le _⟩) (fun r_32 h_32 => ?_)
    subst h_32
    refine lv_isub hx hb dX0_endPlay_35 ?_
    refine va_mmax (own := RX0) (index := 156) hx hb (hml.trans hl.1.symm) hown (hts (.methodLink RX0 156 Lib.Math.max.name) (by decide +kernel)) (hts (.static Lib.Math.max.name) (by decide +kernel)) (hts (.initialized "java/lang/Math") (by decide +kernel)) (hts (.code Lib.Math.max.name Lib.Math.max.code 2 (some .int)) (by decide +kernel)) (Nat.le_of_ble_eq_true rfl) (Nat.le_of_ble_eq_true rfl) (Nat.zero_le _) (Nat.zero_le _) dX0_endPlay_36 ?_
    refine va_put (D := D) (ci := 0) (v := .int (if 0 < ((S 14 0) + (nI (cN (S 8) 1 (many S)))) - (nI (cN (S 8) 2 (many S))) then ((S 14 0) + (nI (cN (S 8) 1 (many S)))) - (nI (cN (S 8) 2 (many S))) else 0)) (ty := .int) (C := RX0) (T := TX0) (N := 17) hx hb hts hin tyX0 tyX0_ok nmX0 hown hK hP hD hS 0 rfl rfl 14 (by decide) hf47 (fun _ h9 => h9) rfl (by decide +kernel) rfl rfl (Nat.le_of_ble_eq_true rfl) dX0_endPlay_39 (fun H locs hP hD hS => ?_)
    have hP : va_P D vwCl (wXr cI cZ x a (S 0) (S 1) (S 2) (S 3) (S 4) (S 5) (S 6) (S 7) (S 8) (S 9) (S 10 0) (S 11 0) (S 12) (S 13) (if 0 < ((S 14 0) + (nI (cN (S 8) 1 (many S)))) - (nI (cN (S 8) 2 (many S))) then ((S 14 0) + (nI (cN (S 8) 1 (many S)))) - (nI (cN (S 8) 2 (many S))) else 0) (S 15 0) (S 16)) H := hP
    have hD : va_D A (wXr cI cZ x a (S 0) (S 1) (S 2) (S 3) (S 4) (S 5) (S 6) (S 7) (S 8) (S 9) (S 10 0) (S 11 0) (S 12) (S 13) (if 0 < ((S 14 0) + (nI (cN (S 8) 1 (many S)))) - (nI (cN (S 8) 2 (many S))) then ((S 14 0) + (nI (cN (S 8) 1 (many S)))) - (nI (cN (S 8) 2 (many S))) else 0) (S 15 0) (S 16)) := hD
    refine lv_aload_n hx hb dX0_endPlay_42 rfl (lv_at hl 0 rfl) ?_
    refine lv_dup hx hb dX0_endPlay_43 rfl ?_
    have hf162 := hts (.fieldLink RX0 162 "Clockmask" "endedPlays" "I") (by decide +kernel)
    refine va_get (D := D) (ci := 0) (v := .int (S 15 0)) (C := RX0) (T := TX0) (N := 17) hx hb hts hin hown hK hP 0 rfl rfl 15 (by decide) hf162 (fun _ h9 => h9) rfl dX0_endPlay_44 ?_
    refine lv_iconst (v := 1) hx hb dX0_endPlay_47 (by decide) ?_
    refine lv_iadd hx hb dX0_endPlay_48 ?_
    refine va_put (D := D) (ci := 0) (v := .int ((S 15 0) + 1)) (ty := .int) (C := RX0) (T := TX0) (N := 17) hx hb hts hin tyX0 tyX0_ok nmX0 hown hK hP hD hS 0 rfl rfl 15 (by decide) hf162 (fun _ h9 => h9) rfl (by decide +kernel) rfl rfl (Nat.le_of_ble_eq_true rfl) dX0_endPlay_49 (fun H locs hP hD hS => ?_)
    have hP : va_P D vwCl (wXr cI cZ x a (S 0) (S 1) (S 2) (S 3) (S 4) (S 5) (S 6) (S 7) (S 8) (S 9) (S 10 0) (S 11 0) (S 12) (S 13) (if 0 < ((S 14 0) + (nI (cN (S 8) 1 (many S)))) - (nI (cN (S 8) 2 (many S))) then ((S 14 0) + (nI (cN (S 8) 1 (many S)))) - (nI (cN (S 8) 2 (many S))) else 0) ((S 15 0) + 1) (S 16)) H := hP
    have hD : va_D A (wXr cI cZ x a (S 0) (S 1) (S 2) (S 3) (S 4) (S 5) (S 6) (S 7) (S 8) (S 9) (S 10 0) (S 11 0) (S 12) (S 13) (if 0 < ((S 14 0) + (nI (cN (S 8) 1 (many S)))) - (nI (cN (S 8) 2 (many S))) then ((S 14 0) + (nI (cN (S 8) 1 (many S)))) - (nI (cN (S 8) 2 (many S))) else 0) ((S 15 0) + 1) (S 16)) := hD
    refine lv_aload_n hx hb dX0_endPlay_52 rfl (lv_at hl 0 rfl) ?_
    have hPs : va_P D vwCl (wX cI cZ x a (row (row S 14 (kf (if 0 < ((S 14 0) + (nI (cN (S 8) 1 (many S)))) - (nI (cN (S 8) 2 (many S))) then ((S 14 0) + (nI (cN (S 8) 1 (many S)))) - (nI (cN (S 8) 2 (many S))) else 0))) 15 (kf ((S 15 0) + 1)))) H := hP
    have hDs : va_D A (wX cI cZ x a (row (row S 14 (kf (if 0 < ((S 14 0) + (nI (cN (S 8) 1 (many S)))) - (nI (cN (S 8) 2 (many S))) then ((S 14 0) + (nI (cN (S 8) 1 (many S)))) - (nI (cN (S 8) 2 (many S))) else 0))) 15 (kf ((S 15 0) + 1)))) := hD
    have hFc := wfree hDs hS hA
    refine va_callv (va_runV (As := []) (rest := []) ⟨hx, hb, hml, hown, hts⟩ (c_X0_clearStage l D cI cZ x a (row (row S 14 (kf (if 0 < ((S 14 0) + (nI (cN (S 8) 1 (many S)))) - (nI (cN (S 8) 2 (many S))) then ((S 14 0) + (nI (cN (S 8) 1 (many S)))) - (nI (cN (S 8) 2 (many S))) else 0))) 15 (kf ((S 15 0) + 1))) H.size) (cwV 0 hts gX0_endPlay_X0_clearStage rfl rfl rfl (by decide +kernel) ⟨Nat.le_of_ble_eq_true rfl, Nat.le_of_ble_eq_true rfl⟩) (pW_V (ci := 0) hPs hK hDs rfl rfl) rfl rfl hl.1 rfl (lv_room (Nat.le_of_ble_eq_true rfl)) dX0_endPlay_53 ⟨Nat.zero_le _, Nat.zero_le _⟩) hS (fun q _ h => hFc q h) hFc (fun u_53 t9 H1 locs ht9 hvm9 h_53 hB9 hz9 hk9 hS => ?_)
    subst h_53
    have hP : va_P D vwCl (wXr cI cZ x a (S 0) (fa_fill (fun _ => -1) (S 1) 6) (fa_fill (fun _ => 0) (S 2) 6) (S 3) (S 4) (S 5) (S 6) (S 7) (S 8) (S 9) (S 10 0) (S 11 0) (S 12) (S 13) (if 0 < ((S 14 0) + (nI (cN (S 8) 1 (many S)))) - (nI (cN (S 8) 2 (many S))) then ((S 14 0) + (nI (cN (S 8) 1 (many S)))) - (nI (cN (S 8) 2 (many S))) else 0) ((S 15 0) + 1) (S 16)) H1 := atW_P hB9 ht9
    have hD : va_D A (wXr cI cZ x a (S 0) (fa_fill (fun _ => -1) (S 1) 6) (fa_fill (fun _ => 0) (S 2) 6) (S 3) (S 4) (S 5) (S 6) (S 7) (S 8) (S 9) (S 10 0) (S 11 0) (S 12) (S 13) (if 0 < ((S 14 0) + (nI (cN (S 8) 1 (many S)))) - (nI (cN (S 8) 2 (many S))) then ((S 14 0) + (nI (cN (S 8) 1 (many S)))) - (nI (cN (S 8) 2 (many S))) else 0) ((S 15 0) + 1) (S 16)) := atW_D hB9 hFc
    generalize H1 = H at hP hS ⊢
    refine lv_aload_n hx hb dX0_endPlay_56 rfl (lv_at hl 0 rfl) ?_
    have hPs : va_P D vwCl (wX cI cZ x a (row (row (row (row S 14 (kf (if 0 < ((S 14 0) + (nI (cN (S 8) 1 (many S)))) - (nI (cN (S 8) 2 (many S))) then ((S 14 0) + (nI (cN (S 8) 1 (many S)))) - (nI (cN (S 8) 2 (many S))) else 0))) 15 (kf ((S 15 0) + 1))) 1 (fa_fill (fun _ => -1) (S 1) 6)) 2 (fa_fill (fun _ => 0) (S 2) 6))) H := hP
    have hDs : va_D A (wX cI cZ x a (row (row (row (row S 14 (kf (if 0 < ((S 14 0) + (nI (cN (S 8) 1 (many S)))) - (nI (cN (S 8) 2 (many S))) then ((S 14 0) + (nI (cN (S 8) 1 (many S)))) - (nI (cN (S 8) 2 (many S))) else 0))) 15 (kf ((S 15 0) + 1))) 1 (fa_fill (fun _ => -1) (S 1) 6)) 2 (fa_fill (fun _ => 0) (S 2) 6))) := hD
    have hFc := wfree hDs hS hA
    refine va_callv (va_runV (As := []) (rest := []) ⟨hx, hb, hml, hown, hts⟩ (c_X0_clearGuesses l D cI cZ x a (row (row (row (row S 14 (kf (if 0 < ((S 14 0) + (nI (cN (S 8) 1 (many S)))) - (nI (cN (S 8) 2 (many S))) then ((S 14 0) + (nI (cN (S 8) 1 (many S)))) - (nI (cN (S 8) 2 (many S))) else 0))) 15 (kf ((S 15 0) + 1))) 1 (fa_fill (fun _ => -1) (S 1) 6)) 2 (fa_fill (fun _ => 0) (S 2) 6)) H.size) (cwV 0 hts gX0_endPlay_X0_clearGuesses rfl rfl rfl (by decide +kernel) ⟨Nat.le_of_ble_eq_true rfl, Nat.le_of_ble_eq_true rfl⟩) (pW_V (ci := 0) hPs hK hDs rfl rfl) rfl rfl hl.1 rfl (lv_room (Nat.le_of_ble_eq_true rfl)) dX0_endPlay_57 ⟨Nat.zero_le _, Nat.zero_le _⟩) hS (fun q _ h => hFc q h) hFc (fun u_57 t9 H1 locs ht9 hvm9 h_57 hB9 hz9 hk9 hS => ?_)
    subst h_57
    have hP : va_P D vwCl (wXr cI cZ x a (S 0) (fa_fill (fun _ => -1) (S 1) 6) (fa_fill (fun _ => 0) (S 2) 6) (S 3) (S 4) (S 5) (S 6) (S 7) (S 8) (S 9) (S 10 0) (S 11 0) (S 12) (fa_fill (fun _ => 0) (S 13) 18) (if 0 < ((S 14 0) + (nI (cN (S 8) 1 (many S)))) - (nI (cN (S 8) 2 (many S))) then ((S 14 0) + (nI (cN (S 8) 1 (many S)))) - (nI (cN (S 8) 2 (many S))) else 0) ((S 15 0) + 1) (S 16)) H1 := atW_P hB9 ht9
    have hD : va_D A (wXr cI cZ x a (S 0) (fa_fill (fun _ => -1) (S 1) 6) (fa_fill (fun _ => 0) (S 2) 6) (S 3) (S 4) (S 5) (S 6) (S 7) (S 8) (S 9) (S 10 0) (S 11 0) (S 12) (fa_fill (fun _ => 0) (S 13) 18) (if 0 < ((S 14 0) + (nI (cN (S 8) 1 (many S)))) - (nI (cN (S 8) 2 (many S))) then ((S 14 0) + (nI (cN (S 8) 1 (many S)))) - (nI (cN (S 8) 2 (many S))) else 0) ((S 15 0) + 1) (S 16)) := atW_D hB9 hFc
    generalize H1 = H at hP hS ⊢
    refine lv_aload_n hx hb dX0_endPlay_60 rfl (lv_at hl 0 rfl) ?_
    refine lv_iconst (v := 0) hx hb dX0_endPlay_61 (by decide) ?_
    have hf104 := hts (.fieldLink RX0 104 "Clockmask" "cueCount" "I") (by decide +kernel)
    refine va_put (D := D) (ci := 0) (v := .int 0) (ty := .int) (C := RX0) (T := TX0) (N := 17) hx hb hts hin tyX0 tyX0_ok nmX0 hown hK hP hD hS 0 rfl rfl 10 (by decide) hf104 (fun _ h9 => h9) rfl (by decide +kernel) rfl rfl (Nat.le_of_ble_eq_true rfl) dX0_endPlay_62 (fun H locs hP hD hS => ?_)
    have hP : va_P D vwCl (wXr cI cZ x a (S 0) (fa_fill (fun _ => -1) (S 1) 6) (fa_fill (fun _ => 0) (S 2) 6) (S 3) (S 4) (S 5) (S 6) (S 7) (S 8) (S 9) 0 (S 11 0) (S 12) (fa_fill (fun _ => 0) (S 13) 18) (if 0 < ((S 14 0) + (nI (cN (S 8) 1 (many S)))) - (nI (cN (S 8) 2 (many S))) then ((S 14 0) + (nI (cN (S 8) 1 (many S)))) - (nI (cN (S 8) 2 (many S))) else 0) ((S 15 0) + 1) (S 16)) H := hP
    have hD : va_D A (wXr cI cZ x a (S 0) (fa_fill (fun _ => -1) (S 1) 6) (fa_fill (fun _ => 0) (S 2) 6) (S 3) (S 4) (S 5) (S 6) (S 7) (S 8) (S 9) 0 (S 11 0) (S 12) (fa_fill (fun _ => 0) (S 13) 18) (if 0 < ((S 14 0) + (nI (cN (S 8) 1 (many S)))) - (nI (cN (S 8) 2 (many S))) then ((S 14 0) + (nI (cN (S 8) 1 (many S)))) - (nI (cN (S 8) 2 (many S))) else 0) ((S 15 0) + 1) (S 16)) := hD
    refine lv_aload_n hx hb dX0_endPlay_65 rfl (lv_at hl 0 rfl) ?_
    refine lv_iconst (v := 0) hx hb dX0_endPlay_66 (by decide) ?_
    have hf122 := hts (.fieldLink RX0 122 "Clockmask" "calledCount" "I") (by decide +kernel)
    refine va_put (D := D) (ci := 0) (v := .int 0) (ty := .int) (C := RX0) (T := TX0) (N := 17) hx hb hts hin tyX0 tyX0_ok nmX0 hown hK hP hD hS 0 rfl rfl 11 (by decide) hf122 (fun _ h9 => h9) rfl (by decide +kernel) rfl rfl (Nat.le_of_ble_eq_true rfl) dX0_endPlay_67 (fun H locs hP hD hS => ?_)
    have hP : va_P D vwCl (wXr cI cZ x a (S 0) (fa_fill (fun _ => -1) (S 1) 6) (fa_fill (fun _ => 0) (S 2) 6) (S 3) (S 4) (S 5) (S 6) (S 7) (S 8) (S 9) 0 0 (S 12) (fa_fill (fun _ => 0) (S 13) 18) (if 0 < ((S 14 0) + (nI (cN (S 8) 1 (many S)))) - (nI (cN (S 8) 2 (many S))) then ((S 14 0) + (nI (cN (S 8) 1 (many S)))) - (nI (cN (S 8) 2 (many S))) else 0) ((S 15 0) + 1) (S 16)) H := hP
    have hD : va_D A (wXr cI cZ x a (S 0) (fa_fill (fun _ => -1) (S 1) 6) (fa_fill (fun _ => 0) (S 2) 6) (S 3) (S 4) (S 5) (S 6) (S 7) (S 8) (S 9) 0 0 (S 12) (fa_fill (fun _ => 0) (S 13) 18) (if 0 < ((S 14 0) + (nI (cN (S 8) 1 (many S)))) - (nI (cN (S 8) 2 (many S))) then ((S 14 0) + (nI (cN (S 8) 1 (many S)))) - (nI (cN (S 8) 2 (many S))) else 0) ((S 15 0) + 1) (S 16)) := hD
    refine lv_aload_n hx hb dX0_endPlay_70 rfl (lv_at hl 0 rfl) ?_
    refine va_get (D := D) (ci := 0) (v := .int (if 0 < ((S 14 0) + (nI (cN (S 8) 1 (many S)))) - (nI (cN (S 8) 2 (many S))) then ((S 14 0) + (nI (cN (S 8) 1 (many S)))) - (nI (cN (S 8) 2 (many S))) else 0)) (C := RX0) (T := TX0) (N := 17) hx hb hts hin hown hK hP 0 rfl rfl 14 (by decide) hf47 (fun _ h9 => h9) rfl dX0_endPlay_71 ?_
    exact vy_ret (W.iret (v := (if 0 < ((S 14 0) + (nI (cN (S 8) 1 (many S)))) - (nI (cN (S 8) 2 (many S))) then ((S 14 0) + (nI (cN (S 8) 1 (many S)))) - (nI (cN (S 8) 2 (many S))) else 0)) hx hb hr (fun t ht hW => ⟨⟨_, row (row (row (row (row (row (row S 14 (kf (if 0 < ((S 14 0) + (nI (cN (S 8) 1 (many S)))) - (nI (cN (S 8) 2 (many S))) then ((S 14 0) + (nI (cN (S 8) 1 (many S)))) - (nI (cN (S 8) 2 (many S))) else 0))) 15 (kf ((S 15 0) + 1))) 1 (fa_fill (fun _ => -1) (S 1) 6)) 2 (fa_fill (fun _ => 0) (S 2) 6)) 13 (fa_fill (fun _ => 0) (S 13) 18)) 10 (kf 0)) 11 (kf 0), rfl, (cif_t hz).trans (by rw [purse_eq hI hB]; rfl), by rw [ht]; exact hP, hD⟩, hS.F ht⟩) hS.2.2 dX0_endPlay_74)
  · skip
    exact x_throwS (text := "some cue is waiting") hx hb hfl hown (by decide) (hts (.classLink RX0 78 xIS) (by decide +kernel)) (hts (.initialized xIS) (by decide +kernel)) (fun w h => hts w (List.mem_cons_of_mem _ (List.mem_append_right _ h))) xIS_b xIS_g hG (by decide) (hl.1.trans hml.symm) dX0_endPlay_8 dX0_endPlay_11 dX0_endPlay_12 dX0_endPlay_14 dX0_endPlay_17 hout ⟨by decide, by decide, by decide, by decide⟩ hlocks (⟨rfl, cif_f (fun h => c_5 (by rw [cN_zero h]; decide))⟩)
end
section
abbrev Z0 : ST := fun _ _ => 0
theorem va_sameI {D : va_G} {cl : List vw_C} {tys : List (ClassId × FieldType)} {s_ : State} (hK_ : va_K D cl tys s_) (i j_ : Nat) {c1 c2 : ClassId} (hi_ : tys[i]? = some (c1, .int)) (hj : tys[j_]? = some (c2, .int)) : c1 = c2 := Option.some.inj ((hK_.2 i _ hi_).2.symm.trans (hK_.2 j_ _ hj).2)
theorem va_sameZ {D : va_G} {cl : List vw_C} {tys : List (ClassId × FieldType)} {s_ : State} (hK_ : va_K D cl tys s_) (i j_ : Nat) {c1 c2 : ClassId} (hi_ : tys[i]? = some (c1, .boolean)) (hj : tys[j_]? = some (c2, .boolean)) : c1 = c2 := Option.some.inj ((hK_.2 i _ hi_).2.symm.trans (hK_.2 j_ _ hj).2)
abbrev rmX0_init : Room := ({ frames := 1, cells := 13, slots := 197, locals := 60 } : Room)
set_option maxHeartbeats 4000000 in
set_option maxRecDepth 100000 in
theorem c_X0_init (l : Launch) (D : va_G) (x_ sz : Nat) : Met l yX0_init wsX0_init rmX0_init (va_Pc [.ref x_] (pW D [] [(x_, .inr (0, [.null, .null, .null, .null, .null, .null, .null, .null, .null, .null, .int 0, .int 0, .null, .null, .int 0, .int 0, .null]))] sz)) (va_Qv (fun (_ : Unit) => True) (fun _ t_ => ∃ (cI cZ : ClassId) (a_ : Nat → Nat), (va_P D vwCl (wX cI cZ x_ a_ S00) t_.heap ∧ va_K D vwCl (tyX cI cZ) t_) ∧ va_D (va_A [(x_, .inr (0, [.null, .null, .null, .null, .null, .null, .null, .null, .null, .null, .int 0, .int 0, .null, .null, .int 0, .int 0, .null]))] sz) (wX cI cZ x_ a_ S00)) (va_A [(x_, .inr (0, [.null, .null, .null, .null, .null, .null, .null, .null, .null, .null, .int 0, .int 0, .null, .null, .int 0, .int 0, .null]))] sz)) 13 197 (va_A [(x_, .inr (0, [.null, .null, .null, .null, .null, .null, .null, .null, .null, .null, .int 0, .int 0, .null, .null, .int 0, .int 0, .null]))] sz) := by
  refine Met.ofW (cc := cX0_init) (maxL := 1) (ret := none) (by decide) rfl ?_
  intro pr env s_ mid args below meth cod s₁ Bd hml hv
  obtain ⟨rfl, hsz, hP, hK_, hD0⟩ := hv
  have hx := Bd.exec
  have hb_ := Bd.bytes
  have hr := Bd.returns
  have hts := atoms_spec (ws := wsX0_init) Bd.pre
  have hown : s_.vm.findClass RX0 = some mid.cls := findClass_of_methodNamed Bd.named
  have hlocks := Bd.notSynchronized
  have hinit : meth.name = "<init>" := (name_of_methodNamed Bd.named Bd.method).1
  have hin : ∀ w_ ∈ wsX00, w_ ∈ wsX0_init := fun _ h_ => List.mem_cons_of_mem _ (List.mem_append_right _ h_)
  subst hsz
  have hD := hD0.self (sz := s_.heap.size)
  generalize hAe : va_A [(x_, .inr (0, [.null, .null, .null, .null, .null, .null, .null, .null, .null, .null, .int 0, .int 0, .null, .null, .int 0, .int 0, .null]))] s_.heap.size = A at hD ⊢
  have hA : ∀ q_ : Nat, s_.heap.size ≤ q_ → A q_ := fun q_ h_ => by rw [← hAe]; exact Or.inr h_
  have hS_ : va_S A s_.heap s_.heap [] := va_S.rf
  have hP : va_P D vwCl [(x_, .inr (0, [.null, .null, .null, .null, .null, .null, .null, .null, .null, .null, .int 0, .int 0, .null, .null, .int 0, .int 0, .null]))] s_.heap := hP
  have hl := lv_entry ([.ref x_]) (n := 1) (Nat.le_of_ble_eq_true rfl)
  rw [lg_entry_eq]
  generalize (lg_sl ([.ref x_]) ++ List.replicate (1 - (lg_sl ([.ref x_])).length) Slot.unset).toArray = ls at hl ⊢
  have hl : lv_has ls 1 [(0, .ref x_)] := hl
  refine lv_aload_n hx hb_ dX0_init_0 rfl (lv_at hl 0 rfl) ?_
  refine W.objInit hx hb_ hown (hts (.methodLink RX0 1 objectInit) (by decide +kernel)) (hts (.instanceMethod objectInit) (by decide +kernel)) (hts (.code objectInit ⟨#[0xb1]⟩ 1 none) (by decide +kernel)) rfl (by rw [hml]; exact hl.1) rfl dX0_init_1 (Nat.le_of_ble_eq_true rfl) (Nat.le_of_ble_eq_true rfl) ?_
  refine W.eq (g2 := F0 mid 4 ls []) rfl ?_
  refine lv_aload_n hx hb_ dX0_init_4 rfl (lv_at hl 0 rfl) ?_
  refine lv_bipush (v := 6) hx hb_ dX0_init_5 (by decide) ?_
  refine va_newa (atype := .int) (ty := .int) (N' := 6) (a0 := (6, .inl (fun _ => 0))) hx hb_ (hts (.arrayClass .int) (by decide +kernel)) rfl hK_ hP hD hS_ hA (fun _ => rfl) (by decide) (by decide) (Nat.le_of_ble_eq_true rfl) (Nat.le_of_ble_eq_true rfl) (Nat.le_of_ble_eq_true rfl) dX0_init_7 (fun q_7 cI H hK_ hP hD hS_ => ?_)
  have hK_ : va_K D vwCl [(cI, .int)] s_ := hK_.sub [0] rfl
  refine W.widen (k := 1) (n := 6) (Nat.le_refl _) (Nat.le_refl _) ?_
  have hP : va_P D vwCl [(x_, .inr (0, [.null, .null, .null, .null, .null, .null, .null, .null, .null, .null, .int 0, .int 0, .null, .null, .int 0, .int 0, .null])), (q_7, .inl (cI, 6, .inl (fun _ => 0)))] H := hP
  have hD : va_D A [(x_, .inr (0, [.null, .null, .null, .null, .null, .null, .null, .null, .null, .null, .int 0, .int 0, .null, .null, .int 0, .int 0, .null])), (q_7, .inl (cI, 6, .inl (fun _ => 0)))] := hD
  have hf9 := hts (.fieldLink RX0 9 "Clockmask" "costumeOfPlayer" "[I") (by decide +kernel)
  refine va_putF (D := D) (ci := 0) (v := .ref q_7) (ty := .array .int) (C := RX0) (T := TX0) (N := 17) hx hb_ hts hin tyX0 tyX0_ok nmX0 hown hK_ hP hD hS_ 0 rfl rfl 0 (by decide) hf9 (fun _ h9 => h9) rfl hinit rfl (by decide +kernel) rfl rfl (Nat.le_of_ble_eq_true rfl) dX0_init_9 (fun H locs hP hD hS_ => ?_)
  have hP : va_P D vwCl [(x_, .inr (0, [.ref q_7, .null, .null, .null, .null, .null, .null, .null, .null, .null, .int 0, .int 0, .null, .null, .int 0, .int 0, .null])), (q_7, .inl (cI, 6, .inl (fun _ => 0)))] H := hP
  have hD : va_D A [(x_, .inr (0, [.ref q_7, .null, .null, .null, .null, .null, .null, .null, .null, .null, .int 0, .int 0, .null, .null, .int 0, .int 0, .null])), (q_7, .inl (cI, 6, .inl (fun _ => 0)))] := hD
  refine lv_aload_n hx hb_ dX0_init_12 rfl (lv_at hl 0 rfl) ?_
  refine lv_bipush (v := 6) hx hb_ dX0_init_13 (by decide) ?_
  refine va_newa (atype := .int) (ty := .int) (N' := 6) (a0 := (6, .inl (fun _ => 0))) hx hb_ (hts (.arrayClass .int) (by decide +kernel)) rfl hK_ hP hD hS_ hA (fun _ => rfl) (by decide) (by decide) (Nat.le_of_ble_eq_true rfl) (Nat.le_of_ble_eq_true rfl) (Nat.le_of_ble_eq_true rfl) dX0_init_15 (fun q_15 cA_15 H hK_ hP hD hS_ => ?_)
  have e_15 : cI = cA_15 := va_sameI hK_ 0 1 rfl rfl
  subst e_15
  have hK_ : va_K D vwCl [(cI, .int)] s_ := hK_.sub [0] rfl
  refine W.widen (k := 2) (n := 12) (Nat.le_refl _) (Nat.le_refl _) ?_
  have hP : va_P D vwCl [(x_, .inr (0, [.ref q_7, .null, .null, .null, .null, .null, .null, .null, .null, .null, .int 0, .int 0, .null, .null, .int 0, .int 0, .null])), (q_7, .inl (cI, 6, .inl (fun _ => 0))), (q_15, .inl (cI, 6, .inl (fun _ => 0)))] H := hP
  have hD : va_D A [(x_, .inr (0, [.ref q_7, .null, .null, .null, .null, .null, .null, .null, .null, .null, .int 0, .int 0, .null, .null, .int 0, .int 0, .null])), (q_7, .inl (cI, 6, .inl (fun _ => 0))), (q_15, .inl (cI, 6, .inl (fun _ => 0)))] := hD
  have hf13 := hts (.fieldLink RX0 13 "Clockmask" "maskOfPlayer" "[I") (by decide +kernel)
  refine va_putF (D := D) (ci := 0) (v := .ref q_15) (ty := .array .int) (C := RX0) (T := TX0) (N := 17) hx hb_ hts hin tyX0 tyX0_ok nmX0 hown hK_ hP hD hS_ 0 rfl rfl 1 (by decide) hf13 (fun _ h9 => h9) rfl hinit rfl (by decide +kernel) rfl rfl (Nat.le_of_ble_eq_true rfl) dX0_init_17 (fun H locs hP hD hS_ => ?_)
  have hP : va_P D vwCl [(x_, .inr (0, [.ref q_7, .ref q_15, .null, .null, .null, .null, .null, .null, .null, .null, .int 0, .int 0, .null, .null, .int 0, .int 0, .null])), (q_7, .inl (cI, 6, .inl (fun _ => 0))), (q_15, .inl (cI, 6, .inl (fun _ => 0)))] H := hP
  have hD : va_D A [(x_, .inr (0, [.ref q_7, .ref q_15, .null, .null, .null, .null, .null, .null, .null, .null, .int 0, .int 0, .null, .null, .int 0, .int 0, .null])), (q_7, .inl (cI, 6, .inl (fun _ => 0))), (q_15, .inl (cI, 6, .inl (fun _ => 0)))] := hD
  refine lv_aload_n hx hb_ dX0_init_20 rfl (lv_at hl 0 rfl) ?_
  refine lv_bipush (v := 6) hx hb_ dX0_init_21 (by decide) ?_
  refine va_newa (atype := .boolean) (ty := .boolean) (N' := 6) (a0 := (6, .inl (fun _ => 0))) hx hb_ (hts (.arrayClass .boolean) (by decide +kernel)) rfl hK_ hP hD hS_ hA (fun _ => rfl) (by decide) (by decide) (Nat.le_of_ble_eq_true rfl) (Nat.le_of_ble_eq_true rfl) (Nat.le_of_ble_eq_true rfl) dX0_init_23 (fun q_23 cZ H hK_ hP hD hS_ => ?_)
  have hK_ : va_K D vwCl [(cI, .int), (cZ, .boolean)] s_ := hK_.sub [0, 1] rfl
  refine W.widen (k := 3) (n := 18) (Nat.le_refl _) (Nat.le_refl _) ?_
  have hP : va_P D vwCl [(x_, .inr (0, [.ref q_7, .ref q_15, .null, .null, .null, .null, .null, .null, .null, .null, .int 0, .int 0, .null, .null, .int 0, .int 0, .null])), (q_7, .inl (cI, 6, .inl (fun _ => 0))), (q_15, .inl (cI, 6, .inl (fun _ => 0))), (q_23, .inl (cZ, 6, .inl (fun _ => 0)))] H := hP
  have hD : va_D A [(x_, .inr (0, [.ref q_7, .ref q_15, .null, .null, .null, .null, .null, .null, .null, .null, .int 0, .int 0, .null, .null, .int 0, .int 0, .null])), (q_7, .inl (cI, 6, .inl (fun _ => 0))), (q_15, .inl (cI, 6, .inl (fun _ => 0))), (q_23, .inl (cZ, 6, .inl (fun _ => 0)))] := hD
  have hf16 := hts (.fieldLink RX0 16 "Clockmask" "onStage" "[Z") (by decide +kernel)
  refine va_putF (D := D) (ci := 0) (v := .ref q_23) (ty := .array .boolean) (C := RX0) (T := TX0) (N := 17) hx hb_ hts hin tyX0 tyX0_ok nmX0 hown hK_ hP hD hS_ 0 rfl rfl 2 (by decide) hf16 (fun _ h9 => h9) rfl hinit rfl (by decide +kernel) rfl rfl (Nat.le_of_ble_eq_true rfl) dX0_init_25 (fun H locs hP hD hS_ => ?_)
  have hP : va_P D vwCl [(x_, .inr (0, [.ref q_7, .ref q_15, .ref q_23, .null, .null, .null, .null, .null, .null, .null, .int 0, .int 0, .null, .null, .int 0, .int 0, .null])), (q_7, .inl (cI, 6, .inl (fun _ => 0))), (q_15, .inl (cI, 6, .inl (fun _ => 0))), (q_23, .inl (cZ, 6, .inl (fun _ => 0)))] H := hP
  have hD : va_D A [(x_, .inr (0, [.ref q_7, .ref q_15, .ref q_23, .null, .null, .null, .null, .null, .null, .null, .int 0, .int 0, .null, .null, .int 0, .int 0, .null])), (q_7, .inl (cI, 6, .inl (fun _ => 0))), (q_15, .inl (cI, 6, .inl (fun _ => 0))), (q_23, .inl (cZ, 6, .inl (fun _ => 0)))] := hD
  refine lv_aload_n hx hb_ dX0_init_28 rfl (lv_at hl 0 rfl) ?_
  refine lv_bipush (v := 8) hx hb_ dX0_init_29 (by decide) ?_
  refine va_newa (atype := .int) (ty := .int) (N' := 8) (a0 := (8, .inl (fun _ => 0))) hx hb_ (hts (.arrayClass .int) (by decide +kernel)) rfl hK_ hP hD hS_ hA (fun _ => rfl) (by decide) (by decide) (Nat.le_of_ble_eq_true rfl) (Nat.le_of_ble_eq_true rfl) (Nat.le_of_ble_eq_true rfl) dX0_init_31 (fun q_31 cA_31 H hK_ hP hD hS_ => ?_)
  have e_31 : cI = cA_31 := va_sameI hK_ 0 2 rfl rfl
  subst e_31
  have hK_ : va_K D vwCl [(cI, .int), (cZ, .boolean)] s_ := hK_.sub [0, 1] rfl
  refine W.widen (k := 4) (n := 26) (Nat.le_refl _) (Nat.le_refl _) ?_
  have hP : va_P D vwCl [(x_, .inr (0, [.ref q_7, .ref q_15, .ref q_23, .null, .null, .null, .null, .null, .null, .null, .int 0, .int 0, .null, .null, .int 0, .int 0, .null])), (q_7, .inl (cI, 6, .inl (fun _ => 0))), (q_15, .inl (cI, 6, .inl (fun _ => 0))), (q_23, .inl (cZ, 6, .inl (fun _ => 0))), (q_31, .inl (cI, 8, .inl (fun _ => 0)))] H := hP
  have hD : va_D A [(x_, .inr (0, [.ref q_7, .ref q_15, .ref q_23, .null, .null, .null, .null, .null, .null, .null, .int 0, .int 0, .null, .null, .int 0, .int 0, .null])), (q_7, .inl (cI, 6, .inl (fun _ => 0))), (q_15, .inl (cI, 6, .inl (fun _ => 0))), (q_23, .inl (cZ, 6, .inl (fun _ => 0))), (q_31, .inl (cI, 8, .inl (fun _ => 0)))] := hD
  have hf20 := hts (.fieldLink RX0 20 "Clockmask" "wearOfCostume" "[I") (by decide +kernel)
  refine va_putF (D := D) (ci := 0) (v := .ref q_31) (ty := .array .int) (C := RX0) (T := TX0) (N := 17) hx hb_ hts hin tyX0 tyX0_ok nmX0 hown hK_ hP hD hS_ 0 rfl rfl 3 (by decide) hf20 (fun _ h9 => h9) rfl hinit rfl (by decide +kernel) rfl rfl (Nat.le_of_ble_eq_true rfl) dX0_init_33 (fun H locs hP hD hS_ => ?_)
  have hP : va_P D vwCl [(x_, .inr (0, [.ref q_7, .ref q_15, .ref q_23, .ref q_31, .null, .null, .null, .null, .null, .null, .int 0, .int 0, .null, .null, .int 0, .int 0, .null])), (q_7, .inl (cI, 6, .inl (fun _ => 0))), (q_15, .inl (cI, 6, .inl (fun _ => 0))), (q_23, .inl (cZ, 6, .inl (fun _ => 0))), (q_31, .inl (cI, 8, .inl (fun _ => 0)))] H := hP
  have hD : va_D A [(x_, .inr (0, [.ref q_7, .ref q_15, .ref q_23, .ref q_31, .null, .null, .null, .null, .null, .null, .int 0, .int 0, .null, .null, .int 0, .int 0, .null])), (q_7, .inl (cI, 6, .inl (fun _ => 0))), (q_15, .inl (cI, 6, .inl (fun _ => 0))), (q_23, .inl (cZ, 6, .inl (fun _ => 0))), (q_31, .inl (cI, 8, .inl (fun _ => 0)))] := hD
  refine lv_aload_n hx hb_ dX0_init_36 rfl (lv_at hl 0 rfl) ?_
  refine lv_bipush (v := 24) hx hb_ dX0_init_37 (by decide) ?_
  refine va_newa (atype := .int) (ty := .int) (N' := 24) (a0 := (24, .inl (fun _ => 0))) hx hb_ (hts (.arrayClass .int) (by decide +kernel)) rfl hK_ hP hD hS_ hA (fun _ => rfl) (by decide) (by decide) (Nat.le_of_ble_eq_true rfl) (Nat.le_of_ble_eq_true rfl) (Nat.le_of_ble_eq_true rfl) dX0_init_39 (fun q_39 cA_39 H hK_ hP hD hS_ => ?_)
  have e_39 : cI = cA_39 := va_sameI hK_ 0 2 rfl rfl
  subst e_39
  have hK_ : va_K D vwCl [(cI, .int), (cZ, .boolean)] s_ := hK_.sub [0, 1] rfl
  refine W.widen (k := 5) (n := 50) (Nat.le_refl _) (Nat.le_refl _) ?_
  have hP : va_P D vwCl [(x_, .inr (0, [.ref q_7, .ref q_15, .ref q_23, .ref q_31, .null, .null, .null, .null, .null, .null, .int 0, .int 0, .null, .null, .int 0, .int 0, .null])), (q_7, .inl (cI, 6, .inl (fun _ => 0))), (q_15, .inl (cI, 6, .inl (fun _ => 0))), (q_23, .inl (cZ, 6, .inl (fun _ => 0))), (q_31, .inl (cI, 8, .inl (fun _ => 0))), (q_39, .inl (cI, 24, .inl (fun _ => 0)))] H := hP
  have hD : va_D A [(x_, .inr (0, [.ref q_7, .ref q_15, .ref q_23, .ref q_31, .null, .null, .null, .null, .null, .null, .int 0, .int 0, .null, .null, .int 0, .int 0, .null])), (q_7, .inl (cI, 6, .inl (fun _ => 0))), (q_15, .inl (cI, 6, .inl (fun _ => 0))), (q_23, .inl (cZ, 6, .inl (fun _ => 0))), (q_31, .inl (cI, 8, .inl (fun _ => 0))), (q_39, .inl (cI, 24, .inl (fun _ => 0)))] := hD
  have hf23 := hts (.fieldLink RX0 23 "Clockmask" "cueKind" "[I") (by decide +kernel)
  refine va_putF (D := D) (ci := 0) (v := .ref q_39) (ty := .array .int) (C := RX0) (T := TX0) (N := 17) hx hb_ hts hin tyX0 tyX0_ok nmX0 hown hK_ hP hD hS_ 0 rfl rfl 4 (by decide) hf23 (fun _ h9 => h9) rfl hinit rfl (by decide +kernel) rfl rfl (Nat.le_of_ble_eq_true rfl) dX0_init_41 (fun H locs hP hD hS_ => ?_)
  have hP : va_P D vwCl [(x_, .inr (0, [.ref q_7, .ref q_15, .ref q_23, .ref q_31, .ref q_39, .null, .null, .null, .null, .null, .int 0, .int 0, .null, .null, .int 0, .int 0, .null])), (q_7, .inl (cI, 6, .inl (fun _ => 0))), (q_15, .inl (cI, 6, .inl (fun _ => 0))), (q_23, .inl (cZ, 6, .inl (fun _ => 0))), (q_31, .inl (cI, 8, .inl (fun _ => 0))), (q_39, .inl (cI, 24, .inl (fun _ => 0)))] H := hP
  have hD : va_D A [(x_, .inr (0, [.ref q_7, .ref q_15, .ref q_23, .ref q_31, .ref q_39, .null, .null, .null, .null, .null, .int 0, .int 0, .null, .null, .int 0, .int 0, .null])), (q_7, .inl (cI, 6, .inl (fun _ => 0))), (q_15, .inl (cI, 6, .inl (fun _ => 0))), (q_23, .inl (cZ, 6, .inl (fun _ => 0))), (q_31, .inl (cI, 8, .inl (fun _ => 0))), (q_39, .inl (cI, 24, .inl (fun _ => 0)))] := hD
  refine lv_aload_n hx hb_ dX0_init_44 rfl (lv_at hl 0 rfl) ?_
  refine lv_bipush (v := 24) hx hb_ dX0_init_45 (by decide) ?_
  refine va_newa (atype := .int) (ty := .int) (N' := 24) (a0 := (24, .inl (fun _ => 0))) hx hb_ (hts (.arrayClass .int) (by decide +kernel)) rfl hK_ hP hD hS_ hA (fun _ => rfl) (by decide) (by decide) (Nat.le_of_ble_eq_true rfl) (Nat.le_of_ble_eq_true rfl) (Nat.le_of_ble_eq_true rfl) dX0_init_47 (fun q_47 cA_47 H hK_ hP hD hS_ => ?_)
  have e_47 : cI = cA_47 := va_sameI hK_ 0 2 rfl rfl
  subst e_47
  have hK_ : va_K D vwCl [(cI, .int), (cZ, .boolean)] s_ := hK_.sub [0, 1] rfl
  refine W.widen (k := 6) (n := 74) (Nat.le_refl _) (Nat.le_refl _) ?_
  have hP : va_P D vwCl [(x_, .inr (0, [.ref q_7, .ref q_15, .ref q_23, .ref q_31, .ref q_39, .null, .null, .null, .null, .null, .int 0, .int 0, .null, .null, .int 0, .int 0, .null])), (q_7, .inl (cI, 6, .inl (fun _ => 0))), (q_15, .inl (cI, 6, .inl (fun _ => 0))), (q_23, .inl (cZ, 6, .inl (fun _ => 0))), (q_31, .inl (cI, 8, .inl (fun _ => 0))), (q_39, .inl (cI, 24, .inl (fun _ => 0))), (q_47, .inl (cI, 24, .inl (fun _ => 0)))] H := hP
  have hD : va_D A [(x_, .inr (0, [.ref q_7, .ref q_15, .ref q_23, .ref q_31, .ref q_39, .null, .null, .null, .null, .null, .int 0, .int 0, .null, .null, .int 0, .int 0, .null])), (q_7, .inl (cI, 6, .inl (fun _ => 0))), (q_15, .inl (cI, 6, .inl (fun _ => 0))), (q_23, .inl (cZ, 6, .inl (fun _ => 0))), (q_31, .inl (cI, 8, .inl (fun _ => 0))), (q_39, .inl (cI, 24, .inl (fun _ => 0))), (q_47, .inl (cI, 24, .inl (fun _ => 0)))] := hD
  have hf26 := hts (.fieldLink RX0 26 "Clockmask" "cuePlayer" "[I") (by decide +kernel)
  refine va_putF (D := D) (ci := 0) (v := .ref q_47) (ty := .array .int) (C := RX0) (T := TX0) (N := 17) hx hb_ hts hin tyX0 tyX0_ok nmX0 hown hK_ hP hD hS_ 0 rfl rfl 5 (by decide) hf26 (fun _ h9 => h9) rfl hinit rfl (by decide +kernel) rfl rfl (Nat.le_of_ble_eq_true rfl) dX0_init_49 (fun H locs hP hD hS_ => ?_)
  have hP : va_P D vwCl [(x_, .inr (0, [.ref q_7, .ref q_15, .ref q_23, .ref q_31, .ref q_39, .ref q_47, .null, .null, .null, .null, .int 0, .int 0, .null, .null, .int 0, .int 0, .null])), (q_7, .inl (cI, 6, .inl (fun _ => 0))), (q_15, .inl (cI, 6, .inl (fun _ => 0))), (q_23, .inl (cZ, 6, .inl (fun _ => 0))), (q_31, .inl (cI, 8, .inl (fun _ => 0))), (q_39, .inl (cI, 24, .inl (fun _ => 0))), (q_47, .inl (cI, 24, .inl (fun _ => 0)))] H := hP
  have hD : va_D A [(x_, .inr (0, [.ref q_7, .ref q_15, .ref q_23, .ref q_31, .ref q_39, .ref q_47, .null, .null, .null, .null, .int 0, .int 0, .null, .null, .int 0, .int 0, .null])), (q_7, .inl (cI, 6, .inl (fun _ => 0))), (q_15, .inl (cI, 6, .inl (fun _ => 0))), (q_23, .inl (cZ, 6, .inl (fun _ => 0))), (q_31, .inl (cI, 8, .inl (fun _ => 0))), (q_39, .inl (cI, 24, .inl (fun _ => 0))), (q_47, .inl (cI, 24, .inl (fun _ => 0)))] := hD
  refine lv_aload_n hx hb_ dX0_init_52 rfl (lv_at hl 0 rfl) ?_
  refine lv_bipush (v := 24) hx hb_ dX0_init_53 (by decide) ?_
  refine va_newa (atype := .int) (ty := .int) (N' := 24) (a0 := (24, .inl (fun _ => 0))) hx hb_ (hts (.arrayClass .int) (by decide +kernel)) rfl hK_ hP hD hS_ hA (fun _ => rfl) (by decide) (by decide) (Nat.le_of_ble_eq_true rfl) (Nat.le_of_ble_eq_true rfl) (Nat.le_of_ble_eq_true rfl) dX0_init_55 (fun q_55 cA_55 H hK_ hP hD hS_ => ?_)
  have e_55 : cI = cA_55 := va_sameI hK_ 0 2 rfl rfl
  subst e_55
  have hK_ : va_K D vwCl [(cI, .int), (cZ, .boolean)] s_ := hK_.sub [0, 1] rfl
  refine W.widen (k := 7) (n := 98) (Nat.le_refl _) (Nat.le_refl _) ?_
  have hP : va_P D vwCl [(x_, .inr (0, [.ref q_7, .ref q_15, .ref q_23, .ref q_31, .ref q_39, .ref q_47, .null, .null, .null, .null, .int 0, .int 0, .null, .null, .int 0, .int 0, .null])), (q_7, .inl (cI, 6, .inl (fun _ => 0))), (q_15, .inl (cI, 6, .inl (fun _ => 0))), (q_23, .inl (cZ, 6, .inl (fun _ => 0))), (q_31, .inl (cI, 8, .inl (fun _ => 0))), (q_39, .inl (cI, 24, .inl (fun _ => 0))), (q_47, .inl (cI, 24, .inl (fun _ => 0))), (q_55, .inl (cI, 24, .inl (fun _ => 0)))] H := hP
  have hD : va_D A [(x_, .inr (0, [.ref q_7, .ref q_15, .ref q_23, .ref q_31, .ref q_39, .ref q_47, .null, .null, .null, .null, .int 0, .int 0, .null, .null, .int 0, .int 0, .null])), (q_7, .inl (cI, 6, .inl (fun _ => 0))), (q_15, .inl (cI, 6, .inl (fun _ => 0))), (q_23, .inl (cZ, 6, .inl (fun _ => 0))), (q_31, .inl (cI, 8, .inl (fun _ => 0))), (q_39, .inl (cI, 24, .inl (fun _ => 0))), (q_47, .inl (cI, 24, .inl (fun _ => 0))), (q_55, .inl (cI, 24, .inl (fun _ => 0)))] := hD
  have hf29 := hts (.fieldLink RX0 29 "Clockmask" "cueOther" "[I") (by decide +kernel)
  refine va_putF (D := D) (ci := 0) (v := .ref q_55) (ty := .array .int) (C := RX0) (T := TX0) (N := 17) hx hb_ hts hin tyX0 tyX0_ok nmX0 hown hK_ hP hD hS_ 0 rfl rfl 6 (by decide) hf29 (fun _ h9 => h9) rfl hinit rfl (by decide +kernel) rfl rfl (Nat.le_of_ble_eq_true rfl) dX0_init_57 (fun H locs hP hD hS_ => ?_)
  have hP : va_P D vwCl [(x_, .inr (0, [.ref q_7, .ref q_15, .ref q_23, .ref q_31, .ref q_39, .ref q_47, .ref q_55, .null, .null, .null, .int 0, .int 0, .null, .null, .int 0, .int 0, .null])), (q_7, .inl (cI, 6, .inl (fun _ => 0))), (q_15, .inl (cI, 6, .inl (fun _ => 0))), (q_23, .inl (cZ, 6, .inl (fun _ => 0))), (q_31, .inl (cI, 8, .inl (fun _ => 0))), (q_39, .inl (cI, 24, .inl (fun _ => 0))), (q_47, .inl (cI, 24, .inl (fun _ => 0))), (q_55, .inl (cI, 24, .inl (fun _ => 0)))] H := hP
  have hD : va_D A [(x_, .inr (0, [.ref q_7, .ref q_15, .ref q_23, .ref q_31, .ref q_39, .ref q_47, .ref q_55, .null, .null, .null, .int 0, .int 0, .null, .null, .int 0, .int 0, .null])), (q_7, .inl (cI, 6, .inl (fun _ => 0))), (q_15, .inl (cI, 6, .inl (fun _ => 0))), (q_23, .inl (cZ, 6, .inl (fun _ => 0))), (q_31, .inl (cI, 8, .inl (fun _ => 0))), (q_39, .inl (cI, 24, .inl (fun _ => 0))), (q_47, .inl (cI, 24, .inl (fun _ => 0))), (q_55, .inl (cI, 24, .inl (fun _ => 0)))] := hD
  refine lv_aload_n hx hb_ dX0_init_60 rfl (lv_at hl 0 rfl) ?_
  refine lv_bipush (v := 24) hx hb_ dX0_init_61 (by decide) ?_
  refine va_newa (atype := .int) (ty := .int) (N' := 24) (a0 := (24, .inl (fun _ => 0))) hx hb_ (hts (.arrayClass .int) (by decide +kernel)) rfl hK_ hP hD hS_ hA (fun _ => rfl) (by decide) (by decide) (Nat.le_of_ble_eq_true rfl) (Nat.le_of_ble_eq_true rfl) (Nat.le_of_ble_eq_true rfl) dX0_init_63 (fun q_63 cA_63 H hK_ hP hD hS_ => ?_)
  have e_63 : cI = cA_63 := va_sameI hK_ 0 2 rfl rfl
  subst e_63
  have hK_ : va_K D vwCl [(cI, .int), (cZ, .boolean)] s_ := hK_.sub [0, 1] rfl
  refine W.widen (k := 8) (n := 122) (Nat.le_refl _) (Nat.le_refl _) ?_
  have hP : va_P D vwCl [(x_, .inr (0, [.ref q_7, .ref q_15, .ref q_23, .ref q_31, .ref q_39, .ref q_47, .ref q_55, .null, .null, .null, .int 0, .int 0, .null, .null, .int 0, .int 0, .null])), (q_7, .inl (cI, 6, .inl (fun _ => 0))), (q_15, .inl (cI, 6, .inl (fun _ => 0))), (q_23, .inl (cZ, 6, .inl (fun _ => 0))), (q_31, .inl (cI, 8, .inl (fun _ => 0))), (q_39, .inl (cI, 24, .inl (fun _ => 0))), (q_47, .inl (cI, 24, .inl (fun _ => 0))), (q_55, .inl (cI, 24, .inl (fun _ => 0))), (q_63, .inl (cI, 24, .inl (fun _ => 0)))] H := hP
  have hD : va_D A [(x_, .inr (0, [.ref q_7, .ref q_15, .ref q_23, .ref q_31, .ref q_39, .ref q_47, .ref q_55, .null, .null, .null, .int 0, .int 0, .null, .null, .int 0, .int 0, .null])), (q_7, .inl (cI, 6, .inl (fun _ => 0))), (q_15, .inl (cI, 6, .inl (fun _ => 0))), (q_23, .inl (cZ, 6, .inl (fun _ => 0))), (q_31, .inl (cI, 8, .inl (fun _ => 0))), (q_39, .inl (cI, 24, .inl (fun _ => 0))), (q_47, .inl (cI, 24, .inl (fun _ => 0))), (q_55, .inl (cI, 24, .inl (fun _ => 0))), (q_63, .inl (cI, 24, .inl (fun _ => 0)))] := hD
  have hf32 := hts (.fieldLink RX0 32 "Clockmask" "cueWaits" "[I") (by decide +kernel)
  refine va_putF (D := D) (ci := 0) (v := .ref q_63) (ty := .array .int) (C := RX0) (T := TX0) (N := 17) hx hb_ hts hin tyX0 tyX0_ok nmX0 hown hK_ hP hD hS_ 0 rfl rfl 7 (by decide) hf32 (fun _ h9 => h9) rfl hinit rfl (by decide +kernel) rfl rfl (Nat.le_of_ble_eq_true rfl) dX0_init_65 (fun H locs hP hD hS_ => ?_)
  have hP : va_P D vwCl [(x_, .inr (0, [.ref q_7, .ref q_15, .ref q_23, .ref q_31, .ref q_39, .ref q_47, .ref q_55, .ref q_63, .null, .null, .int 0, .int 0, .null, .null, .int 0, .int 0, .null])), (q_7, .inl (cI, 6, .inl (fun _ => 0))), (q_15, .inl (cI, 6, .inl (fun _ => 0))), (q_23, .inl (cZ, 6, .inl (fun _ => 0))), (q_31, .inl (cI, 8, .inl (fun _ => 0))), (q_39, .inl (cI, 24, .inl (fun _ => 0))), (q_47, .inl (cI, 24, .inl (fun _ => 0))), (q_55, .inl (cI, 24, .inl (fun _ => 0))), (q_63, .inl (cI, 24, .inl (fun _ => 0)))] H := hP
  have hD : va_D A [(x_, .inr (0, [.ref q_7, .ref q_15, .ref q_23, .ref q_31, .ref q_39, .ref q_47, .ref q_55, .ref q_63, .null, .null, .int 0, .int 0, .null, .null, .int 0, .int 0, .null])), (q_7, .inl (cI, 6, .inl (fun _ => 0))), (q_15, .inl (cI, 6, .inl (fun _ => 0))), (q_23, .inl (cZ, 6, .inl (fun _ => 0))), (q_31, .inl (cI, 8, .inl (fun _ => 0))), (q_39, .inl (cI, 24, .inl (fun _ => 0))), (q_47, .inl (cI, 24, .inl (fun _ => 0))), (q_55, .inl (cI, 24, .inl (fun _ => 0))), (q_63, .inl (cI, 24, .inl (fun _ => 0)))] := hD
  refine lv_aload_n hx hb_ dX0_init_68 rfl (lv_at hl 0 rfl) ?_
  refine lv_bipush (v := 24) hx hb_ dX0_init_69 (by decide) ?_
  refine va_newa (atype := .int) (ty := .int) (N' := 24) (a0 := (24, .inl (fun _ => 0))) hx hb_ (hts (.arrayClass .int) (by decide +kernel)) rfl hK_ hP hD hS_ hA (fun _ => rfl) (by decide) (by decide) (Nat.le_of_ble_eq_true rfl) (Nat.le_of_ble_eq_true rfl) (Nat.le_of_ble_eq_true rfl) dX0_init_71 (fun q_71 cA_71 H hK_ hP hD hS_ => ?_)
  have e_71 : cI = cA_71 := va_sameI hK_ 0 2 rfl rfl
  subst e_71
  have hK_ : va_K D vwCl [(cI, .int), (cZ, .boolean)] s_ := hK_.sub [0, 1] rfl
  refine W.widen (k := 9) (n := 146) (Nat.le_refl _) (Nat.le_refl _) ?_
  have hP : va_P D vwCl [(x_, .inr (0, [.ref q_7, .ref q_15, .ref q_23, .ref q_31, .ref q_39, .ref q_47, .ref q_55, .ref q_63, .null, .null, .int 0, .int 0, .null, .null, .int 0, .int 0, .null])), (q_7, .inl (cI, 6, .inl (fun _ => 0))), (q_15, .inl (cI, 6, .inl (fun _ => 0))), (q_23, .inl (cZ, 6, .inl (fun _ => 0))), (q_31, .inl (cI, 8, .inl (fun _ => 0))), (q_39, .inl (cI, 24, .inl (fun _ => 0))), (q_47, .inl (cI, 24, .inl (fun _ => 0))), (q_55, .inl (cI, 24, .inl (fun _ => 0))), (q_63, .inl (cI, 24, .inl (fun _ => 0))), (q_71, .inl (cI, 24, .inl (fun _ => 0)))] H := hP
  have hD : va_D A [(x_, .inr (0, [.ref q_7, .ref q_15, .ref q_23, .ref q_31, .ref q_39, .ref q_47, .ref q_55, .ref q_63, .null, .null, .int 0, .int 0, .null, .null, .int 0, .int 0, .null])), (q_7, .inl (cI, 6, .inl (fun _ => 0))), (q_15, .inl (cI, 6, .inl (fun _ => 0))), (q_23, .inl (cZ, 6, .inl (fun _ => 0))), (q_31, .inl (cI, 8, .inl (fun _ => 0))), (q_39, .inl (cI, 24, .inl (fun _ => 0))), (q_47, .inl (cI, 24, .inl (fun _ => 0))), (q_55, .inl (cI, 24, .inl (fun _ => 0))), (q_63, .inl (cI, 24, .inl (fun _ => 0))), (q_71, .inl (cI, 24, .inl (fun _ => 0)))] := hD
  have hf35 := hts (.fieldLink RX0 35 "Clockmask" "cueState" "[I") (by decide +kernel)
  refine va_putF (D := D) (ci := 0) (v := .ref q_71) (ty := .array .int) (C := RX0) (T := TX0) (N := 17) hx hb_ hts hin tyX0 tyX0_ok nmX0 hown hK_ hP hD hS_ 0 rfl rfl 8 (by decide) hf35 (fun _ h9 => h9) rfl hinit rfl (by decide +kernel) rfl rfl (Nat.le_of_ble_eq_true rfl) dX0_init_73 (fun H locs hP hD hS_ => ?_)
  have hP : va_P D vwCl [(x_, .inr (0, [.ref q_7, .ref q_15, .ref q_23, .ref q_31, .ref q_39, .ref q_47, .ref q_55, .ref q_63, .ref q_71, .null, .int 0, .int 0, .null, .null, .int 0, .int 0, .null])), (q_7, .inl (cI, 6, .inl (fun _ => 0))), (q_15, .inl (cI, 6, .inl (fun _ => 0))), (q_23, .inl (cZ, 6, .inl (fun _ => 0))), (q_31, .inl (cI, 8, .inl (fun _ => 0))), (q_39, .inl (cI, 24, .inl (fun _ => 0))), (q_47, .inl (cI, 24, .inl (fun _ => 0))), (q_55, .inl (cI, 24, .inl (fun _ => 0))), (q_63, .inl (cI, 24, .inl (fun _ => 0))), (q_71, .inl (cI, 24, .inl (fun _ => 0)))] H := hP
  have hD : va_D A [(x_, .inr (0, [.ref q_7, .ref q_15, .ref q_23, .ref q_31, .ref q_39, .ref q_47, .ref q_55, .ref q_63, .ref q_71, .null, .int 0, .int 0, .null, .null, .int 0, .int 0, .null])), (q_7, .inl (cI, 6, .inl (fun _ => 0))), (q_15, .inl (cI, 6, .inl (fun _ => 0))), (q_23, .inl (cZ, 6, .inl (fun _ => 0))), (q_31, .inl (cI, 8, .inl (fun _ => 0))), (q_39, .inl (cI, 24, .inl (fun _ => 0))), (q_47, .inl (cI, 24, .inl (fun _ => 0))), (q_55, .inl (cI, 24, .inl (fun _ => 0))), (q_63, .inl (cI, 24, .inl (fun _ => 0))), (q_71, .inl (cI, 24, .inl (fun _ => 0)))] := hD
  refine lv_aload_n hx hb_ dX0_init_76 rfl (lv_at hl 0 rfl) ?_
  refine lv_bipush (v := 24) hx hb_ dX0_init_77 (by decide) ?_
  refine va_newa (atype := .int) (ty := .int) (N' := 24) (a0 := (24, .inl (fun _ => 0))) hx hb_ (hts (.arrayClass .int) (by decide +kernel)) rfl hK_ hP hD hS_ hA (fun _ => rfl) (by decide) (by decide) (Nat.le_of_ble_eq_true rfl) (Nat.le_of_ble_eq_true rfl) (Nat.le_of_ble_eq_true rfl) dX0_init_79 (fun q_79 cA_79 H hK_ hP hD hS_ => ?_)
  have e_79 : cI = cA_79 := va_sameI hK_ 0 2 rfl rfl
  subst e_79
  have hK_ : va_K D vwCl [(cI, .int), (cZ, .boolean)] s_ := hK_.sub [0, 1] rfl
  refine W.widen (k := 10) (n := 170) (Nat.le_refl _) (Nat.le_refl _) ?_
  have hP : va_P D vwCl [(x_, .inr (0, [.ref q_7, .ref q_15, .ref q_23, .ref q_31, .ref q_39, .ref q_47, .ref q_55, .ref q_63, .ref q_71, .null, .int 0, .int 0, .null, .null, .int 0, .int 0, .null])), (q_7, .inl (cI, 6, .inl (fun _ => 0))), (q_15, .inl (cI, 6, .inl (fun _ => 0))), (q_23, .inl (cZ, 6, .inl (fun _ => 0))), (q_31, .inl (cI, 8, .inl (fun _ => 0))), (q_39, .inl (cI, 24, .inl (fun _ => 0))), (q_47, .inl (cI, 24, .inl (fun _ => 0))), (q_55, .inl (cI, 24, .inl (fun _ => 0))), (q_63, .inl (cI, 24, .inl (fun _ => 0))), (q_71, .inl (cI, 24, .inl (fun _ => 0))), (q_79, .inl (cI, 24, .inl (fun _ => 0)))] H := hP
  have hD : va_D A [(x_, .inr (0, [.ref q_7, .ref q_15, .ref q_23, .ref q_31, .ref q_39, .ref q_47, .ref q_55, .ref q_63, .ref q_71, .null, .int 0, .int 0, .null, .null, .int 0, .int 0, .null])), (q_7, .inl (cI, 6, .inl (fun _ => 0))), (q_15, .inl (cI, 6, .inl (fun _ => 0))), (q_23, .inl (cZ, 6, .inl (fun _ => 0))), (q_31, .inl (cI, 8, .inl (fun _ => 0))), (q_39, .inl (cI, 24, .inl (fun _ => 0))), (q_47, .inl (cI, 24, .inl (fun _ => 0))), (q_55, .inl (cI, 24, .inl (fun _ => 0))), (q_63, .inl (cI, 24, .inl (fun _ => 0))), (q_71, .inl (cI, 24, .inl (fun _ => 0))), (q_79, .inl (cI, 24, .inl (fun _ => 0)))] := hD
  have hf38 := hts (.fieldLink RX0 38 "Clockmask" "calledCues" "[I") (by decide +kernel)
  refine va_putF (D := D) (ci := 0) (v := .ref q_79) (ty := .array .int) (C := RX0) (T := TX0) (N := 17) hx hb_ hts hin tyX0 tyX0_ok nmX0 hown hK_ hP hD hS_ 0 rfl rfl 9 (by decide) hf38 (fun _ h9 => h9) rfl hinit rfl (by decide +kernel) rfl rfl (Nat.le_of_ble_eq_true rfl) dX0_init_81 (fun H locs hP hD hS_ => ?_)
  have hP : va_P D vwCl [(x_, .inr (0, [.ref q_7, .ref q_15, .ref q_23, .ref q_31, .ref q_39, .ref q_47, .ref q_55, .ref q_63, .ref q_71, .ref q_79, .int 0, .int 0, .null, .null, .int 0, .int 0, .null])), (q_7, .inl (cI, 6, .inl (fun _ => 0))), (q_15, .inl (cI, 6, .inl (fun _ => 0))), (q_23, .inl (cZ, 6, .inl (fun _ => 0))), (q_31, .inl (cI, 8, .inl (fun _ => 0))), (q_39, .inl (cI, 24, .inl (fun _ => 0))), (q_47, .inl (cI, 24, .inl (fun _ => 0))), (q_55, .inl (cI, 24, .inl (fun _ => 0))), (q_63, .inl (cI, 24, .inl (fun _ => 0))), (q_71, .inl (cI, 24, .inl (fun _ => 0))), (q_79, .inl (cI, 24, .inl (fun _ => 0)))] H := hP
  have hD : va_D A [(x_, .inr (0, [.ref q_7, .ref q_15, .ref q_23, .ref q_31, .ref q_39, .ref q_47, .ref q_55, .ref q_63, .ref q_71, .ref q_79, .int 0, .int 0, .null, .null, .int 0, .int 0, .null])), (q_7, .inl (cI, 6, .inl (fun _ => 0))), (q_15, .inl (cI, 6, .inl (fun _ => 0))), (q_23, .inl (cZ, 6, .inl (fun _ => 0))), (q_31, .inl (cI, 8, .inl (fun _ => 0))), (q_39, .inl (cI, 24, .inl (fun _ => 0))), (q_47, .inl (cI, 24, .inl (fun _ => 0))), (q_55, .inl (cI, 24, .inl (fun _ => 0))), (q_63, .inl (cI, 24, .inl (fun _ => 0))), (q_71, .inl (cI, 24, .inl (fun _ => 0))), (q_79, .inl (cI, 24, .inl (fun _ => 0)))] := hD
  refine lv_aload_n hx hb_ dX0_init_84 rfl (lv_at hl 0 rfl) ?_
  refine lv_iconst (v := 3) hx hb_ dX0_init_85 (by decide) ?_
  refine va_newa (atype := .int) (ty := .int) (N' := 3) (a0 := (3, .inl (fun _ => 0))) hx hb_ (hts (.arrayClass .int) (by decide +kernel)) rfl hK_ hP hD hS_ hA (fun _ => rfl) (by decide) (by decide) (Nat.le_of_ble_eq_true rfl) (Nat.le_of_ble_eq_true rfl) (Nat.le_of_ble_eq_true rfl) dX0_init_86 (fun q_86 cA_86 H hK_ hP hD hS_ => ?_)
  have e_86 : cI = cA_86 := va_sameI hK_ 0 2 rfl rfl
  subst e_86
  have hK_ : va_K D vwCl [(cI, .int), (cZ, .boolean)] s_ := hK_.sub [0, 1] rfl
  refine W.widen (k := 11) (n := 173) (Nat.le_refl _) (Nat.le_refl _) ?_
  have hP : va_P D vwCl [(x_, .inr (0, [.ref q_7, .ref q_15, .ref q_23, .ref q_31, .ref q_39, .ref q_47, .ref q_55, .ref q_63, .ref q_71, .ref q_79, .int 0, .int 0, .null, .null, .int 0, .int 0, .null])), (q_7, .inl (cI, 6, .inl (fun _ => 0))), (q_15, .inl (cI, 6, .inl (fun _ => 0))), (q_23, .inl (cZ, 6, .inl (fun _ => 0))), (q_31, .inl (cI, 8, .inl (fun _ => 0))), (q_39, .inl (cI, 24, .inl (fun _ => 0))), (q_47, .inl (cI, 24, .inl (fun _ => 0))), (q_55, .inl (cI, 24, .inl (fun _ => 0))), (q_63, .inl (cI, 24, .inl (fun _ => 0))), (q_71, .inl (cI, 24, .inl (fun _ => 0))), (q_79, .inl (cI, 24, .inl (fun _ => 0))), (q_86, .inl (cI, 3, .inl (fun _ => 0)))] H := hP
  have hD : va_D A [(x_, .inr (0, [.ref q_7, .ref q_15, .ref q_23, .ref q_31, .ref q_39, .ref q_47, .ref q_55, .ref q_63, .ref q_71, .ref q_79, .int 0, .int 0, .null, .null, .int 0, .int 0, .null])), (q_7, .inl (cI, 6, .inl (fun _ => 0))), (q_15, .inl (cI, 6, .inl (fun _ => 0))), (q_23, .inl (cZ, 6, .inl (fun _ => 0))), (q_31, .inl (cI, 8, .inl (fun _ => 0))), (q_39, .inl (cI, 24, .inl (fun _ => 0))), (q_47, .inl (cI, 24, .inl (fun _ => 0))), (q_55, .inl (cI, 24, .inl (fun _ => 0))), (q_63, .inl (cI, 24, .inl (fun _ => 0))), (q_71, .inl (cI, 24, .inl (fun _ => 0))), (q_79, .inl (cI, 24, .inl (fun _ => 0))), (q_86, .inl (cI, 3, .inl (fun _ => 0)))] := hD
  have hf41 := hts (.fieldLink RX0 41 "Clockmask" "pointsOfGuesser" "[I") (by decide +kernel)
  refine va_putF (D := D) (ci := 0) (v := .ref q_86) (ty := .array .int) (C := RX0) (T := TX0) (N := 17) hx hb_ hts hin tyX0 tyX0_ok nmX0 hown hK_ hP hD hS_ 0 rfl rfl 12 (by decide) hf41 (fun _ h9 => h9) rfl hinit rfl (by decide +kernel) rfl rfl (Nat.le_of_ble_eq_true rfl) dX0_init_88 (fun H locs hP hD hS_ => ?_)
  have hP : va_P D vwCl [(x_, .inr (0, [.ref q_7, .ref q_15, .ref q_23, .ref q_31, .ref q_39, .ref q_47, .ref q_55, .ref q_63, .ref q_71, .ref q_79, .int 0, .int 0, .ref q_86, .null, .int 0, .int 0, .null])), (q_7, .inl (cI, 6, .inl (fun _ => 0))), (q_15, .inl (cI, 6, .inl (fun _ => 0))), (q_23, .inl (cZ, 6, .inl (fun _ => 0))), (q_31, .inl (cI, 8, .inl (fun _ => 0))), (q_39, .inl (cI, 24, .inl (fun _ => 0))), (q_47, .inl (cI, 24, .inl (fun _ => 0))), (q_55, .inl (cI, 24, .inl (fun _ => 0))), (q_63, .inl (cI, 24, .inl (fun _ => 0))), (q_71, .inl (cI, 24, .inl (fun _ => 0))), (q_79, .inl (cI, 24, .inl (fun _ => 0))), (q_86, .inl (cI, 3, .inl (fun _ => 0)))] H := hP
  have hD : va_D A [(x_, .inr (0, [.ref q_7, .ref q_15, .ref q_23, .ref q_31, .ref q_39, .ref q_47, .ref q_55, .ref q_63, .ref q_71, .ref q_79, .int 0, .int 0, .ref q_86, .null, .int 0, .int 0, .null])), (q_7, .inl (cI, 6, .inl (fun _ => 0))), (q_15, .inl (cI, 6, .inl (fun _ => 0))), (q_23, .inl (cZ, 6, .inl (fun _ => 0))), (q_31, .inl (cI, 8, .inl (fun _ => 0))), (q_39, .inl (cI, 24, .inl (fun _ => 0))), (q_47, .inl (cI, 24, .inl (fun _ => 0))), (q_55, .inl (cI, 24, .inl (fun _ => 0))), (q_63, .inl (cI, 24, .inl (fun _ => 0))), (q_71, .inl (cI, 24, .inl (fun _ => 0))), (q_79, .inl (cI, 24, .inl (fun _ => 0))), (q_86, .inl (cI, 3, .inl (fun _ => 0)))] := hD
  refine lv_aload_n hx hb_ dX0_init_91 rfl (lv_at hl 0 rfl) ?_
  refine lv_bipush (v := 18) hx hb_ dX0_init_92 (by decide) ?_
  refine va_newa (atype := .boolean) (ty := .boolean) (N' := 18) (a0 := (18, .inl (fun _ => 0))) hx hb_ (hts (.arrayClass .boolean) (by decide +kernel)) rfl hK_ hP hD hS_ hA (fun _ => rfl) (by decide) (by decide) (Nat.le_of_ble_eq_true rfl) (Nat.le_of_ble_eq_true rfl) (Nat.le_of_ble_eq_true rfl) dX0_init_94 (fun q_94 cA_94 H hK_ hP hD hS_ => ?_)
  have e_94 : cZ = cA_94 := va_sameZ hK_ 1 2 rfl rfl
  subst e_94
  have hK_ : va_K D vwCl [(cI, .int), (cZ, .boolean)] s_ := hK_.sub [0, 1] rfl
  refine W.widen (k := 12) (n := 191) (Nat.le_refl _) (Nat.le_refl _) ?_
  have hP : va_P D vwCl [(x_, .inr (0, [.ref q_7, .ref q_15, .ref q_23, .ref q_31, .ref q_39, .ref q_47, .ref q_55, .ref q_63, .ref q_71, .ref q_79, .int 0, .int 0, .ref q_86, .null, .int 0, .int 0, .null])), (q_7, .inl (cI, 6, .inl (fun _ => 0))), (q_15, .inl (cI, 6, .inl (fun _ => 0))), (q_23, .inl (cZ, 6, .inl (fun _ => 0))), (q_31, .inl (cI, 8, .inl (fun _ => 0))), (q_39, .inl (cI, 24, .inl (fun _ => 0))), (q_47, .inl (cI, 24, .inl (fun _ => 0))), (q_55, .inl (cI, 24, .inl (fun _ => 0))), (q_63, .inl (cI, 24, .inl (fun _ => 0))), (q_71, .inl (cI, 24, .inl (fun _ => 0))), (q_79, .inl (cI, 24, .inl (fun _ => 0))), (q_86, .inl (cI, 3, .inl (fun _ => 0))), (q_94, .inl (cZ, 18, .inl (fun _ => 0)))] H := hP
  have hD : va_D A [(x_, .inr (0, [.ref q_7, .ref q_15, .ref q_23, .ref q_31, .ref q_39, .ref q_47, .ref q_55, .ref q_63, .ref q_71, .ref q_79, .int 0, .int 0, .ref q_86, .null, .int 0, .int 0, .null])), (q_7, .inl (cI, 6, .inl (fun _ => 0))), (q_15, .inl (cI, 6, .inl (fun _ => 0))), (q_23, .inl (cZ, 6, .inl (fun _ => 0))), (q_31, .inl (cI, 8, .inl (fun _ => 0))), (q_39, .inl (cI, 24, .inl (fun _ => 0))), (q_47, .inl (cI, 24, .inl (fun _ => 0))), (q_55, .inl (cI, 24, .inl (fun _ => 0))), (q_63, .inl (cI, 24, .inl (fun _ => 0))), (q_71, .inl (cI, 24, .inl (fun _ => 0))), (q_79, .inl (cI, 24, .inl (fun _ => 0))), (q_86, .inl (cI, 3, .inl (fun _ => 0))), (q_94, .inl (cZ, 18, .inl (fun _ => 0)))] := hD
  have hf44 := hts (.fieldLink RX0 44 "Clockmask" "guessed" "[Z") (by decide +kernel)
  refine va_putF (D := D) (ci := 0) (v := .ref q_94) (ty := .array .boolean) (C := RX0) (T := TX0) (N := 17) hx hb_ hts hin tyX0 tyX0_ok nmX0 hown hK_ hP hD hS_ 0 rfl rfl 13 (by decide) hf44 (fun _ h9 => h9) rfl hinit rfl (by decide +kernel) rfl rfl (Nat.le_of_ble_eq_true rfl) dX0_init_96 (fun H locs hP hD hS_ => ?_)
  have hP : va_P D vwCl [(x_, .inr (0, [.ref q_7, .ref q_15, .ref q_23, .ref q_31, .ref q_39, .ref q_47, .ref q_55, .ref q_63, .ref q_71, .ref q_79, .int 0, .int 0, .ref q_86, .ref q_94, .int 0, .int 0, .null])), (q_7, .inl (cI, 6, .inl (fun _ => 0))), (q_15, .inl (cI, 6, .inl (fun _ => 0))), (q_23, .inl (cZ, 6, .inl (fun _ => 0))), (q_31, .inl (cI, 8, .inl (fun _ => 0))), (q_39, .inl (cI, 24, .inl (fun _ => 0))), (q_47, .inl (cI, 24, .inl (fun _ => 0))), (q_55, .inl (cI, 24, .inl (fun _ => 0))), (q_63, .inl (cI, 24, .inl (fun _ => 0))), (q_71, .inl (cI, 24, .inl (fun _ => 0))), (q_79, .inl (cI, 24, .inl (fun _ => 0))), (q_86, .inl (cI, 3, .inl (fun _ => 0))), (q_94, .inl (cZ, 18, .inl (fun _ => 0)))] H := hP
  have hD : va_D A [(x_, .inr (0, [.ref q_7, .ref q_15, .ref q_23, .ref q_31, .ref q_39, .ref q_47, .ref q_55, .ref q_63, .ref q_71, .ref q_79, .int 0, .int 0, .ref q_86, .ref q_94, .int 0, .int 0, .null])), (q_7, .inl (cI, 6, .inl (fun _ => 0))), (q_15, .inl (cI, 6, .inl (fun _ => 0))), (q_23, .inl (cZ, 6, .inl (fun _ => 0))), (q_31, .inl (cI, 8, .inl (fun _ => 0))), (q_39, .inl (cI, 24, .inl (fun _ => 0))), (q_47, .inl (cI, 24, .inl (fun _ => 0))), (q_55, .inl (cI, 24, .inl (fun _ => 0))), (q_63, .inl (cI, 24, .inl (fun _ => 0))), (q_71, .inl (cI, 24, .inl (fun _ => 0))), (q_79, .inl (cI, 24, .inl (fun _ => 0))), (q_86, .inl (cI, 3, .inl (fun _ => 0))), (q_94, .inl (cZ, 18, .inl (fun _ => 0)))] := hD
  refine lv_aload_n hx hb_ dX0_init_99 rfl (lv_at hl 0 rfl) ?_
  refine lv_bipush (v := 10) hx hb_ dX0_init_100 (by decide) ?_
  have hf47 := hts (.fieldLink RX0 47 "Clockmask" "purse" "I") (by decide +kernel)
  refine va_put (D := D) (ci := 0) (v := .int 10) (ty := .int) (C := RX0) (T := TX0) (N := 17) hx hb_ hts hin tyX0 tyX0_ok nmX0 hown hK_ hP hD hS_ 0 rfl rfl 14 (by decide) hf47 (fun _ h9 => h9) rfl (by decide +kernel) rfl rfl (Nat.le_of_ble_eq_true rfl) dX0_init_102 (fun H locs hP hD hS_ => ?_)
  have hP : va_P D vwCl [(x_, .inr (0, [.ref q_7, .ref q_15, .ref q_23, .ref q_31, .ref q_39, .ref q_47, .ref q_55, .ref q_63, .ref q_71, .ref q_79, .int 0, .int 0, .ref q_86, .ref q_94, .int 10, .int 0, .null])), (q_7, .inl (cI, 6, .inl (fun _ => 0))), (q_15, .inl (cI, 6, .inl (fun _ => 0))), (q_23, .inl (cZ, 6, .inl (fun _ => 0))), (q_31, .inl (cI, 8, .inl (fun _ => 0))), (q_39, .inl (cI, 24, .inl (fun _ => 0))), (q_47, .inl (cI, 24, .inl (fun _ => 0))), (q_55, .inl (cI, 24, .inl (fun _ => 0))), (q_63, .inl (cI, 24, .inl (fun _ => 0))), (q_71, .inl (cI, 24, .inl (fun _ => 0))), (q_79, .inl (cI, 24, .inl (fun _ => 0))), (q_86, .inl (cI, 3, .inl (fun _ => 0))), (q_94, .inl (cZ, 18, .inl (fun _ => 0)))] H := hP
  have hD : va_D A [(x_, .inr (0, [.ref q_7, .ref q_15, .ref q_23, .ref q_31, .ref q_39, .ref q_47, .ref q_55, .ref q_63, .ref q_71, .ref q_79, .int 0, .int 0, .ref q_86, .ref q_94, .int 10, .int 0, .null])), (q_7, .inl (cI, 6, .inl (fun _ => 0))), (q_15, .inl (cI, 6, .inl (fun _ => 0))), (q_23, .inl (cZ, 6, .inl (fun _ => 0))), (q_31, .inl (cI, 8, .inl (fun _ => 0))), (q_39, .inl (cI, 24, .inl (fun _ => 0))), (q_47, .inl (cI, 24, .inl (fun _ => 0))), (q_55, .inl (cI, 24, .inl (fun _ => 0))), (q_63, .inl (cI, 24, .inl (fun _ => 0))), (q_71, .inl (cI, 24, .inl (fun _ => 0))), (q_79, .inl (cI, 24, .inl (fun _ => 0))), (q_86, .inl (cI, 3, .inl (fun _ => 0))), (q_94, .inl (cZ, 18, .inl (fun _ => 0)))] := hD
  refine lv_aload_n hx hb_ dX0_init_105 rfl (lv_at hl 0 rfl) ?_
  refine lv_bipush (v := 6) hx hb_ dX0_init_106 (by decide) ?_
  refine va_newa (atype := .int) (ty := .int) (N' := 6) (a0 := (6, .inl (fun _ => 0))) hx hb_ (hts (.arrayClass .int) (by decide +kernel)) rfl hK_ hP hD hS_ hA (fun _ => rfl) (by decide) (by decide) (Nat.le_of_ble_eq_true rfl) (Nat.le_of_ble_eq_true rfl) (Nat.le_of_ble_eq_true rfl) dX0_init_108 (fun q_108 cA_108 H hK_ hP hD hS_ => ?_)
  have e_108 : cI = cA_108 := va_sameI hK_ 0 2 rfl rfl
  subst e_108
  have hK_ : va_K D vwCl [(cI, .int), (cZ, .boolean)] s_ := hK_.sub [0, 1] rfl
  refine W.widen (k := 13) (n := 197) (Nat.le_refl _) (Nat.le_refl _) ?_
  have hP : va_P D vwCl [(x_, .inr (0, [.ref q_7, .ref q_15, .ref q_23, .ref q_31, .ref q_39, .ref q_47, .ref q_55, .ref q_63, .ref q_71, .ref q_79, .int 0, .int 0, .ref q_86, .ref q_94, .int 10, .int 0, .null])), (q_7, .inl (cI, 6, .inl (fun _ => 0))), (q_15, .inl (cI, 6, .inl (fun _ => 0))), (q_23, .inl (cZ, 6, .inl (fun _ => 0))), (q_31, .inl (cI, 8, .inl (fun _ => 0))), (q_39, .inl (cI, 24, .inl (fun _ => 0))), (q_47, .inl (cI, 24, .inl (fun _ => 0))), (q_55, .inl (cI, 24, .inl (fun _ => 0))), (q_63, .inl (cI, 24, .inl (fun _ => 0))), (q_71, .inl (cI, 24, .inl (fun _ => 0))), (q_79, .inl (cI, 24, .inl (fun _ => 0))), (q_86, .inl (cI, 3, .inl (fun _ => 0))), (q_94, .inl (cZ, 18, .inl (fun _ => 0))), (q_108, .inl (cI, 6, .inl (fun _ => 0)))] H := hP
  have hD : va_D A [(x_, .inr (0, [.ref q_7, .ref q_15, .ref q_23, .ref q_31, .ref q_39, .ref q_47, .ref q_55, .ref q_63, .ref q_71, .ref q_79, .int 0, .int 0, .ref q_86, .ref q_94, .int 10, .int 0, .null])), (q_7, .inl (cI, 6, .inl (fun _ => 0))), (q_15, .inl (cI, 6, .inl (fun _ => 0))), (q_23, .inl (cZ, 6, .inl (fun _ => 0))), (q_31, .inl (cI, 8, .inl (fun _ => 0))), (q_39, .inl (cI, 24, .inl (fun _ => 0))), (q_47, .inl (cI, 24, .inl (fun _ => 0))), (q_55, .inl (cI, 24, .inl (fun _ => 0))), (q_63, .inl (cI, 24, .inl (fun _ => 0))), (q_71, .inl (cI, 24, .inl (fun _ => 0))), (q_79, .inl (cI, 24, .inl (fun _ => 0))), (q_86, .inl (cI, 3, .inl (fun _ => 0))), (q_94, .inl (cZ, 18, .inl (fun _ => 0))), (q_108, .inl (cI, 6, .inl (fun _ => 0)))] := hD
  have hf51 := hts (.fieldLink RX0 51 "Clockmask" "replayedMasks" "[I") (by decide +kernel)
  refine va_putF (D := D) (ci := 0) (v := .ref q_108) (ty := .array .int) (C := RX0) (T := TX0) (N := 17) hx hb_ hts hin tyX0 tyX0_ok nmX0 hown hK_ hP hD hS_ 0 rfl rfl 16 (by decide) hf51 (fun _ h9 => h9) rfl hinit rfl (by decide +kernel) rfl rfl (Nat.le_of_ble_eq_true rfl) dX0_init_110 (fun H locs hP hD hS_ => ?_)
  have hP : va_P D vwCl [(x_, .inr (0, [.ref q_7, .ref q_15, .ref q_23, .ref q_31, .ref q_39, .ref q_47, .ref q_55, .ref q_63, .ref q_71, .ref q_79, .int 0, .int 0, .ref q_86, .ref q_94, .int 10, .int 0, .ref q_108])), (q_7, .inl (cI, 6, .inl (fun _ => 0))), (q_15, .inl (cI, 6, .inl (fun _ => 0))), (q_23, .inl (cZ, 6, .inl (fun _ => 0))), (q_31, .inl (cI, 8, .inl (fun _ => 0))), (q_39, .inl (cI, 24, .inl (fun _ => 0))), (q_47, .inl (cI, 24, .inl (fun _ => 0))), (q_55, .inl (cI, 24, .inl (fun _ => 0))), (q_63, .inl (cI, 24, .inl (fun _ => 0))), (q_71, .inl (cI, 24, .inl (fun _ => 0))), (q_79, .inl (cI, 24, .inl (fun _ => 0))), (q_86, .inl (cI, 3, .inl (fun _ => 0))), (q_94, .inl (cZ, 18, .inl (fun _ => 0))), (q_108, .inl (cI, 6, .inl (fun _ => 0)))] H := hP
  have hD : va_D A [(x_, .inr (0, [.ref q_7, .ref q_15, .ref q_23, .ref q_31, .ref q_39, .ref q_47, .ref q_55, .ref q_63, .ref q_71, .ref q_79, .int 0, .int 0, .ref q_86, .ref q_94, .int 10, .int 0, .ref q_108])), (q_7, .inl (cI, 6, .inl (fun _ => 0))), (q_15, .inl (cI, 6, .inl (fun _ => 0))), (q_23, .inl (cZ, 6, .inl (fun _ => 0))), (q_31, .inl (cI, 8, .inl (fun _ => 0))), (q_39, .inl (cI, 24, .inl (fun _ => 0))), (q_47, .inl (cI, 24, .inl (fun _ => 0))), (q_55, .inl (cI, 24, .inl (fun _ => 0))), (q_63, .inl (cI, 24, .inl (fun _ => 0))), (q_71, .inl (cI, 24, .inl (fun _ => 0))), (q_79, .inl (cI, 24, .inl (fun _ => 0))), (q_86, .inl (cI, 3, .inl (fun _ => 0))), (q_94, .inl (cZ, 18, .inl (fun _ => 0))), (q_108, .inl (cI, 6, .inl (fun _ => 0)))] := hD
  obtain ⟨a_, e_a0, e_a1, e_a2, e_a3, e_a4, e_a5, e_a6, e_a7, e_a8, e_a9, e_a12, e_a13, e_a16⟩ : ∃ a_ : Nat → Nat, a_ 0 = q_7 ∧ a_ 1 = q_15 ∧ a_ 2 = q_23 ∧ a_ 3 = q_31 ∧ a_ 4 = q_39 ∧ a_ 5 = q_47 ∧ a_ 6 = q_55 ∧ a_ 7 = q_63 ∧ a_ 8 = q_71 ∧ a_ 9 = q_79 ∧ a_ 12 = q_86 ∧ a_ 13 = q_94 ∧ a_ 16 = q_108 := ⟨fun r_ => ([q_7, q_15, q_23, q_31, q_39, q_47, q_55, q_63, q_71, q_79, 0, 0, q_86, q_94, 0, 0, q_108] : List Nat).getD r_ 0, rfl, rfl, rfl, rfl, rfl, rfl, rfl, rfl, rfl, rfl, rfl, rfl, rfl⟩
  subst e_a0
  subst e_a1
  subst e_a2
  subst e_a3
  subst e_a4
  subst e_a5
  subst e_a6
  subst e_a7
  subst e_a8
  subst e_a9
  subst e_a12
  subst e_a13
  subst e_a16
  have hP : va_P D vwCl (wXr cI cZ x_ a_ (Z0 0) (Z0 1) (Z0 2) (Z0 3) (Z0 4) (Z0 5) (Z0 6) (Z0 7) (Z0 8) (Z0 9) (Z0 10 0) (Z0 11 0) (Z0 12) (Z0 13) 10 (Z0 15 0) (Z0 16)) H := hP
  have hD : va_D A (wXr cI cZ x_ a_ (Z0 0) (Z0 1) (Z0 2) (Z0 3) (Z0 4) (Z0 5) (Z0 6) (Z0 7) (Z0 8) (Z0 9) (Z0 10 0) (Z0 11 0) (Z0 12) (Z0 13) 10 (Z0 15 0) (Z0 16)) := hD
  refine lv_aload_n hx hb_ dX0_init_113 rfl (lv_at hl 0 rfl) ?_
  refine va_get (D := D) (ci := 0) (v := .ref (a_ 0)) (C := RX0) (T := TX0) (N := 17) hx hb_ hts hin hown hK_ hP 0 rfl rfl 0 (by decide) hf9 (fun _ h9 => h9) rfl dX0_init_114 ?_
  refine lv_iconst (v := (-1)) hx hb_ dX0_init_117 (by decide) ?_
  have hFc := va_free (wc := [(a_ 0, .inl (cI, 6, .inl (Z0 0)))]) hD hS_ hA [1] rfl
  refine va_callv (va_runS (As := [.ref (a_ 0), .int (-1)]) (rest := []) ⟨hx, hb_, hml, hown, hts⟩ (c_J7_fill_53178 l D cI (a_ 0) (Z0 0) H.size (-1)) (va_cwS 2 hts gX0_init_J7_fill_53178 rfl rfl rfl (by decide +kernel) ⟨Nat.le_of_ble_eq_true rfl, Nat.le_of_ble_eq_true rfl⟩) (pW_S (hP.sub (ws' := [(a_ 0, .inl (cI, 6, .inl (Z0 0)))]) [1] rfl) (hK_.sub (tys' := tyM cI) [0] rfl) (hD.sub [1] (by decide) rfl)) rfl rfl hl.1 rfl (lv_room (Nat.le_of_ble_eq_true rfl)) dX0_init_118 ⟨Nat.le_of_ble_eq_true rfl, Nat.le_of_ble_eq_true rfl⟩) hS_ (fun q_ _ h_ => hFc q_ h_) hFc (fun u_118 t9 H1 locs ht9 hvm9 h_118 hB9 hz9 hk9 hS_ => ?_)
  have hP1 := atW_P hB9 ht9
  have hD1 := hB9.2
  have hJ9 := va_join (wr := (wXr cI cZ x_ a_ (Z0 0) (Z0 1) (Z0 2) (Z0 3) (Z0 4) (Z0 5) (Z0 6) (Z0 7) (Z0 8) (Z0 9) (Z0 10 0) (Z0 11 0) (Z0 12) (Z0 13) 10 (Z0 15 0) (Z0 16)).eraseIdx 1) hP hD [1] [0, 2, 3, 4, 5, 6, 7, 8, 9, 10, 11, 12, 13] rfl rfl (by decide) (by decide) hk9 hFc hP1 hD1
  subst h_118
  have hP : va_P D vwCl (wXr cI cZ x_ a_ (fa_fill (fun _ => (-1)) (Z0 0) 6) (Z0 1) (Z0 2) (Z0 3) (Z0 4) (Z0 5) (Z0 6) (Z0 7) (Z0 8) (Z0 9) (Z0 10 0) (Z0 11 0) (Z0 12) (Z0 13) 10 (Z0 15 0) (Z0 16)) H1 := hJ9.1.sub [0, 13, 1, 2, 3, 4, 5, 6, 7, 8, 9, 10, 11, 12] rfl
  have hD : va_D A (wXr cI cZ x_ a_ (fa_fill (fun _ => (-1)) (Z0 0) 6) (Z0 1) (Z0 2) (Z0 3) (Z0 4) (Z0 5) (Z0 6) (Z0 7) (Z0 8) (Z0 9) (Z0 10 0) (Z0 11 0) (Z0 12) (Z0 13) 10 (Z0 15 0) (Z0 16)) := hJ9.2.sub [0, 13, 1, 2, 3, 4, 5, 6, 7, 8, 9, 10, 11, 12] (by decide) rfl
  generalize H1 = H at hP hS_ ⊢
  refine lv_aload_n hx hb_ dX0_init_121 rfl (lv_at hl 0 rfl) ?_
  refine va_get (D := D) (ci := 0) (v := .ref (a_ 1)) (C := RX0) (T := TX0) (N := 17) hx hb_ hts hin hown hK_ hP 0 rfl rfl 1 (by decide) hf13 (fun _ h9 => h9) rfl dX0_init_122 ?_
  refine lv_iconst (v := (-1)) hx hb_ dX0_init_125 (by decide) ?_
  have hFc := va_free (wc := [(a_ 1, .inl (cI, 6, .inl (Z0 1)))]) hD hS_ hA [2] rfl
  refine va_callv (va_runS (As := [.ref (a_ 1), .int (-1)]) (rest := []) ⟨hx, hb_, hml, hown, hts⟩ (c_J7_fill_53178 l D cI (a_ 1) (Z0 1) H.size (-1)) (va_cwS 2 hts gX0_init_J7_fill_53178 rfl rfl rfl (by decide +kernel) ⟨Nat.le_of_ble_eq_true rfl, Nat.le_of_ble_eq_true rfl⟩) (pW_S (hP.sub (ws' := [(a_ 1, .inl (cI, 6, .inl (Z0 1)))]) [2] rfl) (hK_.sub (tys' := tyM cI) [0] rfl) (hD.sub [2] (by decide) rfl)) rfl rfl hl.1 rfl (lv_room (Nat.le_of_ble_eq_true rfl)) dX0_init_126 ⟨Nat.le_of_ble_eq_true rfl, Nat.le_of_ble_eq_true rfl⟩) hS_ (fun q_ _ h_ => hFc q_ h_) hFc (fun u_126 t9 H1 locs ht9 hvm9 h_126 hB9 hz9 hk9 hS_ => ?_)
  have hP1 := atW_P hB9 ht9
  have hD1 := hB9.2
  have hJ9 := va_join (wr := (wXr cI cZ x_ a_ (fa_fill (fun _ => (-1)) (Z0 0) 6) (Z0 1) (Z0 2) (Z0 3) (Z0 4) (Z0 5) (Z0 6) (Z0 7) (Z0 8) (Z0 9) (Z0 10 0) (Z0 11 0) (Z0 12) (Z0 13) 10 (Z0 15 0) (Z0 16)).eraseIdx 2) hP hD [2] [0, 1, 3, 4, 5, 6, 7, 8, 9, 10, 11, 12, 13] rfl rfl (by decide) (by decide) hk9 hFc hP1 hD1
  subst h_126
  have hP : va_P D vwCl (wXr cI cZ x_ a_ (fa_fill (fun _ => (-1)) (Z0 0) 6) (fa_fill (fun _ => (-1)) (Z0 1) 6) (Z0 2) (Z0 3) (Z0 4) (Z0 5) (Z0 6) (Z0 7) (Z0 8) (Z0 9) (Z0 10 0) (Z0 11 0) (Z0 12) (Z0 13) 10 (Z0 15 0) (Z0 16)) H1 := hJ9.1.sub [0, 1, 13, 2, 3, 4, 5, 6, 7, 8, 9, 10, 11, 12] rfl
  have hD : va_D A (wXr cI cZ x_ a_ (fa_fill (fun _ => (-1)) (Z0 0) 6) (fa_fill (fun _ => (-1)) (Z0 1) 6) (Z0 2) (Z0 3) (Z0 4) (Z0 5) (Z0 6) (Z0 7) (Z0 8) (Z0 9) (Z0 10 0) (Z0 11 0) (Z0 12) (Z0 13) 10 (Z0 15 0) (Z0 16)) := hJ9.2.sub [0, 1, 13, 2, 3, 4, 5, 6, 7, 8, 9, 10, 11, 12] (by decide) rfl
  generalize H1 = H at hP hS_ ⊢
  refine W.widen (k := 13) (n := 197) (by omega) (by omega) ?_
  exact W.vret hx hb_ hr (fun t_ ht hW => ⟨⟨(), rfl, trivial, cI, cZ, a_, ⟨by rw [ht]; exact (show va_P D vwCl (wX cI cZ x_ a_ S00) _ from hP), va_K.moved hW.alike hK_⟩, (show va_D A (wX cI cZ x_ a_ S00) from hD)⟩, hS_.F ht⟩) hS_.2.2 dX0_init_129
end
section
/-! every call keeps the invariant -/
theorem cif_elim {α : Type} {c : Prop} {a b : α} (P : α → Prop) (ht : c → P a) (hf : ¬ c → P b) : P (cif c a b) := by
  by_cases h : c
  · rw [cif_t h]; exact ht h
  · rw [cif_f h]; exact hf h
theorem InvC.add {S : ST} (h : InvC S) {k p o w : Int32} (hk : ¬ k < 0 ∧ k ≤ 4) (hp : vp_in p 6) (ho : k = 2 ∨ k = 4 → vp_in o 6) (hw : w = -1 ∨ vp_in w (many S)) (hlt : S 10 0 < 24) :
    InvC (row (row (row (row (row (row S 4 (upd (S 4) (many S) k)) 5 (upd (S 5) (many S) p)) 6 (upd (S 6) (many S) o)) 7 (upd (S 7) (many S) w)) 8 (upd (S 8) (many S) 0)) 10 (kf (S 10 0 + 1))) := by
  obtain ⟨⟨hm_, he, hce⟩, hf, hod⟩ := h
  have hm2 : many S < 24 := by
    rw [fa_lt, he, nI_toInt (by omega), show (24 : Int32).toInt = 24 from rfl] at hlt
    omega
  have e10_ : S 10 0 + 1 = nI (many S + 1) := by rw [he]; exact nI_1 _
  have hmT : (S 10 0 + 1).toNatClampNeg = many S + 1 := by rw [e10_]; exact nI_clamp (by omega)
  have hcN : cN (upd (S 8) (many S) 0) 1 (many S + 1) = cN (S 8) 1 (many S) := by
    have hnn : ¬ upd (S 8) (many S) 0 (many S) = 1 := by rw [pk_us]; decide
    have hst : cN (upd (S 8) (many S) 0) 1 (many S + 1) = cif (upd (S 8) (many S) 0 (many S) = 1) (cN (upd (S 8) (many S) 0) 1 (many S) + 1) (cN (upd (S 8) (many S) 0) 1 (many S)) := rfl
    rw [hst, cif_f hnn]
    exact cN_cong (f := upd (S 8) (many S) 0) (g := S 8) (v := 1) (fun j hj => by rw [pk_un (show j ≠ many S by omega)])
  refine ⟨⟨?_, ?_, ?_⟩, fun j hj => ?_, fun j hj => ?_⟩
  · show (S 10 0 + 1).toNatClampNeg ≤ 24
    omega
  · show S 10 0 + 1 = nI (S 10 0 + 1).toNatClampNeg
    rw [hmT]; exact e10_
  · show S 11 0 = nI (cN (upd (S 8) (many S) 0) 1 (S 10 0 + 1).toNatClampNeg)
    rw [hmT, hcN]; exact hce
  · have hj2 : j < many S + 1 := by rw [← hmT]; exact hj
    show (0 ≤ (upd (S 4) (many S) k j).toInt ∧ (upd (S 4) (many S) k j).toInt ≤ 4) ∧ vp_in (upd (S 5) (many S) p j) 6 ∧ (upd (S 4) (many S) k j = 2 ∨ upd (S 4) (many S) k j = 4 → vp_in (upd (S 6) (many S) o j) 6) ∧ (upd (S 7) (many S) w j = -1 ∨ vp_in (upd (S 7) (many S) w j) j) ∧ (upd (S 8) (many S) 0 j = 0 ∨ upd (S 8) (many S) 0 j = 1 ∨ upd (S 8) (many S) 0 j = 2)
    by_cases e : j = many S
    · rw [e, pk_us, pk_us, pk_us, pk_us, pk_us]
      refine ⟨?_, hp, ho, hw, Or.inl rfl⟩
      have h1 := hk.1
      have h2 := hk.2
      rw [fa_lt, show (0 : Int32).toInt = 0 from rfl] at h1
      rw [fa_le, show (4 : Int32).toInt = 4 from rfl] at h2
      omega
    · rw [pk_un e, pk_un e, pk_un e, pk_un e, pk_un e]
      exact hf j (by omega)
  · have hj2 : j < cN (S 8) 1 (many S) := by
      have hj3 : j < cN (upd (S 8) (many S) 0) 1 (S 10 0 + 1).toNatClampNeg := hj
      rw [hmT, hcN] at hj3
      exact hj3
    show vp_in (S 9 j) (S 10 0 + 1).toNatClampNeg
    rw [hmT]
    exact vin_mono (hod j hj2) (by omega)
theorem InvC.states {S : ST} (h : InvC S) {g : Nat → Int32} (hg : ∀ i, g i = S 8 i ∨ (S 8 i = 0 ∧ g i = 2)) : InvC (row S 8 g) := by
  obtain ⟨⟨hm_, he, hce⟩, hf, hod⟩ := h
  have hc_ : cN g 1 (many S) = cN (S 8) 1 (many S) := cN_cong (fun k _ => by
    rcases hg k with e | ⟨e1_, e2_⟩
    · rw [e]
    · rw [e1_, e2_]; decide)
  refine ⟨⟨hm_, he, ?_⟩, fun k hk => ?_, fun k hk => ?_⟩
  · show S 11 0 = nI (cN g 1 (many S))
    rw [hc_]; exact hce
  · obtain ⟨a1, a2, a3, a4, a5⟩ := hf k hk
    refine ⟨a1, a2, a3, a4, ?_⟩
    show g k = 0 ∨ g k = 1 ∨ g k = 2
    rcases hg k with e | ⟨e1_, e2_⟩
    · rw [e]; exact a5
    · exact Or.inr (Or.inr e2_)
  · have hk2 : k < cN g 1 (many S) := hk
    rw [hc_] at hk2
    exact hod k hk2
theorem ms_keep (S : ST) : ∀ (d : Nat) (f : Nat → Int32) (n : Int32) (j i : Nat), (ms S f n j d).1 i = f i ∨ (f i = 0 ∧ (ms S f n j d).1 i = 2)
  | 0, f, n, j, i => Or.inl rfl
  | d + 1, f, n, j, i => by
    rw [ms]
    by_cases q : f j = 0 ∧ S 7 j ≠ -1 ∧ f (S 7 j).toNatClampNeg = 2
    · rw [cif_t q]
      rcases ms_keep S d (upd f j 2) (n + 1) (j + 1) i with e | ⟨e1_, e2_⟩
      · rw [e]
        by_cases z : i = j
        · rw [z, pk_us]; exact Or.inr ⟨q.1, rfl⟩
        · rw [pk_un z]; exact Or.inl rfl
      · by_cases z : i = j
        · rw [z, pk_us] at e1_; exact absurd e1_ (by decide)
        · rw [pk_un z] at e1_; exact Or.inr ⟨e1_, e2_⟩
    · rw [cif_f q]
      exact ms_keep S d f n (j + 1) i
theorem InvC.empty {S : ST} (h10 : S 10 0 = 0) (h11 : S 11 0 = 0) : InvC S := by
  have hm_ : many S = 0 := by
    show (S 10 0).toNatClampNeg = 0
    rw [h10]; rfl
  refine ⟨⟨by rw [hm_]; omega, by rw [hm_, h10]; exact nI_0.symm, by rw [hm_, h11]; exact nI_0.symm⟩, fun k hk => ?_, fun k hk => ?_⟩
  · rw [hm_] at hk; exact absurd hk (Nat.not_lt_zero k)
  · rw [hm_] at hk; exact absurd hk (Nat.not_lt_zero k)
theorem keep_dress {B : Nat} {S : ST} (h : Inv B S) (p c : Int32) : Inv B (k_dress S p c).2.2 :=
  cif_elim (fun z : KR => Inv B z.2.2) (fun h1 => cif_elim (fun z : KR => Inv B z.2.2) (fun _ => cif_elim (fun z : KR => Inv B z.2.2)
    (fun h3 => Inv.mk (h.a.dress h1.1 h1.2 h3.1 h3.2.1 h3.2.2) h.u1 (h.c.other rfl rfl rfl rfl rfl rfl rfl rfl) h.d) (fun _ => h)) (fun _ => h)) (fun _ => h)
theorem keep_repair {B : Nat} {S : ST} (h : Inv B S) (c : Int32) : Inv B (k_repair S c).2.2 :=
  cif_elim (fun z : KR => Inv B z.2.2) (fun h1 => cif_elim (fun z : KR => Inv B z.2.2)
    (fun h3 => Inv.mk (h.a.repair _) h.u1 (h.c.other rfl rfl rfl rfl rfl rfl rfl rfl) (by
      refine ⟨h.i13, ?_⟩
      show 0 ≤ (S 14 0 - S 3 c.toNatClampNeg).toInt ∧ (S 14 0 - S 3 c.toNatClampNeg).toInt ≤ B
      have a1 := h.i3 _ (vin_lt h1)
      have a2 := h.i14
      have a3 := h3.2
      have a4 := fb_rng (S 14 0)
      rw [fa_le] at a3
      rw [fb_subI] <;> omega)) (fun _ => h)) (fun _ => h)
theorem keep_addCue {B : Nat} {S : ST} (h : Inv B S) (k p o w : Int32) : Inv B (k_addCue S k p o w).2.2 :=
  cif_elim (fun z : KR => Inv B z.2.2) (fun h1 => cif_elim (fun z : KR => Inv B z.2.2) (fun h2 => cif_elim (fun z : KR => Inv B z.2.2)
    (fun h3 => Inv.mk h.a h.u1 (h.c.add h1 h2.1 h2.2.1 h2.2.2 h3.1) h.d) (fun _ => h)) (fun _ => h)) (fun _ => h)
theorem keep_call {B : Nat} {S : ST} (h : Inv B S) (q : Int32) : Inv B (k_call S q).2.2 :=
  cif_elim (fun z : KR => Inv B z.2.2) (fun h1 => cif_elim (fun z : KR => Inv B z.2.2) (fun h2 => h.call h1 h2) (fun _ => h)) (fun _ => h)
theorem keep_run {B : Nat} {S : ST} (h : Inv B S) : Inv B (k_run S).2.2 := inv_runN 24 h
theorem keep_miss {B : Nat} {S : ST} (h : Inv B S) (q : Int32) : Inv B (k_miss S q).2.2 :=
  cif_elim (fun z : KR => Inv B z.2.2) (fun h1 => cif_elim (fun z : KR => Inv B z.2.2)
    (fun h2 => Inv.mk h.a h.u1 (h.c.states (fun i => by
      rcases ms_keep S (many S - (q.toNatClampNeg + 1)) (upd (S 8) q.toNatClampNeg 2) 1 (q.toNatClampNeg + 1) i with e | ⟨e1_, e2_⟩
      · rw [e]
        by_cases z : i = q.toNatClampNeg
        · rw [z, pk_us]; exact Or.inr ⟨h2, rfl⟩
        · rw [pk_un z]; exact Or.inl rfl
      · by_cases z : i = q.toNatClampNeg
        · rw [z, pk_us] at e1_; exact absurd e1_ (by decide)
        · rw [pk_un z] at e1_; exact Or.inr ⟨e1_, e2_⟩)) h.d) (fun _ => h)) (fun _ => h)
theorem keep_maskByCues {B : Nat} {S : ST} (h : Inv B S) (p : Int32) : Inv B (k_maskByCues S p).2.2 :=
  cif_elim (fun z : KR => Inv B z.2.2) (fun _ => Inv.mk h.a h.u1 (h.c.other rfl rfl rfl rfl rfl rfl rfl rfl) h.d) (fun _ => h)
theorem keep_guess {B : Nat} {S : ST} (h : Inv B S) (g p m : Int32) : Inv B (k_guess S g p m).2.2 :=
  cif_elim (fun z : KR => Inv B z.2.2) (fun _ => cif_elim (fun z : KR => Inv B z.2.2)
    (fun _ => Inv.mk h.a h.u1 (h.c.other rfl rfl rfl rfl rfl rfl rfl rfl) ⟨fun k hk => by
      show upd (S 13) (g * 6 + p).toNatClampNeg 1 k = 0 ∨ upd (S 13) (g * 6 + p).toNatClampNeg 1 k = 1
      by_cases e : k = (g * 6 + p).toNatClampNeg
      · rw [e, pk_us]; exact Or.inr rfl
      · rw [pk_un e]; exact h.i13 k hk, h.i14⟩) (fun _ => h)) (fun _ => h)
theorem purse_in {B : Nat} {S : ST} (h : Inv B S) (hB_ : B ≤ 100000) : 0 ≤ (purseE S).toInt ∧ (purseE S).toInt ≤ ((B + 24 : Nat) : Int) := by
  have hm_ := h.m24
  have h1 := cN_le (S 8) 1 (many S)
  have h2 := cN_le (S 8) 2 (many S)
  have hp := h.i14
  unfold purseE
  rw [h.ce]
  generalize cN (S 8) 1 (many S) = c1 at h1 ⊢
  generalize cN (S 8) 2 (many S) = c2 at h2 ⊢
  have e1_ : (nI c1).toInt = c1 := nI_toInt (by omega)
  have e2_ : (nI c2).toInt = c2 := nI_toInt (by omega)
  have e3_ : (S 14 0 + nI c1).toInt = (S 14 0).toInt + c1 := by rw [fb_addI] <;> rw [e1_] <;> omega
  have e4_ : (S 14 0 + nI c1 - nI c2).toInt = (S 14 0).toInt + c1 - c2 := by rw [fb_subI] <;> rw [e3_, e2_] <;> omega
  by_cases q : S 14 0 + nI c1 < nI c2
  · rw [cif_t q, show (0 : Int32).toInt = 0 from rfl]
    omega
  · rw [cif_f q, e4_]
    rw [fa_lt, e3_, e2_] at q
    omega
theorem keep_endPlay {B : Nat} {S : ST} (h : Inv B S) (hB_ : B ≤ 100000) : Inv (B + 24) (k_endPlay S).2.2 :=
  cif_elim (fun z : KR => Inv (B + 24) z.2.2) (fun _ => Inv.mk h.a.clear (uq.clear _) (InvC.empty rfl rfl) ⟨fun k hk => by
    show fa_fill (fun _ => 0) (S 13) 18 k = 0 ∨ _
    rw [fa_fill_in hk]; exact Or.inl rfl, purse_in h hB_⟩) (fun _ => h.mono (by omega))
theorem Inv.new : Inv 10 S00 := by
  refine Inv.mk ⟨fun k hk => ?_, uq.clear _, fun k _ => Or.inl rfl, fun k _ hs => absurd rfl hs, fun x _ => ?_, fun k hk hck => ?_⟩ (uq.clear _) (InvC.empty rfl rfl) ⟨fun k _ => Or.inl rfl, ?_⟩
  · show fa_fill (fun _ => -1) (fun _ => 0) 6 k = -1 ∨ _
    rw [fa_fill_in hk]; exact Or.inl rfl
  · show 0 ≤ (0 : Int32).toInt ∧ (0 : Int32).toInt ≤ 3
    decide
  · rw [show S00 0 k = fa_fill (fun _ => -1) (fun _ => 0) 6 k from rfl, fa_fill_in hk] at hck
    exact absurd rfl hck
  · show 0 ≤ (10 : Int32).toInt ∧ (10 : Int32).toInt ≤ ((10 : Nat) : Int)
    decide
end
section
/-! WHAT THE LAW OF p23 NEEDS OF A STATE, beside Inv -/
def Lnk (S : ST) (f : Nat → Int32) : Prop := ∀ k, k < many S → f k = S 7 k
def Sm (S : ST) : Int32 := S 12 0 + S 12 1 + S 12 2
def okM (S : ST) : Prop := ∀ k, k < 6 → S 1 k = -1 ∨ vp_in (S 1 k) 6
def okF (S : ST) : Prop := ∀ k, k < 6 → S 0 k ≠ -1 → (k : Int) ≤ (S 0 k).toInt ∧ (S 0 k).toInt ≤ (k : Int) + 2
def okR (S : ST) : Prop := ∀ k, k < 6 → rpN S (cN (S 8) 1 (many S)) k = S 1 k
def okC (S : ST) : Prop := ∀ q, q < many S → S 7 q ≠ -1 → (S 8 (S 7 q).toNatClampNeg = 2 → S 8 q = 2) ∧ (S 8 q = 1 → S 8 (S 7 q).toNatClampNeg = 1)
def Good (B : Nat) (S : ST) : Prop := Inv B S ∧ okM S ∧ okF S ∧ okR S ∧ okC S
theorem mv6 {S T : ST} {k : Nat} {f g : Nat → Int32} (h4 : T 4 k = S 4 k) (h5 : T 5 k = S 5 k) (h6 : T 6 k = S 6 k) (hp : vp_in (S 5 k) 6) (ho : S 4 k = 4 → vp_in (S 6 k) 6) (hfg : ∀ j, j < 6 → f j = g j) : ∀ j, j < 6 → mv T k f j = mv S k g j := by
  intro j hj
  by_cases e2_ : S 4 k = 2
  · rw [mv2 (h4.trans e2_), mv2 e2_, h5, h6]
    by_cases z : j = (S 5 k).toNatClampNeg
    · rw [z, pk_us, pk_us]
    · rw [pk_un z, pk_un z]; exact hfg j hj
  · by_cases e3_ : S 4 k = 3
    · rw [mv3 (h4.trans e3_), mv3 e3_, h5]
      by_cases z : j = (S 5 k).toNatClampNeg
      · rw [z, pk_us, pk_us]
      · rw [pk_un z, pk_un z]; exact hfg j hj
    · by_cases e4_ : S 4 k = 4
      · have ha := vin_lt hp
        have hb := vin_lt (ho e4_)
        rw [mv4 (h4.trans e4_), mv4 e4_, h5, h6, hfg _ ha, hfg _ hb]
        by_cases z : j = (S 6 k).toNatClampNeg
        · rw [z, pk_us, pk_us]
        · rw [pk_un z, pk_un z]
          by_cases y : j = (S 5 k).toNatClampNeg
          · rw [y, pk_us, pk_us]
          · rw [pk_un y, pk_un y]; exact hfg j hj
      · rw [mvn (fun z => e2_ (h4.symm.trans z)) (fun z => e3_ (h4.symm.trans z)) (fun z => e4_ (h4.symm.trans z)), mvn e2_ e3_ e4_]
        exact hfg j hj
theorem rpN_eq {S T : ST} : ∀ (n : Nat), (∀ k, k < n → T 9 k = S 9 k) → (∀ k, k < n → T 4 (S 9 k).toNatClampNeg = S 4 (S 9 k).toNatClampNeg ∧ T 5 (S 9 k).toNatClampNeg = S 5 (S 9 k).toNatClampNeg ∧ T 6 (S 9 k).toNatClampNeg = S 6 (S 9 k).toNatClampNeg) → (∀ k, k < n → vp_in (S 5 (S 9 k).toNatClampNeg) 6 ∧ (S 4 (S 9 k).toNatClampNeg = 4 → vp_in (S 6 (S 9 k).toNatClampNeg) 6)) → ∀ j, j < 6 → rpN T n j = rpN S n j
  | 0, _, _, _, j, hj => by
    show fa_fill (fun _ => -1) (T 16) 6 j = fa_fill (fun _ => -1) (S 16) 6 j
    rw [fa_fill_in hj, fa_fill_in hj]
  | n + 1, h9, hr, hv, j, hj => by
    have ih_ := rpN_eq n (fun k hk => h9 k (by omega)) (fun k hk => hr k (by omega)) (fun k hk => hv k (by omega))
    have hn := Nat.lt_succ_self n
    show mv T (T 9 n).toNatClampNeg (rpN T n) j = mv S (S 9 n).toNatClampNeg (rpN S n) j
    rw [h9 n hn]
    exact mv6 (hr n hn).1 (hr n hn).2.1 (hr n hn).2.2 (hv n hn).1 (hv n hn).2 ih_ j hj
theorem rp_idx {B : Nat} {S : ST} (h : Inv B S) : ∀ k, k < cN (S 8) 1 (many S) → vp_in (S 5 (S 9 k).toNatClampNeg) 6 ∧ (S 4 (S 9 k).toNatClampNeg = 4 → vp_in (S 6 (S 9 k).toNatClampNeg) 6) := fun k hk =>
  ⟨(h.cf _ (vin_lt (h.i9 k hk))).2.1, fun z => (h.cf _ (vin_lt (h.i9 k hk))).2.2.1 (Or.inr z)⟩
theorem okR.to {B : Nat} {S T : ST} (hI : Inv B S) (h : okR S) (hc_ : cN (T 8) 1 (many T) = cN (S 8) 1 (many S)) (h1 : ∀ k, k < 6 → T 1 k = S 1 k) (h9 : ∀ k, k < cN (S 8) 1 (many S) → T 9 k = S 9 k) (hr : ∀ k, k < many S → T 4 k = S 4 k ∧ T 5 k = S 5 k ∧ T 6 k = S 6 k) : okR T := by
  intro k hk
  rw [hc_, h1 k hk, rpN_eq (S := S) _ h9 (fun j hj => hr _ (vin_lt (hI.i9 j hj))) (rp_idx hI) k hk]
  exact h k hk
theorem good_dress {B : Nat} {S : ST} (h : Good B S) {p c : Int32} (hp : vp_in p 6) (hx : vp_in c 8) (hf : (p.toNatClampNeg : Int) ≤ c.toInt ∧ c.toInt ≤ (p.toNatClampNeg : Int) + 2) (h2 : S 2 p.toNatClampNeg = 0) (ho : fI (S 0) c = -1 ∨ fI (S 0) c = p) (hw : S 3 c.toNatClampNeg < 3) : Good B (row S 0 (upd (S 0) p.toNatClampNeg c)) := by
  obtain ⟨hI, hM, hF, hR, hC⟩ := h
  refine ⟨Inv.mk (hI.a.dress hp hx h2 ho hw) hI.u1 (hI.c.other rfl rfl rfl rfl rfl rfl rfl rfl) hI.d, hM, fun k hk hne => ?_, hR.to hI rfl (fun _ _ => rfl) (fun _ _ => rfl) (fun _ _ => ⟨rfl, rfl, rfl⟩), hC⟩
  show (k : Int) ≤ (upd (S 0) p.toNatClampNeg c k).toInt ∧ (upd (S 0) p.toNatClampNeg c k).toInt ≤ (k : Int) + 2
  by_cases e : k = p.toNatClampNeg
  · rw [e, pk_us]; exact hf
  · rw [pk_un e]
    refine hF k hk (fun z => hne ?_)
    show upd (S 0) p.toNatClampNeg c k = -1
    rw [pk_un e]; exact z
/-! a cue is called -/
theorem callQ_8 (S : ST) (q : Int32) : callQ S q 8 = upd (S 8) q.toNatClampNeg 1 := rfl
theorem act_other {S : ST} {k r : Nat} (h0 : r ≠ 0) (h1 : r ≠ 1) (h2 : r ≠ 2) (h3 : r ≠ 3) : act S k r = S r := by
  unfold act
  by_cases e0 : S 4 k = 0
  · rw [cif_t e0, row_ne h2]
  · rw [cif_f e0]
    by_cases e1_ : S 4 k = 1
    · rw [cif_t e1_, leave_other h0 h2 h3]
    · rw [cif_f e1_, row_ne h1]
theorem callQ_other {S : ST} {q : Int32} {r : Nat} (h0 : r ≠ 0) (h1 : r ≠ 1) (h2 : r ≠ 2) (h3 : r ≠ 3) (h8 : r ≠ 8) (h9 : r ≠ 9) (h11 : r ≠ 11) : callQ S q r = S r := by
  unfold callQ
  rw [row_ne h11, row_ne h9, row_ne h8, act_other h0 h1 h2 h3]
theorem callQ_r1 (S : ST) (q : Int32) : callQ S q 1 = mv S q.toNatClampNeg (S 1) := by
  by_cases e0 : S 4 q.toNatClampNeg = 0
  · rw [callQ_0 e0, mvn (by rw [e0]; decide) (by rw [e0]; decide) (by rw [e0]; decide), row_ne (by decide), row_ne (by decide), row_ne (by decide), row_ne (by decide)]
  · by_cases e1_ : S 4 q.toNatClampNeg = 1
    · rw [callQ_1 e1_, mvn (by rw [e1_]; decide) (by rw [e1_]; decide) (by rw [e1_]; decide), row_ne (by decide), row_ne (by decide), row_ne (by decide)]
      exact leave_other (by decide) (by decide) (by decide)
    · rw [callQ_m e0 e1_, row_ne (by decide), row_ne (by decide), row_ne (by decide), row_same]
theorem callQ_r0 (S : ST) (q : Int32) (k : Nat) : callQ S q 0 k = S 0 k ∨ callQ S q 0 k = -1 := by
  by_cases e0 : S 4 q.toNatClampNeg = 0
  · rw [callQ_0 e0, row_ne (by decide), row_ne (by decide), row_ne (by decide), row_ne (by decide)]; exact Or.inl rfl
  · by_cases e1_ : S 4 q.toNatClampNeg = 1
    · rw [callQ_1 e1_, row_ne (by decide), row_ne (by decide), row_ne (by decide)]
      unfold leave
      rw [row_same]
      by_cases e3_ : 3 ≤ S 3 (S 0 (S 5 q.toNatClampNeg).toNatClampNeg).toNatClampNeg + 1
      · rw [cif_t e3_]
        by_cases z : k = (S 5 q.toNatClampNeg).toNatClampNeg
        · rw [z, pk_us]; exact Or.inr rfl
        · rw [pk_un z]; exact Or.inl rfl
      · rw [cif_f e3_]; exact Or.inl rfl
    · rw [callQ_m e0 e1_, row_ne (by decide), row_ne (by decide), row_ne (by decide), row_ne (by decide)]; exact Or.inl rfl
theorem mv_ok {S : ST} {k : Nat} (hcf : cueF S k) (h : okM S) : ∀ j, j < 6 → mv S k (S 1) j = -1 ∨ vp_in (mv S k (S 1) j) 6 := by
  intro j hj
  obtain ⟨-, hp, ho, -, -⟩ := hcf
  by_cases e2_ : S 4 k = 2
  · rw [mv2 e2_]
    by_cases z : j = (S 5 k).toNatClampNeg
    · rw [z, pk_us]; exact Or.inr (ho (Or.inl e2_))
    · rw [pk_un z]; exact h j hj
  · by_cases e3_ : S 4 k = 3
    · rw [mv3 e3_]
      by_cases z : j = (S 5 k).toNatClampNeg
      · rw [z, pk_us]; exact Or.inl rfl
      · rw [pk_un z]; exact h j hj
    · by_cases e4_ : S 4 k = 4
      · rw [mv4 e4_]
        by_cases z : j = (S 6 k).toNatClampNeg
        · rw [z, pk_us]; exact h _ (vin_lt hp)
        · rw [pk_un z]
          by_cases y : j = (S 5 k).toNatClampNeg
          · rw [y, pk_us]; exact h _ (vin_lt (ho (Or.inr e4_)))
          · rw [pk_un y]; exact h j hj
      · rw [mvn e2_ e3_ e4_]; exact h j hj
theorem ce_clamp {B : Nat} {S : ST} (hI : Inv B S) : (S 11 0).toNatClampNeg = cN (S 8) 1 (many S) := by
  have hm_ := hI.m24
  have h1 := cN_le (S 8) 1 (many S)
  rw [hI.ce]; exact nI_clamp (by omega)
theorem good_call {B : Nat} {S : ST} (h : Good B S) {q : Int32} (hq : vp_in q (many S)) (hc_ : cal S q.toNatClampNeg) : Good B (callQ S q) := by
  obtain ⟨hI, hM, hF, hR, hC⟩ := h
  have hk := vin_lt hq
  have hcf := hI.cf _ hk
  have e10_ : callQ S q 10 = S 10 := callQ_other (by decide) (by decide) (by decide) (by decide) (by decide) (by decide) (by decide)
  have e4_ : callQ S q 4 = S 4 := callQ_other (by decide) (by decide) (by decide) (by decide) (by decide) (by decide) (by decide)
  have e5_ : callQ S q 5 = S 5 := callQ_other (by decide) (by decide) (by decide) (by decide) (by decide) (by decide) (by decide)
  have e6_ : callQ S q 6 = S 6 := callQ_other (by decide) (by decide) (by decide) (by decide) (by decide) (by decide) (by decide)
  have e7_ : callQ S q 7 = S 7 := callQ_other (by decide) (by decide) (by decide) (by decide) (by decide) (by decide) (by decide)
  have em_ : many (callQ S q) = many S := by
    show (callQ S q 10 0).toNatClampNeg = (S 10 0).toNatClampNeg
    rw [e10_]
  have h81 : S 8 q.toNatClampNeg ≠ 1 := by rw [hc_.1]; decide
  have ec_ : cN (callQ S q 8) 1 (many (callQ S q)) = cN (S 8) 1 (many S) + 1 := by rw [em_, callQ_8]; exact cN_put h81 hk
  have ecc := ce_clamp hI
  refine ⟨hI.call hq hc_, ?_, ?_, ?_, ?_⟩
  · intro k hk6
    rw [callQ_r1]
    exact mv_ok hcf hM k hk6
  · intro k hk6 hne
    rcases callQ_r0 S q k with e | e
    · rw [e] at hne ⊢; exact hF k hk6 hne
    · exact absurd e hne
  · intro k hk6
    rw [ec_]
    show mv (callQ S q) (callQ S q 9 (cN (S 8) 1 (many S))).toNatClampNeg (rpN (callQ S q) (cN (S 8) 1 (many S))) k = callQ S q 1 k
    have e9_ : callQ S q 9 (cN (S 8) 1 (many S)) = q := by
      show upd (S 9) (S 11 0).toNatClampNeg q (cN (S 8) 1 (many S)) = q
      rw [ecc, pk_us]
    rw [e9_, callQ_r1]
    refine mv6 (by rw [e4_]) (by rw [e5_]) (by rw [e6_]) hcf.2.1 (fun z => hcf.2.2.1 (Or.inr z)) (fun j hj => ?_) k hk6
    rw [rpN_eq (S := S) (T := callQ S q) (cN (S 8) 1 (many S)) (fun i hi => by
      show upd (S 9) (S 11 0).toNatClampNeg q i = S 9 i
      rw [ecc, pk_un (by omega)]) (fun i hi => ⟨by rw [e4_], by rw [e5_], by rw [e6_]⟩) (rp_idx hI) j hj]
    exact hR j hj
  · intro i hi hne
    rw [em_] at hi
    rw [e7_] at hne ⊢
    obtain ⟨c1, c2⟩ := hC i hi hne
    rw [callQ_8]
    constructor
    · intro z
      have nw : (S 7 i).toNatClampNeg ≠ q.toNatClampNeg := fun y => by
        rw [y, pk_us] at z; exact absurd z (by decide)
      rw [pk_un nw] at z
      have z2 := c1 z
      have ni : i ≠ q.toNatClampNeg := fun y => by
        rw [y, hc_.1] at z2; exact absurd z2 (by decide)
      rw [pk_un ni]; exact z2
    · intro z
      by_cases nw : (S 7 i).toNatClampNeg = q.toNatClampNeg
      · rw [nw, pk_us]
      · rw [pk_un nw]
        by_cases ni : i = q.toNatClampNeg
        · subst ni
          exact hc_.2.1.resolve_left hne
        · rw [pk_un ni] at z; exact c2 z
theorem good_runN {B : Nat} : ∀ (n : Nat) {S : ST}, Good B S → Good B (runN n S)
  | 0, _, h => h
  | n + 1, S, h => by
    rw [runN]
    by_cases q : fstN (cal S) (many S) < many S
    · rw [cif_t q]
      have hm_ := h.1.m24
      exact good_runN n (good_call h (vp_in_nI q (by omega)) (by rw [nI_clamp (by omega)]; exact fstN_yes _ _ q))
    · rw [cif_f q]; exact h
theorem runN_other {r : Nat} (h0 : r ≠ 0) (h1 : r ≠ 1) (h2 : r ≠ 2) (h3 : r ≠ 3) (h8 : r ≠ 8) (h9 : r ≠ 9) (h11 : r ≠ 11) : ∀ (n : Nat) (S : ST), runN n S r = S r
  | 0, _ => rfl
  | n + 1, S => by
    rw [runN]
    by_cases q : fstN (cal S) (many S) < many S
    · rw [cif_t q, runN_other h0 h1 h2 h3 h8 h9 h11 n, callQ_other h0 h1 h2 h3 h8 h9 h11]
    · rw [cif_f q]
theorem c11_in {B : Nat} {S : ST} (h : Inv B S) : 0 ≤ (S 11 0).toInt ∧ (S 11 0).toInt ≤ 24 := by
  have hm_ := h.m24
  have h1 := cN_le (S 8) 1 (many S)
  rw [h.ce, nI_toInt (by omega)]
  omega
theorem runN_11 {B : Nat} : ∀ (n : Nat) {S : ST}, Inv B S → (S 11 0).toInt ≤ (runN n S 11 0).toInt
  | 0, _, _ => Int.le_refl _
  | n + 1, S, h => by
    rw [runN]
    by_cases q : fstN (cal S) (many S) < many S
    · rw [cif_t q]
      have hm_ := h.m24
      have hI2 := h.call (q := nI (fstN (cal S) (many S))) (vp_in_nI q (by omega)) (by rw [nI_clamp (by omega)]; exact fstN_yes _ _ q)
      have ih_ := runN_11 n hI2
      have b1 := c11_in h
      rw [callQ_11] at ih_
      have e1_ : (1 : Int32).toInt = 1 := rfl
      rw [fb_addI (by rw [e1_]; omega) (by rw [e1_]; omega), e1_] at ih_
      omega
    · rw [cif_f q]; exact Int.le_refl _
theorem run_nneg {B : Nat} {S : ST} (h : Inv B S) : ¬ (runN 24 S 11 0 - S 11 0) < 0 := by
  have h1 := runN_11 24 h
  have h2 := c11_in h
  have h3 := c11_in (inv_runN 24 h)
  intro z
  rw [fa_lt, fb_subI (by omega) (by omega), show (0 : Int32).toInt = 0 from rfl] at z
  omega
/-! a cue is added -/
def addS (S : ST) (k p o w : Int32) : ST := row (row (row (row (row (row S 4 (upd (S 4) (many S) k)) 5 (upd (S 5) (many S) p)) 6 (upd (S 6) (many S) o)) 7 (upd (S 7) (many S) w)) 8 (upd (S 8) (many S) 0)) 10 (kf (S 10 0 + 1))
theorem add_many {B : Nat} {S : ST} (h : Inv B S) (hlt : S 10 0 < 24) (k p o w : Int32) : many S < 24 ∧ many (addS S k p o w) = many S + 1 := by
  have hm_ := h.m24
  have hm2 : many S < 24 := by
    rw [fa_lt, h.me, nI_toInt (by omega), show (24 : Int32).toInt = 24 from rfl] at hlt
    omega
  refine ⟨hm2, ?_⟩
  show (S 10 0 + 1).toNatClampNeg = many S + 1
  rw [h.me, nI_1]
  exact nI_clamp (by omega)
theorem good_add {B : Nat} {S : ST} (h : Good B S) {k p o w : Int32} (hk : ¬ k < 0 ∧ k ≤ 4) (hp : vp_in p 6) (ho : vp_in o 6) (hw : w = -1 ∨ vp_in w (many S)) (hlt : S 10 0 < 24) (hw2 : w = -1 ∨ S 8 w.toNatClampNeg ≠ 2) : Good B (addS S k p o w) := by
  obtain ⟨hI, hM, hF, hR, hC⟩ := h
  obtain ⟨hm2, hmT⟩ := add_many hI hlt k p o w
  have hcN : cN (upd (S 8) (many S) 0) 1 (many S + 1) = cN (S 8) 1 (many S) := by
    have hnn : ¬ upd (S 8) (many S) 0 (many S) = 1 := by rw [pk_us]; decide
    have hst : cN (upd (S 8) (many S) 0) 1 (many S + 1) = cif (upd (S 8) (many S) 0 (many S) = 1) (cN (upd (S 8) (many S) 0) 1 (many S) + 1) (cN (upd (S 8) (many S) 0) 1 (many S)) := rfl
    rw [hst, cif_f hnn]
    exact cN_cong (f := upd (S 8) (many S) 0) (g := S 8) (v := 1) (fun j hj => by rw [pk_un (show j ≠ many S by omega)])
  refine ⟨Inv.mk hI.a hI.u1 (hI.c.add hk hp (fun _ => ho) hw hlt) hI.d, hM, hF, ?_, ?_⟩
  · refine hR.to (T := addS S k p o w) hI ?_ (fun _ _ => rfl) (fun _ _ => rfl) (fun j hj => ⟨?_, ?_, ?_⟩)
    · rw [hmT]; exact hcN
    · show upd (S 4) (many S) k j = S 4 j
      exact pk_un (by omega)
    · show upd (S 5) (many S) p j = S 5 j
      exact pk_un (by omega)
    · show upd (S 6) (many S) o j = S 6 j
      exact pk_un (by omega)
  · intro i hi hne
    rw [hmT] at hi
    change upd (S 7) (many S) w i ≠ -1 at hne
    show (upd (S 8) (many S) 0 (upd (S 7) (many S) w i).toNatClampNeg = 2 → upd (S 8) (many S) 0 i = 2) ∧ (upd (S 8) (many S) 0 i = 1 → upd (S 8) (many S) 0 (upd (S 7) (many S) w i).toNatClampNeg = 1)
    by_cases e : i = many S
    · have ew : upd (S 7) (many S) w i = w := by rw [e]; exact pk_us
      have e8_ : upd (S 8) (many S) 0 i = 0 := by rw [e]; exact pk_us
      rw [ew] at hne ⊢
      have hv := vin_lt (hw.resolve_left hne)
      rw [e8_, pk_un (show w.toNatClampNeg ≠ many S by omega)]
      exact ⟨fun z => absurd z (hw2.resolve_left hne), fun z => absurd z (by decide)⟩
    · have hi2 : i < many S := by omega
      have ew : upd (S 7) (many S) w i = S 7 i := pk_un e
      have e8_ : upd (S 8) (many S) 0 i = S 8 i := pk_un e
      rw [ew] at hne ⊢
      have hv := vin_lt ((hI.cf i hi2).2.2.2.1.resolve_left hne)
      rw [e8_, pk_un (show (S 7 i).toNatClampNeg ≠ many S by omega)]
      exact hC i hi2 hne
theorem lnk_add {B : Nat} {S : ST} {f : Nat → Int32} (h : Inv B S) (hl_ : Lnk S f) (hlt : S 10 0 < 24) (k p o w : Int32) : Lnk (addS S k p o w) (upd f (many S) w) := by
  intro j hj
  rw [(add_many h hlt k p o w).2] at hj
  show upd f (many S) w j = upd (S 7) (many S) w j
  by_cases e : j = many S
  · rw [e, pk_us, pk_us]
  · rw [pk_un e, pk_un e]; exact hl_ j (by omega)
/-! a cue is missed, and what waits for it -/
theorem i32_cancel {a b c : Int32} (h : a + c = b + c) : a = b := by
  have h2 := congrArg Int32.toBitVec h
  rw [Int32.toBitVec_add, Int32.toBitVec_add] at h2
  exact Int32.toBitVec_inj.mp (BitVec.eq_of_toNat_eq (by
    have h3 := congrArg BitVec.toNat h2
    rw [BitVec.toNat_add, BitVec.toNat_add] at h3
    have h4 := a.toBitVec.isLt
    have h5 := b.toBitVec.isLt
    have h6 := c.toBitVec.isLt
    omega))
theorem ms_cnt (S : ST) (m : Nat) : ∀ (d : Nat) (f : Nat → Int32) (n : Int32) (j : Nat), j + d ≤ m → (ms S f n j d).2 + nI (cN f 2 m) = n + nI (cN (ms S f n j d).1 2 m)
  | 0, f, n, j, _ => rfl
  | d + 1, f, n, j, h => by
    rw [ms]
    by_cases q : f j = 0 ∧ S 7 j ≠ -1 ∧ f (S 7 j).toNatClampNeg = 2
    · rw [cif_t q]
      have ih_ := ms_cnt S m d (upd f j 2) (n + 1) (j + 1) (by omega)
      have ep : cN (upd f j 2) 2 m = cN f 2 m + 1 := cN_put (by rw [q.1]; decide) (by omega)
      rw [ep, ← nI_1] at ih_
      refine i32_cancel (c := 1) ?_
      rw [Int32.add_assoc, ih_, Int32.add_assoc, Int32.add_assoc, Int32.add_comm 1]
    · rw [cif_f q]
      exact ms_cnt S m d f n (j + 1) (by omega)
theorem ms_low (S : ST) : ∀ (d : Nat) (f : Nat → Int32) (n : Int32) (j i : Nat), i < j → (ms S f n j d).1 i = f i
  | 0, _, _, _, _, _ => rfl
  | d + 1, f, n, j, i, h => by
    rw [ms]
    by_cases q : f j = 0 ∧ S 7 j ≠ -1 ∧ f (S 7 j).toNatClampNeg = 2
    · rw [cif_t q, ms_low S d _ _ _ i (by omega), pk_un (by omega)]
    · rw [cif_f q, ms_low S d _ _ _ i (by omega)]
theorem ms_chain (S : ST) (hw : ∀ i, S 7 i ≠ -1 → i < 24 → True) : ∀ (d : Nat) (f : Nat → Int32) (n : Int32) (j i : Nat), j ≤ i → i < j + d → S 7 i ≠ -1 → (S 7 i).toNatClampNeg < i → f i ≠ 1 ∨ f (S 7 i).toNatClampNeg = 1 → (f i = 0 ∨ f i = 1 ∨ f i = 2) → (ms S f n j d).1 (S 7 i).toNatClampNeg = 2 → (ms S f n j d).1 i = 2
  | 0, f, n, j, i, h1, h2, _, _, _, _, _ => by exfalso; omega
  | d + 1, f, n, j, i, h1, h2, h3, h4, h5, h6, h7 => by
    rw [ms] at h7 ⊢
    by_cases e : i = j
    · by_cases q : f j = 0 ∧ S 7 j ≠ -1 ∧ f (S 7 j).toNatClampNeg = 2
      · rw [cif_t q, ms_low S d _ _ _ i (by omega), e, pk_us]
      · rw [cif_f q, ms_low S d _ _ _ _ (by omega)] at h7
        rw [cif_f q, ms_low S d _ _ _ i (by omega)]
        subst e
        rcases h6 with z | z | z
        · exact absurd ⟨z, h3, h7⟩ q
        · rcases h5 with y | y
          · exact absurd z y
          · rw [y] at h7; exact absurd h7 (by decide)
        · exact z
    · by_cases q : f j = 0 ∧ S 7 j ≠ -1 ∧ f (S 7 j).toNatClampNeg = 2
      · rw [cif_t q] at h7 ⊢
        refine ms_chain S hw d (upd f j 2) (n + 1) (j + 1) i (by omega) (by omega) h3 h4 ?_ ?_ h7
        · rw [pk_un e]
          rcases h5 with y | y
          · exact Or.inl y
          · refine Or.inr ?_
            have nj : (S 7 i).toNatClampNeg ≠ j := fun z => by
              rw [z, q.1] at y; exact absurd y (by decide)
            rw [pk_un nj]; exact y
        · rw [pk_un e]; exact h6
      · rw [cif_f q] at h7 ⊢
        exact ms_chain S hw d f n (j + 1) i (by omega) (by omega) h3 h4 h5 h6 h7
noncomputable abbrev missM (S : ST) (q : Int32) : (Nat → Int32) × Int32 := ms S (upd (S 8) q.toNatClampNeg 2) 1 (q.toNatClampNeg + 1) (many S - (q.toNatClampNeg + 1))
theorem miss_keep (S : ST) {q : Int32} (h2 : S 8 q.toNatClampNeg = 0) (i : Nat) : (missM S q).1 i = S 8 i ∨ (S 8 i = 0 ∧ (missM S q).1 i = 2) := by
  rcases ms_keep S (many S - (q.toNatClampNeg + 1)) (upd (S 8) q.toNatClampNeg 2) 1 (q.toNatClampNeg + 1) i with e | ⟨e1_, e2_⟩
  · rw [e]
    by_cases z : i = q.toNatClampNeg
    · rw [z, pk_us]; exact Or.inr ⟨h2, rfl⟩
    · rw [pk_un z]; exact Or.inl rfl
  · by_cases z : i = q.toNatClampNeg
    · rw [z, pk_us] at e1_; exact absurd e1_ (by decide)
    · rw [pk_un z] at e1_; exact Or.inr ⟨e1_, e2_⟩
theorem miss_self (S : ST) (q : Int32) : (missM S q).1 q.toNatClampNeg = 2 := by
  rw [ms_low S _ _ _ _ _ (Nat.lt_succ_self _), pk_us]
theorem good_miss {B : Nat} {S : ST} (h : Good B S) {q : Int32} (hq : vp_in q (many S)) (h2 : S 8 q.toNatClampNeg = 0) : Good B (row S 8 (missM S q).1) := by
  obtain ⟨hI, hM, hF, hR, hC⟩ := h
  have hk := vin_lt hq
  have hkp := miss_keep S h2
  have hcN : cN (missM S q).1 1 (many S) = cN (S 8) 1 (many S) := cN_cong (fun k _ => by
    rcases hkp k with e | ⟨e1_, e2_⟩
    · rw [e]
    · rw [e1_, e2_]; decide)
  refine ⟨Inv.mk hI.a hI.u1 (hI.c.states hkp) hI.d, hM, hF, hR.to (T := row S 8 (missM S q).1) hI hcN (fun _ _ => rfl) (fun _ _ => rfl) (fun _ _ => ⟨rfl, rfl, rfl⟩), ?_⟩
  intro i hi hne
  change i < many S at hi
  change S 7 i ≠ -1 at hne
  show ((missM S q).1 (S 7 i).toNatClampNeg = 2 → (missM S q).1 i = 2) ∧ ((missM S q).1 i = 1 → (missM S q).1 (S 7 i).toNatClampNeg = 1)
  obtain ⟨c1, c2⟩ := hC i hi hne
  have hcf := hI.cf i hi
  have hv := vin_lt (hcf.2.2.2.1.resolve_left hne)
  constructor
  · intro z
    rcases Nat.lt_or_ge q.toNatClampNeg i with y | y
    · refine ms_chain S (fun _ _ _ => trivial) _ _ _ _ i (by omega) (by omega) hne hv ?_ ?_ z
      · rw [pk_un (show i ≠ q.toNatClampNeg by omega)]
        by_cases e1_ : S 8 i = 1
        · refine Or.inr ?_
          have y1 := c2 e1_
          have nj : (S 7 i).toNatClampNeg ≠ q.toNatClampNeg := fun x_ => by
            rw [x_, h2] at y1; exact absurd y1 (by decide)
          rw [pk_un nj]; exact y1
        · exact Or.inl e1_
      · rw [pk_un (show i ≠ q.toNatClampNeg by omega)]; exact hcf.2.2.2.2
    · by_cases e : i = q.toNatClampNeg
      · rw [e]; exact miss_self S q
      · rw [ms_low S _ _ _ _ _ (by omega), pk_un (by omega)] at z
        rw [ms_low S _ _ _ _ _ (by omega), pk_un e]
        exact c1 z
  · intro z
    rcases hkp i with e | ⟨e1_, e2_⟩
    · rw [e] at z
      have y := c2 z
      rcases hkp (S 7 i).toNatClampNeg with x_ | ⟨x1, x2⟩
      · rw [x_]; exact y
      · rw [x1] at y; exact absurd y (by decide)
    · rw [e2_] at z; exact absurd z (by decide)
theorem miss_ans {S : ST} {q : Int32} (hq : vp_in q (many S)) (h2 : S 8 q.toNatClampNeg = 0) : (missM S q).2 = nI (cN (missM S q).1 2 (many S)) - nI (cN (S 8) 2 (many S)) := by
  have hk := vin_lt hq
  have h1 := ms_cnt S (many S) (many S - (q.toNatClampNeg + 1)) (upd (S 8) q.toNatClampNeg 2) 1 (q.toNatClampNeg + 1) (by omega)
  have ep : cN (upd (S 8) q.toNatClampNeg 2) 2 (many S) = cN (S 8) 2 (many S) + 1 := cN_put (by rw [h2]; decide) hk
  rw [ep, ← nI_1] at h1
  refine i32_cancel (c := nI (cN (S 8) 2 (many S))) ?_
  rw [Int32.sub_add_cancel]
  refine i32_cancel (c := 1) ?_
  rw [Int32.add_assoc, h1, Int32.add_comm]
/-! other calls -/
theorem good_mono {B B' : Nat} {S : ST} (h : Good B S) (hb : B ≤ B') : Good B' S := ⟨h.1.mono hb, h.2⟩
theorem good_end {B : Nat} {S : ST} (h : Good B S) (hB_ : B ≤ 100000) : Good (B + 24) (endS S) := by
  obtain ⟨hI, hM, hF, hR, hC⟩ := h
  have hm0 : many (endS S) = 0 := rfl
  refine ⟨Inv.mk hI.a.clear (uq.clear _) (InvC.empty rfl rfl) ⟨fun k hk => ?_, purse_in hI hB_⟩, fun k hk => Or.inl (show fa_fill (fun _ => -1) (S 1) 6 k = -1 from fa_fill_in hk), hF, fun k hk => ?_, fun q hq => ?_⟩
  · show fa_fill (fun _ => 0) (S 13) 18 k = 0 ∨ _
    rw [fa_fill_in hk]; exact Or.inl rfl
  · rw [hm0]
    show fa_fill (fun _ => -1) (S 16) 6 k = fa_fill (fun _ => -1) (S 1) 6 k
    rw [fa_fill_in hk, fa_fill_in hk]
  · rw [hm0] at hq; exact absurd hq (Nat.not_lt_zero q)
theorem good_16 {B : Nat} {S : ST} (h : Good B S) (g : Nat → Int32) : Good B (row S 16 g) := by
  obtain ⟨hI, hM, hF, hR, hC⟩ := h
  exact ⟨Inv.mk hI.a hI.u1 (hI.c.other rfl rfl rfl rfl rfl rfl rfl rfl) hI.d, hM, hF, hR.to (T := row S 16 g) hI rfl (fun _ _ => rfl) (fun _ _ => rfl) (fun _ _ => ⟨rfl, rfl, rfl⟩), hC⟩
theorem good_guess {B : Nat} {S : ST} (h : Good B S) (i : Nat) (g : Nat → Int32) : Good B (row (row S 13 (upd (S 13) i 1)) 12 g) := by
  obtain ⟨hI, hM, hF, hR, hC⟩ := h
  exact ⟨Inv.mk hI.a hI.u1 (hI.c.other rfl rfl rfl rfl rfl rfl rfl rfl) ⟨fun k hk => by
      show upd (S 13) i 1 k = 0 ∨ upd (S 13) i 1 k = 1
      by_cases e : k = i
      · rw [e, pk_us]; exact Or.inr rfl
      · rw [pk_un e]; exact hI.i13 k hk, hI.i14⟩, hM, hF, hR.to (T := row (row S 13 (upd (S 13) i 1)) 12 g) hI rfl (fun _ _ => rfl) (fun _ _ => rfl) (fun _ _ => ⟨rfl, rfl, rfl⟩), hC⟩
theorem good_new : Good 10 S00 := by
  have hm0 : many S00 = 0 := rfl
  refine ⟨Inv.new, fun k hk => Or.inl (show fa_fill (fun _ => -1) (fun _ => 0) 6 k = -1 from fa_fill_in hk), fun k hk hne => ?_, fun k hk => ?_, fun q hq => ?_⟩
  · exact absurd ((show S00 0 k = fa_fill (fun _ => -1) (fun _ => 0) 6 k from rfl).trans (fa_fill_in hk)) hne
  · rw [hm0]
    show fa_fill (fun _ => -1) (S00 16) 6 k = fa_fill (fun _ => -1) (fun _ => 0) 6 k
    rw [fa_fill_in hk, fa_fill_in hk]
  · rw [hm0] at hq; exact absurd hq (Nat.not_lt_zero q)
end
section
/-! THE LAW'S METHODS: their worlds and starts -/
abbrev wp (cI : ClassId) (pa : Nat) (f : Nat → Int32) : Nat × va_E := (pa, .inl (cI, 24, .inl f))
theorem xG.callA {A A' : Nat → Prop} {s U : State} {H : Heap} (h : xG A s H) (hA : ∀ q, A' q → A q) (hU : U.heap = H) (hW : s.WarmedH U.vm) : xG A' U U.heap := by
  subst hU
  refine ⟨(h.1.narrow hA).moved hW.alike, (h.2.1.narrow hA).moved hW.alike, fun w hw => ?_, fun q hq => ?_⟩
  · have h1 := h.2.2.1 w hw
    simp only [xB, List.mem_cons, List.not_mem_nil, or_false] at hw
    rcases hw with rfl | rfl | rfl | rfl | rfl | rfl
    · exact va_Nw.warmD hW h1
    · exact va_Nw.warmD hW h1
    · exact va_Nw.warmD hW h1
    · exact va_tabs rfl (rfl : (s.setVm U.vm).vm = U.vm) (by rw [Cond.castable_setVm hW.alike]; exact h1)
    · exact va_tabs rfl (rfl : (s.setVm U.vm).vm = U.vm) (by rw [Cond.castable_setVm hW.alike]; exact h1)
    · exact va_tabs rfl (rfl : (s.setVm U.vm).vm = U.vm) (by rw [Cond.castable_setVm hW.alike]; exact h1)
  · obtain ⟨sa, h1⟩ := h.2.2.2 q hq
    exact ⟨sa, h1.warm hW⟩
def pGA (ws : va_W) : State → Prop := fun U => xG (va_A ws U.heap.size) U U.heap
theorem pTA_S {B : State → Prop} {s : State} {H : Heap} {As : List Value} {A : Nat → Prop} {ws : va_W} (h : PreS s H (va_Pc As B) As) (hG : xG A s H) (hF : ∀ q, va_A ws H.size q → A q) : PreS s H (va_Pc As (fun U => B U ∧ pGA ws U)) As :=
  ⟨fun a U g mk q => ⟨q.1, (h.1 a U g mk ⟨q.1, q.2.1⟩).2, xG.blind q.2.2⟩, fun U hU hW => ⟨rfl, (h.2 U hU hW).2, hG.callA (by rw [hU]; exact hF) hU hW⟩⟩
def pX (b L : Nat) (xs : Nat → Int32) : State → Prop := fun U => va_X b L xs U U.heap
theorem pX_S {s : State} {H : Heap} {As : List Value} {b L : Nat} {xs : Nat → Int32} (hX : va_X b L xs s H) : PreS s H (va_Pc As (pX b L xs)) As :=
  ⟨fun a U g mk h => ⟨h.1, va_X.moved (u := U) (U := U.calling g mk a) (Vm.Alike.refl U.vm) h.2⟩, fun U hU hW => ⟨rfl, by
    show va_X b L xs U U.heap
    rw [hU]; exact va_X.moved hW.alike hX⟩⟩
/-! answers of the class's calls -/
theorem krd {c : Prop} {v r : Int32} {S T : ST} (hc_ : c) (h : cif c ((0 : Int32), v, S) ((1 : Int32), (0 : Int32), S) = (0, r, T)) : r = v := by
  rw [cif_t hc_] at h
  exact (Prod.mk.inj (Prod.mk.inj h).2).1.symm
theorem kne {c : Prop} {v : Int32} {S T : ST} (hc_ : c) (h : cif c ((0 : Int32), v, S) ((1 : Int32), (0 : Int32), S) = (1, 0, T)) : False := by
  rw [cif_t hc_] at h
  exact absurd (Prod.mk.inj h).1 (by decide)
theorem kin {K : KR} {v r : Int32} {T U : ST} (h : K = (0, v, T)) (h2 : K = (0, r, U)) : r = v ∧ U = T := by
  have h3 := Prod.mk.inj (Prod.mk.inj (h.symm.trans h2)).2
  exact ⟨h3.1.symm, h3.2.symm⟩
theorem knx {K : KR} {v n w : Int32} {T U : ST} (hn : (0 : Int32) ≠ n) (h : K = (0, v, T)) (h2 : K = (n, w, U)) : False := hn (Prod.mk.inj (h.symm.trans h2)).1
theorem k1x {K : KR} {v : Int32} {T U : ST} {E a : String} (h : K = (0, v, T)) (h2 : E = a ∧ K = (1, 0, U)) : False := knx (by decide) h h2.2
theorem k2x {K : KR} {v : Int32} {T U : ST} {E a b : String} (h : K = (0, v, T)) (h2 : (E = a ∧ K = (1, 0, U)) ∨ (E = b ∧ K = (2, 0, U))) : False := h2.elim (fun z => knx (by decide) h z.2) (fun z => knx (by decide) h z.2)
theorem k3x {K : KR} {v : Int32} {T U : ST} {E a b c : String} (h : K = (0, v, T)) (h2 : (E = a ∧ K = (1, 0, U)) ∨ (E = b ∧ K = (2, 0, U)) ∨ (E = c ∧ K = (3, 0, U))) : False := h2.elim (fun z => knx (by decide) h z.2) (fun z => z.elim (fun z => knx (by decide) h z.2) (fun z => knx (by decide) h z.2))
/-! numbers -/
theorem i32_half (x : Int32) : ∃ a : Nat, a < 2147483648 ∧ (x.toUInt32 >>> ((1 : Int32).toUInt32 &&& Int32.toUInt32 31)).toInt32 = nI a := by
  have hx : x = nI x.toBitVec.toNat := Int32.toBitVec_inj.mp (by
    show _ = BitVec.ofNat 32 _
    simp)
  have hb := x.toBitVec.isLt
  have h2 := pk_ushrN hb 1 1 (by decide)
  rw [← hx] at h2
  exact ⟨x.toBitVec.toNat / 2 ^ 1, by omega, h2⟩
theorem m_lt {x : Int32} {n : Nat} (h : x = -1 ∨ vp_in x n) : ¬ x < -1 := by
  rcases h with rfl | h
  · decide
  · rw [vp_in_iff] at h
    rw [fa_lt, show (-1 : Int32).toInt = -1 from rfl]
    omega
theorem m_gt {x : Int32} (h : x = -1 ∨ vp_in x 6) : ¬ 5 < x := by
  rcases h with rfl | h
  · decide
  · rw [vp_in_iff] at h
    rw [fa_lt, show (5 : Int32).toInt = 5 from rfl]
    omega
theorem nn_ne {x : Int32} (h : ¬ x < 0) : x ≠ -1 := fun e => by
  rw [e] at h
  exact h (by decide)
theorem in_of {x : Int32} {n : Nat} (h : x = -1 ∨ vp_in x n) (h2 : ¬ x < 0) : vp_in x n := h.resolve_left (nn_ne h2)
theorem in_nn {x : Int32} {n : Nat} (h : vp_in x n) : ¬ x < 0 := by
  rw [vp_in_iff] at h
  rw [fa_lt, show (0 : Int32).toInt = 0 from rfl]
  omega
theorem in_ge {x : Int32} {n : Nat} (h : vp_in x n) : 0 ≤ x := by
  rw [vp_in_iff] at h
  rw [fa_le, show (0 : Int32).toInt = 0 from rfl]
  omega
theorem neg_m1 {x : Int32} {n : Nat} (h : x = -1 ∨ vp_in x n) (h2 : x < 0) : x = -1 := h.resolve_right (fun z => in_nn z h2)
theorem ge_nl {x : Int32} (h : 0 ≤ x) : ¬ x < 0 := fun z => by
  rw [fa_le, show (0 : Int32).toInt = 0 from rfl] at h
  rw [fa_lt, show (0 : Int32).toInt = 0 from rfl] at z
  omega
theorem st_lt {x : Int32} (h : x = 0 ∨ x = 1 ∨ x = 2) : ¬ x < 0 := by
  rcases h with rfl | rfl | rfl <;> decide
theorem st_gt {x : Int32} (h : x = 0 ∨ x = 1 ∨ x = 2) : ¬ 2 < x := by
  rcases h with rfl | rfl | rfl <;> decide
theorem nI_nn {n : Nat} (h : n < 2 ^ 31) : ¬ nI n < 0 := by
  rw [fa_lt, nI_toInt h, show (0 : Int32).toInt = 0 from rfl]
  omega
theorem i32_a1 (a b c d : Int32) : a + d + b + c = a + b + c + d := by
  rw [Int32.add_assoc a d b, Int32.add_comm d b, ← Int32.add_assoc a b d, Int32.add_assoc (a + b) d c, Int32.add_comm d c, ← Int32.add_assoc]
theorem i32_a2 (a b c d : Int32) : a + (b + d) + c = a + b + c + d := by
  rw [← Int32.add_assoc a b d, Int32.add_assoc (a + b) d c, Int32.add_comm d c, ← Int32.add_assoc]
theorem i32_a3 (a b c d : Int32) : a + b + (c + d) = a + b + c + d := by
  rw [← Int32.add_assoc]
theorem i32_same {a d : Int32} (h : a + d = a) : d = 0 := by
  refine i32_cancel (c := a) ?_
  rw [Int32.add_comm d a, h, Int32.zero_add]
theorem fI_own {f : Nat → Int32} (hu : uq f) {k : Nat} (hk : k < 6) (hne : f k ≠ -1) : fI f (f k) = nI k := by
  rcases fI_cases f (f k) with ⟨-, h⟩ | ⟨j, hj, e, hp⟩
  · exact absurd rfl (h k hk)
  · by_cases z : j = k
    · rw [e, z]
    · exact absurd (hp.symm.trans (hu j k hj hk z hp)) hne
theorem fI_pos {f : Nat → Int32} {v : Int32} (h : ¬ fI f v < 0) : ∃ k, k < 6 ∧ fI f v = nI k ∧ f k = v := by
  rcases fI_cases f v with ⟨e, -⟩ | h2
  · rw [e] at h
    exact absurd (by decide) h
  · exact h2
theorem uq_two {f : Nat → Int32} (hu : uq f) {j k : Nat} (hj : j < 6) (hk : k < j) (hn : ¬ f j < 0) : ¬ f k = f j := fun e =>
  nn_ne hn (e.symm.trans (hu k j (by omega) hj (by omega) e))
theorem on_cos {B : Nat} {S : ST} (hI : Inv B S) {j : Nat} (h6 : j < 6) (h : ¬ S 2 j = 0) : 0 ≤ S 0 j := in_ge ((hI.i0 j h6).resolve_left (hI.i20 j h6 h))
theorem cos_lo {S : ST} (h : okF S) {j : Nat} (h6 : j < 6) (hn : ¬ S 0 j < 0) : ¬ S 0 j < nI j := by
  have q := h j h6 (nn_ne hn)
  rw [fa_lt, nI_toInt (by omega)]
  omega
theorem cos_hi {S : ST} (h : okF S) {j : Nat} (h6 : j < 6) (hn : ¬ S 0 j < 0) : ¬ nI j + 2 < S 0 j := by
  have q := h j h6 (nn_ne hn)
  rw [fa_lt, show nI j + 2 = nI (j + 2) from nI_add j 2, nI_toInt (by omega)]
  omega
theorem wear_le {B : Nat} {S : ST} (hI : Inv B S) {j : Nat} (h6 : j < 6) (hn : ¬ S 0 j < 0) : S 3 (S 0 j).toNatClampNeg ≤ 2 := by
  have q := hI.i30 j h6 (nn_ne hn)
  rw [fa_le, show (2 : Int32).toInt = 2 from rfl]
  omega
theorem other_in {p t : Int32} (hp : vp_in p 6) (ht : vp_in t 5) : vp_in (p + 1 + t - (p + 1 + t) / 6 * 6) 6 ∧ p ≠ p + 1 + t - (p + 1 + t) / 6 * 6 := by
  obtain ⟨j, hj, rfl⟩ := vp_in_of hp (by decide)
  obtain ⟨k, hk, rfl⟩ := vp_in_of ht (by decide)
  have e : nI j + 1 + nI k - (nI j + 1 + nI k) / 6 * 6 = nI ((j + 1 + k) % 6) := by
    rw [nI_1, nI_add]
    exact pk_rem (by omega) (by decide) (by decide)
  rw [e]
  refine ⟨vp_in_nI (Nat.mod_lt _ (by decide)) (by decide), fun z => ?_⟩
  rw [nI_eq (by omega) (by omega)] at z
  omega
theorem cos_in {p t : Int32} (hp : vp_in p 6) (ht : vp_in t 3) : vp_in (p + t) 8 ∧ ((p.toNatClampNeg : Int) ≤ (p + t).toInt ∧ (p + t).toInt ≤ (p.toNatClampNeg : Int) + 2) := by
  obtain ⟨j, hj, rfl⟩ := vp_in_of hp (by decide)
  obtain ⟨k, hk, rfl⟩ := vp_in_of ht (by decide)
  rw [nI_add, nI_clamp (by omega), nI_toInt (by omega)]
  exact ⟨vp_in_nI (by omega) (by decide), by omega, by omega⟩
theorem kind_in {k : Int32} (h : vp_in k 5) : ¬ k < 0 ∧ k ≤ 4 := by
  rw [vp_in_iff] at h
  rw [fa_lt, fa_le, show (0 : Int32).toInt = 0 from rfl, show (4 : Int32).toInt = 4 from rfl]
  omega
/-! what the calls answer in the law -/
theorem ans_dress {S : ST} {p c : Int32} (hp : vp_in p 6) (hx : vp_in c 8) (hf : (p.toNatClampNeg : Int) ≤ c.toInt ∧ c.toInt ≤ (p.toNatClampNeg : Int) + 2) (h2 : S 2 p.toNatClampNeg = 0) (ho : fI (S 0) c = -1 ∨ fI (S 0) c = p) (hw : S 3 c.toNatClampNeg < 3) : k_dress S p c = (0, S 0 p.toNatClampNeg, row S 0 (upd (S 0) p.toNatClampNeg c)) := by
  have hfit : (-1 : Int32) ≤ p - c + 1 ∧ p - c + 1 ≤ 1 := by
    clear ho hw h2
    obtain ⟨j, hj, rfl⟩ := vp_in_of hp (by decide)
    obtain ⟨k, hk, rfl⟩ := vp_in_of hx (by decide)
    rw [nI_clamp (by omega), nI_toInt (by omega)] at hf
    have ej : (nI j).toInt = (j : Int) := nI_toInt (by omega)
    have ek : (nI k).toInt = (k : Int) := nI_toInt (by omega)
    have e1_ : (1 : Int32).toInt = 1 := rfl
    have ed : (nI j - nI k).toInt = (j : Int) - k := by rw [fb_subI] <;> rw [ej, ek] <;> omega
    have es : (nI j - nI k + 1).toInt = (j : Int) - k + 1 := by rw [fb_addI] <;> rw [ed, e1_] <;> omega
    rw [fa_le, fa_le, es, e1_, show (-1 : Int32).toInt = -1 from rfl]
    omega
  exact (cif_t ⟨hp, hx⟩).trans ((cif_t hfit).trans (cif_t ⟨h2, ho, hw⟩))
theorem fr_own {S : ST} {p c : Int32} (hp : vp_in p 6) (h : ∀ k, k < 6 → k = p.toNatClampNeg ∨ ¬ S 0 k = c) : fI (S 0) c = -1 ∨ fI (S 0) c = p := by
  rcases fI_cases (S 0) c with ⟨e, -⟩ | ⟨k, hk, e, hq⟩
  · exact Or.inl e
  · rcases h k hk with z | z
    · exact Or.inr (by rw [e, z]; exact (vin_nI hp (by decide)).symm)
    · exact absurd hq z
theorem fr_keep {v : Int32} {P R : Prop} {Z : Nat → Prop} {j : Nat} (h : v = 0 ∨ (v = 1 ∧ P ∧ R ∧ ∀ k, k < j → Z k)) (hz : Z j) : (v &&& 1) = 0 ∨ ((v &&& 1) = 1 ∧ P ∧ R ∧ ∀ k, k < j + 1 → Z k) := by
  rcases h with rfl | ⟨rfl, h1, h2, h3⟩
  · exact Or.inl (by decide)
  · refine Or.inr ⟨by decide, h1, h2, fun k hk => ?_⟩
    by_cases e : k = j
    · rw [e]; exact hz
    · exact h3 k (by omega)
theorem fr_drop {v : Int32} {P Q : Prop} (h : v = 0 ∨ (v = 1 ∧ P)) : (v &&& 0) = 0 ∨ ((v &&& 0) = 1 ∧ Q) := by
  rcases h with rfl | ⟨rfl, -⟩
  · exact Or.inl (by decide)
  · exact Or.inl (by decide)
theorem ans_add {S : ST} {k p o w : Int32} (hk : vp_in k 5) (hp : vp_in p 6) (ho : vp_in o 6) (hne : p ≠ o) (hw : w = -1 ∨ vp_in w (many S)) (hlt : S 10 0 < 24) (hw2 : w = -1 ∨ S 8 w.toNatClampNeg ≠ 2) : k_addCue S k p o w = (0, S 10 0, addS S k p o w) :=
  (cif_t (kind_in hk)).trans ((cif_t ⟨hp, fun _ => ho, hw⟩).trans (cif_t ⟨hlt, fun z => hne z.2, hw2⟩))
theorem ans_call {S : ST} {q : Int32} (hq : vp_in q (many S)) (hc_ : cal S q.toNatClampNeg) : k_call S q = (0, S 11 0 + 1, callQ S q) := (cif_t hq).trans (cif_t hc_)
theorem ans_miss {S : ST} {q : Int32} (hq : vp_in q (many S)) (h2 : S 8 q.toNatClampNeg = 0) : k_miss S q = (0, (missM S q).2, row S 8 (missM S q).1) := (cif_t hq).trans (cif_t h2)
theorem ans_end {S : ST} (h : ∀ k, k < many S → S 8 k ≠ 0) : k_endPlay S = (0, purseE S, endS S) := cif_t h
theorem ans_run (S : ST) : k_run S = (0, runN 24 S 11 0 - S 11 0, runN 24 S) := rfl
theorem ans_mbc {B : Nat} {S : ST} (h : Good B S) {p : Int32} (hp : vp_in p 6) : k_maskByCues S p = (0, S 1 p.toNatClampNeg, row S 16 (rpN S (S 11 0).toNatClampNeg)) := by
  have e : rpN S (S 11 0).toNatClampNeg p.toNatClampNeg = S 1 p.toNatClampNeg := by
    rw [ce_clamp h.1]; exact h.2.2.2.1 _ (vin_lt hp)
  rw [← e]; exact cif_t hp
noncomputable def guessS (S : ST) (g p m : Int32) : ST := row (row S 13 (upd (S 13) (g * 6 + p).toNatClampNeg 1)) 12 (upd (S 12) g.toNatClampNeg (S 12 g.toNatClampNeg + cif (S 1 p.toNatClampNeg = m) 3 (-1)))
theorem ans_guess {S : ST} {g p m : Int32} (hg : vp_in g 3) (hp : vp_in p 6) (hm_ : vp_in m 6) (h2 : ¬ S 2 p.toNatClampNeg = 0) (h1 : S 1 p.toNatClampNeg ≠ -1) (h13 : ∀ k, k < 18 → S 13 k = 0) : k_guess S g p m = (0, cif (S 1 p.toNatClampNeg = m) 1 0, guessS S g p m) :=
  (cif_t ⟨hg, hp, hm_⟩).trans (cif_t ⟨h2, h1, h13 _ (vin_lt (gp_in hg hp))⟩)
theorem sum_guess {S : ST} {g p m : Int32} (hg : vp_in g 3) : Sm (guessS S g p m) = Sm S + cif (S 1 p.toNatClampNeg = m) 3 (-1) := by
  obtain ⟨j, hj, rfl⟩ := vp_in_of hg (by decide)
  show upd (S 12) (nI j).toNatClampNeg (S 12 (nI j).toNatClampNeg + cif (S 1 p.toNatClampNeg = m) 3 (-1)) 0 + upd (S 12) (nI j).toNatClampNeg (S 12 (nI j).toNatClampNeg + cif (S 1 p.toNatClampNeg = m) 3 (-1)) 1 + upd (S 12) (nI j).toNatClampNeg (S 12 (nI j).toNatClampNeg + cif (S 1 p.toNatClampNeg = m) 3 (-1)) 2 = S 12 0 + S 12 1 + S 12 2 + cif (S 1 p.toNatClampNeg = m) 3 (-1)
  rw [nI_clamp (by omega)]
  generalize cif (S 1 p.toNatClampNeg = m) (3 : Int32) (-1) = d
  match j, hj with
  | 0, _ => rw [pk_us, pk_un (show 1 ≠ 0 by decide), pk_un (show 2 ≠ 0 by decide)]; exact i32_a1 _ _ _ _
  | 1, _ => rw [pk_us, pk_un (show 0 ≠ 1 by decide), pk_un (show 2 ≠ 1 by decide)]; exact i32_a2 _ _ _ _
  | 2, _ => rw [pk_us, pk_un (show 0 ≠ 2 by decide), pk_un (show 1 ≠ 2 by decide)]; exact i32_a3 _ _ _ _
  | (n + 3), h => omega
theorem sum_ne {S : ST} {g p m : Int32} (hg : vp_in g 3) : Sm (guessS S g p m) ≠ Sm S := by
  rw [sum_guess hg]
  intro z
  have h := i32_same z
  by_cases q : S 1 p.toNatClampNeg = m
  · rw [cif_t q] at h; exact absurd h (by decide)
  · rw [cif_f q] at h; exact absurd h (by decide)
theorem cN_add3 (f : Nat → Int32) : ∀ n, cN f 0 n + cN f 1 n + cN f 2 n ≤ n
  | 0 => Nat.le_refl 0
  | n + 1 => by
    have ih_ := cN_add3 f n
    unfold cN
    by_cases q0 : f n = 0
    · rw [cif_t q0, cif_f (by rw [q0]; decide), cif_f (by rw [q0]; decide)]; omega
    · rw [cif_f q0]
      by_cases q1 : f n = 1
      · rw [cif_t q1, cif_f (by rw [q1]; decide)]; omega
      · rw [cif_f q1]
        by_cases q2 : f n = 2
        · rw [cif_t q2]; omega
        · rw [cif_f q2]; omega
theorem all_done {B : Nat} {S : ST} (hI : Inv B S) (h : S 10 0 ≤ nI (cN (S 8) 1 (many S)) + nI (cN (S 8) 2 (many S))) : ∀ k, k < many S → S 8 k ≠ 0 := by
  have hm_ := hI.m24
  have h3 := cN_add3 (S 8) (many S)
  rw [hI.me, nI_add, nI_leI (by omega) (by omega)] at h
  have h0 : cN (S 8) 0 (many S) = 0 := by omega
  refine no_zero hm_ ?_
  rw [h0]
  decide
theorem due_ge {B : Nat} {S : ST} (hI : Inv B S) (hB_ : B ≤ 100000) (h : 0 ≤ S 14 0 + nI (cN (S 8) 1 (many S)) - nI (cN (S 8) 2 (many S))) : purseE S = S 14 0 + nI (cN (S 8) 1 (many S)) - nI (cN (S 8) 2 (many S)) := by
  rw [← purse_eq hI hB_]
  generalize S 14 0 + nI (cN (S 8) 1 (many S)) - nI (cN (S 8) 2 (many S)) = d at h ⊢
  by_cases q : 0 < d
  · rw [if_pos q]
  · rw [if_neg q]
    rw [fa_le, show (0 : Int32).toInt = 0 from rfl] at h
    rw [fa_lt, show (0 : Int32).toInt = 0 from rfl] at q
    rw [fa_eq, show (0 : Int32).toInt = 0 from rfl]
    omega
theorem due_lt {B : Nat} {S : ST} (hI : Inv B S) (hB_ : B ≤ 100000) (h : ¬ 0 ≤ S 14 0 + nI (cN (S 8) 1 (many S)) - nI (cN (S 8) 2 (many S))) : purseE S = 0 := by
  rw [← purse_eq hI hB_]
  generalize S 14 0 + nI (cN (S 8) 1 (many S)) - nI (cN (S 8) 2 (many S)) = d at h ⊢
  refine if_neg (fun q => h ?_)
  rw [fa_lt, show (0 : Int32).toInt = 0 from rfl] at q
  rw [fa_le, show (0 : Int32).toInt = 0 from rfl]
  omega
/-! what a step of the law leaves -/
def AP (B : Nat) (S S' : ST) (f' : Nat → Int32) : Prop := Good (B + 24) S' ∧ Lnk S' f' ∧ S' 12 = S 12 ∧ ∀ k, k < 18 → S 13 k = 0 → S' 13 k = 0
theorem ap_refl {B : Nat} {S : ST} {f : Nat → Int32} (h : Good B S) (hl_ : Lnk S f) : AP B S S f := ⟨good_mono h (by omega), hl_, rfl, fun _ _ z => z⟩
theorem ap_dress {B : Nat} {S T : ST} {f : Nat → Int32} {g : Nat → Int32} (h : Good B T) (e : T = row S 0 g) (hl_ : Lnk S f) : AP B S T f := by
  subst e
  exact ⟨good_mono h (by omega), hl_, rfl, fun _ _ z => z⟩
theorem ap_add {B : Nat} {S T : ST} {f g : Nat → Int32} {k p o w : Int32} (h : Good B T) (e : T = addS S k p o w) (hl_ : Lnk (addS S k p o w) g) : AP B S T g := by
  subst e
  exact ⟨good_mono h (by omega), hl_, rfl, fun _ _ z => z⟩
theorem ap_run {B : Nat} {S T : ST} {f : Nat → Int32} (h : Good B T) (e : T = runN 24 S) (hl_ : Lnk S f) : AP B S T f := by
  have e7_ : T 7 = S 7 := by rw [e]; exact runN_other (by decide) (by decide) (by decide) (by decide) (by decide) (by decide) (by decide) 24 S
  have e10_ : T 10 = S 10 := by rw [e]; exact runN_other (by decide) (by decide) (by decide) (by decide) (by decide) (by decide) (by decide) 24 S
  have e12_ : T 12 = S 12 := by rw [e]; exact runN_other (by decide) (by decide) (by decide) (by decide) (by decide) (by decide) (by decide) 24 S
  have e13_ : T 13 = S 13 := by rw [e]; exact runN_other (by decide) (by decide) (by decide) (by decide) (by decide) (by decide) (by decide) 24 S
  refine ⟨good_mono h (by omega), fun k hk => ?_, e12_, fun k _ z => by rw [e13_]; exact z⟩
  have em_ : many T = many S := by
    show (T 10 0).toNatClampNeg = (S 10 0).toNatClampNeg
    rw [e10_]
  rw [em_] at hk
  rw [e7_]; exact hl_ k hk
theorem ap_miss {B : Nat} {S T : ST} {f g : Nat → Int32} (h : Good B T) (e : T = row S 8 g) (hl_ : Lnk S f) : AP B S T f := by
  subst e
  exact ⟨good_mono h (by omega), hl_, rfl, fun _ _ z => z⟩
theorem ap_call {B : Nat} {S T : ST} {f : Nat → Int32} {q : Int32} (h : Good B T) (e : T = callQ S q) (hl_ : Lnk S f) : AP B S T f := by
  have e7_ : T 7 = S 7 := by rw [e]; exact callQ_other (by decide) (by decide) (by decide) (by decide) (by decide) (by decide) (by decide)
  have e10_ : T 10 = S 10 := by rw [e]; exact callQ_other (by decide) (by decide) (by decide) (by decide) (by decide) (by decide) (by decide)
  have e12_ : T 12 = S 12 := by rw [e]; exact callQ_other (by decide) (by decide) (by decide) (by decide) (by decide) (by decide) (by decide)
  have e13_ : T 13 = S 13 := by rw [e]; exact callQ_other (by decide) (by decide) (by decide) (by decide) (by decide) (by decide) (by decide)
  refine ⟨good_mono h (by omega), fun k hk => ?_, e12_, fun k _ z => by rw [e13_]; exact z⟩
  have em_ : many T = many S := by
    show (T 10 0).toNatClampNeg = (S 10 0).toNatClampNeg
    rw [e10_]
  rw [em_] at hk
  rw [e7_]; exact hl_ k hk
theorem ap_end {B : Nat} {S T : ST} {f : Nat → Int32} (h : Good (B + 24) T) (e : T = endS S) : AP B S T f := by
  subst e
  have hm0 : many (endS S) = 0 := rfl
  refine ⟨h, fun k hk => ?_, rfl, fun k hk _ => ?_⟩
  · rw [hm0] at hk; exact absurd hk (Nat.not_lt_zero k)
  · show fa_fill (fun _ => 0) (S 13) 18 k = 0
    exact fa_fill_in hk
def GP (S u : ST) : Prop := u = S ∨ ((∃ f g, u = row (row S 13 f) 12 g) ∧ Sm u ≠ Sm S)
end
section
/-! THE CLAIM OUT OF ONE WALK OF THE LAW'S BODY. Your part is whole_start (and what it stands on); all else here is the same for every law, but numbers. -/
def R_law : String := "ClockmaskLaw"
def lw_P (b : Addr) (xs : List Int32) (args : Array Value) (s : State) : Prop := args = #[.ref b] ∧ s.IntsAt b xs ∧ xs.length ≤ 260 ∧ (Jvm.Cond.and given_1 narrow_1).before args s = true
def lw_Q (_ : Array Value) (s : State) (o : Outcome) (t : State) : Prop := o = .returned (some (.int 1)) ∧ Framed s o t [] 137 1178
def lw_Z (below : List Frame) (a : Array Value) (s : State) : State → Prop := fun t => ∃ o, t.status = .running ∧ Ended t below o ∧ lw_Q a s o t
/-- the law's own end, with 1 on the stack, nothing written that was there before, its room as the claim has it -/
theorem lw_ret {p : Program} {l : Launch} {e : Env} {s : State} {m : MethodId} {below : List Frame} {meth : Method} {c : Code} {b : Nat} (hx : p.tables.exec = Jvm.exec) (hb : c.code = code) (hr : meth.sig.returnType = ret) (hlocks : meth.locks = false) {pc : Nat} {H : Heap} {ls : Array Slot} (hdg : decode code pc = .ok (.ireturn, 1)) : W p l e room_1 s m #[Value.ref b] below meth c H [] 137 1178 (lw_Z below #[Value.ref b] s) (F0 m pc ls [.int 1]) := by
  intro T hT X
  obtain ⟨fs, hret, hrun, hended, hW, hframe⟩ := X.leave (v := some (.int 1)) (hlocks := hlocks) (fun h => by rw [hr] at h; cases h)
  have hmeth' : T.vm.method? m = some meth := X.method'
  refine ⟨T.setFrames fs, ?_, .returned (some (.int 1)), hrun, hended, rfl, ⟨_, rfl⟩, hW, hframe⟩
  jvm_step X.here [X.here.top, hx, hb, hdg, hmeth', hr, ret, narrow_b1]
  (try refine ⟨rfl, ?_⟩); (try refine ⟨rfl, ?_⟩)
  first | (intro acts; rw [hret _ acts rfl rfl rfl]) | rw [hret _ _ rfl rfl rfl]
  exact Steps.refl _
/-- what holds at the law's entry: the machine, the code, the tables' words (any of lw_tbl by 'hts w (by decide +kernel)'), the script of L ints xs at the cell b, what the Statement gives of the start (any of its parts by flat_of_before) -/
def lw_At (p : Program) (s : State) (m : MethodId) (meth : Method) (c : Code) (b L : Nat) (xs : Nat → Int32) : Prop :=
  p.tables.exec = Jvm.exec ∧ c.code = code ∧ meth.sig.returnType = ret ∧ c.maxLocals = 8 ∧ s.vm.findClass R_law = some m.cls ∧ (∀ w ∈ lw_tbl, w.before #[Value.ref b] s = true) ∧ va_X b L xs s s.heap ∧ b < s.heap.size ∧ meth.locks = false ∧ (Jvm.Cond.and given_1 narrow_1).before #[Value.ref b] s = true
end
section
set_option maxHeartbeats 4000000 in
theorem lw_walk (l : Launch) (hflags : l.flags = flags0) (b : Addr) (xs : List Int32) : MetFree l x (headSpec (Jvm.Cond.code x code maxLocals ret :: tables_1) room_1) (lw_P b xs) (fun _ _ _ _ _ => True) lw_Q := by
  refine MetFree.of_bodyS (code := code) (maxLocals := maxLocals) (ret := ret) (by decide) ?_ ?_
  · intro args s m h hn
    obtain ⟨meth, c, h1, h2, h3, h4, h5, h6, -, -⟩ := Cond.code_spec hn (atoms_spec (ws := Jvm.Cond.code x code maxLocals ret :: tables_1) h _ List.mem_cons_self)
    exact ⟨meth, c, h1, h2, h3, h4, h5, h6⟩
  · intro p e s m args below meth c s₁ B hml0 hP _
    obtain ⟨rfl, hx, hbd, hgv⟩ := hP
    obtain ⟨scr, harrAt, hlist, hof, hsmall⟩ := hx
    obtain ⟨hcb, hkn, -, -⟩ := State.arrayAt?_spec harrAt
    have hown : s.vm.findClass R_law = some m.cls := findClass_of_methodNamed B.named
    have hts0 : ∀ c ∈ (Jvm.Cond.code x code maxLocals ret :: tables_1), c.before #[Value.ref b] s = true := atoms_spec (ws := Jvm.Cond.code x code maxLocals ret :: tables_1) B.pre
    have hts : ∀ w ∈ lw_tbl, w.before #[Value.ref b] s = true := k2_hts_sels lw_privs (fun w hw => hts0 w (List.mem_cons_of_mem _ hw)) lw_privs_ok
    have hml : c.maxLocals = 8 := B.maxLocals_eq (hts0 _ List.mem_cons_self)
    have X₀ : Stand p l e room_1 s m #[Value.ref b] below meth c s₁ [] 0 0 := Stand.of_body B
    have hh0 : s₁.heap = s.heap := by rw [B.state]; rfl
    have hsz : scr.slots.size = xs.length := by rw [← Array.length_toList, hlist, List.length_map]
    have hval : ∀ j : Nat, j < xs.length → scr.slots[j]? = some (.int (xs.getD j 0)) := fun j hj => by
      rw [← Array.getElem?_toList, hlist]
      simp [hj]
    have hbl : b < s.heap.size := (Array.getElem?_eq_some_iff.mp hcb).1
    have hX : va_X b xs.length (fun j => xs.getD j 0) s s.heap := ⟨scr, hcb, hof, hkn, hsz, hval⟩
    have K : W p l e room_1 s m #[Value.ref b] below meth c s₁.heap [] 0 0 (lw_Z below #[Value.ref b] s) (entryFrame m ([Value.ref b] : List Value).toArray 8) := by
      rw [hh0]
      exact whole_start l hflags hbd ⟨B.exec, B.bytes, B.returns, hml, hown, hts, hX, hbl, B.notSynchronized, hgv⟩
    obtain ⟨t, a1, o, b1, b2, b3⟩ := K s₁ rfl X₀
    exact ⟨t, o, a1, b1, b2, b3⟩
theorem lw_pre_spec {args : Array Value} {s : State} (h : (Jvm.Cond.and given_1 narrow_1).before args s = true) (hr : rest_1_c.before args s = true) : ∃ (b : Addr) (xs : List Int32), lw_P b xs args s := by
  have hs := flat_of_before _ h
  have hq := flat_of_before _ hr
  have hc : (Cond.count 1).before args s = true := hs _ (by decide +kernel)
  have harr : (Cond.arrayOf (.arg 0) .int).before args s = true := hs _ (by decide +kernel)
  have hle : (Cond.le (.length (.arg 0)) (.int 260)).before args s = true := hs _ (by decide +kernel)
  have hlen : (Cond.isInt (.length (.arg 0))).before args s = true := hq _ (by decide +kernel)
  have hall : (Cond.all (.arg 0) (.isInt (.elem (.arg 0) (.index 0)))).before args s = true := hq _ (by decide +kernel)
  obtain ⟨b, xs, hb, hx⟩ := State.ints_of_pre rfl harr hlen hall
  have hsm : xs.length < 2 ^ 31 := hx.choose_spec.2.2.2
  have hev : (Term.length (.arg 0)).eval args s none [] s = some (.int xs.length.toInt32) := hx.length_eval hb
  have hv := Cond.le_ints hev (show (Term.int 260).eval args s none [] s = some (.int 260) from rfl)
  have hd : xs.length.toInt32 ≤ 260 := by
    simpa [Cond.before, Cond.holds, hv] using hle
  have hN : xs.length ≤ 260 := (Int32.ofNat_le_ofNat hsm (by decide)).mp (show Int32.ofNat xs.length ≤ Int32.ofNat 260 from hd)
  exact ⟨b, xs, Cond.one_arg hc (show args[0]? = some (.ref b) from hb), hx, hN, h⟩
theorem lw_comes (l : Launch) (hflags : l.flags = flags0) : Comes l x (Jvm.Cond.code x code maxLocals ret :: tables_1) room_1 (fun tb e args s => Calls_1 tb e args s ∧ rest_1 tb e args s ∧ Pre_1 tb e args s)
    (fun _ _ args s o t => lw_Q args s o t) := by
  intro p e ha hc hk s m args below hf hfit hheap happ hpre
  obtain ⟨b, xs, hP⟩ := lw_pre_spec hpre.2.2 hpre.2.1
  obtain ⟨k, o, h1, h2, h3, hQ⟩ := lw_walk l hflags b xs p e ha hc hk s m args below hf ((Spec.applies_iff_loose hf).mp happ).1 hP trivial
  exact ⟨k, o, h1, h2, h3, hQ⟩
theorem lw_frame {s t : State} {o : Outcome} {args : Array Value} (h : Framed s o t [] 137 1178) :
    Framed s o t (fieldLocs frame_1_writes args s ++ arrayLocs frame_1_arrays args s ++ staticLocs frame_1_statics s) 137 1178 := h
theorem lw_limb (L : Cond) (hL : ∀ (args : Array Value) (s t : State), L.after args s (.returned (some (.int 1))) t = true) :
    ArmFor flags0 classFile x code maxLocals ret World_1 tables_1 room_1 Calls_1 rest_1 Pre_1
      (fun tb e a s o t => postC L tb e a s o t ∧ Framed s o t (fieldLocs frame_1_writes a s ++ arrayLocs frame_1_arrays a s ++ staticLocs frame_1_statics s) 137 1178) := by
  intro l hflags _ _ p e ha hc hk s m args below hf hfit hheap happ hpre
  obtain ⟨k, o, h1, h2, h3, rfl, hF⟩ := lw_comes l hflags p e ha hc hk s m args below hf hfit hheap happ hpre
  exact ⟨k, _, h1, h2, h3, hL args s _, lw_frame hF⟩
theorem i_vc : Claimed_1_1 ∧ Claimed_1_2 := ⟨lw_limb limb_1_1 (fun args s t => by simp [limb_1_1, Cond.after, Cond.holds, Cond.value]), lw_limb limb_1_2 (fun args s t => Cond.after_iff.mpr (by
  first | (rw [show limb_1_2 = Cond.eq .result (.int 1) from rfl, Cond.eq_ints (x := 1) (y := 1) rfl rfl]; simp; done) | (simp [limb_1_2, Cond.value, Term.eval]; done)))⟩
end
