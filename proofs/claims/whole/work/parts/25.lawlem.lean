/-! the law's small methods: what they start from -/
def xN (U : State) : Prop := va_Nc xIA xIO U ∧ va_Nc xIS xIO U ∧ va_Nc xIS xIA U ∧ va_Nc xIO xIA U
theorem xN.moved {u U : State} (hvm : u.vm.Alike U.vm) (h : xN u) : xN U := ⟨h.1.moved hvm, h.2.1.moved hvm, h.2.2.1.moved hvm, h.2.2.2.moved hvm⟩
def pL : State → Prop := fun U => pG U ∧ xN U
theorem pL_S {B : State → Prop} {s : State} {H : Heap} {As : List Value} {A : Nat → Prop} (h : PreS s H (va_Pc As B) As) (hG : xG A s H) (hA : ∀ q, H.size ≤ q → A q) (hN_ : xN s) : PreS s H (va_Pc As (fun U => B U ∧ pL U)) As :=
  ⟨fun a U g mk q => ⟨q.1, (h.1 a U g mk ⟨q.1, q.2.1⟩).2, xG.blind q.2.2.1, xN.moved (u := U) (U := U.calling g mk a) (Vm.Alike.refl U.vm) q.2.2.2⟩, fun U hU hW => ⟨rfl, (h.2 U hU hW).2, hG.call hA hU hW, hN_.moved hW.alike⟩⟩
abbrev tyL (cI cZ cJ : ClassId) : List (ClassId × FieldType) := [(cI, .int), (cZ, .boolean), (cJ, .long)]
abbrev wO (cJ : ClassId) (o : Nat) (f : Nat → Int64) : Nat × va_E := (o, .inl (cJ, 1, .inr (.inl f)))
theorem va_P.grown {D : va_G} {cl : List vw_C} {ws : va_W} {H H1 : Heap} (h : va_P D cl ws H) (hk : ∀ q : Nat, q < H.size → H1[q]? = H[q]?) : va_P D cl ws H1 := h.kept (fun k q hq => hk q.1 (h k q hq).lt)
theorem vin01 : vp_in 0 1 := by
  rw [vp_in_iff]
  decide
theorem u0L (fo : Nat → Int64) (v : Int64) : vp_updL fo (0 : Int32).toNatClampNeg v 0 = v := by
  rw [show (0 : Int32).toNatClampNeg = 0 from rfl]
  exact pk_uLs
