/-! WHAT THE LAW OF p23 NEEDS OF A STATE, beside Inv -/
def Lnk (S : ST) (f : Nat → Int32) : Prop := ∀ k, k < many S → f k = S 7 k
def Sm (S : ST) : Int32 := S 12 0 + S 12 1 + S 12 2
def okM (S : ST) : Prop := ∀ k, k < 6 → S 1 k = -1 ∨ vp_in (S 1 k) 6
def okF (S : ST) : Prop := ∀ k, k < 6 → S 0 k ≠ -1 → (k : Int) ≤ (S 0 k).toInt ∧ (S 0 k).toInt ≤ (k : Int) + 2
def okR (S : ST) : Prop := ∀ k, k < 6 → rpN S (cN (S 8) 1 (many S)) k = S 1 k
def okC (S : ST) : Prop := ∀ q, q < many S → S 7 q ≠ -1 → (S 8 (S 7 q).toNatClampNeg = 2 → S 8 q = 2) ∧ (S 8 q = 1 → S 8 (S 7 q).toNatClampNeg = 1)
def Good (B : Nat) (S : ST) : Prop := Inv B S ∧ okM S ∧ okF S ∧ okR S ∧ okC S
theorem mv6 {S T : ST} {k : Nat} {f g : Nat → Int32} (h4 : T 4 k = S 4 k) (h5 : T 5 k = S 5 k) (h6 : T 6 k = S 6 k) (hp : vp_in (S 5 k) 6) (ho : S 4 k = 4 → vp_in (S 6 k) 6) (hfg : ∀ j, j < 6 → f j = g j) : ∀ j, j < 6 → mv T k f j = mv S k g j := by
  intro j hj
  by_cases e2_ : S 4 k = 2
  · rw [mv2 (h4.trans e2_), mv2 e2_, h5, h6]
    by_cases z : j = (S 5 k).toNatClampNeg
    · rw [z, pk_us, pk_us]
    · rw [pk_un z, pk_un z]; exact hfg j hj
  · by_cases e3_ : S 4 k = 3
    · rw [mv3 (h4.trans e3_), mv3 e3_, h5]
      by_cases z : j = (S 5 k).toNatClampNeg
      · rw [z, pk_us, pk_us]
      · rw [pk_un z, pk_un z]; exact hfg j hj
    · by_cases e4_ : S 4 k = 4
      · have ha := vin_lt hp
        have hb := vin_lt (ho e4_)
        rw [mv4 (h4.trans e4_), mv4 e4_, h5, h6, hfg _ ha, hfg _ hb]
        by_cases z : j = (S 6 k).toNatClampNeg
        · rw [z, pk_us, pk_us]
        · rw [pk_un z, pk_un z]
          by_cases y : j = (S 5 k).toNatClampNeg
          · rw [y, pk_us, pk_us]
          · rw [pk_un y, pk_un y]; exact hfg j hj
      · rw [mvn (fun z => e2_ (h4.symm.trans z)) (fun z => e3_ (h4.symm.trans z)) (fun z => e4_ (h4.symm.trans z)), mvn e2_ e3_ e4_]
        exact hfg j hj
theorem rpN_eq {S T : ST} : ∀ (n : Nat), (∀ k, k < n → T 9 k = S 9 k) → (∀ k, k < n → T 4 (S 9 k).toNatClampNeg = S 4 (S 9 k).toNatClampNeg ∧ T 5 (S 9 k).toNatClampNeg = S 5 (S 9 k).toNatClampNeg ∧ T 6 (S 9 k).toNatClampNeg = S 6 (S 9 k).toNatClampNeg) → (∀ k, k < n → vp_in (S 5 (S 9 k).toNatClampNeg) 6 ∧ (S 4 (S 9 k).toNatClampNeg = 4 → vp_in (S 6 (S 9 k).toNatClampNeg) 6)) → ∀ j, j < 6 → rpN T n j = rpN S n j
  | 0, _, _, _, j, hj => by
    show fa_fill (fun _ => -1) (T 16) 6 j = fa_fill (fun _ => -1) (S 16) 6 j
    rw [fa_fill_in hj, fa_fill_in hj]
  | n + 1, h9, hr, hv, j, hj => by
    have ih_ := rpN_eq n (fun k hk => h9 k (by omega)) (fun k hk => hr k (by omega)) (fun k hk => hv k (by omega))
    have hn := Nat.lt_succ_self n
    show mv T (T 9 n).toNatClampNeg (rpN T n) j = mv S (S 9 n).toNatClampNeg (rpN S n) j
    rw [h9 n hn]
    exact mv6 (hr n hn).1 (hr n hn).2.1 (hr n hn).2.2 (hv n hn).1 (hv n hn).2 ih_ j hj
theorem rp_idx {B : Nat} {S : ST} (h : Inv B S) : ∀ k, k < cN (S 8) 1 (many S) → vp_in (S 5 (S 9 k).toNatClampNeg) 6 ∧ (S 4 (S 9 k).toNatClampNeg = 4 → vp_in (S 6 (S 9 k).toNatClampNeg) 6) := fun k hk =>
  ⟨(h.cf _ (vin_lt (h.i9 k hk))).2.1, fun z => (h.cf _ (vin_lt (h.i9 k hk))).2.2.1 (Or.inr z)⟩
theorem okR.to {B : Nat} {S T : ST} (hI : Inv B S) (h : okR S) (hc_ : cN (T 8) 1 (many T) = cN (S 8) 1 (many S)) (h1 : ∀ k, k < 6 → T 1 k = S 1 k) (h9 : ∀ k, k < cN (S 8) 1 (many S) → T 9 k = S 9 k) (hr : ∀ k, k < many S → T 4 k = S 4 k ∧ T 5 k = S 5 k ∧ T 6 k = S 6 k) : okR T := by
  intro k hk
  rw [hc_, h1 k hk, rpN_eq (S := S) _ h9 (fun j hj => hr _ (vin_lt (hI.i9 j hj))) (rp_idx hI) k hk]
  exact h k hk
theorem good_dress {B : Nat} {S : ST} (h : Good B S) {p c : Int32} (hp : vp_in p 6) (hx : vp_in c 8) (hf : (p.toNatClampNeg : Int) ≤ c.toInt ∧ c.toInt ≤ (p.toNatClampNeg : Int) + 2) (h2 : S 2 p.toNatClampNeg = 0) (ho : fI (S 0) c = -1 ∨ fI (S 0) c = p) (hw : S 3 c.toNatClampNeg < 3) : Good B (row S 0 (upd (S 0) p.toNatClampNeg c)) := by
  obtain ⟨hI, hM, hF, hR, hC⟩ := h
  refine ⟨Inv.mk (hI.a.dress hp hx h2 ho hw) hI.u1 (hI.c.other rfl rfl rfl rfl rfl rfl rfl rfl) hI.d, hM, fun k hk hne => ?_, hR.to hI rfl (fun _ _ => rfl) (fun _ _ => rfl) (fun _ _ => ⟨rfl, rfl, rfl⟩), hC⟩
  show (k : Int) ≤ (upd (S 0) p.toNatClampNeg c k).toInt ∧ (upd (S 0) p.toNatClampNeg c k).toInt ≤ (k : Int) + 2
  by_cases e : k = p.toNatClampNeg
  · rw [e, pk_us]; exact hf
  · rw [pk_un e]
    refine hF k hk (fun z => hne ?_)
    show upd (S 0) p.toNatClampNeg c k = -1
    rw [pk_un e]; exact z
/-! a cue is called -/
theorem callQ_8 (S : ST) (q : Int32) : callQ S q 8 = upd (S 8) q.toNatClampNeg 1 := rfl
theorem act_other {S : ST} {k r : Nat} (h0 : r ≠ 0) (h1 : r ≠ 1) (h2 : r ≠ 2) (h3 : r ≠ 3) : act S k r = S r := by
  unfold act
  by_cases e0 : S 4 k = 0
  · rw [cif_t e0, row_ne h2]
  · rw [cif_f e0]
    by_cases e1_ : S 4 k = 1
    · rw [cif_t e1_, leave_other h0 h2 h3]
    · rw [cif_f e1_, row_ne h1]
theorem callQ_other {S : ST} {q : Int32} {r : Nat} (h0 : r ≠ 0) (h1 : r ≠ 1) (h2 : r ≠ 2) (h3 : r ≠ 3) (h8 : r ≠ 8) (h9 : r ≠ 9) (h11 : r ≠ 11) : callQ S q r = S r := by
  unfold callQ
  rw [row_ne h11, row_ne h9, row_ne h8, act_other h0 h1 h2 h3]
theorem callQ_r1 (S : ST) (q : Int32) : callQ S q 1 = mv S q.toNatClampNeg (S 1) := by
  by_cases e0 : S 4 q.toNatClampNeg = 0
  · rw [callQ_0 e0, mvn (by rw [e0]; decide) (by rw [e0]; decide) (by rw [e0]; decide), row_ne (by decide), row_ne (by decide), row_ne (by decide), row_ne (by decide)]
  · by_cases e1_ : S 4 q.toNatClampNeg = 1
    · rw [callQ_1 e1_, mvn (by rw [e1_]; decide) (by rw [e1_]; decide) (by rw [e1_]; decide), row_ne (by decide), row_ne (by decide), row_ne (by decide)]
      exact leave_other (by decide) (by decide) (by decide)
    · rw [callQ_m e0 e1_, row_ne (by decide), row_ne (by decide), row_ne (by decide), row_same]
theorem callQ_r0 (S : ST) (q : Int32) (k : Nat) : callQ S q 0 k = S 0 k ∨ callQ S q 0 k = -1 := by
  by_cases e0 : S 4 q.toNatClampNeg = 0
  · rw [callQ_0 e0, row_ne (by decide), row_ne (by decide), row_ne (by decide), row_ne (by decide)]; exact Or.inl rfl
  · by_cases e1_ : S 4 q.toNatClampNeg = 1
    · rw [callQ_1 e1_, row_ne (by decide), row_ne (by decide), row_ne (by decide)]
      unfold leave
      rw [row_same]
      by_cases e3_ : 3 ≤ S 3 (S 0 (S 5 q.toNatClampNeg).toNatClampNeg).toNatClampNeg + 1
      · rw [cif_t e3_]
        by_cases z : k = (S 5 q.toNatClampNeg).toNatClampNeg
        · rw [z, pk_us]; exact Or.inr rfl
        · rw [pk_un z]; exact Or.inl rfl
      · rw [cif_f e3_]; exact Or.inl rfl
    · rw [callQ_m e0 e1_, row_ne (by decide), row_ne (by decide), row_ne (by decide), row_ne (by decide)]; exact Or.inl rfl
theorem mv_ok {S : ST} {k : Nat} (hcf : cueF S k) (h : okM S) : ∀ j, j < 6 → mv S k (S 1) j = -1 ∨ vp_in (mv S k (S 1) j) 6 := by
  intro j hj
  obtain ⟨-, hp, ho, -, -⟩ := hcf
  by_cases e2_ : S 4 k = 2
  · rw [mv2 e2_]
    by_cases z : j = (S 5 k).toNatClampNeg
    · rw [z, pk_us]; exact Or.inr (ho (Or.inl e2_))
    · rw [pk_un z]; exact h j hj
  · by_cases e3_ : S 4 k = 3
    · rw [mv3 e3_]
      by_cases z : j = (S 5 k).toNatClampNeg
      · rw [z, pk_us]; exact Or.inl rfl
      · rw [pk_un z]; exact h j hj
    · by_cases e4_ : S 4 k = 4
      · rw [mv4 e4_]
        by_cases z : j = (S 6 k).toNatClampNeg
        · rw [z, pk_us]; exact h _ (vin_lt hp)
        · rw [pk_un z]
          by_cases y : j = (S 5 k).toNatClampNeg
          · rw [y, pk_us]; exact h _ (vin_lt (ho (Or.inr e4_)))
          · rw [pk_un y]; exact h j hj
      · rw [mvn e2_ e3_ e4_]; exact h j hj
theorem ce_clamp {B : Nat} {S : ST} (hI : Inv B S) : (S 11 0).toNatClampNeg = cN (S 8) 1 (many S) := by
  have hm_ := hI.m24
  have h1 := cN_le (S 8) 1 (many S)
  rw [hI.ce]; exact nI_clamp (by omega)
theorem good_call {B : Nat} {S : ST} (h : Good B S) {q : Int32} (hq : vp_in q (many S)) (hc_ : cal S q.toNatClampNeg) : Good B (callQ S q) := by
  obtain ⟨hI, hM, hF, hR, hC⟩ := h
  have hk := vin_lt hq
  have hcf := hI.cf _ hk
  have e10_ : callQ S q 10 = S 10 := callQ_other (by decide) (by decide) (by decide) (by decide) (by decide) (by decide) (by decide)
  have e4_ : callQ S q 4 = S 4 := callQ_other (by decide) (by decide) (by decide) (by decide) (by decide) (by decide) (by decide)
  have e5_ : callQ S q 5 = S 5 := callQ_other (by decide) (by decide) (by decide) (by decide) (by decide) (by decide) (by decide)
  have e6_ : callQ S q 6 = S 6 := callQ_other (by decide) (by decide) (by decide) (by decide) (by decide) (by decide) (by decide)
  have e7_ : callQ S q 7 = S 7 := callQ_other (by decide) (by decide) (by decide) (by decide) (by decide) (by decide) (by decide)
  have em_ : many (callQ S q) = many S := by
    show (callQ S q 10 0).toNatClampNeg = (S 10 0).toNatClampNeg
    rw [e10_]
  have h81 : S 8 q.toNatClampNeg ≠ 1 := by rw [hc_.1]; decide
  have ec_ : cN (callQ S q 8) 1 (many (callQ S q)) = cN (S 8) 1 (many S) + 1 := by rw [em_, callQ_8]; exact cN_put h81 hk
  have ecc := ce_clamp hI
  refine ⟨hI.call hq hc_, ?_, ?_, ?_, ?_⟩
  · intro k hk6
    rw [callQ_r1]
    exact mv_ok hcf hM k hk6
  · intro k hk6 hne
    rcases callQ_r0 S q k with e | e
    · rw [e] at hne ⊢; exact hF k hk6 hne
    · exact absurd e hne
  · intro k hk6
    rw [ec_]
    show mv (callQ S q) (callQ S q 9 (cN (S 8) 1 (many S))).toNatClampNeg (rpN (callQ S q) (cN (S 8) 1 (many S))) k = callQ S q 1 k
    have e9_ : callQ S q 9 (cN (S 8) 1 (many S)) = q := by
      show upd (S 9) (S 11 0).toNatClampNeg q (cN (S 8) 1 (many S)) = q
      rw [ecc, pk_us]
    rw [e9_, callQ_r1]
    refine mv6 (by rw [e4_]) (by rw [e5_]) (by rw [e6_]) hcf.2.1 (fun z => hcf.2.2.1 (Or.inr z)) (fun j hj => ?_) k hk6
    rw [rpN_eq (S := S) (T := callQ S q) (cN (S 8) 1 (many S)) (fun i hi => by
      show upd (S 9) (S 11 0).toNatClampNeg q i = S 9 i
      rw [ecc, pk_un (by omega)]) (fun i hi => ⟨by rw [e4_], by rw [e5_], by rw [e6_]⟩) (rp_idx hI) j hj]
    exact hR j hj
  · intro i hi hne
    rw [em_] at hi
    rw [e7_] at hne ⊢
    obtain ⟨c1, c2⟩ := hC i hi hne
    rw [callQ_8]
    constructor
    · intro z
      have nw : (S 7 i).toNatClampNeg ≠ q.toNatClampNeg := fun y => by
        rw [y, pk_us] at z; exact absurd z (by decide)
      rw [pk_un nw] at z
      have z2 := c1 z
      have ni : i ≠ q.toNatClampNeg := fun y => by
        rw [y, hc_.1] at z2; exact absurd z2 (by decide)
      rw [pk_un ni]; exact z2
    · intro z
      by_cases nw : (S 7 i).toNatClampNeg = q.toNatClampNeg
      · rw [nw, pk_us]
      · rw [pk_un nw]
        by_cases ni : i = q.toNatClampNeg
        · subst ni
          exact hc_.2.1.resolve_left hne
        · rw [pk_un ni] at z; exact c2 z
theorem good_runN {B : Nat} : ∀ (n : Nat) {S : ST}, Good B S → Good B (runN n S)
  | 0, _, h => h
  | n + 1, S, h => by
    rw [runN]
    by_cases q : fstN (cal S) (many S) < many S
    · rw [cif_t q]
      have hm_ := h.1.m24
      exact good_runN n (good_call h (vp_in_nI q (by omega)) (by rw [nI_clamp (by omega)]; exact fstN_yes _ _ q))
    · rw [cif_f q]; exact h
theorem runN_other {r : Nat} (h0 : r ≠ 0) (h1 : r ≠ 1) (h2 : r ≠ 2) (h3 : r ≠ 3) (h8 : r ≠ 8) (h9 : r ≠ 9) (h11 : r ≠ 11) : ∀ (n : Nat) (S : ST), runN n S r = S r
  | 0, _ => rfl
  | n + 1, S => by
    rw [runN]
    by_cases q : fstN (cal S) (many S) < many S
    · rw [cif_t q, runN_other h0 h1 h2 h3 h8 h9 h11 n, callQ_other h0 h1 h2 h3 h8 h9 h11]
    · rw [cif_f q]
theorem c11_in {B : Nat} {S : ST} (h : Inv B S) : 0 ≤ (S 11 0).toInt ∧ (S 11 0).toInt ≤ 24 := by
  have hm_ := h.m24
  have h1 := cN_le (S 8) 1 (many S)
  rw [h.ce, nI_toInt (by omega)]
  omega
theorem runN_11 {B : Nat} : ∀ (n : Nat) {S : ST}, Inv B S → (S 11 0).toInt ≤ (runN n S 11 0).toInt
  | 0, _, _ => Int.le_refl _
  | n + 1, S, h => by
    rw [runN]
    by_cases q : fstN (cal S) (many S) < many S
    · rw [cif_t q]
      have hm_ := h.m24
      have hI2 := h.call (q := nI (fstN (cal S) (many S))) (vp_in_nI q (by omega)) (by rw [nI_clamp (by omega)]; exact fstN_yes _ _ q)
      have ih_ := runN_11 n hI2
      have b1 := c11_in h
      rw [callQ_11] at ih_
      have e1_ : (1 : Int32).toInt = 1 := rfl
      rw [fb_addI (by rw [e1_]; omega) (by rw [e1_]; omega), e1_] at ih_
      omega
    · rw [cif_f q]; exact Int.le_refl _
theorem run_nneg {B : Nat} {S : ST} (h : Inv B S) : ¬ (runN 24 S 11 0 - S 11 0) < 0 := by
  have h1 := runN_11 24 h
  have h2 := c11_in h
  have h3 := c11_in (inv_runN 24 h)
  intro z
  rw [fa_lt, fb_subI (by omega) (by omega), show (0 : Int32).toInt = 0 from rfl] at z
  omega
/-! a cue is added -/
def addS (S : ST) (k p o w : Int32) : ST := row (row (row (row (row (row S 4 (upd (S 4) (many S) k)) 5 (upd (S 5) (many S) p)) 6 (upd (S 6) (many S) o)) 7 (upd (S 7) (many S) w)) 8 (upd (S 8) (many S) 0)) 10 (kf (S 10 0 + 1))
theorem add_many {B : Nat} {S : ST} (h : Inv B S) (hlt : S 10 0 < 24) (k p o w : Int32) : many S < 24 ∧ many (addS S k p o w) = many S + 1 := by
  have hm_ := h.m24
  have hm2 : many S < 24 := by
    rw [fa_lt, h.me, nI_toInt (by omega), show (24 : Int32).toInt = 24 from rfl] at hlt
    omega
  refine ⟨hm2, ?_⟩
  show (S 10 0 + 1).toNatClampNeg = many S + 1
  rw [h.me, nI_1]
  exact nI_clamp (by omega)
theorem good_add {B : Nat} {S : ST} (h : Good B S) {k p o w : Int32} (hk : ¬ k < 0 ∧ k ≤ 4) (hp : vp_in p 6) (ho : vp_in o 6) (hw : w = -1 ∨ vp_in w (many S)) (hlt : S 10 0 < 24) (hw2 : w = -1 ∨ S 8 w.toNatClampNeg ≠ 2) : Good B (addS S k p o w) := by
  obtain ⟨hI, hM, hF, hR, hC⟩ := h
  obtain ⟨hm2, hmT⟩ := add_many hI hlt k p o w
  have hcN : cN (upd (S 8) (many S) 0) 1 (many S + 1) = cN (S 8) 1 (many S) := by
    have hnn : ¬ upd (S 8) (many S) 0 (many S) = 1 := by rw [pk_us]; decide
    have hst : cN (upd (S 8) (many S) 0) 1 (many S + 1) = cif (upd (S 8) (many S) 0 (many S) = 1) (cN (upd (S 8) (many S) 0) 1 (many S) + 1) (cN (upd (S 8) (many S) 0) 1 (many S)) := rfl
    rw [hst, cif_f hnn]
    exact cN_cong (f := upd (S 8) (many S) 0) (g := S 8) (v := 1) (fun j hj => by rw [pk_un (show j ≠ many S by omega)])
  refine ⟨Inv.mk hI.a hI.u1 (hI.c.add hk hp (fun _ => ho) hw hlt) hI.d, hM, hF, ?_, ?_⟩
  · refine hR.to (T := addS S k p o w) hI ?_ (fun _ _ => rfl) (fun _ _ => rfl) (fun j hj => ⟨?_, ?_, ?_⟩)
    · rw [hmT]; exact hcN
    · show upd (S 4) (many S) k j = S 4 j
      exact pk_un (by omega)
    · show upd (S 5) (many S) p j = S 5 j
      exact pk_un (by omega)
    · show upd (S 6) (many S) o j = S 6 j
      exact pk_un (by omega)
  · intro i hi hne
    rw [hmT] at hi
    change upd (S 7) (many S) w i ≠ -1 at hne
    show (upd (S 8) (many S) 0 (upd (S 7) (many S) w i).toNatClampNeg = 2 → upd (S 8) (many S) 0 i = 2) ∧ (upd (S 8) (many S) 0 i = 1 → upd (S 8) (many S) 0 (upd (S 7) (many S) w i).toNatClampNeg = 1)
    by_cases e : i = many S
    · have ew : upd (S 7) (many S) w i = w := by rw [e]; exact pk_us
      have e8_ : upd (S 8) (many S) 0 i = 0 := by rw [e]; exact pk_us
      rw [ew] at hne ⊢
      have hv := vin_lt (hw.resolve_left hne)
      rw [e8_, pk_un (show w.toNatClampNeg ≠ many S by omega)]
      exact ⟨fun z => absurd z (hw2.resolve_left hne), fun z => absurd z (by decide)⟩
    · have hi2 : i < many S := by omega
      have ew : upd (S 7) (many S) w i = S 7 i := pk_un e
      have e8_ : upd (S 8) (many S) 0 i = S 8 i := pk_un e
      rw [ew] at hne ⊢
      have hv := vin_lt ((hI.cf i hi2).2.2.2.1.resolve_left hne)
      rw [e8_, pk_un (show (S 7 i).toNatClampNeg ≠ many S by omega)]
      exact hC i hi2 hne
theorem lnk_add {B : Nat} {S : ST} {f : Nat → Int32} (h : Inv B S) (hl_ : Lnk S f) (hlt : S 10 0 < 24) (k p o w : Int32) : Lnk (addS S k p o w) (upd f (many S) w) := by
  intro j hj
  rw [(add_many h hlt k p o w).2] at hj
  show upd f (many S) w j = upd (S 7) (many S) w j
  by_cases e : j = many S
  · rw [e, pk_us, pk_us]
  · rw [pk_un e, pk_un e]; exact hl_ j (by omega)
/-! a cue is missed, and what waits for it -/
theorem i32_cancel {a b c : Int32} (h : a + c = b + c) : a = b := by
  have h2 := congrArg Int32.toBitVec h
  rw [Int32.toBitVec_add, Int32.toBitVec_add] at h2
  exact Int32.toBitVec_inj.mp (BitVec.eq_of_toNat_eq (by
    have h3 := congrArg BitVec.toNat h2
    rw [BitVec.toNat_add, BitVec.toNat_add] at h3
    have h4 := a.toBitVec.isLt
    have h5 := b.toBitVec.isLt
    have h6 := c.toBitVec.isLt
    omega))
theorem ms_cnt (S : ST) (m : Nat) : ∀ (d : Nat) (f : Nat → Int32) (n : Int32) (j : Nat), j + d ≤ m → (ms S f n j d).2 + nI (cN f 2 m) = n + nI (cN (ms S f n j d).1 2 m)
  | 0, f, n, j, _ => rfl
  | d + 1, f, n, j, h => by
    rw [ms]
    by_cases q : f j = 0 ∧ S 7 j ≠ -1 ∧ f (S 7 j).toNatClampNeg = 2
    · rw [cif_t q]
      have ih_ := ms_cnt S m d (upd f j 2) (n + 1) (j + 1) (by omega)
      have ep : cN (upd f j 2) 2 m = cN f 2 m + 1 := cN_put (by rw [q.1]; decide) (by omega)
      rw [ep, ← nI_1] at ih_
      refine i32_cancel (c := 1) ?_
      rw [Int32.add_assoc, ih_, Int32.add_assoc, Int32.add_assoc, Int32.add_comm 1]
    · rw [cif_f q]
      exact ms_cnt S m d f n (j + 1) (by omega)
theorem ms_low (S : ST) : ∀ (d : Nat) (f : Nat → Int32) (n : Int32) (j i : Nat), i < j → (ms S f n j d).1 i = f i
  | 0, _, _, _, _, _ => rfl
  | d + 1, f, n, j, i, h => by
    rw [ms]
    by_cases q : f j = 0 ∧ S 7 j ≠ -1 ∧ f (S 7 j).toNatClampNeg = 2
    · rw [cif_t q, ms_low S d _ _ _ i (by omega), pk_un (by omega)]
    · rw [cif_f q, ms_low S d _ _ _ i (by omega)]
theorem ms_chain (S : ST) (hw : ∀ i, S 7 i ≠ -1 → i < 24 → True) : ∀ (d : Nat) (f : Nat → Int32) (n : Int32) (j i : Nat), j ≤ i → i < j + d → S 7 i ≠ -1 → (S 7 i).toNatClampNeg < i → f i ≠ 1 ∨ f (S 7 i).toNatClampNeg = 1 → (f i = 0 ∨ f i = 1 ∨ f i = 2) → (ms S f n j d).1 (S 7 i).toNatClampNeg = 2 → (ms S f n j d).1 i = 2
  | 0, f, n, j, i, h1, h2, _, _, _, _, _ => by exfalso; omega
  | d + 1, f, n, j, i, h1, h2, h3, h4, h5, h6, h7 => by
    rw [ms] at h7 ⊢
    by_cases e : i = j
    · by_cases q : f j = 0 ∧ S 7 j ≠ -1 ∧ f (S 7 j).toNatClampNeg = 2
      · rw [cif_t q, ms_low S d _ _ _ i (by omega), e, pk_us]
      · rw [cif_f q, ms_low S d _ _ _ _ (by omega)] at h7
        rw [cif_f q, ms_low S d _ _ _ i (by omega)]
        subst e
        rcases h6 with z | z | z
        · exact absurd ⟨z, h3, h7⟩ q
        · rcases h5 with y | y
          · exact absurd z y
          · rw [y] at h7; exact absurd h7 (by decide)
        · exact z
    · by_cases q : f j = 0 ∧ S 7 j ≠ -1 ∧ f (S 7 j).toNatClampNeg = 2
      · rw [cif_t q] at h7 ⊢
        refine ms_chain S hw d (upd f j 2) (n + 1) (j + 1) i (by omega) (by omega) h3 h4 ?_ ?_ h7
        · rw [pk_un e]
          rcases h5 with y | y
          · exact Or.inl y
          · refine Or.inr ?_
            have nj : (S 7 i).toNatClampNeg ≠ j := fun z => by
              rw [z, q.1] at y; exact absurd y (by decide)
            rw [pk_un nj]; exact y
        · rw [pk_un e]; exact h6
      · rw [cif_f q] at h7 ⊢
        exact ms_chain S hw d f n (j + 1) i (by omega) (by omega) h3 h4 h5 h6 h7
noncomputable abbrev missM (S : ST) (q : Int32) : (Nat → Int32) × Int32 := ms S (upd (S 8) q.toNatClampNeg 2) 1 (q.toNatClampNeg + 1) (many S - (q.toNatClampNeg + 1))
theorem miss_keep (S : ST) {q : Int32} (h2 : S 8 q.toNatClampNeg = 0) (i : Nat) : (missM S q).1 i = S 8 i ∨ (S 8 i = 0 ∧ (missM S q).1 i = 2) := by
  rcases ms_keep S (many S - (q.toNatClampNeg + 1)) (upd (S 8) q.toNatClampNeg 2) 1 (q.toNatClampNeg + 1) i with e | ⟨e1_, e2_⟩
  · rw [e]
    by_cases z : i = q.toNatClampNeg
    · rw [z, pk_us]; exact Or.inr ⟨h2, rfl⟩
    · rw [pk_un z]; exact Or.inl rfl
  · by_cases z : i = q.toNatClampNeg
    · rw [z, pk_us] at e1_; exact absurd e1_ (by decide)
    · rw [pk_un z] at e1_; exact Or.inr ⟨e1_, e2_⟩
theorem miss_self (S : ST) (q : Int32) : (missM S q).1 q.toNatClampNeg = 2 := by
  rw [ms_low S _ _ _ _ _ (Nat.lt_succ_self _), pk_us]
theorem good_miss {B : Nat} {S : ST} (h : Good B S) {q : Int32} (hq : vp_in q (many S)) (h2 : S 8 q.toNatClampNeg = 0) : Good B (row S 8 (missM S q).1) := by
  obtain ⟨hI, hM, hF, hR, hC⟩ := h
  have hk := vin_lt hq
  have hkp := miss_keep S h2
  have hcN : cN (missM S q).1 1 (many S) = cN (S 8) 1 (many S) := cN_cong (fun k _ => by
    rcases hkp k with e | ⟨e1_, e2_⟩
    · rw [e]
    · rw [e1_, e2_]; decide)
  refine ⟨Inv.mk hI.a hI.u1 (hI.c.states hkp) hI.d, hM, hF, hR.to (T := row S 8 (missM S q).1) hI hcN (fun _ _ => rfl) (fun _ _ => rfl) (fun _ _ => ⟨rfl, rfl, rfl⟩), ?_⟩
  intro i hi hne
  change i < many S at hi
  change S 7 i ≠ -1 at hne
  show ((missM S q).1 (S 7 i).toNatClampNeg = 2 → (missM S q).1 i = 2) ∧ ((missM S q).1 i = 1 → (missM S q).1 (S 7 i).toNatClampNeg = 1)
  obtain ⟨c1, c2⟩ := hC i hi hne
  have hcf := hI.cf i hi
  have hv := vin_lt (hcf.2.2.2.1.resolve_left hne)
  constructor
  · intro z
    rcases Nat.lt_or_ge q.toNatClampNeg i with y | y
    · refine ms_chain S (fun _ _ _ => trivial) _ _ _ _ i (by omega) (by omega) hne hv ?_ ?_ z
      · rw [pk_un (show i ≠ q.toNatClampNeg by omega)]
        by_cases e1_ : S 8 i = 1
        · refine Or.inr ?_
          have y1 := c2 e1_
          have nj : (S 7 i).toNatClampNeg ≠ q.toNatClampNeg := fun x_ => by
            rw [x_, h2] at y1; exact absurd y1 (by decide)
          rw [pk_un nj]; exact y1
        · exact Or.inl e1_
      · rw [pk_un (show i ≠ q.toNatClampNeg by omega)]; exact hcf.2.2.2.2
    · by_cases e : i = q.toNatClampNeg
      · rw [e]; exact miss_self S q
      · rw [ms_low S _ _ _ _ _ (by omega), pk_un (by omega)] at z
        rw [ms_low S _ _ _ _ _ (by omega), pk_un e]
        exact c1 z
  · intro z
    rcases hkp i with e | ⟨e1_, e2_⟩
    · rw [e] at z
      have y := c2 z
      rcases hkp (S 7 i).toNatClampNeg with x_ | ⟨x1, x2⟩
      · rw [x_]; exact y
      · rw [x1] at y; exact absurd y (by decide)
    · rw [e2_] at z; exact absurd z (by decide)
theorem miss_ans {S : ST} {q : Int32} (hq : vp_in q (many S)) (h2 : S 8 q.toNatClampNeg = 0) : (missM S q).2 = nI (cN (missM S q).1 2 (many S)) - nI (cN (S 8) 2 (many S)) := by
  have hk := vin_lt hq
  have h1 := ms_cnt S (many S) (many S - (q.toNatClampNeg + 1)) (upd (S 8) q.toNatClampNeg 2) 1 (q.toNatClampNeg + 1) (by omega)
  have ep : cN (upd (S 8) q.toNatClampNeg 2) 2 (many S) = cN (S 8) 2 (many S) + 1 := cN_put (by rw [h2]; decide) hk
  rw [ep, ← nI_1] at h1
  refine i32_cancel (c := nI (cN (S 8) 2 (many S))) ?_
  rw [Int32.sub_add_cancel]
  refine i32_cancel (c := 1) ?_
  rw [Int32.add_assoc, h1, Int32.add_comm]
/-! other calls -/
theorem good_mono {B B' : Nat} {S : ST} (h : Good B S) (hb : B ≤ B') : Good B' S := ⟨h.1.mono hb, h.2⟩
theorem good_end {B : Nat} {S : ST} (h : Good B S) (hB_ : B ≤ 100000) : Good (B + 24) (endS S) := by
  obtain ⟨hI, hM, hF, hR, hC⟩ := h
  have hm0 : many (endS S) = 0 := rfl
  refine ⟨Inv.mk hI.a.clear (uq.clear _) (InvC.empty rfl rfl) ⟨fun k hk => ?_, purse_in hI hB_⟩, fun k hk => Or.inl (show fa_fill (fun _ => -1) (S 1) 6 k = -1 from fa_fill_in hk), hF, fun k hk => ?_, fun q hq => ?_⟩
  · show fa_fill (fun _ => 0) (S 13) 18 k = 0 ∨ _
    rw [fa_fill_in hk]; exact Or.inl rfl
  · rw [hm0]
    show fa_fill (fun _ => -1) (S 16) 6 k = fa_fill (fun _ => -1) (S 1) 6 k
    rw [fa_fill_in hk, fa_fill_in hk]
  · rw [hm0] at hq; exact absurd hq (Nat.not_lt_zero q)
theorem good_16 {B : Nat} {S : ST} (h : Good B S) (g : Nat → Int32) : Good B (row S 16 g) := by
  obtain ⟨hI, hM, hF, hR, hC⟩ := h
  exact ⟨Inv.mk hI.a hI.u1 (hI.c.other rfl rfl rfl rfl rfl rfl rfl rfl) hI.d, hM, hF, hR.to (T := row S 16 g) hI rfl (fun _ _ => rfl) (fun _ _ => rfl) (fun _ _ => ⟨rfl, rfl, rfl⟩), hC⟩
theorem good_guess {B : Nat} {S : ST} (h : Good B S) (i : Nat) (g : Nat → Int32) : Good B (row (row S 13 (upd (S 13) i 1)) 12 g) := by
  obtain ⟨hI, hM, hF, hR, hC⟩ := h
  exact ⟨Inv.mk hI.a hI.u1 (hI.c.other rfl rfl rfl rfl rfl rfl rfl rfl) ⟨fun k hk => by
      show upd (S 13) i 1 k = 0 ∨ upd (S 13) i 1 k = 1
      by_cases e : k = i
      · rw [e, pk_us]; exact Or.inr rfl
      · rw [pk_un e]; exact hI.i13 k hk, hI.i14⟩, hM, hF, hR.to (T := row (row S 13 (upd (S 13) i 1)) 12 g) hI rfl (fun _ _ => rfl) (fun _ _ => rfl) (fun _ _ => ⟨rfl, rfl, rfl⟩), hC⟩
theorem good_new : Good 10 S00 := by
  have hm0 : many S00 = 0 := rfl
  refine ⟨Inv.new, fun k hk => Or.inl (show fa_fill (fun _ => -1) (fun _ => 0) 6 k = -1 from fa_fill_in hk), fun k hk hne => ?_, fun k hk => ?_, fun q hq => ?_⟩
  · exact absurd ((show S00 0 k = fa_fill (fun _ => -1) (fun _ => 0) 6 k from rfl).trans (fa_fill_in hk)) hne
  · rw [hm0]
    show fa_fill (fun _ => -1) (S00 16) 6 k = fa_fill (fun _ => -1) (fun _ => 0) 6 k
    rw [fa_fill_in hk, fa_fill_in hk]
  · rw [hm0] at hq; exact absurd hq (Nat.not_lt_zero q)
