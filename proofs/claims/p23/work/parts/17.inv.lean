/-! WHAT HOLDS OF A STATE BETWEEN CALLS (B: what the purse holds at the most) -/
def cueF (S : ST) (k : Nat) : Prop := (0 ≤ (S 4 k).toInt ∧ (S 4 k).toInt ≤ 4) ∧ vp_in (S 5 k) 6 ∧ (S 4 k = 2 ∨ S 4 k = 4 → vp_in (S 6 k) 6) ∧ (S 7 k = -1 ∨ vp_in (S 7 k) k) ∧ (S 8 k = 0 ∨ S 8 k = 1 ∨ S 8 k = 2)
def Inv (B : Nat) (S : ST) : Prop :=
  (∀ k, k < 6 → S 0 k = -1 ∨ vp_in (S 0 k) 8) ∧
  (∀ j k, j < 6 → k < 6 → j ≠ k → S 0 j = S 0 k → S 0 j = -1) ∧
  (∀ j k, j < 6 → k < 6 → j ≠ k → S 1 j = S 1 k → S 1 j = -1) ∧
  (∀ k, k < 6 → S 2 k = 0 ∨ S 2 k = 1) ∧
  (∀ k, k < 6 → S 2 k ≠ 0 → S 0 k ≠ -1) ∧
  (∀ c, c < 8 → 0 ≤ (S 3 c).toInt ∧ (S 3 c).toInt ≤ 3) ∧
  (∀ k, k < 6 → S 0 k ≠ -1 → (S 3 (S 0 k).toNatClampNeg).toInt < 3) ∧
  (many S ≤ 24 ∧ S 10 0 = nI (many S) ∧ S 11 0 = nI (cN (S 8) 1 (many S))) ∧
  (∀ k, k < many S → cueF S k) ∧
  (∀ k, k < cN (S 8) 1 (many S) → vp_in (S 9 k) (many S)) ∧
  (∀ k, k < 18 → S 13 k = 0 ∨ S 13 k = 1) ∧
  (0 ≤ (S 14 0).toInt ∧ (S 14 0).toInt ≤ B)
theorem Inv.i0 {B : Nat} {S : ST} (h : Inv B S) : ∀ k, k < 6 → S 0 k = -1 ∨ vp_in (S 0 k) 8 := h.1
theorem Inv.u0 {B : Nat} {S : ST} (h : Inv B S) : ∀ j k, j < 6 → k < 6 → j ≠ k → S 0 j = S 0 k → S 0 j = -1 := h.2.1
theorem Inv.u1 {B : Nat} {S : ST} (h : Inv B S) : ∀ j k, j < 6 → k < 6 → j ≠ k → S 1 j = S 1 k → S 1 j = -1 := h.2.2.1
theorem Inv.i2 {B : Nat} {S : ST} (h : Inv B S) : ∀ k, k < 6 → S 2 k = 0 ∨ S 2 k = 1 := h.2.2.2.1
theorem Inv.i20 {B : Nat} {S : ST} (h : Inv B S) : ∀ k, k < 6 → S 2 k ≠ 0 → S 0 k ≠ -1 := h.2.2.2.2.1
theorem Inv.i3 {B : Nat} {S : ST} (h : Inv B S) : ∀ c, c < 8 → 0 ≤ (S 3 c).toInt ∧ (S 3 c).toInt ≤ 3 := h.2.2.2.2.2.1
theorem Inv.i30 {B : Nat} {S : ST} (h : Inv B S) : ∀ k, k < 6 → S 0 k ≠ -1 → (S 3 (S 0 k).toNatClampNeg).toInt < 3 := h.2.2.2.2.2.2.1
theorem Inv.m24 {B : Nat} {S : ST} (h : Inv B S) : many S ≤ 24 := h.2.2.2.2.2.2.2.1.1
theorem Inv.me {B : Nat} {S : ST} (h : Inv B S) : S 10 0 = nI (many S) := h.2.2.2.2.2.2.2.1.2.1
theorem Inv.ce {B : Nat} {S : ST} (h : Inv B S) : S 11 0 = nI (cN (S 8) 1 (many S)) := h.2.2.2.2.2.2.2.1.2.2
theorem Inv.cf {B : Nat} {S : ST} (h : Inv B S) : ∀ k, k < many S → cueF S k := h.2.2.2.2.2.2.2.2.1
theorem Inv.i9 {B : Nat} {S : ST} (h : Inv B S) : ∀ k, k < cN (S 8) 1 (many S) → vp_in (S 9 k) (many S) := h.2.2.2.2.2.2.2.2.2.1
theorem Inv.i13 {B : Nat} {S : ST} (h : Inv B S) : ∀ k, k < 18 → S 13 k = 0 ∨ S 13 k = 1 := h.2.2.2.2.2.2.2.2.2.2.1
theorem Inv.i14 {B : Nat} {S : ST} (h : Inv B S) : 0 ≤ (S 14 0).toInt ∧ (S 14 0).toInt ≤ B := h.2.2.2.2.2.2.2.2.2.2.2
theorem Inv.cue {B : Nat} {S : ST} (h : Inv B S) {k : Nat} (hk : k < many S) : cueOK S k := by
  obtain ⟨h1, h2, h3, h4, h5⟩ := h.cf k hk
  have hm_ := h.m24
  exact ⟨h1, h2, h3, h4.imp id (fun z => vin_mono z (by omega)), h.i2 _ (vin_lt h2)⟩
theorem Inv.q24 {B : Nat} {S : ST} (h : Inv B S) {q : Int32} (hq : vp_in q (many S)) : vp_in q 24 := vin_mono hq h.m24
theorem Inv.cueq {B : Nat} {S : ST} (h : Inv B S) {q : Int32} (hq : vp_in q (many S)) : cueOK S q.toNatClampNeg := h.cue (vin_lt hq)
theorem cN_lt {f : Nat → Int32} {v : Int32} : ∀ {n k : Nat}, k < n → f k ≠ v → cN f v n < n
  | 0, k, h, _ => absurd h (Nat.not_lt_zero k)
  | n + 1, k, h, hv => by
    unfold cN
    by_cases e : k = n
    · subst e
      rw [cif_f hv]
      have := cN_le f v k
      omega
    · have ih_ := cN_lt (n := n) (k := k) (by omega) hv
      by_cases q : f n = v
      · rw [cif_t q]; omega
      · rw [cif_f q]; omega
theorem Inv.cl {B : Nat} {S : ST} (h : Inv B S) {k : Nat} (hk : k < many S) (h1 : S 8 k ≠ 1) : vp_in (S 11 0) 24 := by
  have h2 := cN_lt hk h1
  have hm_ := h.m24
  rw [h.ce]
  exact vp_in_nI (by omega) (by decide)
theorem Inv.ex {B : Nat} {S : ST} (h : Inv B S) {k : Nat} (hk : k < many S) (hc_ : cal S k) : S 4 k = 1 → S 0 (S 5 k).toNatClampNeg ≠ -1 ∧ vp_in (S 0 (S 5 k).toNatClampNeg) 8 := by
  intro h1
  have hd := hc_.2.2
  rw [done1 h1] at hd
  have hp := vin_lt (h.cf k hk).2.1
  have hn := h.i20 _ hp hd
  exact ⟨hn, (h.i0 _ hp).resolve_left hn⟩
theorem Inv.lt24 {B : Nat} {S : ST} (h : Inv B S) (h1 : S 10 0 < 24) : vp_in (S 10 0) 24 := by
  rw [vp_in_iff, h.me, nI_toInt (by have := h.m24; omega)]
  rw [h.me, fa_lt, nI_toInt (by have := h.m24; omega), show (24 : Int32).toInt = 24 from rfl] at h1
  omega
theorem callQ_11 (S : ST) (q : Int32) : callQ S q 11 0 = S 11 0 + 1 := rfl
theorem runN_stop {S : ST} (h : ¬ fstN (cal S) (many S) < many S) : ∀ n, runN n S = S
  | 0 => rfl
  | n + 1 => by rw [runN, cif_f h]
theorem fc_none {S : ST} (hm_ : many S ≤ 24) (h : cif (fstN (cal S) (many S) < many S) (nI (fstN (cal S) (many S))) (-1) = -1) : ¬ fstN (cal S) (many S) < many S := by
  intro z
  rw [cif_t z] at h
  exact nI_ne_m1 (by omega) h
theorem fc_some {S : ST} {i : Int32} (e : i = cif (fstN (cal S) (many S) < many S) (nI (fstN (cal S) (many S))) (-1)) (h : ¬ i = -1) : fstN (cal S) (many S) < many S := by
  rcases Nat.lt_or_ge (fstN (cal S) (many S)) (many S) with z | z
  · exact z
  · rw [cif_f (by omega)] at e
    exact absurd e h
theorem mv_cong {S S' : ST} {k : Nat} {f : Nat → Int32} (h4 : S' 4 = S 4) (h5 : S' 5 = S 5) (h6 : S' 6 = S 6) : mv S' k f = mv S k f := by
  unfold mv
  rw [h4, h5, h6]
theorem gp_in {g p : Int32} (hg : vp_in g 3) (hp : vp_in p 6) : vp_in (g * 6 + p) 18 := by
  obtain ⟨j, hj, rfl⟩ := vp_in_of hg (by decide)
  obtain ⟨k, hk, rfl⟩ := vp_in_of hp (by decide)
  have h6 : (6 : Int32) = nI 6 := rfl
  rw [h6, pk_mul, nI_add]
  exact vp_in_nI (by omega) (by decide)
theorem gp_comm (g p : Int32) : 6 * g + p = g * 6 + p := by rw [Int32.mul_comm]
theorem purse_eq {B : Nat} {S : ST} (h : Inv B S) (hB_ : B ≤ 100000) : (if 0 < S 14 0 + nI (cN (S 8) 1 (many S)) - nI (cN (S 8) 2 (many S)) then S 14 0 + nI (cN (S 8) 1 (many S)) - nI (cN (S 8) 2 (many S)) else 0) = purseE S := by
  have hm_ := h.m24
  have h1 := cN_le (S 8) 1 (many S)
  have h2 := cN_le (S 8) 2 (many S)
  have hp := h.i14
  unfold purseE
  rw [h.ce]
  generalize cN (S 8) 1 (many S) = c1 at h1 ⊢
  generalize cN (S 8) 2 (many S) = c2 at h2 ⊢
  have e1_ : (nI c1).toInt = c1 := nI_toInt (by omega)
  have e2_ : (nI c2).toInt = c2 := nI_toInt (by omega)
  have e3_ : (S 14 0 + nI c1).toInt = (S 14 0).toInt + c1 := by rw [fb_addI] <;> rw [e1_] <;> omega
  have e4_ : (S 14 0 + nI c1 - nI c2).toInt = (S 14 0).toInt + c1 - c2 := by rw [fb_subI] <;> rw [e3_, e2_] <;> omega
  by_cases q : S 14 0 + nI c1 < nI c2
  · rw [cif_t q, if_neg]
    intro z
    rw [fa_lt, e4_, show (0 : Int32).toInt = 0 from rfl] at z
    rw [fa_lt, e3_, e2_] at q
    omega
  · rw [cif_f q]
    by_cases z : 0 < S 14 0 + nI c1 - nI c2
    · rw [if_pos z]
    · rw [if_neg z]
      rw [fa_lt, e3_, e2_] at q
      rw [fa_lt, e4_, show (0 : Int32).toInt = 0 from rfl] at z
      rw [fa_eq, e4_, show (0 : Int32).toInt = 0 from rfl]
      omega
theorem no_zero {S : ST} {n : Nat} (hn : n ≤ 24) (h : nI (cN (S 8) 0 n) ≤ 0) : ∀ k, k < n → S 8 k ≠ 0 := by
  intro k hk e
  have h1 := cN_pos hk e
  have h2 := cN_le (S 8) 0 n
  exact absurd h (nI_nle h1 (by omega))
/-! the invariant goes on, call by call -/
def uq (f : Nat → Int32) : Prop := ∀ j k, j < 6 → k < 6 → j ≠ k → f j = f k → f j = -1
def InvA (c s w : Nat → Int32) : Prop :=
  (∀ k, k < 6 → c k = -1 ∨ vp_in (c k) 8) ∧ uq c ∧ (∀ k, k < 6 → s k = 0 ∨ s k = 1) ∧ (∀ k, k < 6 → s k ≠ 0 → c k ≠ -1) ∧
  (∀ x, x < 8 → 0 ≤ (w x).toInt ∧ (w x).toInt ≤ 3) ∧ (∀ k, k < 6 → c k ≠ -1 → (w (c k).toNatClampNeg).toInt < 3)
def InvC (S : ST) : Prop :=
  (many S ≤ 24 ∧ S 10 0 = nI (many S) ∧ S 11 0 = nI (cN (S 8) 1 (many S))) ∧ (∀ k, k < many S → cueF S k) ∧ (∀ k, k < cN (S 8) 1 (many S) → vp_in (S 9 k) (many S))
def InvD (B : Nat) (g : Nat → Int32) (p : Int32) : Prop := (∀ k, k < 18 → g k = 0 ∨ g k = 1) ∧ (0 ≤ p.toInt ∧ p.toInt ≤ B)
theorem Inv.mk {B : Nat} {S : ST} (h1 : InvA (S 0) (S 2) (S 3)) (h2 : uq (S 1)) (h3 : InvC S) (h4 : InvD B (S 13) (S 14 0)) : Inv B S :=
  ⟨h1.1, h1.2.1, h2, h1.2.2.1, h1.2.2.2.1, h1.2.2.2.2.1, h1.2.2.2.2.2, h3.1, h3.2.1, h3.2.2, h4.1, h4.2⟩
theorem Inv.a {B : Nat} {S : ST} (h : Inv B S) : InvA (S 0) (S 2) (S 3) := ⟨h.i0, h.u0, h.i2, h.i20, h.i3, h.i30⟩
theorem Inv.c {B : Nat} {S : ST} (h : Inv B S) : InvC S := ⟨⟨h.m24, h.me, h.ce⟩, h.cf, h.i9⟩
theorem Inv.d {B : Nat} {S : ST} (h : Inv B S) : InvD B (S 13) (S 14 0) := ⟨h.i13, h.i14⟩
theorem InvA.enter {c s w : Nat → Int32} (h : InvA c s w) {a : Nat} (hc_ : c a ≠ -1) : InvA c (upd s a 1) w := by
  obtain ⟨h1, h2, h3, h4, h5, h6⟩ := h
  refine ⟨h1, h2, fun k hk => ?_, fun k hk hs => ?_, h5, h6⟩
  · by_cases e : k = a
    · rw [e, pk_us]; exact Or.inr rfl
    · rw [pk_un e]; exact h3 k hk
  · by_cases e : k = a
    · rw [e]; exact hc_
    · rw [pk_un e] at hs; exact h4 k hk hs
theorem InvA.exit {c s w : Nat → Int32} (h : InvA c s w) {a : Nat} (ha : a < 6) (hc_ : c a ≠ -1) :
    InvA (cif (3 ≤ w (c a).toNatClampNeg + 1) (upd c a (-1)) c) (upd s a 0) (upd w (c a).toNatClampNeg (w (c a).toNatClampNeg + 1)) := by
  obtain ⟨h1, h2, h3, h4, h5, h6⟩ := h
  have hv := (h1 a ha).resolve_left hc_
  have hx := vin_lt hv
  have hw := h6 a ha hc_
  have hw0 := (h5 _ hx).1
  have e1_ : (1 : Int32).toInt = 1 := rfl
  have e3_ : (3 : Int32).toInt = 3 := rfl
  have hw1 : (w (c a).toNatClampNeg + 1).toInt = (w (c a).toNatClampNeg).toInt + 1 := by rw [fb_addI] <;> rw [e1_] <;> omega
  have hs : ∀ k, k < 6 → upd s a 0 k = 0 ∨ upd s a 0 k = 1 := by
    intro k hk
    by_cases e : k = a
    · rw [e, pk_us]; exact Or.inl rfl
    · rw [pk_un e]; exact h3 k hk
  have hwr : ∀ x, x < 8 → 0 ≤ (upd w (c a).toNatClampNeg (w (c a).toNatClampNeg + 1) x).toInt ∧ (upd w (c a).toNatClampNeg (w (c a).toNatClampNeg + 1) x).toInt ≤ 3 := by
    intro x hx8
    by_cases e : x = (c a).toNatClampNeg
    · rw [e, pk_us, hw1]; omega
    · rw [pk_un e]; exact h5 x hx8
  have same : ∀ k, k < 6 → c k ≠ -1 → k ≠ a → (c k).toNatClampNeg ≠ (c a).toNatClampNeg := by
    intro k hk hck hka e
    have hvk := (h1 k hk).resolve_left hck
    have : c k = c a := by rw [vin_nI hvk (by decide), vin_nI hv (by decide), e]
    exact hck (h2 k a hk ha hka this)
  by_cases q : 3 ≤ w (c a).toNatClampNeg + 1
  · rw [cif_t q]
    refine ⟨fun k hk => ?_, fun j k hj hk hjk e => ?_, hs, fun k hk hsk => ?_, hwr, fun k hk hck => ?_⟩
    · by_cases e : k = a
      · rw [e, pk_us]; exact Or.inl rfl
      · rw [pk_un e]; exact h1 k hk
    · by_cases ej : j = a
      · rw [ej, pk_us]
      · rw [pk_un ej] at e ⊢
        by_cases ek : k = a
        · rw [ek, pk_us] at e; exact e
        · rw [pk_un ek] at e; exact h2 j k hj hk hjk e
    · by_cases e : k = a
      · rw [e, pk_us] at hsk; exact absurd rfl hsk
      · rw [pk_un e] at hsk ⊢; exact h4 k hk hsk
    · by_cases e : k = a
      · rw [e, pk_us] at hck; exact absurd rfl hck
      · rw [pk_un e] at hck ⊢
        rw [pk_un (same k hk hck e)]
        exact h6 k hk hck
  · rw [cif_f q]
    refine ⟨h1, h2, hs, fun k hk hsk => ?_, hwr, fun k hk hck => ?_⟩
    · by_cases e : k = a
      · rw [e]; exact hc_
      · rw [pk_un e] at hsk; exact h4 k hk hsk
    · by_cases e : k = a
      · rw [e, pk_us, hw1]
        rw [fa_le, hw1, e3_] at q
        omega
      · rw [pk_un (same k hk hck e)]
        exact h6 k hk hck
theorem own_one {c : Nat → Int32} {x p : Int32} (hu : uq c) (hx : x ≠ -1) (hp : vp_in p 6) (h : fI c x = -1 ∨ fI c x = p) : ∀ k, k < 6 → c k = x → k = p.toNatClampNeg := by
  intro k hk e
  rcases h with h | h
  · exact absurd e (fI_m1 h k hk)
  · rcases fI_cases c x with ⟨e1_, -⟩ | ⟨j, hj, e1_, e2_⟩
    · exact absurd (e1_.symm.trans h) (fun z => vin_ne hp z.symm)
    · have hjp : p.toNatClampNeg = j := by rw [← h, e1_]; exact nI_clamp (by omega)
      rw [hjp]
      by_cases z : k = j
      · exact z
      · exact absurd (e.symm.trans (hu k j hk hj z (e.trans e2_.symm))) hx
theorem InvA.dress {c s w : Nat → Int32} (h : InvA c s w) {p x : Int32} (hp : vp_in p 6) (hx : vp_in x 8) (hs : s p.toNatClampNeg = 0) (hf : fI c x = -1 ∨ fI c x = p) (hw : w x.toNatClampNeg < 3) : InvA (upd c p.toNatClampNeg x) s w := by
  obtain ⟨h1, h2, h3, h4, h5, h6⟩ := h
  have ho := own_one h2 (vin_ne hx) hp hf
  have e3_ : (3 : Int32).toInt = 3 := rfl
  refine ⟨fun k hk => ?_, fun j k hj hk hjk e => ?_, h3, fun k hk hsk => ?_, h5, fun k hk hck => ?_⟩
  · by_cases e : k = p.toNatClampNeg
    · rw [e, pk_us]; exact Or.inr hx
    · rw [pk_un e]; exact h1 k hk
  · by_cases ej : j = p.toNatClampNeg
    · have ek : k ≠ p.toNatClampNeg := fun z => hjk (ej.trans z.symm)
      rw [ej, pk_us, pk_un ek] at e
      exact absurd (ho k hk e.symm) ek
    · by_cases ek : k = p.toNatClampNeg
      · rw [ek, pk_us, pk_un ej] at e
        exact absurd (ho j hj e) ej
      · rw [pk_un ej, pk_un ek] at e
        rw [pk_un ej]
        exact h2 j k hj hk hjk e
  · by_cases e : k = p.toNatClampNeg
    · rw [e] at hsk; exact absurd hs hsk
    · rw [pk_un e]; exact h4 k hk hsk
  · by_cases e : k = p.toNatClampNeg
    · rw [e, pk_us]; rw [fa_lt, e3_] at hw; exact hw
    · rw [pk_un e] at hck ⊢; exact h6 k hk hck
theorem InvA.repair {c s w : Nat → Int32} (h : InvA c s w) (x : Nat) : InvA c s (upd w x 0) := by
  obtain ⟨h1, h2, h3, h4, h5, h6⟩ := h
  have e0 : (0 : Int32).toInt = 0 := rfl
  refine ⟨h1, h2, h3, h4, fun y hy => ?_, fun k hk hck => ?_⟩
  · by_cases e : y = x
    · rw [e, pk_us, e0]; omega
    · rw [pk_un e]; exact h5 y hy
  · by_cases e : (c k).toNatClampNeg = x
    · rw [e, pk_us, e0]; omega
    · rw [pk_un e]; exact h6 k hk hck
theorem InvA.clear {c s w : Nat → Int32} (h : InvA c s w) : InvA c (fa_fill (fun _ => 0) s 6) w := by
  obtain ⟨h1, h2, h3, h4, h5, h6⟩ := h
  refine ⟨h1, h2, fun k hk => ?_, fun k hk hs => ?_, h5, h6⟩
  · rw [fa_fill_in hk]; exact Or.inl rfl
  · rw [fa_fill_in hk] at hs; exact absurd rfl hs
theorem uq.clear (f : Nat → Int32) : uq (fa_fill (fun _ => -1) f 6) := fun j k hj hk hjk e => fa_fill_in hj
theorem uq.mv {S : ST} {k : Nat} (h : uq (S 1)) (hF : cueF S k) (hd : done S k) : uq (mv S k (S 1)) := by
  obtain ⟨hk4, hp, ho, -, -⟩ := hF
  by_cases e2_ : S 4 k = 2
  · rw [mv2 e2_]
    rw [done2 e2_] at hd
    have hn := fI_m1 hd.2
    intro i j hi hj hij e
    by_cases ei : i = (S 5 k).toNatClampNeg
    · have ej : j ≠ (S 5 k).toNatClampNeg := fun z => hij (ei.trans z.symm)
      rw [ei, pk_us, pk_un ej] at e
      exact absurd e.symm (hn j hj)
    · by_cases ej : j = (S 5 k).toNatClampNeg
      · rw [ej, pk_us, pk_un ei] at e
        exact absurd e (hn i hi)
      · rw [pk_un ei, pk_un ej] at e
        rw [pk_un ei]
        exact h i j hi hj hij e
  · by_cases e3_ : S 4 k = 3
    · rw [mv3 e3_]
      intro i j hi hj hij e
      by_cases ei : i = (S 5 k).toNatClampNeg
      · rw [ei, pk_us]
      · rw [pk_un ei] at e ⊢
        by_cases ej : j = (S 5 k).toNatClampNeg
        · rw [ej, pk_us] at e; exact e
        · rw [pk_un ej] at e; exact h i j hi hj hij e
    · by_cases e4_ : S 4 k = 4
      · rw [mv4 e4_]
        have ha := vin_lt hp
        have hb := vin_lt (ho (Or.inr e4_))
        generalize (S 5 k).toNatClampNeg = a at ha ⊢
        generalize (S 6 k).toNatClampNeg = b at hb ⊢
        have hg : ∀ i, upd (upd (S 1) a (S 1 b)) b (S 1 a) i = S 1 (if i = b then a else if i = a then b else i) := by
          intro i
          unfold upd
          by_cases q : i = b
          · simp [q]
          · by_cases q2 : i = a
            · subst q2
              simp [q]
            · simp [q, q2]
        intro i j hi hj hij e
        rw [hg, hg] at e
        rw [hg]
        refine h _ _ ?_ ?_ ?_ e
        · split
          · exact ha
          · split
            · exact hb
            · exact hi
        · split
          · exact ha
          · split
            · exact hb
            · exact hj
        · split <;> split <;> (try split) <;> (try split) <;> omega
      · rw [mvn e2_ e3_ e4_]; exact h
theorem InvC.call {S : ST} (h : InvC S) {q : Int32} (hq : vp_in q (many S)) (hc_ : S 8 q.toNatClampNeg = 0) : InvC (row (row (row S 8 (upd (S 8) q.toNatClampNeg 1)) 9 (upd (S 9) (S 11 0).toNatClampNeg q)) 11 (kf (S 11 0 + 1))) := by
  obtain ⟨⟨hm_, he, hce⟩, hf, ho⟩ := h
  have hk := vin_lt hq
  have h1 : S 8 q.toNatClampNeg ≠ 1 := by rw [hc_]; decide
  have hcl := cN_lt hk h1
  have hcp := cN_put h1 hk
  have hcc : (S 11 0).toNatClampNeg = cN (S 8) 1 (many S) := by rw [hce]; exact nI_clamp (by omega)
  refine ⟨⟨hm_, he, ?_⟩, fun k hk2 => ?_, fun k hk2 => ?_⟩
  · show S 11 0 + 1 = nI (cN (upd (S 8) q.toNatClampNeg 1) 1 (many S))
    rw [hcp, hce]; exact nI_1 _
  · obtain ⟨a1, a2, a3, a4, a5⟩ := hf k hk2
    refine ⟨a1, a2, a3, a4, ?_⟩
    show upd (S 8) q.toNatClampNeg 1 k = 0 ∨ upd (S 8) q.toNatClampNeg 1 k = 1 ∨ upd (S 8) q.toNatClampNeg 1 k = 2
    by_cases e : k = q.toNatClampNeg
    · rw [e, pk_us]; exact Or.inr (Or.inl rfl)
    · rw [pk_un e]; exact a5
  · have hk3 : k < cN (upd (S 8) q.toNatClampNeg 1) 1 (many S) := hk2
    show vp_in (upd (S 9) (S 11 0).toNatClampNeg q k) (many S)
    rw [hcp] at hk3
    by_cases e : k = (S 11 0).toNatClampNeg
    · rw [e, pk_us]; exact hq
    · rw [pk_un e]; exact ho k (by omega)
theorem InvC.other {S T : ST} (h : InvC S) (h4 : T 4 = S 4) (h5 : T 5 = S 5) (h6 : T 6 = S 6) (h7 : T 7 = S 7) (h8 : T 8 = S 8) (h9 : T 9 = S 9) (h10 : T 10 = S 10) (h11 : T 11 = S 11) : InvC T := by
  unfold InvC cueF many at *
  rw [h4, h5, h6, h7, h8, h9, h10, h11]
  exact h
theorem Inv.call {B : Nat} {S : ST} (h : Inv B S) {q : Int32} (hq : vp_in q (many S)) (hc_ : cal S q.toNatClampNeg) : Inv B (callQ S q) := by
  have hk := vin_lt hq
  have hF := h.cf _ hk
  have hp := vin_lt hF.2.1
  have hC := h.c.call hq hc_.1
  have hd := hc_.2.2
  by_cases e0 : S 4 q.toNatClampNeg = 0
  · rw [callQ_0 e0]
    rw [done0 e0] at hd
    exact Inv.mk (h.a.enter hd.2) h.u1 (hC.other rfl rfl rfl rfl rfl rfl rfl rfl) h.d
  · by_cases e1_ : S 4 q.toNatClampNeg = 1
    · have hx := h.ex hk hc_ e1_
      rw [callQ_1 e1_]
      have hA := h.a.exit hp hx.1
      refine Inv.mk hA h.u1 (hC.other rfl rfl rfl rfl rfl rfl rfl rfl) h.d
    · rw [callQ_m e0 e1_]
      exact Inv.mk h.a (uq.mv h.u1 hF hd) (hC.other rfl rfl rfl rfl rfl rfl rfl rfl) h.d
theorem Inv.mono {B B' : Nat} {S : ST} (h : Inv B S) (hB_ : B ≤ B') : Inv B' S := Inv.mk h.a h.u1 h.c ⟨h.i13, h.i14.1, by have := h.i14.2; omega⟩
theorem inv_runN {B : Nat} : ∀ (n : Nat) {S : ST}, Inv B S → Inv B (runN n S)
  | 0, _, h => h
  | n + 1, S, h => by
    rw [runN]
    by_cases q : fstN (cal S) (many S) < many S
    · rw [cif_t q]
      have hm_ := h.m24
      exact inv_runN n (h.call (vp_in_nI q (by omega)) (by rw [nI_clamp (by omega)]; exact fstN_yes _ _ q))
    · rw [cif_f q]; exact h
