/-! WHAT HOLDS OF A STATE BETWEEN CALLS (B: what the purse holds at the most) -/
def cueF (S : ST) (k : Nat) : Prop := (0 ≤ (S 4 k).toInt ∧ (S 4 k).toInt ≤ 4) ∧ vp_in (S 5 k) 6 ∧ (S 4 k = 2 ∨ S 4 k = 4 → vp_in (S 6 k) 6) ∧ (S 7 k = -1 ∨ vp_in (S 7 k) k) ∧ (S 8 k = 0 ∨ S 8 k = 1 ∨ S 8 k = 2)
def Inv (B : Nat) (S : ST) : Prop :=
  (∀ k, k < 6 → S 0 k = -1 ∨ vp_in (S 0 k) 8) ∧
  (∀ j k, j < 6 → k < 6 → j ≠ k → S 0 j = S 0 k → S 0 j = -1) ∧
  (∀ j k, j < 6 → k < 6 → j ≠ k → S 1 j = S 1 k → S 1 j = -1) ∧
  (∀ k, k < 6 → S 2 k = 0 ∨ S 2 k = 1) ∧
  (∀ k, k < 6 → S 2 k ≠ 0 → S 0 k ≠ -1) ∧
  (∀ c, c < 8 → 0 ≤ (S 3 c).toInt ∧ (S 3 c).toInt ≤ 3) ∧
  (∀ k, k < 6 → S 0 k ≠ -1 → (S 3 (S 0 k).toNatClampNeg).toInt < 3) ∧
  (many S ≤ 24 ∧ S 10 0 = nI (many S) ∧ S 11 0 = nI (cN (S 8) 1 (many S))) ∧
  (∀ k, k < many S → cueF S k) ∧
  (∀ k, k < cN (S 8) 1 (many S) → vp_in (S 9 k) (many S)) ∧
  (∀ k, k < 18 → S 13 k = 0 ∨ S 13 k = 1) ∧
  (0 ≤ (S 14 0).toInt ∧ (S 14 0).toInt ≤ B)
theorem Inv.i0 {B : Nat} {S : ST} (h : Inv B S) : ∀ k, k < 6 → S 0 k = -1 ∨ vp_in (S 0 k) 8 := h.1
theorem Inv.u0 {B : Nat} {S : ST} (h : Inv B S) : ∀ j k, j < 6 → k < 6 → j ≠ k → S 0 j = S 0 k → S 0 j = -1 := h.2.1
theorem Inv.u1 {B : Nat} {S : ST} (h : Inv B S) : ∀ j k, j < 6 → k < 6 → j ≠ k → S 1 j = S 1 k → S 1 j = -1 := h.2.2.1
theorem Inv.i2 {B : Nat} {S : ST} (h : Inv B S) : ∀ k, k < 6 → S 2 k = 0 ∨ S 2 k = 1 := h.2.2.2.1
theorem Inv.i20 {B : Nat} {S : ST} (h : Inv B S) : ∀ k, k < 6 → S 2 k ≠ 0 → S 0 k ≠ -1 := h.2.2.2.2.1
theorem Inv.i3 {B : Nat} {S : ST} (h : Inv B S) : ∀ c, c < 8 → 0 ≤ (S 3 c).toInt ∧ (S 3 c).toInt ≤ 3 := h.2.2.2.2.2.1
theorem Inv.i30 {B : Nat} {S : ST} (h : Inv B S) : ∀ k, k < 6 → S 0 k ≠ -1 → (S 3 (S 0 k).toNatClampNeg).toInt < 3 := h.2.2.2.2.2.2.1
theorem Inv.m24 {B : Nat} {S : ST} (h : Inv B S) : many S ≤ 24 := h.2.2.2.2.2.2.2.1.1
theorem Inv.me {B : Nat} {S : ST} (h : Inv B S) : S 10 0 = nI (many S) := h.2.2.2.2.2.2.2.1.2.1
theorem Inv.ce {B : Nat} {S : ST} (h : Inv B S) : S 11 0 = nI (cN (S 8) 1 (many S)) := h.2.2.2.2.2.2.2.1.2.2
theorem Inv.cf {B : Nat} {S : ST} (h : Inv B S) : ∀ k, k < many S → cueF S k := h.2.2.2.2.2.2.2.2.1
theorem Inv.i9 {B : Nat} {S : ST} (h : Inv B S) : ∀ k, k < cN (S 8) 1 (many S) → vp_in (S 9 k) (many S) := h.2.2.2.2.2.2.2.2.2.1
theorem Inv.i13 {B : Nat} {S : ST} (h : Inv B S) : ∀ k, k < 18 → S 13 k = 0 ∨ S 13 k = 1 := h.2.2.2.2.2.2.2.2.2.2.1
theorem Inv.i14 {B : Nat} {S : ST} (h : Inv B S) : 0 ≤ (S 14 0).toInt ∧ (S 14 0).toInt ≤ B := h.2.2.2.2.2.2.2.2.2.2.2
theorem Inv.cue {B : Nat} {S : ST} (h : Inv B S) {k : Nat} (hk : k < many S) : cueOK S k := by
  obtain ⟨h1, h2, h3, h4, h5⟩ := h.cf k hk
  have hm := h.m24
  exact ⟨h1, h2, h3, h4.imp id (fun z => vin_mono z (by omega)), h.i2 _ (vin_lt h2)⟩
theorem Inv.q24 {B : Nat} {S : ST} (h : Inv B S) {q : Int32} (hq : vp_in q (many S)) : vp_in q 24 := vin_mono hq h.m24
theorem Inv.cueq {B : Nat} {S : ST} (h : Inv B S) {q : Int32} (hq : vp_in q (many S)) : cueOK S q.toNatClampNeg := h.cue (vin_lt hq)
theorem cN_lt {f : Nat → Int32} {v : Int32} : ∀ {n k : Nat}, k < n → f k ≠ v → cN f v n < n
  | 0, k, h, _ => absurd h (Nat.not_lt_zero k)
  | n + 1, k, h, hv => by
    unfold cN
    by_cases e : k = n
    · subst e
      rw [cif_f hv]
      have := cN_le f v k
      omega
    · have ih := cN_lt (n := n) (k := k) (by omega) hv
      by_cases q : f n = v
      · rw [cif_t q]; omega
      · rw [cif_f q]; omega
theorem Inv.cl {B : Nat} {S : ST} (h : Inv B S) {k : Nat} (hk : k < many S) (h1 : S 8 k ≠ 1) : vp_in (S 11 0) 24 := by
  have h2 := cN_lt hk h1
  have hm := h.m24
  rw [h.ce]
  exact vp_in_nI (by omega) (by decide)
theorem Inv.ex {B : Nat} {S : ST} (h : Inv B S) {k : Nat} (hk : k < many S) (hc : cal S k) : S 4 k = 1 → S 0 (S 5 k).toNatClampNeg ≠ -1 ∧ vp_in (S 0 (S 5 k).toNatClampNeg) 8 := by
  intro h1
  have hd := hc.2.2
  rw [done1 h1] at hd
  have hp := vin_lt (h.cf k hk).2.1
  have hn := h.i20 _ hp hd
  exact ⟨hn, (h.i0 _ hp).resolve_left hn⟩
theorem Inv.lt24 {B : Nat} {S : ST} (h : Inv B S) (h1 : S 10 0 < 24) : vp_in (S 10 0) 24 := by
  rw [vp_in_iff, h.me, nI_toInt (by have := h.m24; omega)]
  rw [h.me, fa_lt, nI_toInt (by have := h.m24; omega), show (24 : Int32).toInt = 24 from rfl] at h1
  omega
theorem callQ_11 (S : ST) (q : Int32) : callQ S q 11 0 = S 11 0 + 1 := rfl
theorem runN_stop {S : ST} (h : ¬ fstN (cal S) (many S) < many S) : ∀ n, runN n S = S
  | 0 => rfl
  | n + 1 => by rw [runN, cif_f h]
theorem fc_none {S : ST} (hm : many S ≤ 24) (h : cif (fstN (cal S) (many S) < many S) (nI (fstN (cal S) (many S))) (-1) = -1) : ¬ fstN (cal S) (many S) < many S := by
  intro z
  rw [cif_t z] at h
  exact nI_ne_m1 (by omega) h
theorem fc_some {S : ST} {i : Int32} (e : i = cif (fstN (cal S) (many S) < many S) (nI (fstN (cal S) (many S))) (-1)) (h : ¬ i = -1) : fstN (cal S) (many S) < many S := by
  rcases Nat.lt_or_ge (fstN (cal S) (many S)) (many S) with z | z
  · exact z
  · rw [cif_f (by omega)] at e
    exact absurd e h
theorem mv_cong {S S' : ST} {k : Nat} {f : Nat → Int32} (h4 : S' 4 = S 4) (h5 : S' 5 = S 5) (h6 : S' 6 = S 6) : mv S' k f = mv S k f := by
  unfold mv
  rw [h4, h5, h6]
theorem gp_in {g p : Int32} (hg : vp_in g 3) (hp : vp_in p 6) : vp_in (g * 6 + p) 18 := by
  obtain ⟨j, hj, rfl⟩ := vp_in_of hg (by decide)
  obtain ⟨k, hk, rfl⟩ := vp_in_of hp (by decide)
  have h6 : (6 : Int32) = nI 6 := rfl
  rw [h6, pk_mul, nI_add]
  exact vp_in_nI (by omega) (by decide)
theorem gp_comm (g p : Int32) : 6 * g + p = g * 6 + p := by rw [Int32.mul_comm]
theorem purse_eq {B : Nat} {S : ST} (h : Inv B S) (hB : B ≤ 100000) : (if 0 < S 14 0 + nI (cN (S 8) 1 (many S)) - nI (cN (S 8) 2 (many S)) then S 14 0 + nI (cN (S 8) 1 (many S)) - nI (cN (S 8) 2 (many S)) else 0) = purseE S := by
  have hm := h.m24
  have h1 := cN_le (S 8) 1 (many S)
  have h2 := cN_le (S 8) 2 (many S)
  have hp := h.i14
  unfold purseE
  rw [h.ce]
  generalize cN (S 8) 1 (many S) = c1 at h1 ⊢
  generalize cN (S 8) 2 (many S) = c2 at h2 ⊢
  have e1 : (nI c1).toInt = c1 := nI_toInt (by omega)
  have e2 : (nI c2).toInt = c2 := nI_toInt (by omega)
  have e3 : (S 14 0 + nI c1).toInt = (S 14 0).toInt + c1 := by rw [fb_addI] <;> rw [e1] <;> omega
  have e4 : (S 14 0 + nI c1 - nI c2).toInt = (S 14 0).toInt + c1 - c2 := by rw [fb_subI] <;> rw [e3, e2] <;> omega
  by_cases q : S 14 0 + nI c1 < nI c2
  · rw [cif_t q, if_neg]
    intro z
    rw [fa_lt, e4, show (0 : Int32).toInt = 0 from rfl] at z
    rw [fa_lt, e3, e2] at q
    omega
  · rw [cif_f q]
    by_cases z : 0 < S 14 0 + nI c1 - nI c2
    · rw [if_pos z]
    · rw [if_neg z]
      rw [fa_lt, e3, e2] at q
      rw [fa_lt, e4, show (0 : Int32).toInt = 0 from rfl] at z
      rw [fa_eq, e4, show (0 : Int32).toInt = 0 from rfl]
      omega
theorem no_zero {S : ST} {n : Nat} (hn : n ≤ 24) (h : nI (cN (S 8) 0 n) ≤ 0) : ∀ k, k < n → S 8 k ≠ 0 := by
  intro k hk e
  have h1 := cN_pos hk e
  have h2 := cN_le (S 8) 0 n
  exact absurd h (nI_nle h1 (by omega))
/-- the step of 'run': the invariant goes on (its proof stands behind) -/
theorem Inv.call {B : Nat} {S : ST} (h : Inv B S) {q : Int32} (hq : vp_in q (many S)) (hc : cal S q.toNatClampNeg) : Inv B (callQ S q) := sorry
