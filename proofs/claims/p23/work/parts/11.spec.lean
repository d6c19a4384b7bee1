/-! THE STATE AND WHAT EACH CALL DOES TO IT: pure words; class and reference are both tied to them.
Rows of a state S, as the class has its fields: 0 costume, 1 mask, 2 on stage, 3 wear, 4 kind, 5 player, 6 other, 7 waits, 8 state, 9 called cues, 10 cues (place 0), 11 called (place 0), 12 points, 13 guessed, 14 purse (place 0), 15 plays (place 0), 16 replayed. -/
abbrev ST : Type := Nat → Nat → Int32
noncomputable def cif {α : Sort _} (c : Prop) (a b : α) : α := @ite α c (Classical.propDecidable c) a b
theorem cif_t {α : Sort _} {c : Prop} {a b : α} (h : c) : cif c a b = a := by unfold cif; exact if_pos h
theorem cif_f {α : Sort _} {c : Prop} {a b : α} (h : ¬ c) : cif c a b = b := by unfold cif; exact if_neg h
theorem cif_s {α : Sort _} (c : Prop) (a : α) : cif c a a = a := by
  by_cases h : c
  · exact cif_t h
  · exact cif_f h
def row (S : ST) (r : Nat) (f : Nat → Int32) : ST := fun k => cond (Nat.beq k r) f (S k)
theorem row_same (S : ST) (r : Nat) (f : Nat → Int32) : row S r f r = f := by
  unfold row
  have h : Nat.beq r r = true := Nat.beq_refl r
  rw [h]
  rfl
theorem row_ne {S : ST} {r k : Nat} {f : Nat → Int32} (h : k ≠ r) : row S r f k = S k := by
  unfold row
  have h : Nat.beq k r = false := by
    cases hb : Nat.beq k r
    · rfl
    · exact absurd (Nat.eq_of_beq_eq_true hb) h
  rw [h]
  rfl
theorem row_self (S : ST) (r : Nat) : row S r (S r) = S := by
  funext k
  by_cases h : k = r
  · rw [h, row_same]
  · rw [row_ne h]
theorem row_self' {S : ST} {r : Nat} {f : Nat → Int32} (h : f = S r) : row S r f = S := by rw [h, row_self]
theorem row_twice (S : ST) (r : Nat) (f g : Nat → Int32) : row (row S r f) r g = row S r g := by
  funext k
  by_cases h : k = r
  · rw [h, row_same, row_same]
  · rw [row_ne h, row_ne h, row_ne h]
theorem row_comm (S : ST) {r r' : Nat} (f g : Nat → Int32) (h : r ≠ r') : row (row S r f) r' g = row (row S r' g) r f := by
  funext k
  by_cases h1 : k = r
  · subst h1
    rw [row_ne h, row_same, row_same]
  · by_cases h2 : k = r'
    · subst h2
      rw [row_same, row_ne h1, row_same]
    · rw [row_ne h2, row_ne h1, row_ne h1, row_ne h2]
def kf (v : Int32) : Nat → Int32 := fun _ => v
/-! first and last place -/
noncomputable def fstN (P : Nat → Prop) : Nat → Nat
  | 0 => 0
  | n + 1 => cif (fstN P n < n) (fstN P n) (cif (P n) n (n + 1))
theorem fstN_le (P : Nat → Prop) : ∀ n, fstN P n ≤ n
  | 0 => Nat.le_refl 0
  | n + 1 => by
    have ih := fstN_le P n
    unfold fstN
    by_cases h : fstN P n < n
    · rw [cif_t h]; omega
    · rw [cif_f h]
      by_cases h2 : P n
      · rw [cif_t h2]; omega
      · rw [cif_f h2]; omega
theorem fstN_no (P : Nat → Prop) : ∀ n k, k < fstN P n → ¬ P k
  | 0, k, h => absurd h (Nat.not_lt_zero k)
  | n + 1, k, h => by
    have ih := fstN_no P n
    have hl := fstN_le P n
    unfold fstN at h
    by_cases h1 : fstN P n < n
    · rw [cif_t h1] at h; exact ih k h
    · rw [cif_f h1] at h
      have e : fstN P n = n := by omega
      by_cases h2 : P n
      · rw [cif_t h2] at h; exact ih k (by omega)
      · rw [cif_f h2] at h
        by_cases hk : k = n
        · rw [hk]; exact h2
        · exact ih k (by omega)
theorem fstN_yes (P : Nat → Prop) : ∀ n, fstN P n < n → P (fstN P n)
  | 0, h => absurd h (Nat.not_lt_zero _)
  | n + 1, h => by
    have ih := fstN_yes P n
    have hl := fstN_le P n
    unfold fstN at h ⊢
    by_cases h1 : fstN P n < n
    · rw [cif_t h1]; exact ih h1
    · rw [cif_f h1] at h ⊢
      by_cases h2 : P n
      · rw [cif_t h2]; exact h2
      · rw [cif_f h2] at h; omega
theorem fstN_is {P : Nat → Prop} {n k : Nat} (hk : k < n) (hp : P k) (hn : ∀ j, j < k → ¬ P j) : fstN P n = k := by
  have hl := fstN_le P n
  rcases Nat.lt_trichotomy (fstN P n) k with h | h | h
  · exact absurd (fstN_yes P n (by omega)) (hn _ h)
  · exact h
  · exact absurd hp (fstN_no P n k h)
theorem fstN_none {P : Nat → Prop} {n : Nat} (hn : ∀ j, j < n → ¬ P j) : fstN P n = n := by
  have hl := fstN_le P n
  rcases Nat.lt_or_ge (fstN P n) n with h | h
  · exact absurd (fstN_yes P n h) (hn _ h)
  · omega
/-- the first of six places that holds v; -1 if none does -/
noncomputable def fI (f : Nat → Int32) (v : Int32) : Int32 := cif (fstN (fun k => f k = v) 6 < 6) (nI (fstN (fun k => f k = v) 6)) (-1)
theorem fI_is {f : Nat → Int32} {v : Int32} {k : Nat} (hk : k < 6) (hp : f k = v) (hn : ∀ j, j < k → ¬ f j = v) : fI f v = nI k := by
  have h : fstN (fun k => f k = v) 6 = k := fstN_is hk hp hn
  unfold fI
  rw [h, cif_t hk]
theorem fI_none {f : Nat → Int32} {v : Int32} (hn : ∀ j, j < 6 → ¬ f j = v) : fI f v = -1 := by
  have h : fstN (fun k => f k = v) 6 = 6 := fstN_none hn
  unfold fI
  rw [h, cif_f (Nat.lt_irrefl 6)]
theorem nI_ne_m1 {k : Nat} (h : k < 2 ^ 31) : nI k ≠ -1 := by
  intro e
  have h1 := congrArg Int32.toInt e
  rw [nI_toInt h, show (-1 : Int32).toInt = -1 from rfl] at h1
  omega
theorem fI_cases (f : Nat → Int32) (v : Int32) : (fI f v = -1 ∧ ∀ j, j < 6 → ¬ f j = v) ∨ ∃ k, k < 6 ∧ fI f v = nI k ∧ f k = v := by
  by_cases h : ∃ k, k < 6 ∧ f k = v
  · obtain ⟨k, hk, hp⟩ := h
    have hl : fstN (fun k => f k = v) 6 < 6 := by
      rcases Nat.lt_or_ge (fstN (fun k => f k = v) 6) 6 with q | q
      · exact q
      · exact absurd hp (fstN_no (fun k => f k = v) 6 k (by omega))
    refine Or.inr ⟨_, hl, ?_, fstN_yes (fun k => f k = v) 6 hl⟩
    unfold fI
    rw [cif_t hl]
  · refine Or.inl ⟨fI_none (fun j hj e => h ⟨j, hj, e⟩), fun j hj e => h ⟨j, hj, e⟩⟩
theorem fI_m1 {f : Nat → Int32} {v : Int32} (h : fI f v = -1) : ∀ j, j < 6 → ¬ f j = v := by
  rcases fI_cases f v with ⟨-, q⟩ | ⟨k, hk, q, -⟩
  · exact q
  · rw [q] at h
    exact absurd h (nI_ne_m1 (by omega))
/-- the last of n places that holds v; -1 if none does -/
noncomputable def lI (f : Nat → Int32) (v : Int32) : Nat → Int32
  | 0 => -1
  | n + 1 => cif (f n = v) (nI n) (lI f v n)
theorem lI_none {f : Nat → Int32} {v : Int32} : ∀ {n : Nat}, (∀ j, j < n → ¬ f j = v) → lI f v n = -1
  | 0, _ => rfl
  | n + 1, h => by
    unfold lI
    rw [cif_f (h n (Nat.lt_succ_self n))]
    exact lI_none (fun j hj => h j (Nat.lt_succ_of_lt hj))
theorem lI_is {f : Nat → Int32} {v : Int32} {k : Nat} (hp : f k = v) : ∀ {n : Nat}, k < n → (∀ j, k < j → j < n → ¬ f j = v) → lI f v n = nI k
  | 0, h, _ => absurd h (Nat.not_lt_zero k)
  | n + 1, h, hn => by
    unfold lI
    by_cases e : k = n
    · rw [← e, cif_t hp]
    · rw [cif_f (hn n (by omega) (Nat.lt_succ_self n))]
      exact lI_is hp (by omega) (fun j h1 h2 => hn j h1 (by omega))
theorem lI_fI {f : Nat → Int32} {v : Int32} (hu : ∀ j k, j < 6 → k < 6 → j ≠ k → f j = f k → f j = -1) (hv : v ≠ -1) : lI f v 6 = fI f v := by
  rcases fI_cases f v with ⟨e, h⟩ | ⟨k, hk, e, hp⟩
  · rw [e, lI_none h]
  · rw [e]
    refine lI_is hp hk (fun j h1 h2 hj => ?_)
    exact hv (hj.symm.trans (hu j k h2 hk (by omega) (hj.trans hp.symm)))
/-- how many of n places hold v -/
noncomputable def cN (f : Nat → Int32) (v : Int32) : Nat → Nat
  | 0 => 0
  | n + 1 => cif (f n = v) (cN f v n + 1) (cN f v n)
theorem cN_le (f : Nat → Int32) (v : Int32) : ∀ n, cN f v n ≤ n
  | 0 => Nat.le_refl 0
  | n + 1 => by
    have ih := cN_le f v n
    unfold cN
    by_cases h : f n = v
    · rw [cif_t h]; omega
    · rw [cif_f h]; omega
theorem cN_cong {f g : Nat → Int32} {v : Int32} : ∀ {n : Nat}, (∀ k, k < n → (f k = v ↔ g k = v)) → cN f v n = cN g v n
  | 0, _ => rfl
  | n + 1, h => by
    have ih := cN_cong (f := f) (g := g) (v := v) (n := n) (fun k hk => h k (Nat.lt_succ_of_lt hk))
    have hn := h n (Nat.lt_succ_self n)
    unfold cN
    by_cases q : f n = v
    · rw [cif_t q, cif_t (hn.mp q), ih]
    · rw [cif_f q, cif_f (fun z => q (hn.mpr z)), ih]
theorem cN_put {f : Nat → Int32} {v : Int32} {k : Nat} (hk : f k ≠ v) : ∀ {n : Nat}, k < n → cN (upd f k v) v n = cN f v n + 1
  | 0, h => absurd h (Nat.not_lt_zero k)
  | n + 1, h => by
    unfold cN
    by_cases e : k = n
    · subst e
      rw [cif_t (pk_us), cif_f hk]
      rw [cN_cong (g := f) (fun j hj => by rw [pk_un (by omega)])]
    · have ih := cN_put (f := f) (v := v) hk (n := n) (by omega)
      rw [pk_un (Ne.symm e)]
      by_cases q : f n = v
      · rw [cif_t q, cif_t q, ih]
      · rw [cif_f q, cif_f q, ih]
theorem cN_zero {f : Nat → Int32} {v : Int32} : ∀ {n : Nat}, (∀ k, k < n → f k ≠ v) → cN f v n = 0
  | 0, _ => rfl
  | n + 1, h => by
    unfold cN
    rw [cif_f (h n (Nat.lt_succ_self n))]
    exact cN_zero (fun k hk => h k (Nat.lt_succ_of_lt hk))
theorem cN_pos {f : Nat → Int32} {v : Int32} : ∀ {n : Nat} {k : Nat}, k < n → f k = v → 0 < cN f v n
  | 0, k, h, _ => absurd h (Nat.not_lt_zero k)
  | n + 1, k, h, e => by
    unfold cN
    by_cases q : f n = v
    · rw [cif_t q]; omega
    · rw [cif_f q]
      refine cN_pos (n := n) (k := k) ?_ e
      by_cases hk : k = n
      · rw [hk] at e; exact absurd e q
      · omega
theorem cN_add {f : Nat → Int32} {v w : Int32} (hvw : v ≠ w) : ∀ n, cN f v n + cN f w n ≤ n
  | 0 => Nat.le_refl 0
  | n + 1 => by
    have ih := cN_add (f := f) hvw n
    unfold cN
    by_cases q : f n = v
    · rw [cif_t q, cif_f (fun z => hvw (q.symm.trans z))]; omega
    · rw [cif_f q]
      by_cases q2 : f n = w
      · rw [cif_t q2]; omega
      · rw [cif_f q2]; omega
/-! cues -/
/-- the masks after the cue k is done -/
noncomputable def mv (S : ST) (k : Nat) (f : Nat → Int32) : Nat → Int32 :=
  cif (S 4 k = 2) (upd f (S 5 k).toNatClampNeg (S 6 k)) (cif (S 4 k = 3) (upd f (S 5 k).toNatClampNeg (-1))
    (cif (S 4 k = 4) (upd (upd f (S 5 k).toNatClampNeg (f (S 6 k).toNatClampNeg)) (S 6 k).toNatClampNeg (f (S 5 k).toNatClampNeg)) f))
/-- whether the cue k can be done -/
noncomputable def done (S : ST) (k : Nat) : Prop :=
  cif (S 4 k = 0) (S 2 (S 5 k).toNatClampNeg = 0 ∧ S 0 (S 5 k).toNatClampNeg ≠ -1)
    (cif (S 4 k = 1) (S 2 (S 5 k).toNatClampNeg ≠ 0)
      (cif (S 4 k = 2) (S 1 (S 5 k).toNatClampNeg = -1 ∧ fI (S 1) (S 6 k) = -1)
        (cif (S 4 k = 3) (S 1 (S 5 k).toNatClampNeg ≠ -1)
          (S 2 (S 5 k).toNatClampNeg ≠ 0 ∧ S 2 (S 6 k).toNatClampNeg ≠ 0 ∧ (S 1 (S 5 k).toNatClampNeg ≠ -1 ∨ S 1 (S 6 k).toNatClampNeg ≠ -1)))))
/-- whether the cue k can be called -/
noncomputable def cal (S : ST) (k : Nat) : Prop := S 8 k = 0 ∧ (S 7 k = -1 ∨ S 8 (S 7 k).toNatClampNeg = 1) ∧ done S k
/-- the player a leaves the stage -/
noncomputable def leave (S : ST) (a : Nat) : ST :=
  row (row (row S 2 (upd (S 2) a 0)) 3 (upd (S 3) (S 0 a).toNatClampNeg (S 3 (S 0 a).toNatClampNeg + 1))) 0
    (cif (3 ≤ S 3 (S 0 a).toNatClampNeg + 1) (upd (S 0) a (-1)) (S 0))
noncomputable def act (S : ST) (k : Nat) : ST :=
  cif (S 4 k = 0) (row S 2 (upd (S 2) (S 5 k).toNatClampNeg 1)) (cif (S 4 k = 1) (leave S (S 5 k).toNatClampNeg) (row S 1 (mv S k (S 1))))
/-- the cue q is called -/
noncomputable def callQ (S : ST) (q : Int32) : ST :=
  row (row (row (act S q.toNatClampNeg) 8 (upd (S 8) q.toNatClampNeg 1)) 9 (upd (S 9) (S 11 0).toNatClampNeg q)) 11 (kf (S 11 0 + 1))
abbrev many (S : ST) : Nat := (S 10 0).toNatClampNeg
noncomputable def runN : Nat → ST → ST
  | 0, S => S
  | n + 1, S => cif (fstN (cal S) (many S) < many S) (runN n (callQ S (nI (fstN (cal S) (many S))))) S
/-- from place j on, d places: what waits for missed cues is missed; the states then, and how many -/
noncomputable def ms (S : ST) : (Nat → Int32) → Int32 → Nat → Nat → (Nat → Int32) × Int32
  | f, n, _, 0 => (f, n)
  | f, n, j, d + 1 => cif (f j = 0 ∧ S 7 j ≠ -1 ∧ f (S 7 j).toNatClampNeg = 2) (ms S (upd f j 2) (n + 1) (j + 1) d) (ms S f n (j + 1) d)
/-- the masks by the first n called cues -/
noncomputable def rpN (S : ST) : Nat → Nat → Int32
  | 0 => fa_fill (fun _ => -1) (S 16) 6
  | n + 1 => mv S (S 9 n).toNatClampNeg (rpN S n)
/-! what each call answers: (which exception of its clause, 0 for none; the answer; the state then) -/
abbrev KR : Type := Int32 × Int32 × ST
noncomputable def k_dress (S : ST) (p c : Int32) : KR :=
  cif (vp_in p 6 ∧ vp_in c 8) (cif (-1 ≤ p - c + 1 ∧ p - c + 1 ≤ 1)
    (cif (S 2 p.toNatClampNeg = 0 ∧ (fI (S 0) c = -1 ∨ fI (S 0) c = p) ∧ S 3 c.toNatClampNeg < 3) (0, S 0 p.toNatClampNeg, row S 0 (upd (S 0) p.toNatClampNeg c)) (3, 0, S)) (2, 0, S)) (1, 0, S)
noncomputable def k_repair (S : ST) (c : Int32) : KR :=
  cif (vp_in c 8) (cif (fI (S 0) c = -1 ∧ S 3 c.toNatClampNeg ≤ S 14 0)
    (0, S 14 0 - S 3 c.toNatClampNeg, row (row S 14 (kf (S 14 0 - S 3 c.toNatClampNeg))) 3 (upd (S 3) c.toNatClampNeg 0)) (2, 0, S)) (1, 0, S)
noncomputable def k_costumeOf (S : ST) (p : Int32) : KR := cif (vp_in p 6) (0, S 0 p.toNatClampNeg, S) (1, 0, S)
noncomputable def k_wear (S : ST) (c : Int32) : KR := cif (vp_in c 8) (0, S 3 c.toNatClampNeg, S) (1, 0, S)
noncomputable def k_addCue (S : ST) (k p o w : Int32) : KR :=
  cif (¬ k < 0 ∧ k ≤ 4) (cif (vp_in p 6 ∧ (k = 2 ∨ k = 4 → vp_in o 6) ∧ (w = -1 ∨ vp_in w (many S)))
    (cif (S 10 0 < 24 ∧ ¬ (k = 4 ∧ p = o) ∧ (w = -1 ∨ S 8 w.toNatClampNeg ≠ 2))
      (0, S 10 0, row (row (row (row (row (row S 4 (upd (S 4) (many S) k)) 5 (upd (S 5) (many S) p)) 6 (upd (S 6) (many S) o)) 7 (upd (S 7) (many S) w)) 8 (upd (S 8) (many S) 0)) 10 (kf (S 10 0 + 1)))
      (3, 0, S)) (2, 0, S)) (1, 0, S)
noncomputable def k_canCall (S : ST) (q : Int32) : KR := cif (vp_in q (many S)) (0, cif (cal S q.toNatClampNeg) 1 0, S) (1, 0, S)
noncomputable def k_call (S : ST) (q : Int32) : KR := cif (vp_in q (many S)) (cif (cal S q.toNatClampNeg) (0, S 11 0 + 1, callQ S q) (2, 0, S)) (1, 0, S)
noncomputable def k_miss (S : ST) (q : Int32) : KR :=
  cif (vp_in q (many S)) (cif (S 8 q.toNatClampNeg = 0)
    (0, (ms S (upd (S 8) q.toNatClampNeg 2) 1 (q.toNatClampNeg + 1) (many S - (q.toNatClampNeg + 1))).2, row S 8 (ms S (upd (S 8) q.toNatClampNeg 2) 1 (q.toNatClampNeg + 1) (many S - (q.toNatClampNeg + 1))).1) (2, 0, S)) (1, 0, S)
noncomputable def k_stateOf (S : ST) (q : Int32) : KR := cif (vp_in q (many S)) (0, S 8 q.toNatClampNeg, S) (1, 0, S)
noncomputable def k_maskOf (S : ST) (p : Int32) : KR := cif (vp_in p 6) (0, S 1 p.toNatClampNeg, S) (1, 0, S)
noncomputable def k_maskByCues (S : ST) (p : Int32) : KR := cif (vp_in p 6) (0, rpN S (S 11 0).toNatClampNeg p.toNatClampNeg, row S 16 (rpN S (S 11 0).toNatClampNeg)) (1, 0, S)
noncomputable def k_wearerOf (S : ST) (m : Int32) : KR := cif (vp_in m 6) (0, fI (S 1) m, S) (1, 0, S)
noncomputable def k_isOn (S : ST) (p : Int32) : KR := cif (vp_in p 6) (0, S 2 p.toNatClampNeg, S) (1, 0, S)
noncomputable def k_guess (S : ST) (g p m : Int32) : KR :=
  cif (vp_in g 3 ∧ vp_in p 6 ∧ vp_in m 6) (cif (S 2 p.toNatClampNeg ≠ 0 ∧ S 1 p.toNatClampNeg ≠ -1 ∧ S 13 (g * 6 + p).toNatClampNeg = 0)
    (0, cif (S 1 p.toNatClampNeg = m) 1 0, row (row S 13 (upd (S 13) (g * 6 + p).toNatClampNeg 1)) 12 (upd (S 12) g.toNatClampNeg (S 12 g.toNatClampNeg + cif (S 1 p.toNatClampNeg = m) 3 (-1)))) (2, 0, S)) (1, 0, S)
noncomputable def k_points (S : ST) (g : Int32) : KR := cif (vp_in g 3) (0, S 12 g.toNatClampNeg, S) (1, 0, S)
/-- the purse behind a play -/
noncomputable def purseE (S : ST) : Int32 := cif (S 14 0 + S 11 0 < nI (cN (S 8) 2 (many S))) 0 (S 14 0 + S 11 0 - nI (cN (S 8) 2 (many S)))
noncomputable def endS (S : ST) : ST :=
  row (row (row (row (row (row (row S 14 (kf (purseE S))) 15 (kf (S 15 0 + 1))) 1 (fa_fill (fun _ => -1) (S 1) 6)) 2 (fa_fill (fun _ => 0) (S 2) 6)) 13 (fa_fill (fun _ => 0) (S 13) 18)) 10 (kf 0)) 11 (kf 0)
noncomputable def k_endPlay (S : ST) : KR := cif (∀ k, k < many S → S 8 k ≠ 0) (0, purseE S, endS S) (1, 0, S)
noncomputable def k_run (S : ST) : KR := (0, runN 24 S 11 0 - S 11 0, runN 24 S)
/-- a new object -/
def S00 : ST := row (row (row (fun _ _ => 0) 0 (fa_fill (fun _ => -1) (fun _ => 0) 6)) 1 (fa_fill (fun _ => -1) (fun _ => 0) 6)) 14 (kf 10)
