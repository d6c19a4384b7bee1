/-! plain facts that the walks use -/
theorem vin_iff {x c : Int32} {n : Nat} (hc : c.toInt = n) : vp_in x n ↔ ¬ x < 0 ∧ x < c := by
  rw [vp_in_iff, fa_lt, fa_lt, hc, show (0 : Int32).toInt = 0 from rfl]
  omega
theorem vin_iffN {x c : Int32} : vp_in x c.toNatClampNeg ↔ ¬ x < 0 ∧ x < c := by
  rw [vp_in_iff, fa_lt, fa_lt, show (0 : Int32).toInt = 0 from rfl]
  have h : c.toNatClampNeg = c.toInt.toNat := rfl
  rw [h]
  omega
theorem vin_nge {x c : Int32} {n : Nat} (h : vp_in x n) (hc : c.toInt = n) : ¬ c ≤ x := by
  rw [vp_in_iff] at h
  rw [fa_le, hc]
  omega
theorem vin_mono {x : Int32} {n m : Nat} (h : vp_in x n) (hm : n ≤ m) : vp_in x m := by
  rw [vp_in_iff] at h ⊢
  omega
theorem vin_lt {x : Int32} {n : Nat} (h : vp_in x n) : x.toNatClampNeg < n := by
  rw [vp_in_iff] at h
  have h2 : x.toNatClampNeg = x.toInt.toNat := rfl
  rw [h2]
  omega
theorem vin_nI {x : Int32} {n : Nat} (h : vp_in x n) (hn : n < 2 ^ 31) : x = nI x.toNatClampNeg := by
  obtain ⟨j, hj, e⟩ := vp_in_of h hn
  rw [e, nI_clamp (by omega)]
theorem vin_ne {x : Int32} {n : Nat} (h : vp_in x n) : x ≠ -1 := by
  intro e
  rw [vp_in_iff, e] at h
  exact absurd h.1 (by decide)
theorem ge_of {i c : Int32} {j N : Nat} (e : i = nI j) (hj : j < 2 ^ 31) (hc : c.toInt = N) (h : c ≤ i) : N ≤ j := by
  rw [fa_le, e, nI_toInt hj, hc] at h
  omega
theorem lt_of {i c : Int32} {j N : Nat} (e : i = nI j) (hj : j < 2 ^ 31) (hc : c.toInt = N) (h : ¬ c ≤ i) : j < N := by
  rw [fa_le, e, nI_toInt hj, hc] at h
  omega
theorem le_nlt {a b : Int32} (h : a ≤ b) : ¬ b < a := fun q => (fa_of_lt q).2.1 h
theorem nle_lt {a b : Int32} (h : ¬ a ≤ b) : b < a := fa_of_nle h
theorem fit_all : ∀ j : Fin 6, ∀ k : Fin 8, (¬ (1 : Int32) < (if 0 ≤ nI k.val - 1 - nI j.val then nI k.val - 1 - nI j.val else 0 - (nI k.val - 1 - nI j.val))) ↔ ((-1 : Int32) ≤ nI j.val - nI k.val + 1 ∧ nI j.val - nI k.val + 1 ≤ 1) := by decide
theorem fit_iff {p c : Int32} (hp : vp_in p 6) (hc : vp_in c 8) : (¬ (1 : Int32) < (if 0 ≤ c - 1 - p then c - 1 - p else 0 - (c - 1 - p))) ↔ ((-1 : Int32) ≤ p - c + 1 ∧ p - c + 1 ≤ 1) := by
  obtain ⟨j, hj, rfl⟩ := vp_in_of hp (by decide)
  obtain ⟨k, hk, rfl⟩ := vp_in_of hc (by decide)
  exact fit_all ⟨j, hj⟩ ⟨k, hk⟩
theorem done0 {S : ST} {k : Nat} (h : S 4 k = 0) : done S k = (S 2 (S 5 k).toNatClampNeg = 0 ∧ S 0 (S 5 k).toNatClampNeg ≠ -1) := by unfold done; rw [cif_t h]
theorem done1 {S : ST} {k : Nat} (h : S 4 k = 1) : done S k = (S 2 (S 5 k).toNatClampNeg ≠ 0) := by
  unfold done
  rw [cif_f (by rw [h]; decide), cif_t h]
theorem done2 {S : ST} {k : Nat} (h : S 4 k = 2) : done S k = (S 1 (S 5 k).toNatClampNeg = -1 ∧ fI (S 1) (S 6 k) = -1) := by
  unfold done
  rw [cif_f (by rw [h]; decide), cif_f (by rw [h]; decide), cif_t h]
theorem done3 {S : ST} {k : Nat} (h : S 4 k = 3) : done S k = (S 1 (S 5 k).toNatClampNeg ≠ -1) := by
  unfold done
  rw [cif_f (by rw [h]; decide), cif_f (by rw [h]; decide), cif_f (by rw [h]; decide), cif_t h]
theorem done4 {S : ST} {k : Nat} (h0 : ¬ S 4 k = 0) (h1 : ¬ S 4 k = 1) (h2 : ¬ S 4 k = 2) (h3 : ¬ S 4 k = 3) : done S k = (S 2 (S 5 k).toNatClampNeg ≠ 0 ∧ S 2 (S 6 k).toNatClampNeg ≠ 0 ∧ (S 1 (S 5 k).toNatClampNeg ≠ -1 ∨ S 1 (S 6 k).toNatClampNeg ≠ -1)) := by
  unfold done
  rw [cif_f h0, cif_f h1, cif_f h2, cif_f h3]
theorem kind4 {x : Int32} (h : 0 ≤ x.toInt ∧ x.toInt ≤ 4) (h0 : ¬ x = 0) (h1 : ¬ x = 1) (h2 : ¬ x = 2) (h3 : ¬ x = 3) : x = 4 := by
  rw [fa_eq] at *
  rw [show (0 : Int32).toInt = 0 from rfl] at h0
  rw [show (1 : Int32).toInt = 1 from rfl] at h1
  rw [show (2 : Int32).toInt = 2 from rfl] at h2
  rw [show (3 : Int32).toInt = 3 from rfl] at h3
  rw [show (4 : Int32).toInt = 4 from rfl]
  omega
theorem mv2 {S : ST} {k : Nat} {f : Nat → Int32} (h : S 4 k = 2) : mv S k f = upd f (S 5 k).toNatClampNeg (S 6 k) := by unfold mv; rw [cif_t h]
theorem mv3 {S : ST} {k : Nat} {f : Nat → Int32} (h : S 4 k = 3) : mv S k f = upd f (S 5 k).toNatClampNeg (-1) := by
  unfold mv
  rw [cif_f (by rw [h]; decide), cif_t h]
theorem mv4 {S : ST} {k : Nat} {f : Nat → Int32} (h : S 4 k = 4) : mv S k f = upd (upd f (S 5 k).toNatClampNeg (f (S 6 k).toNatClampNeg)) (S 6 k).toNatClampNeg (f (S 5 k).toNatClampNeg) := by
  unfold mv
  rw [cif_f (by rw [h]; decide), cif_f (by rw [h]; decide), cif_t h]
theorem mvn {S : ST} {k : Nat} {f : Nat → Int32} (h2 : ¬ S 4 k = 2) (h3 : ¬ S 4 k = 3) (h4 : ¬ S 4 k = 4) : mv S k f = f := by
  unfold mv
  rw [cif_f h2, cif_f h3, cif_f h4]
theorem leave_t {S : ST} {a : Nat} (h : 3 ≤ S 3 (S 0 a).toNatClampNeg + 1) : leave S a = row (row (row S 2 (upd (S 2) a 0)) 3 (upd (S 3) (S 0 a).toNatClampNeg (S 3 (S 0 a).toNatClampNeg + 1))) 0 (upd (S 0) a (-1)) := by
  unfold leave
  rw [cif_t h]
theorem leave_f {S : ST} {a : Nat} (h : ¬ 3 ≤ S 3 (S 0 a).toNatClampNeg + 1) : leave S a = row (row S 2 (upd (S 2) a 0)) 3 (upd (S 3) (S 0 a).toNatClampNeg (S 3 (S 0 a).toNatClampNeg + 1)) := by
  unfold leave
  rw [cif_f h]
  exact row_self' (by rw [row_ne (by decide), row_ne (by decide)])
theorem callQ_0 {S : ST} {q : Int32} (h : S 4 q.toNatClampNeg = 0) : callQ S q = row (row (row (row S 2 (upd (S 2) (S 5 q.toNatClampNeg).toNatClampNeg 1)) 8 (upd (S 8) q.toNatClampNeg 1)) 9 (upd (S 9) (S 11 0).toNatClampNeg q)) 11 (kf (S 11 0 + 1)) := by
  unfold callQ act
  rw [cif_t h]
theorem callQ_1 {S : ST} {q : Int32} (h : S 4 q.toNatClampNeg = 1) : callQ S q = row (row (row (leave S (S 5 q.toNatClampNeg).toNatClampNeg) 8 (upd (S 8) q.toNatClampNeg 1)) 9 (upd (S 9) (S 11 0).toNatClampNeg q)) 11 (kf (S 11 0 + 1)) := by
  unfold callQ act
  rw [cif_f (by rw [h]; decide), cif_t h]
theorem callQ_m {S : ST} {q : Int32} (h0 : ¬ S 4 q.toNatClampNeg = 0) (h1 : ¬ S 4 q.toNatClampNeg = 1) : callQ S q = row (row (row (row S 1 (mv S q.toNatClampNeg (S 1))) 8 (upd (S 8) q.toNatClampNeg 1)) 9 (upd (S 9) (S 11 0).toNatClampNeg q)) 11 (kf (S 11 0 + 1)) := by
  unfold callQ act
  rw [cif_f h0, cif_f h1]
theorem leave_other {S : ST} {a r : Nat} (h0 : r ≠ 0) (h2 : r ≠ 2) (h3 : r ≠ 3) : leave S a r = S r := by
  unfold leave
  rw [row_ne h0, row_ne h3, row_ne h2]
theorem callQ_l {S : ST} {q : Int32} (h : S 4 q.toNatClampNeg = 1) : callQ S q = row (row (row (leave S (S 5 q.toNatClampNeg).toNatClampNeg) 8 (upd (leave S (S 5 q.toNatClampNeg).toNatClampNeg 8) q.toNatClampNeg 1)) 9 (upd (leave S (S 5 q.toNatClampNeg).toNatClampNeg 9) (leave S (S 5 q.toNatClampNeg).toNatClampNeg 11 0).toNatClampNeg q)) 11 (kf (leave S (S 5 q.toNatClampNeg).toNatClampNeg 11 0 + 1)) := by
  rw [callQ_1 h, leave_other (r := 8) (by decide) (by decide) (by decide), leave_other (r := 9) (by decide) (by decide) (by decide), leave_other (r := 11) (by decide) (by decide) (by decide)]
/-- what a cue's fields are, so that it can be looked at -/
def cueOK (S : ST) (k : Nat) : Prop := (0 ≤ (S 4 k).toInt ∧ (S 4 k).toInt ≤ 4) ∧ vp_in (S 5 k) 6 ∧ (S 4 k = 2 ∨ S 4 k = 4 → vp_in (S 6 k) 6) ∧ (S 7 k = -1 ∨ vp_in (S 7 k) 24) ∧
  (S 2 (S 5 k).toNatClampNeg = 0 ∨ S 2 (S 5 k).toNatClampNeg = 1)
theorem fills_eq (S : ST) (F G F' G' : Nat → Int32) : row (row (row (row S 1 F) 2 G) 1 F') 2 G' = row (row S 1 F') 2 G' := by
  rw [row_comm (row S 1 F) G F' (by decide), row_twice, row_twice]
