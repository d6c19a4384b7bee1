/-! plain facts that the reference's walks use -/
theorem inm_iff {x c : Int32} {n : Nat} (hc_ : c.toInt + 1 = n) : (¬ x < 0 ∧ ¬ c < x) ↔ vp_in x n := by
  rw [vp_in_iff, fa_lt, fa_lt, show (0 : Int32).toInt = 0 from rfl]
  omega
theorem m1_toInt {c : Int32} {k : Nat} (he : c = nI k) (hk : k ≤ 24) : (c - 1).toInt = (k : Int) - 1 := by
  have e1_ : c.toInt = k := by rw [he]; exact nI_toInt (by omega)
  have e2_ : (1 : Int32).toInt = 1 := rfl
  rw [fb_subI] <;> rw [e1_, e2_] <;> omega
theorem isQ_iff {x c : Int32} {k : Nat} (he : c = nI k) (hk : k ≤ 24) : (¬ x < 0 ∧ ¬ c - 1 < x) ↔ vp_in x k := by
  rw [vp_in_iff, fa_lt, fa_lt, m1_toInt he hk, show (0 : Int32).toInt = 0 from rfl]
  omega
theorem inW_iff {x c : Int32} {k : Nat} (he : c = nI k) (hk : k ≤ 24) : (¬ x < -1 ∧ ¬ c - 1 < x) ↔ (x = -1 ∨ vp_in x k) := by
  rw [vp_in_iff, fa_lt, fa_lt, fa_eq, m1_toInt he hk, show (-1 : Int32).toInt = -1 from rfl]
  omega
/-- what the reference needs of a cue beside cueOK -/
def mOK (S : ST) (k : Nat) : Prop := (S 4 k = 2 → lI (S 1) (S 6 k) 6 = fI (S 1) (S 6 k)) ∧ (S 4 k = 4 → vp_in (S 6 k) 6 ∧ (S 2 (S 6 k).toNatClampNeg = 0 ∨ S 2 (S 6 k).toNatClampNeg = 1))
theorem Inv.mok {B : Nat} {S : ST} (h : Inv B S) {k : Nat} (hk : k < many S) : mOK S k := by
  obtain ⟨-, -, h3, -⟩ := h.cf k hk
  exact ⟨fun e => lI_fI h.u1 (vin_ne (h3 (Or.inl e))), fun e => ⟨h3 (Or.inr e), h.i2 _ (vin_lt (h3 (Or.inr e)))⟩⟩
theorem Inv.ne24 {B : Nat} {S : ST} (h : Inv B S) (h1 : ¬ S 10 0 = 24) : S 10 0 < 24 := by
  have hm_ := h.m24
  rw [fa_eq, h.me, nI_toInt (by omega), show (24 : Int32).toInt = 24 from rfl] at h1
  rw [fa_lt, h.me, nI_toInt (by omega), show (24 : Int32).toInt = 24 from rfl]
  omega
theorem leave_m {S : ST} {a : Nat} (h : ¬ 3 ≤ S 3 (S 0 a).toNatClampNeg + 1) : leave S a = row (row (row S 2 (upd (S 2) a 0)) 3 (upd (S 3) (S 0 a).toNatClampNeg (S 3 (S 0 a).toNatClampNeg + 1))) 0 (upd (S 0) a (S 0 a)) := by
  unfold leave
  rw [cif_f h, fa_upd_same rfl]
theorem leave_row {S : ST} {a r : Nat} {f : Nat → Int32} (h0 : r ≠ 0) (h2 : r ≠ 2) (h3 : r ≠ 3) : leave (row S r f) a = row (leave S a) r f := by
  unfold leave
  rw [row_ne (k := 0) (fun z => h0 z.symm), row_ne (k := 2) (fun z => h2 z.symm), row_ne (k := 3) (fun z => h3 z.symm), row_comm S f _ h2, row_comm _ f _ h3, row_comm _ f _ h0]
theorem mv_e (S : ST) (A B C : Nat → Int32) (k : Nat) (f : Nat → Int32) : mv (row (row (row S 8 A) 9 B) 11 C) k f = mv S k f := mv_cong (S := S) (S' := row (row (row S 8 A) 9 B) 11 C) rfl rfl rfl
theorem callM_m {S : ST} {q : Int32} (h0 : ¬ S 4 q.toNatClampNeg = 0) (h1 : ¬ S 4 q.toNatClampNeg = 1) :
    row (row (row (row S 8 (upd (S 8) q.toNatClampNeg 1)) 9 (upd (S 9) (S 11 0).toNatClampNeg q)) 11 (kf (S 11 0 + 1))) 1 (mv (row (row (row S 8 (upd (S 8) q.toNatClampNeg 1)) 9 (upd (S 9) (S 11 0).toNatClampNeg q)) 11 (kf (S 11 0 + 1))) q.toNatClampNeg (S 1)) = callQ S q := by
  rw [callQ_m h0 h1, mv_e, row_comm _ (kf (S 11 0 + 1)) _ (by decide), row_comm _ (upd (S 9) (S 11 0).toNatClampNeg q) _ (by decide), row_comm _ (upd (S 8) q.toNatClampNeg 1) _ (by decide)]
theorem callM_e {S : ST} {q : Int32} (h2 : ¬ S 4 q.toNatClampNeg = 2) (h3 : ¬ S 4 q.toNatClampNeg = 3) (h4 : ¬ S 4 q.toNatClampNeg = 4) :
    row (row (row (row S 8 (upd (S 8) q.toNatClampNeg 1)) 9 (upd (S 9) (S 11 0).toNatClampNeg q)) 11 (kf (S 11 0 + 1))) 1 (mv (row (row (row S 8 (upd (S 8) q.toNatClampNeg 1)) 9 (upd (S 9) (S 11 0).toNatClampNeg q)) 11 (kf (S 11 0 + 1))) q.toNatClampNeg (S 1)) =
    row (row (row S 8 (upd (S 8) q.toNatClampNeg 1)) 9 (upd (S 9) (S 11 0).toNatClampNeg q)) 11 (kf (S 11 0 + 1)) := by
  rw [mv_e, mvn h2 h3 h4]
  exact row_self' rfl
theorem callM_0 {S : ST} {q : Int32} (h : S 4 q.toNatClampNeg = 0) :
    row (row (row (row (row S 8 (upd (S 8) q.toNatClampNeg 1)) 9 (upd (S 9) (S 11 0).toNatClampNeg q)) 11 (kf (S 11 0 + 1))) 1 (mv (row (row (row S 8 (upd (S 8) q.toNatClampNeg 1)) 9 (upd (S 9) (S 11 0).toNatClampNeg q)) 11 (kf (S 11 0 + 1))) q.toNatClampNeg (S 1))) 2 (upd (S 2) (S 5 q.toNatClampNeg).toNatClampNeg 1) = callQ S q := by
  rw [callM_e (by rw [h]; decide) (by rw [h]; decide) (by rw [h]; decide), callQ_0 h, row_comm _ (kf (S 11 0 + 1)) _ (by decide), row_comm _ (upd (S 9) (S 11 0).toNatClampNeg q) _ (by decide), row_comm _ (upd (S 8) q.toNatClampNeg 1) _ (by decide)]
theorem callM_1 {S : ST} {q : Int32} (h : S 4 q.toNatClampNeg = 1) :
    leave (row (row (row (row S 8 (upd (S 8) q.toNatClampNeg 1)) 9 (upd (S 9) (S 11 0).toNatClampNeg q)) 11 (kf (S 11 0 + 1))) 1 (mv (row (row (row S 8 (upd (S 8) q.toNatClampNeg 1)) 9 (upd (S 9) (S 11 0).toNatClampNeg q)) 11 (kf (S 11 0 + 1))) q.toNatClampNeg (S 1))) (S 5 q.toNatClampNeg).toNatClampNeg = callQ S q := by
  rw [callM_e (by rw [h]; decide) (by rw [h]; decide) (by rw [h]; decide), callQ_1 h, leave_row (by decide) (by decide) (by decide), leave_row (by decide) (by decide) (by decide), leave_row (by decide) (by decide) (by decide)]
theorem callQ_other {S : ST} {q : Int32} {r : Nat} (h0 : r ≠ 0) (h1 : r ≠ 1) (h2 : r ≠ 2) (h3 : r ≠ 3) (h8 : r ≠ 8) (h9 : r ≠ 9) (h11 : r ≠ 11) : callQ S q r = S r := by
  unfold callQ
  rw [row_ne h11, row_ne h9, row_ne h8]
  unfold act
  by_cases e0 : S 4 q.toNatClampNeg = 0
  · rw [cif_t e0, row_ne h2]
  · rw [cif_f e0]
    by_cases e1_ : S 4 q.toNatClampNeg = 1
    · rw [cif_t e1_, leave_other h0 h2 h3]
    · rw [cif_f e1_, row_ne h1]
theorem many_call (S : ST) (q : Int32) : many (callQ S q) = many S := by
  show (callQ S q 10 0).toNatClampNeg = _
  rw [callQ_other (by decide) (by decide) (by decide) (by decide) (by decide) (by decide) (by decide)]
theorem callQ_8 (S : ST) (q : Int32) : callQ S q 8 = upd (S 8) q.toNatClampNeg 1 := rfl
theorem cN_drop {f : Nat → Int32} {v w : Int32} (hvw : w ≠ v) {k : Nat} (hk : f k = v) : ∀ {n : Nat}, k < n → cN (upd f k w) v n + 1 = cN f v n
  | 0, h => absurd h (Nat.not_lt_zero k)
  | n + 1, h => by
    unfold cN
    by_cases e : k = n
    · subst e
      rw [cif_t hk, cif_f (by rw [pk_us]; exact hvw)]
      rw [cN_cong (f := upd f k w) (g := f) (fun j hj => by rw [pk_un (by omega)])]
    · have ih_ := cN_drop (f := f) hvw hk (n := n) (by omega)
      rw [pk_un (Ne.symm e)]
      by_cases q : f n = v
      · rw [cif_t q, cif_t q]; omega
      · rw [cif_f q, cif_f q]; exact ih_
theorem run_step {S S1 : ST} {j : Nat} {i : Int32} (eR : ∃ N, cN (S1 8) 0 (many S1) ≤ N ∧ runN N S1 = runN 24 S) (hj : j < many S1) (hno : ∀ k, k < j → ¬ cal S1 k) (hc_ : cal S1 j) (e : i = nI j) :
    ∃ N, cN (callQ S1 i 8) 0 (many (callQ S1 i)) ≤ N ∧ runN N (callQ S1 i) = runN 24 S := by
  obtain ⟨N, h1, h2⟩ := eR
  have hf : fstN (cal S1) (many S1) = j := fstN_is hj hc_ hno
  have hp := cN_pos hj hc_.1
  have hb : j < 2 ^ 31 := by
    have : many S1 ≤ 2 ^ 31 := by
      have h : (S1 10 0).toNatClampNeg = (S1 10 0).toInt.toNat := rfl
      have h3 := fb_rng (S1 10 0)
      show (S1 10 0).toNatClampNeg ≤ 2 ^ 31
      omega
    omega
  have hd := cN_drop (w := 1) (by decide) hc_.1 hj
  obtain ⟨N', rfl⟩ : ∃ N', N = N' + 1 := ⟨N - 1, by omega⟩
  refine ⟨N', ?_, ?_⟩
  · rw [many_call, callQ_8, e, nI_clamp hb]; omega
  · rw [runN, cif_t (by rw [hf]; exact hj), hf] at h2
    rw [e]; exact h2
theorem endM_eq (S : ST) (A B C D E F G : Nat → Int32) : row (row (row (row (row (row (row S 14 A) 1 B) 2 C) 13 D) 10 E) 11 F) 15 G = row (row (row (row (row (row (row S 14 A) 15 G) 1 B) 2 C) 13 D) 10 E) 11 F := by
  rw [row_comm _ F G (by decide), row_comm _ E G (by decide), row_comm _ D G (by decide), row_comm _ C G (by decide), row_comm _ B G (by decide)]
