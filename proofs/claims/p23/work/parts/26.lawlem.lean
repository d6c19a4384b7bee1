/-! THE LAW'S METHODS: their worlds and starts -/
abbrev wp (cI : ClassId) (pa : Nat) (f : Nat → Int32) : Nat × va_E := (pa, .inl (cI, 24, .inl f))
theorem xG.callA {A A' : Nat → Prop} {s U : State} {H : Heap} (h : xG A s H) (hA : ∀ q, A' q → A q) (hU : U.heap = H) (hW : s.WarmedH U.vm) : xG A' U U.heap := by
  subst hU
  refine ⟨(h.1.narrow hA).moved hW.alike, (h.2.1.narrow hA).moved hW.alike, fun w hw => ?_, fun q hq => ?_⟩
  · have h1 := h.2.2.1 w hw
    simp only [xB, List.mem_cons, List.not_mem_nil, or_false] at hw
    rcases hw with rfl | rfl | rfl | rfl | rfl | rfl
    · exact va_Nw.warmD hW h1
    · exact va_Nw.warmD hW h1
    · exact va_Nw.warmD hW h1
    · exact va_tabs rfl (rfl : (s.setVm U.vm).vm = U.vm) (by rw [Cond.castable_setVm hW.alike]; exact h1)
    · exact va_tabs rfl (rfl : (s.setVm U.vm).vm = U.vm) (by rw [Cond.castable_setVm hW.alike]; exact h1)
    · exact va_tabs rfl (rfl : (s.setVm U.vm).vm = U.vm) (by rw [Cond.castable_setVm hW.alike]; exact h1)
  · obtain ⟨sa, h1⟩ := h.2.2.2 q hq
    exact ⟨sa, h1.warm hW⟩
def pGA (ws : va_W) : State → Prop := fun U => xG (va_A ws U.heap.size) U U.heap
theorem pTA_S {B : State → Prop} {s : State} {H : Heap} {As : List Value} {A : Nat → Prop} {ws : va_W} (h : PreS s H (va_Pc As B) As) (hG : xG A s H) (hF : ∀ q, va_A ws H.size q → A q) : PreS s H (va_Pc As (fun U => B U ∧ pGA ws U)) As :=
  ⟨fun a U g mk q => ⟨q.1, (h.1 a U g mk ⟨q.1, q.2.1⟩).2, xG.blind q.2.2⟩, fun U hU hW => ⟨rfl, (h.2 U hU hW).2, hG.callA (by rw [hU]; exact hF) hU hW⟩⟩
def pX (b L : Nat) (xs : Nat → Int32) : State → Prop := fun U => va_X b L xs U U.heap
theorem pX_S {s : State} {H : Heap} {As : List Value} {b L : Nat} {xs : Nat → Int32} (hX : va_X b L xs s H) : PreS s H (va_Pc As (pX b L xs)) As :=
  ⟨fun a U g mk h => ⟨h.1, va_X.moved (u := U) (U := U.calling g mk a) (Vm.Alike.refl U.vm) h.2⟩, fun U hU hW => ⟨rfl, by
    show va_X b L xs U U.heap
    rw [hU]; exact va_X.moved hW.alike hX⟩⟩
/-! answers of the class's calls -/
theorem krd {c : Prop} {v r : Int32} {S T : ST} (hc_ : c) (h : cif c ((0 : Int32), v, S) ((1 : Int32), (0 : Int32), S) = (0, r, T)) : r = v := by
  rw [cif_t hc_] at h
  exact (Prod.mk.inj (Prod.mk.inj h).2).1.symm
theorem kne {c : Prop} {v : Int32} {S T : ST} (hc_ : c) (h : cif c ((0 : Int32), v, S) ((1 : Int32), (0 : Int32), S) = (1, 0, T)) : False := by
  rw [cif_t hc_] at h
  exact absurd (Prod.mk.inj h).1 (by decide)
theorem kin {K : KR} {v r : Int32} {T U : ST} (h : K = (0, v, T)) (h2 : K = (0, r, U)) : r = v ∧ U = T := by
  have h3 := Prod.mk.inj (Prod.mk.inj (h.symm.trans h2)).2
  exact ⟨h3.1.symm, h3.2.symm⟩
theorem knx {K : KR} {v n w : Int32} {T U : ST} (hn : (0 : Int32) ≠ n) (h : K = (0, v, T)) (h2 : K = (n, w, U)) : False := hn (Prod.mk.inj (h.symm.trans h2)).1
theorem k1x {K : KR} {v : Int32} {T U : ST} {E a : String} (h : K = (0, v, T)) (h2 : E = a ∧ K = (1, 0, U)) : False := knx (by decide) h h2.2
theorem k2x {K : KR} {v : Int32} {T U : ST} {E a b : String} (h : K = (0, v, T)) (h2 : (E = a ∧ K = (1, 0, U)) ∨ (E = b ∧ K = (2, 0, U))) : False := h2.elim (fun z => knx (by decide) h z.2) (fun z => knx (by decide) h z.2)
theorem k3x {K : KR} {v : Int32} {T U : ST} {E a b c : String} (h : K = (0, v, T)) (h2 : (E = a ∧ K = (1, 0, U)) ∨ (E = b ∧ K = (2, 0, U)) ∨ (E = c ∧ K = (3, 0, U))) : False := h2.elim (fun z => knx (by decide) h z.2) (fun z => z.elim (fun z => knx (by decide) h z.2) (fun z => knx (by decide) h z.2))
/-! numbers -/
theorem i32_half (x : Int32) : ∃ a : Nat, a < 2147483648 ∧ (x.toUInt32 >>> ((1 : Int32).toUInt32 &&& Int32.toUInt32 31)).toInt32 = nI a := by
  have hx : x = nI x.toBitVec.toNat := Int32.toBitVec_inj.mp (by
    show _ = BitVec.ofNat 32 _
    simp)
  have hb := x.toBitVec.isLt
  have h2 := pk_ushrN hb 1 1 (by decide)
  rw [← hx] at h2
  exact ⟨x.toBitVec.toNat / 2 ^ 1, by omega, h2⟩
theorem m_lt {x : Int32} {n : Nat} (h : x = -1 ∨ vp_in x n) : ¬ x < -1 := by
  rcases h with rfl | h
  · decide
  · rw [vp_in_iff] at h
    rw [fa_lt, show (-1 : Int32).toInt = -1 from rfl]
    omega
theorem m_gt {x : Int32} (h : x = -1 ∨ vp_in x 6) : ¬ 5 < x := by
  rcases h with rfl | h
  · decide
  · rw [vp_in_iff] at h
    rw [fa_lt, show (5 : Int32).toInt = 5 from rfl]
    omega
theorem nn_ne {x : Int32} (h : ¬ x < 0) : x ≠ -1 := fun e => by
  rw [e] at h
  exact h (by decide)
theorem in_of {x : Int32} {n : Nat} (h : x = -1 ∨ vp_in x n) (h2 : ¬ x < 0) : vp_in x n := h.resolve_left (nn_ne h2)
theorem in_nn {x : Int32} {n : Nat} (h : vp_in x n) : ¬ x < 0 := by
  rw [vp_in_iff] at h
  rw [fa_lt, show (0 : Int32).toInt = 0 from rfl]
  omega
theorem in_ge {x : Int32} {n : Nat} (h : vp_in x n) : 0 ≤ x := by
  rw [vp_in_iff] at h
  rw [fa_le, show (0 : Int32).toInt = 0 from rfl]
  omega
theorem neg_m1 {x : Int32} {n : Nat} (h : x = -1 ∨ vp_in x n) (h2 : x < 0) : x = -1 := h.resolve_right (fun z => in_nn z h2)
theorem ge_nl {x : Int32} (h : 0 ≤ x) : ¬ x < 0 := fun z => by
  rw [fa_le, show (0 : Int32).toInt = 0 from rfl] at h
  rw [fa_lt, show (0 : Int32).toInt = 0 from rfl] at z
  omega
theorem st_lt {x : Int32} (h : x = 0 ∨ x = 1 ∨ x = 2) : ¬ x < 0 := by
  rcases h with rfl | rfl | rfl <;> decide
theorem st_gt {x : Int32} (h : x = 0 ∨ x = 1 ∨ x = 2) : ¬ 2 < x := by
  rcases h with rfl | rfl | rfl <;> decide
theorem nI_nn {n : Nat} (h : n < 2 ^ 31) : ¬ nI n < 0 := by
  rw [fa_lt, nI_toInt h, show (0 : Int32).toInt = 0 from rfl]
  omega
theorem i32_a1 (a b c d : Int32) : a + d + b + c = a + b + c + d := by
  rw [Int32.add_assoc a d b, Int32.add_comm d b, ← Int32.add_assoc a b d, Int32.add_assoc (a + b) d c, Int32.add_comm d c, ← Int32.add_assoc]
theorem i32_a2 (a b c d : Int32) : a + (b + d) + c = a + b + c + d := by
  rw [← Int32.add_assoc a b d, Int32.add_assoc (a + b) d c, Int32.add_comm d c, ← Int32.add_assoc]
theorem i32_a3 (a b c d : Int32) : a + b + (c + d) = a + b + c + d := by
  rw [← Int32.add_assoc]
theorem i32_same {a d : Int32} (h : a + d = a) : d = 0 := by
  refine i32_cancel (c := a) ?_
  rw [Int32.add_comm d a, h, Int32.zero_add]
theorem fI_own {f : Nat → Int32} (hu : uq f) {k : Nat} (hk : k < 6) (hne : f k ≠ -1) : fI f (f k) = nI k := by
  rcases fI_cases f (f k) with ⟨-, h⟩ | ⟨j, hj, e, hp⟩
  · exact absurd rfl (h k hk)
  · by_cases z : j = k
    · rw [e, z]
    · exact absurd (hp.symm.trans (hu j k hj hk z hp)) hne
theorem fI_pos {f : Nat → Int32} {v : Int32} (h : ¬ fI f v < 0) : ∃ k, k < 6 ∧ fI f v = nI k ∧ f k = v := by
  rcases fI_cases f v with ⟨e, -⟩ | h2
  · rw [e] at h
    exact absurd (by decide) h
  · exact h2
theorem uq_two {f : Nat → Int32} (hu : uq f) {j k : Nat} (hj : j < 6) (hk : k < j) (hn : ¬ f j < 0) : ¬ f k = f j := fun e =>
  nn_ne hn (e.symm.trans (hu k j (by omega) hj (by omega) e))
theorem on_cos {B : Nat} {S : ST} (hI : Inv B S) {j : Nat} (h6 : j < 6) (h : ¬ S 2 j = 0) : 0 ≤ S 0 j := in_ge ((hI.i0 j h6).resolve_left (hI.i20 j h6 h))
theorem cos_lo {S : ST} (h : okF S) {j : Nat} (h6 : j < 6) (hn : ¬ S 0 j < 0) : ¬ S 0 j < nI j := by
  have q := h j h6 (nn_ne hn)
  rw [fa_lt, nI_toInt (by omega)]
  omega
theorem cos_hi {S : ST} (h : okF S) {j : Nat} (h6 : j < 6) (hn : ¬ S 0 j < 0) : ¬ nI j + 2 < S 0 j := by
  have q := h j h6 (nn_ne hn)
  rw [fa_lt, show nI j + 2 = nI (j + 2) from nI_add j 2, nI_toInt (by omega)]
  omega
theorem wear_le {B : Nat} {S : ST} (hI : Inv B S) {j : Nat} (h6 : j < 6) (hn : ¬ S 0 j < 0) : S 3 (S 0 j).toNatClampNeg ≤ 2 := by
  have q := hI.i30 j h6 (nn_ne hn)
  rw [fa_le, show (2 : Int32).toInt = 2 from rfl]
  omega
theorem other_in {p t : Int32} (hp : vp_in p 6) (ht : vp_in t 5) : vp_in (p + 1 + t - (p + 1 + t) / 6 * 6) 6 ∧ p ≠ p + 1 + t - (p + 1 + t) / 6 * 6 := by
  obtain ⟨j, hj, rfl⟩ := vp_in_of hp (by decide)
  obtain ⟨k, hk, rfl⟩ := vp_in_of ht (by decide)
  have e : nI j + 1 + nI k - (nI j + 1 + nI k) / 6 * 6 = nI ((j + 1 + k) % 6) := by
    rw [nI_1, nI_add]
    exact pk_rem (by omega) (by decide) (by decide)
  rw [e]
  refine ⟨vp_in_nI (Nat.mod_lt _ (by decide)) (by decide), fun z => ?_⟩
  rw [nI_eq (by omega) (by omega)] at z
  omega
theorem cos_in {p t : Int32} (hp : vp_in p 6) (ht : vp_in t 3) : vp_in (p + t) 8 ∧ ((p.toNatClampNeg : Int) ≤ (p + t).toInt ∧ (p + t).toInt ≤ (p.toNatClampNeg : Int) + 2) := by
  obtain ⟨j, hj, rfl⟩ := vp_in_of hp (by decide)
  obtain ⟨k, hk, rfl⟩ := vp_in_of ht (by decide)
  rw [nI_add, nI_clamp (by omega), nI_toInt (by omega)]
  exact ⟨vp_in_nI (by omega) (by decide), by omega, by omega⟩
theorem kind_in {k : Int32} (h : vp_in k 5) : ¬ k < 0 ∧ k ≤ 4 := by
  rw [vp_in_iff] at h
  rw [fa_lt, fa_le, show (0 : Int32).toInt = 0 from rfl, show (4 : Int32).toInt = 4 from rfl]
  omega
/-! what the calls answer in the law -/
theorem ans_dress {S : ST} {p c : Int32} (hp : vp_in p 6) (hx : vp_in c 8) (hf : (p.toNatClampNeg : Int) ≤ c.toInt ∧ c.toInt ≤ (p.toNatClampNeg : Int) + 2) (h2 : S 2 p.toNatClampNeg = 0) (ho : fI (S 0) c = -1 ∨ fI (S 0) c = p) (hw : S 3 c.toNatClampNeg < 3) : k_dress S p c = (0, S 0 p.toNatClampNeg, row S 0 (upd (S 0) p.toNatClampNeg c)) := by
  have hfit : (-1 : Int32) ≤ p - c + 1 ∧ p - c + 1 ≤ 1 := by
    clear ho hw h2
    obtain ⟨j, hj, rfl⟩ := vp_in_of hp (by decide)
    obtain ⟨k, hk, rfl⟩ := vp_in_of hx (by decide)
    rw [nI_clamp (by omega), nI_toInt (by omega)] at hf
    have ej : (nI j).toInt = (j : Int) := nI_toInt (by omega)
    have ek : (nI k).toInt = (k : Int) := nI_toInt (by omega)
    have e1_ : (1 : Int32).toInt = 1 := rfl
    have ed : (nI j - nI k).toInt = (j : Int) - k := by rw [fb_subI] <;> rw [ej, ek] <;> omega
    have es : (nI j - nI k + 1).toInt = (j : Int) - k + 1 := by rw [fb_addI] <;> rw [ed, e1_] <;> omega
    rw [fa_le, fa_le, es, e1_, show (-1 : Int32).toInt = -1 from rfl]
    omega
  exact (cif_t ⟨hp, hx⟩).trans ((cif_t hfit).trans (cif_t ⟨h2, ho, hw⟩))
theorem fr_own {S : ST} {p c : Int32} (hp : vp_in p 6) (h : ∀ k, k < 6 → k = p.toNatClampNeg ∨ ¬ S 0 k = c) : fI (S 0) c = -1 ∨ fI (S 0) c = p := by
  rcases fI_cases (S 0) c with ⟨e, -⟩ | ⟨k, hk, e, hq⟩
  · exact Or.inl e
  · rcases h k hk with z | z
    · exact Or.inr (by rw [e, z]; exact (vin_nI hp (by decide)).symm)
    · exact absurd hq z
theorem fr_keep {v : Int32} {P R : Prop} {Z : Nat → Prop} {j : Nat} (h : v = 0 ∨ (v = 1 ∧ P ∧ R ∧ ∀ k, k < j → Z k)) (hz : Z j) : (v &&& 1) = 0 ∨ ((v &&& 1) = 1 ∧ P ∧ R ∧ ∀ k, k < j + 1 → Z k) := by
  rcases h with rfl | ⟨rfl, h1, h2, h3⟩
  · exact Or.inl (by decide)
  · refine Or.inr ⟨by decide, h1, h2, fun k hk => ?_⟩
    by_cases e : k = j
    · rw [e]; exact hz
    · exact h3 k (by omega)
theorem fr_drop {v : Int32} {P Q : Prop} (h : v = 0 ∨ (v = 1 ∧ P)) : (v &&& 0) = 0 ∨ ((v &&& 0) = 1 ∧ Q) := by
  rcases h with rfl | ⟨rfl, -⟩
  · exact Or.inl (by decide)
  · exact Or.inl (by decide)
theorem ans_add {S : ST} {k p o w : Int32} (hk : vp_in k 5) (hp : vp_in p 6) (ho : vp_in o 6) (hne : p ≠ o) (hw : w = -1 ∨ vp_in w (many S)) (hlt : S 10 0 < 24) (hw2 : w = -1 ∨ S 8 w.toNatClampNeg ≠ 2) : k_addCue S k p o w = (0, S 10 0, addS S k p o w) :=
  (cif_t (kind_in hk)).trans ((cif_t ⟨hp, fun _ => ho, hw⟩).trans (cif_t ⟨hlt, fun z => hne z.2, hw2⟩))
theorem ans_call {S : ST} {q : Int32} (hq : vp_in q (many S)) (hc_ : cal S q.toNatClampNeg) : k_call S q = (0, S 11 0 + 1, callQ S q) := (cif_t hq).trans (cif_t hc_)
theorem ans_miss {S : ST} {q : Int32} (hq : vp_in q (many S)) (h2 : S 8 q.toNatClampNeg = 0) : k_miss S q = (0, (missM S q).2, row S 8 (missM S q).1) := (cif_t hq).trans (cif_t h2)
theorem ans_end {S : ST} (h : ∀ k, k < many S → S 8 k ≠ 0) : k_endPlay S = (0, purseE S, endS S) := cif_t h
theorem ans_run (S : ST) : k_run S = (0, runN 24 S 11 0 - S 11 0, runN 24 S) := rfl
theorem ans_mbc {B : Nat} {S : ST} (h : Good B S) {p : Int32} (hp : vp_in p 6) : k_maskByCues S p = (0, S 1 p.toNatClampNeg, row S 16 (rpN S (S 11 0).toNatClampNeg)) := by
  have e : rpN S (S 11 0).toNatClampNeg p.toNatClampNeg = S 1 p.toNatClampNeg := by
    rw [ce_clamp h.1]; exact h.2.2.2.1 _ (vin_lt hp)
  rw [← e]; exact cif_t hp
noncomputable def guessS (S : ST) (g p m : Int32) : ST := row (row S 13 (upd (S 13) (g * 6 + p).toNatClampNeg 1)) 12 (upd (S 12) g.toNatClampNeg (S 12 g.toNatClampNeg + cif (S 1 p.toNatClampNeg = m) 3 (-1)))
theorem ans_guess {S : ST} {g p m : Int32} (hg : vp_in g 3) (hp : vp_in p 6) (hm_ : vp_in m 6) (h2 : ¬ S 2 p.toNatClampNeg = 0) (h1 : S 1 p.toNatClampNeg ≠ -1) (h13 : ∀ k, k < 18 → S 13 k = 0) : k_guess S g p m = (0, cif (S 1 p.toNatClampNeg = m) 1 0, guessS S g p m) :=
  (cif_t ⟨hg, hp, hm_⟩).trans (cif_t ⟨h2, h1, h13 _ (vin_lt (gp_in hg hp))⟩)
theorem sum_guess {S : ST} {g p m : Int32} (hg : vp_in g 3) : Sm (guessS S g p m) = Sm S + cif (S 1 p.toNatClampNeg = m) 3 (-1) := by
  obtain ⟨j, hj, rfl⟩ := vp_in_of hg (by decide)
  show upd (S 12) (nI j).toNatClampNeg (S 12 (nI j).toNatClampNeg + cif (S 1 p.toNatClampNeg = m) 3 (-1)) 0 + upd (S 12) (nI j).toNatClampNeg (S 12 (nI j).toNatClampNeg + cif (S 1 p.toNatClampNeg = m) 3 (-1)) 1 + upd (S 12) (nI j).toNatClampNeg (S 12 (nI j).toNatClampNeg + cif (S 1 p.toNatClampNeg = m) 3 (-1)) 2 = S 12 0 + S 12 1 + S 12 2 + cif (S 1 p.toNatClampNeg = m) 3 (-1)
  rw [nI_clamp (by omega)]
  generalize cif (S 1 p.toNatClampNeg = m) (3 : Int32) (-1) = d
  match j, hj with
  | 0, _ => rw [pk_us, pk_un (show 1 ≠ 0 by decide), pk_un (show 2 ≠ 0 by decide)]; exact i32_a1 _ _ _ _
  | 1, _ => rw [pk_us, pk_un (show 0 ≠ 1 by decide), pk_un (show 2 ≠ 1 by decide)]; exact i32_a2 _ _ _ _
  | 2, _ => rw [pk_us, pk_un (show 0 ≠ 2 by decide), pk_un (show 1 ≠ 2 by decide)]; exact i32_a3 _ _ _ _
  | (n + 3), h => omega
theorem sum_ne {S : ST} {g p m : Int32} (hg : vp_in g 3) : Sm (guessS S g p m) ≠ Sm S := by
  rw [sum_guess hg]
  intro z
  have h := i32_same z
  by_cases q : S 1 p.toNatClampNeg = m
  · rw [cif_t q] at h; exact absurd h (by decide)
  · rw [cif_f q] at h; exact absurd h (by decide)
theorem cN_add3 (f : Nat → Int32) : ∀ n, cN f 0 n + cN f 1 n + cN f 2 n ≤ n
  | 0 => Nat.le_refl 0
  | n + 1 => by
    have ih_ := cN_add3 f n
    unfold cN
    by_cases q0 : f n = 0
    · rw [cif_t q0, cif_f (by rw [q0]; decide), cif_f (by rw [q0]; decide)]; omega
    · rw [cif_f q0]
      by_cases q1 : f n = 1
      · rw [cif_t q1, cif_f (by rw [q1]; decide)]; omega
      · rw [cif_f q1]
        by_cases q2 : f n = 2
        · rw [cif_t q2]; omega
        · rw [cif_f q2]; omega
theorem all_done {B : Nat} {S : ST} (hI : Inv B S) (h : S 10 0 ≤ nI (cN (S 8) 1 (many S)) + nI (cN (S 8) 2 (many S))) : ∀ k, k < many S → S 8 k ≠ 0 := by
  have hm_ := hI.m24
  have h3 := cN_add3 (S 8) (many S)
  rw [hI.me, nI_add, nI_leI (by omega) (by omega)] at h
  have h0 : cN (S 8) 0 (many S) = 0 := by omega
  refine no_zero hm_ ?_
  rw [h0]
  decide
theorem due_ge {B : Nat} {S : ST} (hI : Inv B S) (hB_ : B ≤ 100000) (h : 0 ≤ S 14 0 + nI (cN (S 8) 1 (many S)) - nI (cN (S 8) 2 (many S))) : purseE S = S 14 0 + nI (cN (S 8) 1 (many S)) - nI (cN (S 8) 2 (many S)) := by
  rw [← purse_eq hI hB_]
  generalize S 14 0 + nI (cN (S 8) 1 (many S)) - nI (cN (S 8) 2 (many S)) = d at h ⊢
  by_cases q : 0 < d
  · rw [if_pos q]
  · rw [if_neg q]
    rw [fa_le, show (0 : Int32).toInt = 0 from rfl] at h
    rw [fa_lt, show (0 : Int32).toInt = 0 from rfl] at q
    rw [fa_eq, show (0 : Int32).toInt = 0 from rfl]
    omega
theorem due_lt {B : Nat} {S : ST} (hI : Inv B S) (hB_ : B ≤ 100000) (h : ¬ 0 ≤ S 14 0 + nI (cN (S 8) 1 (many S)) - nI (cN (S 8) 2 (many S))) : purseE S = 0 := by
  rw [← purse_eq hI hB_]
  generalize S 14 0 + nI (cN (S 8) 1 (many S)) - nI (cN (S 8) 2 (many S)) = d at h ⊢
  refine if_neg (fun q => h ?_)
  rw [fa_lt, show (0 : Int32).toInt = 0 from rfl] at q
  rw [fa_le, show (0 : Int32).toInt = 0 from rfl]
  omega
/-! what a step of the law leaves -/
def AP (B : Nat) (S S' : ST) (f' : Nat → Int32) : Prop := Good (B + 24) S' ∧ Lnk S' f' ∧ S' 12 = S 12 ∧ ∀ k, k < 18 → S 13 k = 0 → S' 13 k = 0
theorem ap_refl {B : Nat} {S : ST} {f : Nat → Int32} (h : Good B S) (hl_ : Lnk S f) : AP B S S f := ⟨good_mono h (by omega), hl_, rfl, fun _ _ z => z⟩
theorem ap_dress {B : Nat} {S T : ST} {f : Nat → Int32} {g : Nat → Int32} (h : Good B T) (e : T = row S 0 g) (hl_ : Lnk S f) : AP B S T f := by
  subst e
  exact ⟨good_mono h (by omega), hl_, rfl, fun _ _ z => z⟩
theorem ap_add {B : Nat} {S T : ST} {f g : Nat → Int32} {k p o w : Int32} (h : Good B T) (e : T = addS S k p o w) (hl_ : Lnk (addS S k p o w) g) : AP B S T g := by
  subst e
  exact ⟨good_mono h (by omega), hl_, rfl, fun _ _ z => z⟩
theorem ap_run {B : Nat} {S T : ST} {f : Nat → Int32} (h : Good B T) (e : T = runN 24 S) (hl_ : Lnk S f) : AP B S T f := by
  have e7_ : T 7 = S 7 := by rw [e]; exact runN_other (by decide) (by decide) (by decide) (by decide) (by decide) (by decide) (by decide) 24 S
  have e10_ : T 10 = S 10 := by rw [e]; exact runN_other (by decide) (by decide) (by decide) (by decide) (by decide) (by decide) (by decide) 24 S
  have e12_ : T 12 = S 12 := by rw [e]; exact runN_other (by decide) (by decide) (by decide) (by decide) (by decide) (by decide) (by decide) 24 S
  have e13_ : T 13 = S 13 := by rw [e]; exact runN_other (by decide) (by decide) (by decide) (by decide) (by decide) (by decide) (by decide) 24 S
  refine ⟨good_mono h (by omega), fun k hk => ?_, e12_, fun k _ z => by rw [e13_]; exact z⟩
  have em_ : many T = many S := by
    show (T 10 0).toNatClampNeg = (S 10 0).toNatClampNeg
    rw [e10_]
  rw [em_] at hk
  rw [e7_]; exact hl_ k hk
theorem ap_miss {B : Nat} {S T : ST} {f g : Nat → Int32} (h : Good B T) (e : T = row S 8 g) (hl_ : Lnk S f) : AP B S T f := by
  subst e
  exact ⟨good_mono h (by omega), hl_, rfl, fun _ _ z => z⟩
theorem ap_call {B : Nat} {S T : ST} {f : Nat → Int32} {q : Int32} (h : Good B T) (e : T = callQ S q) (hl_ : Lnk S f) : AP B S T f := by
  have e7_ : T 7 = S 7 := by rw [e]; exact callQ_other (by decide) (by decide) (by decide) (by decide) (by decide) (by decide) (by decide)
  have e10_ : T 10 = S 10 := by rw [e]; exact callQ_other (by decide) (by decide) (by decide) (by decide) (by decide) (by decide) (by decide)
  have e12_ : T 12 = S 12 := by rw [e]; exact callQ_other (by decide) (by decide) (by decide) (by decide) (by decide) (by decide) (by decide)
  have e13_ : T 13 = S 13 := by rw [e]; exact callQ_other (by decide) (by decide) (by decide) (by decide) (by decide) (by decide) (by decide)
  refine ⟨good_mono h (by omega), fun k hk => ?_, e12_, fun k _ z => by rw [e13_]; exact z⟩
  have em_ : many T = many S := by
    show (T 10 0).toNatClampNeg = (S 10 0).toNatClampNeg
    rw [e10_]
  rw [em_] at hk
  rw [e7_]; exact hl_ k hk
theorem ap_end {B : Nat} {S T : ST} {f : Nat → Int32} (h : Good (B + 24) T) (e : T = endS S) : AP B S T f := by
  subst e
  have hm0 : many (endS S) = 0 := rfl
  refine ⟨h, fun k hk => ?_, rfl, fun k hk _ => ?_⟩
  · rw [hm0] at hk; exact absurd hk (Nat.not_lt_zero k)
  · show fa_fill (fun _ => 0) (S 13) 18 k = 0
    exact fa_fill_in hk
def GP (S u : ST) : Prop := u = S ∨ ((∃ f g, u = row (row S 13 f) 12 g) ∧ Sm u ≠ Sm S)
