/-! every call keeps the invariant -/
theorem cif_elim {α : Type} {c : Prop} {a b : α} (P : α → Prop) (ht : c → P a) (hf : ¬ c → P b) : P (cif c a b) := by
  by_cases h : c
  · rw [cif_t h]; exact ht h
  · rw [cif_f h]; exact hf h
theorem InvC.add {S : ST} (h : InvC S) {k p o w : Int32} (hk : ¬ k < 0 ∧ k ≤ 4) (hp : vp_in p 6) (ho : k = 2 ∨ k = 4 → vp_in o 6) (hw : w = -1 ∨ vp_in w (many S)) (hlt : S 10 0 < 24) :
    InvC (row (row (row (row (row (row S 4 (upd (S 4) (many S) k)) 5 (upd (S 5) (many S) p)) 6 (upd (S 6) (many S) o)) 7 (upd (S 7) (many S) w)) 8 (upd (S 8) (many S) 0)) 10 (kf (S 10 0 + 1))) := by
  obtain ⟨⟨hm_, he, hce⟩, hf, hod⟩ := h
  have hm2 : many S < 24 := by
    rw [fa_lt, he, nI_toInt (by omega), show (24 : Int32).toInt = 24 from rfl] at hlt
    omega
  have e10_ : S 10 0 + 1 = nI (many S + 1) := by rw [he]; exact nI_1 _
  have hmT : (S 10 0 + 1).toNatClampNeg = many S + 1 := by rw [e10_]; exact nI_clamp (by omega)
  have hcN : cN (upd (S 8) (many S) 0) 1 (many S + 1) = cN (S 8) 1 (many S) := by
    have hnn : ¬ upd (S 8) (many S) 0 (many S) = 1 := by rw [pk_us]; decide
    have hst : cN (upd (S 8) (many S) 0) 1 (many S + 1) = cif (upd (S 8) (many S) 0 (many S) = 1) (cN (upd (S 8) (many S) 0) 1 (many S) + 1) (cN (upd (S 8) (many S) 0) 1 (many S)) := rfl
    rw [hst, cif_f hnn]
    exact cN_cong (f := upd (S 8) (many S) 0) (g := S 8) (v := 1) (fun j hj => by rw [pk_un (show j ≠ many S by omega)])
  refine ⟨⟨?_, ?_, ?_⟩, fun j hj => ?_, fun j hj => ?_⟩
  · show (S 10 0 + 1).toNatClampNeg ≤ 24
    omega
  · show S 10 0 + 1 = nI (S 10 0 + 1).toNatClampNeg
    rw [hmT]; exact e10_
  · show S 11 0 = nI (cN (upd (S 8) (many S) 0) 1 (S 10 0 + 1).toNatClampNeg)
    rw [hmT, hcN]; exact hce
  · have hj2 : j < many S + 1 := by rw [← hmT]; exact hj
    show (0 ≤ (upd (S 4) (many S) k j).toInt ∧ (upd (S 4) (many S) k j).toInt ≤ 4) ∧ vp_in (upd (S 5) (many S) p j) 6 ∧ (upd (S 4) (many S) k j = 2 ∨ upd (S 4) (many S) k j = 4 → vp_in (upd (S 6) (many S) o j) 6) ∧ (upd (S 7) (many S) w j = -1 ∨ vp_in (upd (S 7) (many S) w j) j) ∧ (upd (S 8) (many S) 0 j = 0 ∨ upd (S 8) (many S) 0 j = 1 ∨ upd (S 8) (many S) 0 j = 2)
    by_cases e : j = many S
    · rw [e, pk_us, pk_us, pk_us, pk_us, pk_us]
      refine ⟨?_, hp, ho, hw, Or.inl rfl⟩
      have h1 := hk.1
      have h2 := hk.2
      rw [fa_lt, show (0 : Int32).toInt = 0 from rfl] at h1
      rw [fa_le, show (4 : Int32).toInt = 4 from rfl] at h2
      omega
    · rw [pk_un e, pk_un e, pk_un e, pk_un e, pk_un e]
      exact hf j (by omega)
  · have hj2 : j < cN (S 8) 1 (many S) := by
      have hj3 : j < cN (upd (S 8) (many S) 0) 1 (S 10 0 + 1).toNatClampNeg := hj
      rw [hmT, hcN] at hj3
      exact hj3
    show vp_in (S 9 j) (S 10 0 + 1).toNatClampNeg
    rw [hmT]
    exact vin_mono (hod j hj2) (by omega)
theorem InvC.states {S : ST} (h : InvC S) {g : Nat → Int32} (hg : ∀ i, g i = S 8 i ∨ (S 8 i = 0 ∧ g i = 2)) : InvC (row S 8 g) := by
  obtain ⟨⟨hm_, he, hce⟩, hf, hod⟩ := h
  have hc_ : cN g 1 (many S) = cN (S 8) 1 (many S) := cN_cong (fun k _ => by
    rcases hg k with e | ⟨e1_, e2_⟩
    · rw [e]
    · rw [e1_, e2_]; decide)
  refine ⟨⟨hm_, he, ?_⟩, fun k hk => ?_, fun k hk => ?_⟩
  · show S 11 0 = nI (cN g 1 (many S))
    rw [hc_]; exact hce
  · obtain ⟨a1, a2, a3, a4, a5⟩ := hf k hk
    refine ⟨a1, a2, a3, a4, ?_⟩
    show g k = 0 ∨ g k = 1 ∨ g k = 2
    rcases hg k with e | ⟨e1_, e2_⟩
    · rw [e]; exact a5
    · exact Or.inr (Or.inr e2_)
  · have hk2 : k < cN g 1 (many S) := hk
    rw [hc_] at hk2
    exact hod k hk2
theorem ms_keep (S : ST) : ∀ (d : Nat) (f : Nat → Int32) (n : Int32) (j i : Nat), (ms S f n j d).1 i = f i ∨ (f i = 0 ∧ (ms S f n j d).1 i = 2)
  | 0, f, n, j, i => Or.inl rfl
  | d + 1, f, n, j, i => by
    rw [ms]
    by_cases q : f j = 0 ∧ S 7 j ≠ -1 ∧ f (S 7 j).toNatClampNeg = 2
    · rw [cif_t q]
      rcases ms_keep S d (upd f j 2) (n + 1) (j + 1) i with e | ⟨e1_, e2_⟩
      · rw [e]
        by_cases z : i = j
        · rw [z, pk_us]; exact Or.inr ⟨q.1, rfl⟩
        · rw [pk_un z]; exact Or.inl rfl
      · by_cases z : i = j
        · rw [z, pk_us] at e1_; exact absurd e1_ (by decide)
        · rw [pk_un z] at e1_; exact Or.inr ⟨e1_, e2_⟩
    · rw [cif_f q]
      exact ms_keep S d f n (j + 1) i
theorem InvC.empty {S : ST} (h10 : S 10 0 = 0) (h11 : S 11 0 = 0) : InvC S := by
  have hm_ : many S = 0 := by
    show (S 10 0).toNatClampNeg = 0
    rw [h10]; rfl
  refine ⟨⟨by rw [hm_]; omega, by rw [hm_, h10]; exact nI_0.symm, by rw [hm_, h11]; exact nI_0.symm⟩, fun k hk => ?_, fun k hk => ?_⟩
  · rw [hm_] at hk; exact absurd hk (Nat.not_lt_zero k)
  · rw [hm_] at hk; exact absurd hk (Nat.not_lt_zero k)
theorem keep_dress {B : Nat} {S : ST} (h : Inv B S) (p c : Int32) : Inv B (k_dress S p c).2.2 :=
  cif_elim (fun z : KR => Inv B z.2.2) (fun h1 => cif_elim (fun z : KR => Inv B z.2.2) (fun _ => cif_elim (fun z : KR => Inv B z.2.2)
    (fun h3 => Inv.mk (h.a.dress h1.1 h1.2 h3.1 h3.2.1 h3.2.2) h.u1 (h.c.other rfl rfl rfl rfl rfl rfl rfl rfl) h.d) (fun _ => h)) (fun _ => h)) (fun _ => h)
theorem keep_repair {B : Nat} {S : ST} (h : Inv B S) (c : Int32) : Inv B (k_repair S c).2.2 :=
  cif_elim (fun z : KR => Inv B z.2.2) (fun h1 => cif_elim (fun z : KR => Inv B z.2.2)
    (fun h3 => Inv.mk (h.a.repair _) h.u1 (h.c.other rfl rfl rfl rfl rfl rfl rfl rfl) (by
      refine ⟨h.i13, ?_⟩
      show 0 ≤ (S 14 0 - S 3 c.toNatClampNeg).toInt ∧ (S 14 0 - S 3 c.toNatClampNeg).toInt ≤ B
      have a1 := h.i3 _ (vin_lt h1)
      have a2 := h.i14
      have a3 := h3.2
      have a4 := fb_rng (S 14 0)
      rw [fa_le] at a3
      rw [fb_subI] <;> omega)) (fun _ => h)) (fun _ => h)
theorem keep_addCue {B : Nat} {S : ST} (h : Inv B S) (k p o w : Int32) : Inv B (k_addCue S k p o w).2.2 :=
  cif_elim (fun z : KR => Inv B z.2.2) (fun h1 => cif_elim (fun z : KR => Inv B z.2.2) (fun h2 => cif_elim (fun z : KR => Inv B z.2.2)
    (fun h3 => Inv.mk h.a h.u1 (h.c.add h1 h2.1 h2.2.1 h2.2.2 h3.1) h.d) (fun _ => h)) (fun _ => h)) (fun _ => h)
theorem keep_call {B : Nat} {S : ST} (h : Inv B S) (q : Int32) : Inv B (k_call S q).2.2 :=
  cif_elim (fun z : KR => Inv B z.2.2) (fun h1 => cif_elim (fun z : KR => Inv B z.2.2) (fun h2 => h.call h1 h2) (fun _ => h)) (fun _ => h)
theorem keep_run {B : Nat} {S : ST} (h : Inv B S) : Inv B (k_run S).2.2 := inv_runN 24 h
theorem keep_miss {B : Nat} {S : ST} (h : Inv B S) (q : Int32) : Inv B (k_miss S q).2.2 :=
  cif_elim (fun z : KR => Inv B z.2.2) (fun h1 => cif_elim (fun z : KR => Inv B z.2.2)
    (fun h2 => Inv.mk h.a h.u1 (h.c.states (fun i => by
      rcases ms_keep S (many S - (q.toNatClampNeg + 1)) (upd (S 8) q.toNatClampNeg 2) 1 (q.toNatClampNeg + 1) i with e | ⟨e1_, e2_⟩
      · rw [e]
        by_cases z : i = q.toNatClampNeg
        · rw [z, pk_us]; exact Or.inr ⟨h2, rfl⟩
        · rw [pk_un z]; exact Or.inl rfl
      · by_cases z : i = q.toNatClampNeg
        · rw [z, pk_us] at e1_; exact absurd e1_ (by decide)
        · rw [pk_un z] at e1_; exact Or.inr ⟨e1_, e2_⟩)) h.d) (fun _ => h)) (fun _ => h)
theorem keep_maskByCues {B : Nat} {S : ST} (h : Inv B S) (p : Int32) : Inv B (k_maskByCues S p).2.2 :=
  cif_elim (fun z : KR => Inv B z.2.2) (fun _ => Inv.mk h.a h.u1 (h.c.other rfl rfl rfl rfl rfl rfl rfl rfl) h.d) (fun _ => h)
theorem keep_guess {B : Nat} {S : ST} (h : Inv B S) (g p m : Int32) : Inv B (k_guess S g p m).2.2 :=
  cif_elim (fun z : KR => Inv B z.2.2) (fun _ => cif_elim (fun z : KR => Inv B z.2.2)
    (fun _ => Inv.mk h.a h.u1 (h.c.other rfl rfl rfl rfl rfl rfl rfl rfl) ⟨fun k hk => by
      show upd (S 13) (g * 6 + p).toNatClampNeg 1 k = 0 ∨ upd (S 13) (g * 6 + p).toNatClampNeg 1 k = 1
      by_cases e : k = (g * 6 + p).toNatClampNeg
      · rw [e, pk_us]; exact Or.inr rfl
      · rw [pk_un e]; exact h.i13 k hk, h.i14⟩) (fun _ => h)) (fun _ => h)
theorem purse_in {B : Nat} {S : ST} (h : Inv B S) (hB_ : B ≤ 100000) : 0 ≤ (purseE S).toInt ∧ (purseE S).toInt ≤ ((B + 24 : Nat) : Int) := by
  have hm_ := h.m24
  have h1 := cN_le (S 8) 1 (many S)
  have h2 := cN_le (S 8) 2 (many S)
  have hp := h.i14
  unfold purseE
  rw [h.ce]
  generalize cN (S 8) 1 (many S) = c1 at h1 ⊢
  generalize cN (S 8) 2 (many S) = c2 at h2 ⊢
  have e1_ : (nI c1).toInt = c1 := nI_toInt (by omega)
  have e2_ : (nI c2).toInt = c2 := nI_toInt (by omega)
  have e3_ : (S 14 0 + nI c1).toInt = (S 14 0).toInt + c1 := by rw [fb_addI] <;> rw [e1_] <;> omega
  have e4_ : (S 14 0 + nI c1 - nI c2).toInt = (S 14 0).toInt + c1 - c2 := by rw [fb_subI] <;> rw [e3_, e2_] <;> omega
  by_cases q : S 14 0 + nI c1 < nI c2
  · rw [cif_t q, show (0 : Int32).toInt = 0 from rfl]
    omega
  · rw [cif_f q, e4_]
    rw [fa_lt, e3_, e2_] at q
    omega
theorem keep_endPlay {B : Nat} {S : ST} (h : Inv B S) (hB_ : B ≤ 100000) : Inv (B + 24) (k_endPlay S).2.2 :=
  cif_elim (fun z : KR => Inv (B + 24) z.2.2) (fun _ => Inv.mk h.a.clear (uq.clear _) (InvC.empty rfl rfl) ⟨fun k hk => by
    show fa_fill (fun _ => 0) (S 13) 18 k = 0 ∨ _
    rw [fa_fill_in hk]; exact Or.inl rfl, purse_in h hB_⟩) (fun _ => h.mono (by omega))
theorem Inv.new : Inv 10 S00 := by
  refine Inv.mk ⟨fun k hk => ?_, uq.clear _, fun k _ => Or.inl rfl, fun k _ hs => absurd rfl hs, fun x _ => ?_, fun k hk hck => ?_⟩ (uq.clear _) (InvC.empty rfl rfl) ⟨fun k _ => Or.inl rfl, ?_⟩
  · show fa_fill (fun _ => -1) (fun _ => 0) 6 k = -1 ∨ _
    rw [fa_fill_in hk]; exact Or.inl rfl
  · show 0 ≤ (0 : Int32).toInt ∧ (0 : Int32).toInt ≤ 3
    decide
  · rw [show S00 0 k = fa_fill (fun _ => -1) (fun _ => 0) 6 k from rfl, fa_fill_in hk] at hck
    exact absurd rfl hck
  · show 0 ≤ (10 : Int32).toInt ∧ (10 : Int32).toInt ≤ ((10 : Nat) : Int)
    decide
