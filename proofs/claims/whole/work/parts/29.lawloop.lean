set_option maxHeartbeats 4000000 in
set_option maxRecDepth 100000 in
theorem law_loop {p_ : Program} {l : Launch} {e_ : Env} {s_ : State} {m_ : MethodId} {below : List Frame} {meth : Method} {c_ : Code} {D : va_G} {cI cZ cJ : ClassId} {b0 L : Nat} {xs : Nat → Int32} {x_ y_ ou : Nat} {a_ b_ : Nat → Nat} (hL : L ≤ 2560) (hfl : l.stackTraces = false) (C0_ : lw_At p_ s_ m_ meth c_ b0 L xs) (hG : xG (fun q_ => s_.heap.size ≤ q_) s_ s_.heap) (hN_ : xN s_) (hK_ : va_K D vwCl (tyL cI cZ cJ) s_) : ∀ (n_ k_ : Nat) (i4_ : Int32), 5 * k_ ≤ L → L + 1 ≤ 5 * k_ + n_ → i4_ = nI (5 * k_) → ∀ (S : ST) (t_ : Int32) (fo : Nat → Int64), Inv (10 + 24 * k_) S → ∀ (H : Heap) (locs : List Loc), va_P D vwCl (wW cI cZ cJ x_ y_ ou a_ b_ S S t_ fo) H → va_D (fun q_ : Nat => s_.heap.size ≤ q_) (wW cI cZ cJ x_ y_ ou a_ b_ S S t_ fo) → va_S (fun q_ : Nat => s_.heap.size ≤ q_) s_.heap H locs → ∀ ls : Array Slot, lv_has ls 7 [(0, .ref b0), (1, .ref x_), (2, .ref y_), (3, .ref ou), (4, .int i4_)] → W p_ l e_ room_1 s_ m_ #[Value.ref b0] below meth c_ H locs (29 + k_) (430 + 6 * k_) (lw_Z below #[Value.ref b0] s_) (F0 m_ 23 ls []) := by
  have C1 := C0_
  obtain ⟨hx, hb_, hr, hml, hown, hts, hX, hbl, hlocks, hgv⟩ := C1
  have hA : ∀ q_ : Nat, s_.heap.size ≤ q_ → (fun q_ : Nat => s_.heap.size ≤ q_) q_ := fun _ h_ => h_
  have hbA : ¬ (fun q_ : Nat => s_.heap.size ≤ q_) b0 := Nat.not_le.mpr hbl
  intro n_
  induction n_ with
  | zero =>
    intro k_ i4_ h1 h2 _ S t_ fo hI_ H locs hP hD hS_ ls hl
    exfalso; omega
  | succ n_ ih_ =>
    intro k_ i4_ h1 h2 e4_ S t_ fo hI_ H locs hP hD hS_ ls hl
    refine lv_iload hx hb_ dL_law_23 (lv_at hl 4 rfl) ?_
    refine lv_aload_n hx hb_ dL_law_25 rfl (lv_at hl 0 rfl) ?_
    refine va_slen hx hb_ hX hbl hbA hS_ dL_law_26 ?_
    refine lv_iconst (v := 5) hx hb_ dL_law_27 (by decide) ?_
    refine lv_isub hx hb_ dL_law_28 ?_
    have eL : (Int32.ofNat L - 5).toInt = (L : Int) - 5 := by
      have z1 : (Int32.ofNat L).toInt = (L : Int) := nI_toInt (n := L) (by omega)
      have z2 : (5 : Int32).toInt = 5 := rfl
      rw [fb_subI] <;> rw [z1, z2] <;> omega
    have e5 : i4_.toInt = ((5 * k_ : Nat) : Int) := by rw [e4_]; exact nI_toInt (by omega)
    refine lv_icmp_gt (tgt := 1167) hx hb_ dL_law_29 (by decide) (fun c29 => ?_) (fun c29 => ?_)
    · skip
      refine lv_iconst (v := 1) hx hb_ dL_law_1167 (by decide) ?_
      refine va_forget (fun q_ h_ => hS_.2.2 q_ h_) ?_
      refine W.widen (k := 1073) (n := 8742) (by omega) (by omega) ?_
      exact lw_ret hx hb_ hr hlocks dL_law_1168
    · skip
      have hk : 5 * k_ + 5 ≤ L := by
        rw [fa_lt, eL, e5] at c29
        omega
      refine lv_aload_n hx hb_ dL_law_32 rfl (lv_at hl 0 rfl) ?_
      refine lv_iload hx hb_ dL_law_33 (lv_at hl 4 rfl) ?_
      refine va_sld hx hb_ hX hbl hbA hS_ (by rw [e4_]; exact vp_in_nI (by omega) (by omega)) dL_law_35 ?_
      refine lv_bipush (v := 31) hx hb_ dL_law_36 (by decide) ?_
      refine lv_iand hx hb_ dL_law_38 ?_
      have kont : ∀ (S' : ST) (t' : Int32) (f' : Nat → Int64), Inv (10 + 24 * (k_ + 1)) S' → ∀ (H : Heap) (locs : List Loc), va_P D vwCl (wW cI cZ cJ x_ y_ ou a_ b_ S' S' t' f') H → va_D (fun q_ : Nat => s_.heap.size ≤ q_) (wW cI cZ cJ x_ y_ ou a_ b_ S' S' t' f') → va_S (fun q_ : Nat => s_.heap.size ≤ q_) s_.heap H locs → ∀ ls : Array Slot, lv_has ls 7 [(0, .ref b0), (1, .ref x_), (2, .ref y_), (3, .ref ou), (4, .int i4_)] → W p_ l e_ room_1 s_ m_ #[Value.ref b0] below meth c_ H locs (29 + k_ + 1) (430 + 6 * k_ + 6) (lw_Z below #[Value.ref b0] s_) (F0 m_ 1161 ls []) := by
        intro S' t' f' hI' H locs hP hD hS_ ls hl
        refine lv_iinc (v := i4_ + 5) (lv' := [(4, .int (i4_ + 5)), (0, .ref b0), (1, .ref x_), (2, .ref y_), (3, .ref ou)]) hx hb_ dL_law_1161 hl (k := 4) rfl rfl (by decide) rfl (fun ls hl => ?_)
        refine lv_goto (tgt := 23) hx hb_ dL_law_1164 (by decide) ?_
        refine W.widen (k := 29 + (k_ + 1)) (n := 430 + 6 * (k_ + 1)) (by omega) (by omega) ?_
        exact ih_ (k_ + 1) (i4_ + 5) (by omega) (by omega) (by rw [e4_]; exact nI_add (5 * k_) 5) S' t' f' hI' H locs hP hD hS_ _ (lv_sub hl [1, 2, 3, 4, 0] rfl)
      obtain ⟨j_, hj, ej⟩ := pk_andE (xs i4_.toNatClampNeg) (m := 31) 5 (by decide)
      rw [ej]
      by_cases q0 : j_ = 0
      · rw [q0]
        exact lv_tableIn (tgt := 132) (off := 93) hx hb_ dL_law_39 (by decide +kernel) (by decide +kernel) (by decide +kernel) (by decide) (law_case_0 hL hfl C0_ hG hN_ hK_ hk e4_ hI_ hP hD hS_ hl kont)
      by_cases q1 : j_ = 1
      · rw [q1]
        exact lv_tableIn (tgt := 200) (off := 161) hx hb_ dL_law_39 (by decide +kernel) (by decide +kernel) (by decide +kernel) (by decide) (law_case_1 hL hfl C0_ hG hN_ hK_ hk e4_ hI_ hP hD hS_ hl kont)
      by_cases q2 : j_ = 2
      · rw [q2]
        exact lv_tableIn (tgt := 256) (off := 217) hx hb_ dL_law_39 (by decide +kernel) (by decide +kernel) (by decide +kernel) (by decide) (law_case_2 hL hfl C0_ hG hN_ hK_ hk e4_ hI_ hP hD hS_ hl kont)
      by_cases q3 : j_ = 3
      · rw [q3]
        exact lv_tableIn (tgt := 312) (off := 273) hx hb_ dL_law_39 (by decide +kernel) (by decide +kernel) (by decide +kernel) (by decide) (law_case_3 hL hfl C0_ hG hN_ hK_ hk e4_ hI_ hP hD hS_ hl kont)
      by_cases q4 : j_ = 4
      · rw [q4]
        exact lv_tableIn (tgt := 368) (off := 329) hx hb_ dL_law_39 (by decide +kernel) (by decide +kernel) (by decide +kernel) (by decide) (law_case_4 hL hfl C0_ hG hN_ hK_ hk e4_ hI_ hP hD hS_ hl kont)
      by_cases q5 : j_ = 5
      · rw [q5]
        exact lv_tableIn (tgt := 381) (off := 342) hx hb_ dL_law_39 (by decide +kernel) (by decide +kernel) (by decide +kernel) (by decide) (law_case_5 hL hfl C0_ hG hN_ hK_ hk e4_ hI_ hP hD hS_ hl kont)
      by_cases q6 : j_ = 6
      · rw [q6]
        exact lv_tableIn (tgt := 473) (off := 434) hx hb_ dL_law_39 (by decide +kernel) (by decide +kernel) (by decide +kernel) (by decide) (law_case_6 hL hfl C0_ hG hN_ hK_ hk e4_ hI_ hP hD hS_ hl kont)
      by_cases q7 : j_ = 7
      · rw [q7]
        exact lv_tableIn (tgt := 536) (off := 497) hx hb_ dL_law_39 (by decide +kernel) (by decide +kernel) (by decide +kernel) (by decide) (law_case_7 hL hfl C0_ hG hN_ hK_ hk e4_ hI_ hP hD hS_ hl kont)
      by_cases q8 : j_ = 8
      · rw [q8]
        exact lv_tableIn (tgt := 592) (off := 553) hx hb_ dL_law_39 (by decide +kernel) (by decide +kernel) (by decide +kernel) (by decide) (law_case_8 hL hfl C0_ hG hN_ hK_ hk e4_ hI_ hP hD hS_ hl kont)
      by_cases q9_ : j_ = 9
      · rw [q9_]
        exact lv_tableIn (tgt := 605) (off := 566) hx hb_ dL_law_39 (by decide +kernel) (by decide +kernel) (by decide +kernel) (by decide) (law_case_9 hL hfl C0_ hG hN_ hK_ hk e4_ hI_ hP hD hS_ hl kont)
      by_cases q10 : j_ = 10
      · rw [q10]
        exact lv_tableIn (tgt := 661) (off := 622) hx hb_ dL_law_39 (by decide +kernel) (by decide +kernel) (by decide +kernel) (by decide) (law_case_10 hL hfl C0_ hG hN_ hK_ hk e4_ hI_ hP hD hS_ hl kont)
      by_cases q11 : j_ = 11
      · rw [q11]
        exact lv_tableIn (tgt := 717) (off := 678) hx hb_ dL_law_39 (by decide +kernel) (by decide +kernel) (by decide +kernel) (by decide) (law_case_11 hL hfl C0_ hG hN_ hK_ hk e4_ hI_ hP hD hS_ hl kont)
      by_cases q12 : j_ = 12
      · rw [q12]
        exact lv_tableIn (tgt := 730) (off := 691) hx hb_ dL_law_39 (by decide +kernel) (by decide +kernel) (by decide +kernel) (by decide) (law_case_12 hL hfl C0_ hG hN_ hK_ hk e4_ hI_ hP hD hS_ hl kont)
      by_cases q13 : j_ = 13
      · rw [q13]
        exact lv_tableIn (tgt := 786) (off := 747) hx hb_ dL_law_39 (by decide +kernel) (by decide +kernel) (by decide +kernel) (by decide) (law_case_13 hL hfl C0_ hG hN_ hK_ hk e4_ hI_ hP hD hS_ hl kont)
      by_cases q14 : j_ = 14
      · rw [q14]
        exact lv_tableIn (tgt := 842) (off := 803) hx hb_ dL_law_39 (by decide +kernel) (by decide +kernel) (by decide +kernel) (by decide) (law_case_14 hL hfl C0_ hG hN_ hK_ hk e4_ hI_ hP hD hS_ hl kont)
      by_cases q15 : j_ = 15
      · rw [q15]
        exact lv_tableIn (tgt := 898) (off := 859) hx hb_ dL_law_39 (by decide +kernel) (by decide +kernel) (by decide +kernel) (by decide) (law_case_15 hL hfl C0_ hG hN_ hK_ hk e4_ hI_ hP hD hS_ hl kont)
      by_cases q16 : j_ = 16
      · rw [q16]
        exact lv_tableIn (tgt := 961) (off := 922) hx hb_ dL_law_39 (by decide +kernel) (by decide +kernel) (by decide +kernel) (by decide) (law_case_16 hL hfl C0_ hG hN_ hK_ hk e4_ hI_ hP hD hS_ hl kont)
      by_cases q17 : j_ = 17
      · rw [q17]
        exact lv_tableIn (tgt := 1048) (off := 1009) hx hb_ dL_law_39 (by decide +kernel) (by decide +kernel) (by decide +kernel) (by decide) (law_case_17 hL hfl C0_ hG hN_ hK_ hk e4_ hI_ hP hD hS_ hl kont)
      by_cases q18 : j_ = 18
      · rw [q18]
        exact lv_tableIn (tgt := 1104) (off := 1065) hx hb_ dL_law_39 (by decide +kernel) (by decide +kernel) (by decide +kernel) (by decide) (law_case_18 hL hfl C0_ hG hN_ hK_ hk e4_ hI_ hP hD hS_ hl kont)
      by_cases q19 : j_ = 19
      · rw [q19]
        exact lv_tableIn (tgt := 1148) (off := 1109) hx hb_ dL_law_39 (by decide +kernel) (by decide +kernel) (by decide +kernel) (by decide) (law_case_19 hL hfl C0_ hG hN_ hK_ hk e4_ hI_ hP hD hS_ hl kont)
      refine lv_tableOut (tgt := 1161) hx hb_ dL_law_39 (Or.inr (by rw [nI_toInt (by omega)]; omega)) (by decide) ?_
      refine W.widen (k := 29 + k_ + 1) (n := 430 + 6 * k_ + 6) (by omega) (by omega) ?_
      exact kont S t_ fo (Inv.mono hI_ (by omega)) H locs hP hD hS_ ls hl
