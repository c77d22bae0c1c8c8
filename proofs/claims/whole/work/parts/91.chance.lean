/-! ACT chance (46) -/
/-- one turn left to the seed: who, how, then some ticks -/
noncomputable def ch1 (q : (Sk × Nat × (Nat → Int32)) × Int) : (Sk × Nat × (Nat → Int32)) × Int :=
  (gN (dr (chw q.1.1 (dr q.2 / 64 % (kn q.1.1 : Int)).toNat (dr (dr q.2) / 64 % 3) (dr (dr q.2))).2 / 64 % 8).toNat ((chw q.1.1 (dr q.2 / 64 % (kn q.1.1 : Int)).toNat (dr (dr q.2) / 64 % 3) (dr (dr q.2))).1, q.1.2), dr (chw q.1.1 (dr q.2 / 64 % (kn q.1.1 : Int)).toNat (dr (dr q.2) / 64 % 3) (dr (dr q.2))).2)
noncomputable def chN : Nat → (Sk × Nat × (Nat → Int32)) × Int → (Sk × Nat × (Nat → Int32)) × Int
  | 0, q => q
  | n + 1, q => ch1 (chN n q)
theorem ch1_c (q : (Sk × Nat × (Nat → Int32)) × Int) : kn (ch1 q).1.1 = kn q.1.1 ∧ (kt q.1.1 ≤ kt (ch1 q).1.1 ∧ kt (ch1 q).1.1 ≤ kt q.1.1 + 7) ∧ 0 ≤ (ch1 q).2 ∧ (ch1 q).2 < 2147483648 := by
  unfold ch1
  have hr := dr_rg (chw q.1.1 (dr q.2 / 64 % (kn q.1.1 : Int)).toNat (dr (dr q.2) / 64 % 3) (dr (dr q.2))).2
  have hc := chw_c (K := q.1.1) (b := (dr q.2 / 64 % (kn q.1.1 : Int)).toNat) (r := dr (dr q.2) / 64 % 3) (s := dr (dr q.2))
  generalize chw q.1.1 (dr q.2 / 64 % (kn q.1.1 : Int)).toNat (dr (dr q.2) / 64 % 3) (dr (dr q.2)) = w at *
  obtain ⟨g1, g2, g3, g4⟩ := gN_c (dr w.2 / 64 % 8).toNat (w.1, q.1.2)
  try dsimp only at g1 g2 g3 g4 ⊢
  rw [g1, g4, hc.1, hc.2.2.2]
  omega
theorem chN_c (n : Nat) (q : (Sk × Nat × (Nat → Int32)) × Int) (h0 : 0 ≤ q.2) (h1 : q.2 < 2147483648) : kn (chN n q).1.1 = kn q.1.1 ∧ (kt q.1.1 ≤ kt (chN n q).1.1 ∧ kt (chN n q).1.1 ≤ kt q.1.1 + 7 * n) ∧ 0 ≤ (chN n q).2 ∧ (chN n q).2 < 2147483648 := by
  induction n with
  | zero => exact ⟨rfl, ⟨Int.le_refl _, by show kt q.1.1 ≤ _; omega⟩, h0, h1⟩
  | succ n ih =>
    have := ch1_c (chN n q)
    show kn (ch1 (chN n q)).1.1 = _ ∧ (_ ≤ kt (ch1 (chN n q)).1.1 ∧ kt (ch1 (chN n q)).1.1 ≤ _) ∧ 0 ≤ (ch1 (chN n q)).2 ∧ (ch1 (chN n q)).2 < 2147483648
    refine ⟨this.1.trans ih.1, by omega, this.2.2⟩
section S91
variable {X : am_X} {K : Sk} {I I' : Nat → Nat → Int32} {J : Nat → Nat → Int64} {b : Nat} {s : Int} {m : Nat} {L : Nat → Int32}
/-- what the class's turn leaves -/
def CF (I I' : Nat → Nat → Int32) : Prop := ∀ c k, ¬ (c = 16 ∧ (k = 5 ∨ k = 6)) → c ≠ 18 → ¬ (19 ≤ c ∧ c ≤ 78 ∧ ¬ ((c - 19) % 6 = 0 ∧ k = 0)) → c ≠ 80 → c ≠ 84 → ¬ (89 ≤ c ∧ c ≤ 94) → ¬ (c = 106 ∧ k = 7) → I' c k = I c k
theorem CF_tr {I1 I2 : Nat → Nat → Int32} (h1 : CF I I1) (h2 : CF I1 I2) : CF I I2 := fun c k z1 z2 z3 z4 z5 z6 z7 => (h2 c k z1 z2 z3 z4 z5 z6 z7).trans (h1 c k z1 z2 z3 z4 z5 z6 z7)
set_option maxHeartbeats 1000000 in
theorem k_11s (h : CS K I) (hC : rl_C I) (hk : KC m L I) (e : I 106 7 = iI s) (hn0 : 0 < kn K) (ht : kt K + 7 ≤ 9999) {n j : Nat} (hj : j < n) (hn : n ≤ 40) : ∃ I' : Nat → Nat → Int32, am_ev X amP_11 4 [.ref 106, .int (iI n), .int (iI j)] [] (am_sh I J) = am_ev X amP_11 4 [.ref 106, .int (iI n), .int (iI ((j : Int) + 1))] [] (am_sh I' J) ∧ CS (ch1 ((K, m, L), s)).1.1 I' ∧ rl_C I' ∧ KC (ch1 ((K, m, L), s)).1.2.1 (ch1 ((K, m, L), s)).1.2.2 I' ∧ I' 106 7 = iI (ch1 ((K, m, L), s)).2 ∧ CF I I' := by
  have hk10 := K_n (CS_k h)
  have d1 := Int.emod_nonneg (dr s / 64) (show (kn K : Int) ≠ 0 by omega)
  have d2 := Int.emod_lt_of_pos (dr s / 64) (show 0 < (kn K : Int) by omega)
  have a1 := k_13 (X := X) (J := J) (I := I) e (m := kn K) (by omega) (by omega)
  have a2 := k_13 (X := X) (J := J) (I := am_up I 106 7 (iI (dr s))) (up_at _ _ _ _) (m := 3) (by omega) (by omega)
  generalize hI1 : am_up (am_up I 106 7 (iI (dr s))) 106 7 (iI (dr (dr s))) = I1 at *
  have f1 : ∀ c k, ¬ (c = 106 ∧ k = 7) → I1 c k = I c k := fun c k z => by rw [← hI1, up_ck (by omega), up_ck (by omega)]
  have e1 : I1 106 7 = iI (dr (dr s)) := by rw [← hI1, up_at]
  have h1 : CS K I1 := CS_cg h (fun c k z => f1 c k (by omega))
  have C1 : rl_C I1 := C_cg h hC h1 (fun c k z => f1 c k (by omega))
  have k1 : KC m L I1 := ⟨(f1 _ _ (by omega)).trans hk.1, hk.2.1, fun i hi => (f1 _ _ (by omega)).trans (hk.2.2 i hi)⟩
  have F1 : CF I I1 := fun c k _ _ _ _ _ _ z => f1 c k z
  unfold ch1
  try dsimp only
  obtain ⟨b, hb⟩ : ∃ b : Nat, (dr s / 64 % (kn K : Int)) = b := ⟨(dr s / 64 % (kn K : Int)).toNat, by omega⟩
  rw [hb, Int.toNat_natCast]
  rw [hb] at a1 d1 d2
  have hbk : b < kn K := by omega
  have r0 : 0 ≤ dr (dr s) / 64 % 3 ∧ dr (dr s) / 64 % 3 ≤ 2 := by omega
  generalize dr (dr s) / 64 % 3 = r at *
  obtain ⟨I2, p2, h2, C2, e2, f2⟩ := k_12 (X := X) (J := J) h1 C1 hbk e1 (r := r) r0.1 r0.2
  have hc := chw_c (K := K) (b := b) (r := r) (s := dr (dr s))
  have k2 : KC m L I2 := ⟨(f2 _ _ (by omega) (by omega) (by omega) (by omega)).trans k1.1, k1.2.1, fun i hi => (f2 _ _ (by omega) (by omega) (by omega) (by omega)).trans (k1.2.2 i hi)⟩
  have F2 : CF I1 I2 := fun c k _ _ z3 z4 z5 _ z7 => f2 c k z3 z4 z5 z7
  generalize chw K b r (dr (dr s)) = w at *
  have a3 := k_13 (X := X) (J := J) (I := I2) e2 (m := 8) (by omega) (by omega)
  obtain ⟨N, hN⟩ : ∃ N : Nat, dr w.2 / 64 % 8 = N := ⟨(dr w.2 / 64 % 8).toNat, by omega⟩
  have hN7 : N ≤ 7 := by omega
  rw [hN] at a3
  rw [hN, Int.toNat_natCast]
  generalize hI3 : am_up I2 106 7 (iI (dr w.2)) = I3 at *
  have f3 : ∀ c k, ¬ (c = 106 ∧ k = 7) → I3 c k = I2 c k := fun c k z => by rw [← hI3, up_ck (by omega)]
  have e3 : I3 106 7 = iI (dr w.2) := by rw [← hI3, up_at]
  have h3 : CS w.1 I3 := CS_cg h2 (fun c k z => f3 c k (by omega))
  have C3 : rl_C I3 := C_cg h2 C2 h3 (fun c k z => f3 c k (by omega))
  have k3 : KC m L I3 := ⟨(f3 _ _ (by omega)).trans k2.1, k2.2.1, fun i hi => (f3 _ _ (by omega)).trans (k2.2.2 i hi)⟩
  have F3 : CF I2 I3 := fun c k _ _ _ _ _ _ z => f3 c k z
  obtain ⟨I4, p4, h4, C4, k4, f4⟩ := k_10 (X := X) (J := J) h3 C3 k3 (n := N) (by rw [hc.2.2.2]; omega)
  have F4 : CF I3 I4 := fun c k z1 z2 z3 z4 z5 z6 z7 => f4 c k z1 z2 (by omega) z6
  refine ⟨I4, ?_, h4, C4, k4, ?_, CF_tr F1 (CF_tr F2 (CF_tr F3 F4))⟩
  · rw [sg_11_4, CS_n h]
    simp (disch := first | omega | assumption | exact cat_n | exact cat_i _ | exact cat_r _ | (simp (disch := omega) only [l_0, l_1, l_m1, l_2, l_3, l_4, l_5, l_6, l_7, l_8, l_9, l_10, l_16, l_20, l_40, l_48, l_99, l_200, l_999, l_9999, li_73, li_78, li_m1000000, li_90, li_251, li_400, li_2400, li_91, li_153, li_173, li_96, li_32, li_92, li_12, li_93, li_80, li_14, li_1000000000, li_30, li_11, li_24, li_13, li_97, li_64, li_1600, li_49, li_255, li_2147483647, li_12345, li_1103515245, li_59, li_57, li_122, li_1023, li_1000000, li_52, li_51, li_50, li_47, li_46, li_45, li_44, li_43, li_42, li_41, li_39, li_38, li_37, li_36, li_35, li_34, li_33, li_29, li_28, li_27, li_26, li_25, li_23, li_22, li_21, li_19, li_18, li_17, li_15, li_m8, li_m2, li_60, li_54, li_2907, li_151, li_127, oN, iI_add, iI_sub, iI_mul, iI_neg, Int.reduceAdd, Int.reduceSub, Int.reduceMul, Int.reduceNeg, Int.toNat_natCast, Int.reduceToNat, iI_lt, iI_le, iI_eq, iI_cl, true_or, or_true, false_or, or_false, true_and, and_true, not_true_eq_false, not_false_eq_true]; first | done | omega)) only [↓if_pos, ↓if_neg, Option.bind_some, Option.toList_some, Option.toList_none, List.cons_append, List.nil_append, l_0, l_1, l_m1, l_2, l_3, l_4, l_5, l_6, l_7, l_8, l_9, l_10, l_16, l_20, l_40, l_48, l_99, l_200, l_999, l_9999, li_73, li_78, li_m1000000, li_90, li_251, li_400, li_2400, li_91, li_153, li_173, li_96, li_32, li_92, li_12, li_93, li_80, li_14, li_1000000000, li_30, li_11, li_24, li_13, li_97, li_64, li_1600, li_49, li_255, li_2147483647, li_12345, li_1103515245, li_59, li_57, li_122, li_1023, li_1000000, li_52, li_51, li_50, li_47, li_46, li_45, li_44, li_43, li_42, li_41, li_39, li_38, li_37, li_36, li_35, li_34, li_33, li_29, li_28, li_27, li_26, li_25, li_23, li_22, li_21, li_19, li_18, li_17, li_15, li_m8, li_m2, li_60, li_54, li_2907, li_151, li_127, oN, iI_add, iI_sub, iI_mul, iI_neg, Int.reduceAdd, Int.reduceSub, Int.reduceMul, Int.reduceNeg, Int.toNat_natCast, Int.reduceToNat, iI_cl, sg_11_13, sg_11_16, sg_11_17, sg_11_21, sg_11_22, a1, a2, p2, a3, p4]
  · rw [f4 106 7 (by omega) (by omega) (by omega) (by omega)]; exact e3
set_option maxHeartbeats 1000000 in
theorem m_338s (h : MS K I) (hk : KM m L I) (e : I 139 41 = iI s) (s0 : 0 ≤ s) (s1 : s < 2147483648) (hn0 : 0 < kn K) (ht : kt K + 7 ≤ 9999) {n j : Nat} (hj : j < n) (hn : n ≤ 40) {w3 w4 w5 w6 : Value} (hw3 : w3.category = 1) (hw4 : w4.category = 1) (hw5 : w5.category = 1) (hw6 : w6.category = 1) : ∃ (I' : Nat → Nat → Int32) (v3 v4 v5 v6 : Value), (v3.category = 1 ∧ v4.category = 1 ∧ v5.category = 1 ∧ v6.category = 1) ∧ am_ev X amP_338 26 [.ref 139, .int (iI n), .int (iI j), w3, w4, w5, w6] [] (am_sh I J) = am_ev X amP_338 26 [.ref 139, .int (iI n), .int (iI ((j : Int) + 1)), v3, v4, v5, v6] [] (am_sh I' J) ∧ MS (ch1 ((K, m, L), s)).1.1 I' ∧ KM (ch1 ((K, m, L), s)).1.2.1 (ch1 ((K, m, L), s)).1.2.2 I' ∧ I' 139 41 = iI (ch1 ((K, m, L), s)).2 ∧ ∀ c k, c ≠ 148 → c ≠ 150 → ¬ (c = 139 ∧ k = 41) → I' c k = I c k := by
  have hk10 := K_n (MS_k h)
  have d1 := Int.emod_nonneg (dr s / 64) (show (kn K : Int) ≠ 0 by omega)
  have d2 := Int.emod_lt_of_pos (dr s / 64) (show 0 < (kn K : Int) by omega)
  have a1 := m_337 (X := X) (J := J) (I := I) e s0 s1 (m := kn K) (by omega) (by omega)
  have a2 := m_337 (X := X) (J := J) (I := am_up I 139 41 (iI (dr s))) (up_at _ _ _ _) (dr_rg s).1 (dr_rg s).2 (m := 3) (by omega) (by omega)
  generalize hI1 : am_up (am_up I 139 41 (iI (dr s))) 139 41 (iI (dr (dr s))) = I1 at *
  have f1 : ∀ c k, ¬ (c = 139 ∧ k = 41) → I1 c k = I c k := fun c k z => by rw [← hI1, up_ck (by omega), up_ck (by omega)]
  have e1 : I1 139 41 = iI (dr (dr s)) := by rw [← hI1, up_at]
  have h1 : MS K I1 := MS_cg h (fun c k z => f1 c k (by omega))
  have k1 : KM m L I1 := ⟨(f1 _ _ (by omega)).trans hk.1, hk.2.1, fun i hi => (f1 _ _ (by omega)).trans (hk.2.2 i hi)⟩
  unfold ch1
  try dsimp only
  obtain ⟨b, hb⟩ : ∃ b : Nat, (dr s / 64 % (kn K : Int)) = b := ⟨(dr s / 64 % (kn K : Int)).toNat, by omega⟩
  rw [hb, Int.toNat_natCast]
  rw [hb] at a1 d1 d2
  have hbk : b < kn K := by omega
  have r0 : 0 ≤ dr (dr s) / 64 % 3 ∧ dr (dr s) / 64 % 3 ≤ 2 := by omega
  generalize dr (dr s) / 64 % 3 = r at *
  obtain ⟨I2, p2, h2, e2, f2⟩ := m_338w (X := X) (J := J) h1 hbk e1 (dr_rg _).1 (dr_rg _).2 (r := r) r0.1 r0.2 (n := n) (j := j) hw4 hw5 hw6
  have hc := chw_c (K := K) (b := b) (r := r) (s := dr (dr s))
  have hs := chw_s (K := K) (b := b) (r := r) (s := dr (dr s)) (dr_rg _).1 (dr_rg _).2
  have k2 : KM m L I2 := ⟨(f2 _ _ (by omega) (by omega) (by omega)).trans k1.1, k1.2.1, fun i hi => (f2 _ _ (by omega) (by have := k1.2.1; omega) (by omega)).trans (k1.2.2 i hi)⟩
  generalize chw K b r (dr (dr s)) = w at *
  have a3 := m_337 (X := X) (J := J) (I := I2) e2 hs.1 hs.2 (m := 8) (by omega) (by omega)
  obtain ⟨N, hN⟩ : ∃ N : Nat, dr w.2 / 64 % 8 = N := ⟨(dr w.2 / 64 % 8).toNat, by omega⟩
  have hN7 : N ≤ 7 := by omega
  rw [hN] at a3
  rw [hN, Int.toNat_natCast]
  generalize hI3 : am_up I2 139 41 (iI (dr w.2)) = I3 at *
  have f3 : ∀ c k, ¬ (c = 139 ∧ k = 41) → I3 c k = I2 c k := fun c k z => by rw [← hI3, up_ck (by omega)]
  have e3 : I3 139 41 = iI (dr w.2) := by rw [← hI3, up_at]
  have h3 : MS w.1 I3 := MS_cg h2 (fun c k z => f3 c k (by omega))
  have k3 : KM m L I3 := ⟨(f3 _ _ (by omega)).trans k2.1, k2.2.1, fun i hi => (f3 _ _ (by omega)).trans (k2.2.2 i hi)⟩
  have B := Lp1 (n := N) (G := fun i (I4 : Nat → Nat → Int32) => am_ev X amP_338 83 [.ref 139, .int (iI n), .int (iI j), .int (iI b), .int (iI r), .int (iI N), .int (iI i)] [] (am_sh I4 J)) (Iv := fun i I4 => MS (gN i (w.1, m, L)).1 I4 ∧ KM (gN i (w.1, m, L)).2.1 (gN i (w.1, m, L)).2.2 I4 ∧ ∀ c k, c ≠ 148 → I4 c k = I3 c k) (P := fun q => ∃ I4 : Nat → Nat → Int32, q = am_ev X amP_338 26 [.ref 139, .int (iI n), .int (iI ((j : Int) + 1)), .int (iI b), .int (iI r), .int (iI N), .int (iI N)] [] (am_sh I4 J) ∧ MS (gN N (w.1, m, L)).1 I4 ∧ KM (gN N (w.1, m, L)).2.1 (gN N (w.1, m, L)).2.2 I4 ∧ ∀ c k, c ≠ 148 → I4 c k = I3 c k) (by
    rintro i I4 hi ⟨m4, k4, f4⟩
    right
    have gc := gN_c i (w.1, m, L)
    have gx : gN (i + 1) (w.1, m, L) = gX (gN i (w.1, m, L)) := rfl
    generalize gN i (w.1, m, L) = t at *
    obtain ⟨t1, tm, tL⟩ := t
    try dsimp only at m4 k4 gc
    obtain ⟨-, -, -, gt⟩ := gc
    obtain ⟨I5, p5, m5, k5, f5⟩ := m_335 (X := X) (J := J) m4 k4 (by rw [gt, hc.2.2.2]; omega)
    refine ⟨I5, ⟨by rw [gx]; exact m5, by rw [gx]; exact k5, fun c k z => (f5 c k z).trans (f4 c k z)⟩, ?_⟩
    try dsimp only
    rw [cS, sg_338_83]
    simp (disch := first | omega | assumption | exact cat_n | exact cat_i _ | exact cat_r _ | (simp (disch := omega) only [l_0, l_1, l_m1, l_2, l_3, l_4, l_5, l_6, l_7, l_8, l_9, l_10, l_16, l_20, l_40, l_48, l_99, l_200, l_999, l_9999, li_73, li_78, li_m1000000, li_90, li_251, li_400, li_2400, li_91, li_153, li_173, li_96, li_32, li_92, li_12, li_93, li_80, li_14, li_1000000000, li_30, li_11, li_24, li_13, li_97, li_64, li_1600, li_49, li_255, li_2147483647, li_12345, li_1103515245, li_59, li_57, li_122, li_1023, li_1000000, li_52, li_51, li_50, li_47, li_46, li_45, li_44, li_43, li_42, li_41, li_39, li_38, li_37, li_36, li_35, li_34, li_33, li_29, li_28, li_27, li_26, li_25, li_23, li_22, li_21, li_19, li_18, li_17, li_15, li_m8, li_m2, li_60, li_54, li_2907, li_151, li_127, oN, iI_add, iI_sub, iI_mul, iI_neg, Int.reduceAdd, Int.reduceSub, Int.reduceMul, Int.reduceNeg, Int.toNat_natCast, Int.reduceToNat, iI_lt, iI_le, iI_eq, iI_cl, true_or, or_true, false_or, or_false, true_and, and_true, not_true_eq_false, not_false_eq_true]; first | done | omega)) only [↓if_pos, ↓if_neg, Option.bind_some, Option.toList_some, Option.toList_none, List.cons_append, List.nil_append, l_0, l_1, l_m1, l_2, l_3, l_4, l_5, l_6, l_7, l_8, l_9, l_10, l_16, l_20, l_40, l_48, l_99, l_200, l_999, l_9999, li_73, li_78, li_m1000000, li_90, li_251, li_400, li_2400, li_91, li_153, li_173, li_96, li_32, li_92, li_12, li_93, li_80, li_14, li_1000000000, li_30, li_11, li_24, li_13, li_97, li_64, li_1600, li_49, li_255, li_2147483647, li_12345, li_1103515245, li_59, li_57, li_122, li_1023, li_1000000, li_52, li_51, li_50, li_47, li_46, li_45, li_44, li_43, li_42, li_41, li_39, li_38, li_37, li_36, li_35, li_34, li_33, li_29, li_28, li_27, li_26, li_25, li_23, li_22, li_21, li_19, li_18, li_17, li_15, li_m8, li_m2, li_60, li_54, li_2907, li_151, li_127, oN, iI_add, iI_sub, iI_mul, iI_neg, Int.reduceAdd, Int.reduceSub, Int.reduceMul, Int.reduceNeg, Int.toNat_natCast, Int.reduceToNat, iI_cl, p5, sg_338_88]) (by
    rintro I4 ⟨m4, k4, f4⟩
    refine ⟨I4, ?_, m4, k4, f4⟩
    try dsimp only
    rw [sg_338_83]
    simp (disch := first | omega | assumption | exact cat_n | exact cat_i _ | exact cat_r _ | (simp (disch := omega) only [l_0, l_1, l_m1, l_2, l_3, l_4, l_5, l_6, l_7, l_8, l_9, l_10, l_16, l_20, l_40, l_48, l_99, l_200, l_999, l_9999, li_73, li_78, li_m1000000, li_90, li_251, li_400, li_2400, li_91, li_153, li_173, li_96, li_32, li_92, li_12, li_93, li_80, li_14, li_1000000000, li_30, li_11, li_24, li_13, li_97, li_64, li_1600, li_49, li_255, li_2147483647, li_12345, li_1103515245, li_59, li_57, li_122, li_1023, li_1000000, li_52, li_51, li_50, li_47, li_46, li_45, li_44, li_43, li_42, li_41, li_39, li_38, li_37, li_36, li_35, li_34, li_33, li_29, li_28, li_27, li_26, li_25, li_23, li_22, li_21, li_19, li_18, li_17, li_15, li_m8, li_m2, li_60, li_54, li_2907, li_151, li_127, oN, iI_add, iI_sub, iI_mul, iI_neg, Int.reduceAdd, Int.reduceSub, Int.reduceMul, Int.reduceNeg, Int.toNat_natCast, Int.reduceToNat, iI_lt, iI_le, iI_eq, iI_cl, true_or, or_true, false_or, or_false, true_and, and_true, not_true_eq_false, not_false_eq_true]; first | done | omega)) only [↓if_pos, ↓if_neg, Option.bind_some, Option.toList_some, Option.toList_none, List.cons_append, List.nil_append, l_0, l_1, l_m1, l_2, l_3, l_4, l_5, l_6, l_7, l_8, l_9, l_10, l_16, l_20, l_40, l_48, l_99, l_200, l_999, l_9999, li_73, li_78, li_m1000000, li_90, li_251, li_400, li_2400, li_91, li_153, li_173, li_96, li_32, li_92, li_12, li_93, li_80, li_14, li_1000000000, li_30, li_11, li_24, li_13, li_97, li_64, li_1600, li_49, li_255, li_2147483647, li_12345, li_1103515245, li_59, li_57, li_122, li_1023, li_1000000, li_52, li_51, li_50, li_47, li_46, li_45, li_44, li_43, li_42, li_41, li_39, li_38, li_37, li_36, li_35, li_34, li_33, li_29, li_28, li_27, li_26, li_25, li_23, li_22, li_21, li_19, li_18, li_17, li_15, li_m8, li_m2, li_60, li_54, li_2907, li_151, li_127, oN, iI_add, iI_sub, iI_mul, iI_neg, Int.reduceAdd, Int.reduceSub, Int.reduceMul, Int.reduceNeg, Int.toNat_natCast, Int.reduceToNat, iI_cl]) I3 ⟨h3, k3, fun _ _ _ => rfl⟩
  obtain ⟨I4, p4, m4, k4, f4⟩ := B
  try dsimp only at p4
  rw [c0] at p4
  refine ⟨I4, .int (iI b), .int (iI r), .int (iI N), .int (iI N), ⟨rfl, rfl, rfl, rfl⟩, ?_, m4, k4, ?_, fun c k z1 z2 z3 => ?_⟩
  · rw [sg_338_26 (hw3 := hw3) (hw4 := hw4) (hw5 := hw5) (hw6 := hw6), MS_n h]
    simp (disch := first | omega | assumption | exact cat_n | exact cat_i _ | exact cat_r _ | (simp (disch := omega) only [l_0, l_1, l_m1, l_2, l_3, l_4, l_5, l_6, l_7, l_8, l_9, l_10, l_16, l_20, l_40, l_48, l_99, l_200, l_999, l_9999, li_73, li_78, li_m1000000, li_90, li_251, li_400, li_2400, li_91, li_153, li_173, li_96, li_32, li_92, li_12, li_93, li_80, li_14, li_1000000000, li_30, li_11, li_24, li_13, li_97, li_64, li_1600, li_49, li_255, li_2147483647, li_12345, li_1103515245, li_59, li_57, li_122, li_1023, li_1000000, li_52, li_51, li_50, li_47, li_46, li_45, li_44, li_43, li_42, li_41, li_39, li_38, li_37, li_36, li_35, li_34, li_33, li_29, li_28, li_27, li_26, li_25, li_23, li_22, li_21, li_19, li_18, li_17, li_15, li_m8, li_m2, li_60, li_54, li_2907, li_151, li_127, oN, iI_add, iI_sub, iI_mul, iI_neg, Int.reduceAdd, Int.reduceSub, Int.reduceMul, Int.reduceNeg, Int.toNat_natCast, Int.reduceToNat, iI_lt, iI_le, iI_eq, iI_cl, true_or, or_true, false_or, or_false, true_and, and_true, not_true_eq_false, not_false_eq_true]; first | done | omega)) only [↓if_pos, ↓if_neg, Option.bind_some, Option.toList_some, Option.toList_none, List.cons_append, List.nil_append, l_0, l_1, l_m1, l_2, l_3, l_4, l_5, l_6, l_7, l_8, l_9, l_10, l_16, l_20, l_40, l_48, l_99, l_200, l_999, l_9999, li_73, li_78, li_m1000000, li_90, li_251, li_400, li_2400, li_91, li_153, li_173, li_96, li_32, li_92, li_12, li_93, li_80, li_14, li_1000000000, li_30, li_11, li_24, li_13, li_97, li_64, li_1600, li_49, li_255, li_2147483647, li_12345, li_1103515245, li_59, li_57, li_122, li_1023, li_1000000, li_52, li_51, li_50, li_47, li_46, li_45, li_44, li_43, li_42, li_41, li_39, li_38, li_37, li_36, li_35, li_34, li_33, li_29, li_28, li_27, li_26, li_25, li_23, li_22, li_21, li_19, li_18, li_17, li_15, li_m8, li_m2, li_60, li_54, li_2907, li_151, li_127, oN, iI_add, iI_sub, iI_mul, iI_neg, Int.reduceAdd, Int.reduceSub, Int.reduceMul, Int.reduceNeg, Int.toNat_natCast, Int.reduceToNat, iI_cl, sg_338_33, sg_338_77, sg_338_80, a1, a2, p2, a3, p4]
  · rw [f4 139 41 (by omega)]; exact e3
  · rw [f4 c k z1, f3 c k z3, f2 c k z2 (by omega) z3, f1 c k z3]
end S91
