/-! THE IMAGE: op 49 -/
def od (j : Nat) : Nat := if j = 0 then 8 else if j = 1 then 0 else if j = 2 then 1 else if j ≤ 5 then j else 7
theorem od_lt {j : Nat} (h : j < 7) : od j < 9 := by
  unfold od
  repeat' split
  all_goals omega
def imv (K : Sk) (k : Nat) : Int := if k = 0 then ke K else kf K ((k - 1) / 7) (od ((k - 1) % 7))
def ck (K : Sk) : Nat → Int
  | 0 => 173
  | m + 1 => (3 * ck K m + imv K m) % 251
theorem imv_b {K : Sk} {b j : Nat} (h : j < 7) : imv K (1 + 7 * b + j) = kf K b (od j) := by
  unfold imv
  rw [if_neg (by omega), show (1 + 7 * b + j - 1) / 7 = b by omega, show (1 + 7 * b + j - 1) % 7 = j by omega]
theorem ck_rg {K : Sk} {m : Nat} : 0 ≤ ck K m ∧ ck K m < 251 := by
  cases m with
  | zero => show (0 : Int) ≤ 173 ∧ (173 : Int) < 251; omega
  | succ m =>
    show 0 ≤ (3 * ck K m + imv K m) % 251 ∧ (3 * ck K m + imv K m) % 251 < 251
    omega
theorem imv_rg {K : Sk} {k : Nat} (h : Kok K) (hk : k < 1 + 7 * kn K) : 0 ≤ imv K k ∧ imv K k ≤ 200 := by
  unfold imv
  split
  · have := K_e h
    omega
  · have r := K_rg h (b := (k - 1) / 7) (by omega)
    unfold od
    repeat' split
    all_goals first | omega | skip
    have : (k - 1) % 7 = 3 ∨ (k - 1) % 7 = 4 ∨ (k - 1) % 7 = 5 := by omega
    rcases this with e | e | e
    all_goals rw [e]; omega
/-- m bytes are written in r, how many is in p q -/
def IM (p q r : Nat) (K : Sk) (I0 I : Nat → Nat → Int32) (m : Nat) : Prop := I p q = iI m ∧ (∀ k, k < m → I r k = iI (imv K k)) ∧ ∀ c k, ¬ (c = p ∧ k = q) → c ≠ r → I c k = I0 c k
theorem IM_s {p q r m : Nat} {K : Sk} {I0 I : Nat → Nat → Int32} (hpr : p ≠ r) (h : IM p q r K I0 I m) : IM p q r K I0 (am_up (am_up I r m (iI (imv K m))) p q (iI ((m : Int) + 1))) (m + 1) := by
  obtain ⟨h1, h2, h3⟩ := h
  refine ⟨?_, fun k hk => ?_, fun c k z1 z2 => ?_⟩
  · rw [up_at]; congr 1
  · rw [up_ck (by omega)]
    by_cases e : k = m
    · subst e; rw [up_at]
    · rw [up_k e]; exact h2 k (by omega)
  · rw [up_ck (by omega), up_ck (by omega)]
    exact h3 c k z1 z2
/-- written whole -/
def IW (p q r : Nat) (K : Sk) (I0 I : Nat → Nat → Int32) : Prop := I p q = iI ((1 + 7 * kn K : Nat) + 1 : Int) ∧ (∀ k, k < 1 + 7 * kn K → I r k = iI (imv K k)) ∧ I r (1 + 7 * kn K) = iI (ck K (1 + 7 * kn K)) ∧ ∀ c k, ¬ (c = p ∧ k = q) → c ≠ r → I c k = I0 c k
theorem IW_s {p q r : Nat} {K : Sk} {I0 I : Nat → Nat → Int32} (hpr : p ≠ r) (h : IM p q r K I0 I (1 + 7 * kn K)) : IW p q r K I0 (am_up (am_up I r (1 + 7 * kn K) (iI (ck K (1 + 7 * kn K)))) p q (iI (((1 + 7 * kn K : Nat) : Int) + 1))) := by
  obtain ⟨h1, h2, h3⟩ := h
  refine ⟨?_, fun k hk => ?_, ?_, fun c k z1 z2 => ?_⟩
  · rw [up_at]
  · rw [up_ck (by omega), up_k (by omega)]
    exact h2 k hk
  · rw [up_ck (by omega), up_at]
  · rw [up_ck (by omega), up_ck (by omega)]
    exact h3 c k z1 z2
theorem X_od {X : am_X} (hX : X 0 = am_X00 0) : (X 0).1 = 7 ∧ ∀ j, j < 7 → (X 0).2 j = iI (od j) := by
  rw [hX]
  refine ⟨rfl, fun j hj => ?_⟩
  have : ∀ j, j < 7 → (am_X00 0).2 j = iI (od j) := by decide
  exact this j hj
section S74
variable {X : am_X} {K : Sk} {I I0 : Nat → Nat → Int32} {J : Nat → Nat → Int64}
theorem k_73i (hX : X 0 = am_X00 0) (h : CS K I0) {b : Nat} (hb : b < kn K) {w : Value} (hw : w.category = 1) {I1 : Nat → Nat → Int32} (g : IM 133 1 134 K I0 I1 (1 + 7 * b)) : ∃ (w' : Value) (I' : Nat → Nat → Int32), w'.category = 1 ∧ am_ev X amP_73 22 [.ref 133, .ref 16, .int (iI b), .retAddr 0, .int (iI 7), .int (iI (0 : Nat)), w] [] (am_sh I1 J) = am_ev X amP_73 11 [.ref 133, .ref 16, .int (iI ((b : Int) + 1)), .retAddr 0, .int (iI 7), .int (iI 7), w'] [] (am_sh I' J) ∧ IM 133 1 134 K I0 I' (1 + 7 * b + 7) := by
  obtain ⟨hX1, hX2⟩ := X_od hX
  have hk := K_n (CS_k h)
  have hbd := bd_rg (b := b) (by omega)
  have A := Lp1 (n := 7) (G := fun j (s : (Nat → Nat → Int32) × Value) => am_ev X amP_73 22 [.ref 133, .ref 16, .int (iI b), .retAddr 0, .int (iI 7), .int (iI j), s.2] [] (am_sh s.1 J)) (Iv := fun j s => s.2.category = 1 ∧ IM 133 1 134 K I0 s.1 (1 + 7 * b + j)) (P := fun r => ∃ (w' : Value) (I' : Nat → Nat → Int32), w'.category = 1 ∧ r = am_ev X amP_73 11 [.ref 133, .ref 16, .int (iI ((b : Int) + 1)), .retAddr 0, .int (iI 7), .int (iI 7), w'] [] (am_sh I' J) ∧ IM 133 1 134 K I0 I' (1 + 7 * b + 7)) (by
    rintro j ⟨I2, w2⟩ hj ⟨hw2, g2⟩
    right
    try dsimp only at g2 hw2
    have o := od_lt hj
    have e0 : I2 133 1 = iI (1 + 7 * b + j : Nat) := g2.1
    have e1 : ∀ v, am_up I2 134 (1 + 7 * b + j) v 133 1 = iI (1 + 7 * b + j : Nat) := fun v => (up_ck (by omega)).trans e0
    have e2 : I2 (am_bd b + 1) (od j) = iI (imv K (1 + 7 * b + j)) := by
      rw [g2.2.2 _ _ (by omega) (by omega), imv_b hj]
      exact CS_c h hb o
    have e3 : (iI ((1 + 7 * b + j : Nat) : Int)).toNatClampNeg = 1 + 7 * b + j := by rw [iI_cl (by omega) (by omega), Int.toNat_natCast]
    refine ⟨(am_up (am_up I2 134 (1 + 7 * b + j) (iI (imv K (1 + 7 * b + j)))) 133 1 (iI (((1 + 7 * b + j : Nat) : Int) + 1)), .int (iI (od j))), ⟨cat_i _, IM_s (by omega) g2⟩, ?_⟩
    try dsimp only
    rw [cS, sg_73_22, hX1, e0]
    · simp (disch := first | omega | assumption | exact cat_n | exact cat_i _ | exact cat_r _ | (simp (disch := omega) only [l_0, l_1, l_m1, l_2, l_3, l_4, l_5, l_6, l_7, l_8, l_9, l_10, l_16, l_20, l_40, l_48, l_99, l_200, l_999, l_9999, li_73, li_78, li_m1000000, li_90, li_251, li_400, li_2400, li_91, li_153, li_173, li_96, li_32, li_92, li_12, li_93, li_80, li_14, li_1000000000, li_30, li_11, li_24, li_13, li_97, li_64, li_1600, li_49, li_255, li_2147483647, li_12345, li_1103515245, li_59, li_57, li_122, li_1023, li_1000000, li_52, li_51, li_50, li_47, li_46, li_45, li_44, li_43, li_42, li_41, li_39, li_38, li_37, li_36, li_35, li_34, li_33, li_29, li_28, li_27, li_26, li_25, li_23, li_22, li_21, li_19, li_18, li_17, li_15, li_m8, li_m2, li_60, li_54, li_2907, li_151, li_127, oN, iI_add, iI_sub, iI_mul, iI_neg, Int.reduceAdd, Int.reduceSub, Int.reduceMul, Int.reduceNeg, Int.toNat_natCast, iI_lt, iI_le, iI_eq, iI_cl, true_or, or_true, false_or, or_false, true_and, and_true, not_true_eq_false, not_false_eq_true]; first | done | omega)) only [↓if_pos, ↓if_neg, Option.bind_some, Option.toList_some, Option.toList_none, List.cons_append, List.nil_append, l_0, l_1, l_m1, l_2, l_3, l_4, l_5, l_6, l_7, l_8, l_9, l_10, l_16, l_20, l_40, l_48, l_99, l_200, l_999, l_9999, li_73, li_78, li_m1000000, li_90, li_251, li_400, li_2400, li_91, li_153, li_173, li_96, li_32, li_92, li_12, li_93, li_80, li_14, li_1000000000, li_30, li_11, li_24, li_13, li_97, li_64, li_1600, li_49, li_255, li_2147483647, li_12345, li_1103515245, li_59, li_57, li_122, li_1023, li_1000000, li_52, li_51, li_50, li_47, li_46, li_45, li_44, li_43, li_42, li_41, li_39, li_38, li_37, li_36, li_35, li_34, li_33, li_29, li_28, li_27, li_26, li_25, li_23, li_22, li_21, li_19, li_18, li_17, li_15, li_m8, li_m2, li_60, li_54, li_2907, li_151, li_127, oN, iI_add, iI_sub, iI_mul, iI_neg, Int.reduceAdd, Int.reduceSub, Int.reduceMul, Int.reduceNeg, Int.toNat_natCast, iI_cl, hX2 j hj, e1, e2, e3]
    all_goals assumption) (by
    rintro ⟨I2, w2⟩ ⟨hw2, g2⟩
    try dsimp only at g2 hw2
    refine ⟨w2, I2, hw2, ?_, g2⟩
    try dsimp only
    have c7 : iI ((7 : Nat) : Int) = iI 7 := rfl
    rw [sg_73_22]
    · simp (disch := first | omega | assumption | exact cat_n | exact cat_i _ | exact cat_r _ | (simp (disch := omega) only [l_0, l_1, l_m1, l_2, l_3, l_4, l_5, l_6, l_7, l_8, l_9, l_10, l_16, l_20, l_40, l_48, l_99, l_200, l_999, l_9999, li_73, li_78, li_m1000000, li_90, li_251, li_400, li_2400, li_91, li_153, li_173, li_96, li_32, li_92, li_12, li_93, li_80, li_14, li_1000000000, li_30, li_11, li_24, li_13, li_97, li_64, li_1600, li_49, li_255, li_2147483647, li_12345, li_1103515245, li_59, li_57, li_122, li_1023, li_1000000, li_52, li_51, li_50, li_47, li_46, li_45, li_44, li_43, li_42, li_41, li_39, li_38, li_37, li_36, li_35, li_34, li_33, li_29, li_28, li_27, li_26, li_25, li_23, li_22, li_21, li_19, li_18, li_17, li_15, li_m8, li_m2, li_60, li_54, li_2907, li_151, li_127, oN, iI_add, iI_sub, iI_mul, iI_neg, Int.reduceAdd, Int.reduceSub, Int.reduceMul, Int.reduceNeg, Int.toNat_natCast, iI_lt, iI_le, iI_eq, iI_cl, true_or, or_true, false_or, or_false, true_and, and_true, not_true_eq_false, not_false_eq_true]; first | done | omega)) only [↓if_pos, ↓if_neg, Option.bind_some, Option.toList_some, Option.toList_none, List.cons_append, List.nil_append, l_0, l_1, l_m1, l_2, l_3, l_4, l_5, l_6, l_7, l_8, l_9, l_10, l_16, l_20, l_40, l_48, l_99, l_200, l_999, l_9999, li_73, li_78, li_m1000000, li_90, li_251, li_400, li_2400, li_91, li_153, li_173, li_96, li_32, li_92, li_12, li_93, li_80, li_14, li_1000000000, li_30, li_11, li_24, li_13, li_97, li_64, li_1600, li_49, li_255, li_2147483647, li_12345, li_1103515245, li_59, li_57, li_122, li_1023, li_1000000, li_52, li_51, li_50, li_47, li_46, li_45, li_44, li_43, li_42, li_41, li_39, li_38, li_37, li_36, li_35, li_34, li_33, li_29, li_28, li_27, li_26, li_25, li_23, li_22, li_21, li_19, li_18, li_17, li_15, li_m8, li_m2, li_60, li_54, li_2907, li_151, li_127, oN, iI_add, iI_sub, iI_mul, iI_neg, Int.reduceAdd, Int.reduceSub, Int.reduceMul, Int.reduceNeg, Int.toNat_natCast, iI_cl, c7]
    all_goals assumption) (I1, w) ⟨hw, g⟩
  exact A
theorem k_73 (hX : X 0 = am_X00 0) (h : CS K I) : ∃ I' : Nat → Nat → Int32, am_do X 73 [.ref 133, .ref 16] (am_sh I J) = some (some (.int (iI ((1 + 7 * kn K : Nat) + 1 : Int))), am_sh I' J) ∧ IW 133 1 134 K I I' := by
  obtain ⟨hX1, hX2⟩ := X_od hX
  have hk := K_n (CS_k h)
  have hk0 := CS_k h
  have he := K_e (CS_k h)
  have C : ∀ (I1 : Nat → Nat → Int32) (w3 w4 w5 : Value), w3.category = 1 → w4.category = 1 → w5.category = 1 → IM 133 1 134 K I I1 (1 + 7 * kn K) → ∃ I' : Nat → Nat → Int32, am_ev X amP_73 55 [.ref 133, .ref 16, .int (iI 173), .int (iI (0 : Nat)), w3, w4, w5] [] (am_sh I1 J) = some (some (.int (iI ((1 + 7 * kn K : Nat) + 1 : Int))), am_sh I' J) ∧ IW 133 1 134 K I I' := by
    intro I1 w3 w4 w5 hw3 hw4 hw5 g
    have e0 : I1 133 1 = iI (1 + 7 * kn K : Nat) := g.1
    refine Lp1 (n := 1 + 7 * kn K) (G := fun j (_ : Unit) => am_ev X amP_73 55 [.ref 133, .ref 16, .int (iI (ck K j)), .int (iI j), w3, w4, w5] [] (am_sh I1 J)) (Iv := fun j _ => True) (P := fun r => ∃ I' : Nat → Nat → Int32, r = some (some (.int (iI ((1 + 7 * kn K : Nat) + 1 : Int))), am_sh I' J) ∧ IW 133 1 134 K I I') (by
      intro j _ hj _
      right
      refine ⟨(), trivial, ?_⟩
      have r1 := ck_rg (K := K) (m := j)
      have r2 := imv_rg hk0 hj
      have e1 := g.2.1 j hj
      have e2 : ck K (j + 1) = (3 * ck K j + imv K j) % 251 := rfl
      try dsimp only
      rw [cS, sg_73_55, e0, e2]
      · simp (disch := first | omega | assumption | exact cat_n | exact cat_i _ | exact cat_r _ | (simp (disch := omega) only [l_0, l_1, l_m1, l_2, l_3, l_4, l_5, l_6, l_7, l_8, l_9, l_10, l_16, l_20, l_40, l_48, l_99, l_200, l_999, l_9999, li_73, li_78, li_m1000000, li_90, li_251, li_400, li_2400, li_91, li_153, li_173, li_96, li_32, li_92, li_12, li_93, li_80, li_14, li_1000000000, li_30, li_11, li_24, li_13, li_97, li_64, li_1600, li_49, li_255, li_2147483647, li_12345, li_1103515245, li_59, li_57, li_122, li_1023, li_1000000, li_52, li_51, li_50, li_47, li_46, li_45, li_44, li_43, li_42, li_41, li_39, li_38, li_37, li_36, li_35, li_34, li_33, li_29, li_28, li_27, li_26, li_25, li_23, li_22, li_21, li_19, li_18, li_17, li_15, li_m8, li_m2, li_60, li_54, li_2907, li_151, li_127, oN, iI_add, iI_sub, iI_mul, iI_neg, Int.reduceAdd, Int.reduceSub, Int.reduceMul, Int.reduceNeg, Int.toNat_natCast, iI_lt, iI_le, iI_eq, iI_cl, true_or, or_true, false_or, or_false, true_and, and_true, not_true_eq_false, not_false_eq_true]; first | done | omega)) only [↓if_pos, ↓if_neg, Option.bind_some, Option.toList_some, Option.toList_none, List.cons_append, List.nil_append, l_0, l_1, l_m1, l_2, l_3, l_4, l_5, l_6, l_7, l_8, l_9, l_10, l_16, l_20, l_40, l_48, l_99, l_200, l_999, l_9999, li_73, li_78, li_m1000000, li_90, li_251, li_400, li_2400, li_91, li_153, li_173, li_96, li_32, li_92, li_12, li_93, li_80, li_14, li_1000000000, li_30, li_11, li_24, li_13, li_97, li_64, li_1600, li_49, li_255, li_2147483647, li_12345, li_1103515245, li_59, li_57, li_122, li_1023, li_1000000, li_52, li_51, li_50, li_47, li_46, li_45, li_44, li_43, li_42, li_41, li_39, li_38, li_37, li_36, li_35, li_34, li_33, li_29, li_28, li_27, li_26, li_25, li_23, li_22, li_21, li_19, li_18, li_17, li_15, li_m8, li_m2, li_60, li_54, li_2907, li_151, li_127, oN, iI_add, iI_sub, iI_mul, iI_neg, Int.reduceAdd, Int.reduceSub, Int.reduceMul, Int.reduceNeg, Int.toNat_natCast, iI_cl, e1, iI_div, em_]
      all_goals assumption) (by
      intro _ _
      have r1 := ck_rg (K := K) (m := 1 + 7 * kn K)
      refine ⟨_, ?_, IW_s (by omega) g⟩
      have e1 : ∀ v, am_up I1 134 (1 + 7 * kn K) v 133 1 = iI (1 + 7 * kn K : Nat) := fun v => (up_ck (by omega)).trans e0
      have e3 : (iI ((1 + 7 * kn K : Nat) : Int)).toNatClampNeg = 1 + 7 * kn K := by rw [iI_cl (by omega) (by omega), Int.toNat_natCast]
      try dsimp only
      rw [sg_73_55, e0]
      · simp (disch := first | omega | assumption | exact cat_n | exact cat_i _ | exact cat_r _ | (simp (disch := omega) only [l_0, l_1, l_m1, l_2, l_3, l_4, l_5, l_6, l_7, l_8, l_9, l_10, l_16, l_20, l_40, l_48, l_99, l_200, l_999, l_9999, li_73, li_78, li_m1000000, li_90, li_251, li_400, li_2400, li_91, li_153, li_173, li_96, li_32, li_92, li_12, li_93, li_80, li_14, li_1000000000, li_30, li_11, li_24, li_13, li_97, li_64, li_1600, li_49, li_255, li_2147483647, li_12345, li_1103515245, li_59, li_57, li_122, li_1023, li_1000000, li_52, li_51, li_50, li_47, li_46, li_45, li_44, li_43, li_42, li_41, li_39, li_38, li_37, li_36, li_35, li_34, li_33, li_29, li_28, li_27, li_26, li_25, li_23, li_22, li_21, li_19, li_18, li_17, li_15, li_m8, li_m2, li_60, li_54, li_2907, li_151, li_127, oN, iI_add, iI_sub, iI_mul, iI_neg, Int.reduceAdd, Int.reduceSub, Int.reduceMul, Int.reduceNeg, Int.toNat_natCast, iI_lt, iI_le, iI_eq, iI_cl, true_or, or_true, false_or, or_false, true_and, and_true, not_true_eq_false, not_false_eq_true]; first | done | omega)) only [↓if_pos, ↓if_neg, Option.bind_some, Option.toList_some, Option.toList_none, List.cons_append, List.nil_append, l_0, l_1, l_m1, l_2, l_3, l_4, l_5, l_6, l_7, l_8, l_9, l_10, l_16, l_20, l_40, l_48, l_99, l_200, l_999, l_9999, li_73, li_78, li_m1000000, li_90, li_251, li_400, li_2400, li_91, li_153, li_173, li_96, li_32, li_92, li_12, li_93, li_80, li_14, li_1000000000, li_30, li_11, li_24, li_13, li_97, li_64, li_1600, li_49, li_255, li_2147483647, li_12345, li_1103515245, li_59, li_57, li_122, li_1023, li_1000000, li_52, li_51, li_50, li_47, li_46, li_45, li_44, li_43, li_42, li_41, li_39, li_38, li_37, li_36, li_35, li_34, li_33, li_29, li_28, li_27, li_26, li_25, li_23, li_22, li_21, li_19, li_18, li_17, li_15, li_m8, li_m2, li_60, li_54, li_2907, li_151, li_127, oN, iI_add, iI_sub, iI_mul, iI_neg, Int.reduceAdd, Int.reduceSub, Int.reduceMul, Int.reduceNeg, Int.toNat_natCast, iI_cl, e1, e3, up_at]
      all_goals assumption) () trivial
  have g0 : IM 133 1 134 K I (am_up (am_up I 134 0 (iI (ke K))) 133 1 (iI 1)) (1 + 7 * 0) := by
    refine ⟨up_at _ _ _ _, fun k hk => ?_, fun c k z1 z2 => ?_⟩
    · obtain rfl : k = 0 := by omega
      rw [up_ck (by omega), up_at]
      rfl
    · rw [up_ck (by omega), up_ck (by omega)]
  have B := Lp1 (n := kn K) (G := fun b (s : (Nat → Nat → Int32) × Value × Value × Value × Value) => am_ev X amP_73 11 [.ref 133, .ref 16, .int (iI b), s.2.1, s.2.2.1, s.2.2.2.1, s.2.2.2.2] [] (am_sh s.1 J)) (Iv := fun b s => (s.2.1.category = 1 ∧ s.2.2.1.category = 1 ∧ s.2.2.2.1.category = 1 ∧ s.2.2.2.2.category = 1) ∧ IM 133 1 134 K I s.1 (1 + 7 * b)) (P := fun r => ∃ I' : Nat → Nat → Int32, r = some (some (.int (iI ((1 + 7 * kn K : Nat) + 1 : Int))), am_sh I' J) ∧ IW 133 1 134 K I I') (by
    rintro b ⟨I1, w2, w3, w4, w5⟩ hb ⟨⟨hw2, hw3, hw4, hw5⟩, g⟩
    right
    try dsimp only at g hw2 hw3 hw4 hw5
    obtain ⟨w', I2, hw', p1, p2⟩ := k_73i (X := X) (J := J) hX h hb hw5 g
    rw [c0] at p1
    refine ⟨⟨I2, .retAddr 0, .int (iI 7), .int (iI 7), w'⟩, ⟨⟨rfl, rfl, rfl, hw'⟩, p2⟩, ?_⟩
    have en : I1 16 2 = iI (kn K) := (g.2.2 16 2 (by omega) (by omega)).trans (CS_n h)
    try dsimp only
    have c7 : iI ((7 : Nat) : Int) = iI 7 := rfl
    rw [cS, sg_73_11, en, hX1]
    · simp (disch := first | omega | assumption | exact cat_n | exact cat_i _ | exact cat_r _ | (simp (disch := omega) only [l_0, l_1, l_m1, l_2, l_3, l_4, l_5, l_6, l_7, l_8, l_9, l_10, l_16, l_20, l_40, l_48, l_99, l_200, l_999, l_9999, li_73, li_78, li_m1000000, li_90, li_251, li_400, li_2400, li_91, li_153, li_173, li_96, li_32, li_92, li_12, li_93, li_80, li_14, li_1000000000, li_30, li_11, li_24, li_13, li_97, li_64, li_1600, li_49, li_255, li_2147483647, li_12345, li_1103515245, li_59, li_57, li_122, li_1023, li_1000000, li_52, li_51, li_50, li_47, li_46, li_45, li_44, li_43, li_42, li_41, li_39, li_38, li_37, li_36, li_35, li_34, li_33, li_29, li_28, li_27, li_26, li_25, li_23, li_22, li_21, li_19, li_18, li_17, li_15, li_m8, li_m2, li_60, li_54, li_2907, li_151, li_127, oN, iI_add, iI_sub, iI_mul, iI_neg, Int.reduceAdd, Int.reduceSub, Int.reduceMul, Int.reduceNeg, Int.toNat_natCast, iI_lt, iI_le, iI_eq, iI_cl, true_or, or_true, false_or, or_false, true_and, and_true, not_true_eq_false, not_false_eq_true]; first | done | omega)) only [↓if_pos, ↓if_neg, Option.bind_some, Option.toList_some, Option.toList_none, List.cons_append, List.nil_append, l_0, l_1, l_m1, l_2, l_3, l_4, l_5, l_6, l_7, l_8, l_9, l_10, l_16, l_20, l_40, l_48, l_99, l_200, l_999, l_9999, li_73, li_78, li_m1000000, li_90, li_251, li_400, li_2400, li_91, li_153, li_173, li_96, li_32, li_92, li_12, li_93, li_80, li_14, li_1000000000, li_30, li_11, li_24, li_13, li_97, li_64, li_1600, li_49, li_255, li_2147483647, li_12345, li_1103515245, li_59, li_57, li_122, li_1023, li_1000000, li_52, li_51, li_50, li_47, li_46, li_45, li_44, li_43, li_42, li_41, li_39, li_38, li_37, li_36, li_35, li_34, li_33, li_29, li_28, li_27, li_26, li_25, li_23, li_22, li_21, li_19, li_18, li_17, li_15, li_m8, li_m2, li_60, li_54, li_2907, li_151, li_127, oN, iI_add, iI_sub, iI_mul, iI_neg, Int.reduceAdd, Int.reduceSub, Int.reduceMul, Int.reduceNeg, Int.toNat_natCast, iI_cl, c7, p1]
    all_goals assumption) (by
    rintro ⟨I1, w2, w3, w4, w5⟩ ⟨⟨hw2, hw3, hw4, hw5⟩, g⟩
    try dsimp only at g hw2 hw3 hw4 hw5
    obtain ⟨I', p1, p2⟩ := C I1 w3 w4 w5 hw3 hw4 hw5 g
    rw [c0] at p1
    refine ⟨I', ?_, p2⟩
    have en : I1 16 2 = iI (kn K) := (g.2.2 16 2 (by omega) (by omega)).trans (CS_n h)
    try dsimp only
    rw [sg_73_11, en]
    · simp (disch := first | omega | assumption | exact cat_n | exact cat_i _ | exact cat_r _ | (simp (disch := omega) only [l_0, l_1, l_m1, l_2, l_3, l_4, l_5, l_6, l_7, l_8, l_9, l_10, l_16, l_20, l_40, l_48, l_99, l_200, l_999, l_9999, li_73, li_78, li_m1000000, li_90, li_251, li_400, li_2400, li_91, li_153, li_173, li_96, li_32, li_92, li_12, li_93, li_80, li_14, li_1000000000, li_30, li_11, li_24, li_13, li_97, li_64, li_1600, li_49, li_255, li_2147483647, li_12345, li_1103515245, li_59, li_57, li_122, li_1023, li_1000000, li_52, li_51, li_50, li_47, li_46, li_45, li_44, li_43, li_42, li_41, li_39, li_38, li_37, li_36, li_35, li_34, li_33, li_29, li_28, li_27, li_26, li_25, li_23, li_22, li_21, li_19, li_18, li_17, li_15, li_m8, li_m2, li_60, li_54, li_2907, li_151, li_127, oN, iI_add, iI_sub, iI_mul, iI_neg, Int.reduceAdd, Int.reduceSub, Int.reduceMul, Int.reduceNeg, Int.toNat_natCast, iI_lt, iI_le, iI_eq, iI_cl, true_or, or_true, false_or, or_false, true_and, and_true, not_true_eq_false, not_false_eq_true]; first | done | omega)) only [↓if_pos, ↓if_neg, Option.bind_some, Option.toList_some, Option.toList_none, List.cons_append, List.nil_append, l_0, l_1, l_m1, l_2, l_3, l_4, l_5, l_6, l_7, l_8, l_9, l_10, l_16, l_20, l_40, l_48, l_99, l_200, l_999, l_9999, li_73, li_78, li_m1000000, li_90, li_251, li_400, li_2400, li_91, li_153, li_173, li_96, li_32, li_92, li_12, li_93, li_80, li_14, li_1000000000, li_30, li_11, li_24, li_13, li_97, li_64, li_1600, li_49, li_255, li_2147483647, li_12345, li_1103515245, li_59, li_57, li_122, li_1023, li_1000000, li_52, li_51, li_50, li_47, li_46, li_45, li_44, li_43, li_42, li_41, li_39, li_38, li_37, li_36, li_35, li_34, li_33, li_29, li_28, li_27, li_26, li_25, li_23, li_22, li_21, li_19, li_18, li_17, li_15, li_m8, li_m2, li_60, li_54, li_2907, li_151, li_127, oN, iI_add, iI_sub, iI_mul, iI_neg, Int.reduceAdd, Int.reduceSub, Int.reduceMul, Int.reduceNeg, Int.toNat_natCast, iI_cl, p1]
    all_goals assumption) (_, .null, .null, .null, .null) ⟨⟨cat_n, cat_n, cat_n, cat_n⟩, g0⟩
  obtain ⟨I', p1, p2⟩ := B
  try dsimp only at p1
  rw [c0] at p1
  refine ⟨I', ?_, p2⟩
  simp (disch := first | omega | assumption | exact cat_n | exact cat_i _ | exact cat_r _ | (simp (disch := omega) only [l_0, l_1, l_m1, l_2, l_3, l_4, l_5, l_6, l_7, l_8, l_9, l_10, l_16, l_20, l_40, l_48, l_99, l_200, l_999, l_9999, li_73, li_78, li_m1000000, li_90, li_251, li_400, li_2400, li_91, li_153, li_173, li_96, li_32, li_92, li_12, li_93, li_80, li_14, li_1000000000, li_30, li_11, li_24, li_13, li_97, li_64, li_1600, li_49, li_255, li_2147483647, li_12345, li_1103515245, li_59, li_57, li_122, li_1023, li_1000000, li_52, li_51, li_50, li_47, li_46, li_45, li_44, li_43, li_42, li_41, li_39, li_38, li_37, li_36, li_35, li_34, li_33, li_29, li_28, li_27, li_26, li_25, li_23, li_22, li_21, li_19, li_18, li_17, li_15, li_m8, li_m2, li_60, li_54, li_2907, li_151, li_127, oN, iI_add, iI_sub, iI_mul, iI_neg, Int.reduceAdd, Int.reduceSub, Int.reduceMul, Int.reduceNeg, Int.toNat_natCast, iI_lt, iI_le, iI_eq, iI_cl, true_or, or_true, false_or, or_false, true_and, and_true, not_true_eq_false, not_false_eq_true]; first | done | omega)) only [↓if_pos, ↓if_neg, Option.bind_some, Option.toList_some, Option.toList_none, List.cons_append, List.nil_append, l_0, l_1, l_m1, l_2, l_3, l_4, l_5, l_6, l_7, l_8, l_9, l_10, l_16, l_20, l_40, l_48, l_99, l_200, l_999, l_9999, li_73, li_78, li_m1000000, li_90, li_251, li_400, li_2400, li_91, li_153, li_173, li_96, li_32, li_92, li_12, li_93, li_80, li_14, li_1000000000, li_30, li_11, li_24, li_13, li_97, li_64, li_1600, li_49, li_255, li_2147483647, li_12345, li_1103515245, li_59, li_57, li_122, li_1023, li_1000000, li_52, li_51, li_50, li_47, li_46, li_45, li_44, li_43, li_42, li_41, li_39, li_38, li_37, li_36, li_35, li_34, li_33, li_29, li_28, li_27, li_26, li_25, li_23, li_22, li_21, li_19, li_18, li_17, li_15, li_m8, li_m2, li_60, li_54, li_2907, li_151, li_127, oN, iI_add, iI_sub, iI_mul, iI_neg, Int.reduceAdd, Int.reduceSub, Int.reduceMul, Int.reduceNeg, Int.toNat_natCast, iI_cl, cl_73, sg_73_e0, CS_e h]
  exact p1
theorem c_341 {m : Nat} {x : Int32} (e : I 139 43 = iI m) (hm : m < 72) : am_do X 341 [.ref 139, .int x] (am_sh I J) = some (none, am_sh (am_up (am_up I 161 m x) 139 43 (iI ((m : Int) + 1))) J) := by
  have e1 : ∀ v, am_up I 161 m v 139 43 = iI m := fun v => (up_ck (by omega)).trans e
  simp (disch := first | omega | assumption | exact cat_n | exact cat_i _ | exact cat_r _ | (simp (disch := omega) only [l_0, l_1, l_m1, l_2, l_3, l_4, l_5, l_6, l_7, l_8, l_9, l_10, l_16, l_20, l_40, l_48, l_99, l_200, l_999, l_9999, li_73, li_78, li_m1000000, li_90, li_251, li_400, li_2400, li_91, li_153, li_173, li_96, li_32, li_92, li_12, li_93, li_80, li_14, li_1000000000, li_30, li_11, li_24, li_13, li_97, li_64, li_1600, li_49, li_255, li_2147483647, li_12345, li_1103515245, li_59, li_57, li_122, li_1023, li_1000000, li_52, li_51, li_50, li_47, li_46, li_45, li_44, li_43, li_42, li_41, li_39, li_38, li_37, li_36, li_35, li_34, li_33, li_29, li_28, li_27, li_26, li_25, li_23, li_22, li_21, li_19, li_18, li_17, li_15, li_m8, li_m2, li_60, li_54, li_2907, li_151, li_127, oN, iI_add, iI_sub, iI_mul, iI_neg, Int.reduceAdd, Int.reduceSub, Int.reduceMul, Int.reduceNeg, Int.toNat_natCast, iI_lt, iI_le, iI_eq, iI_cl, true_or, or_true, false_or, or_false, true_and, and_true, not_true_eq_false, not_false_eq_true]; first | done | omega)) only [↓if_pos, ↓if_neg, Option.bind_some, Option.toList_some, Option.toList_none, List.cons_append, List.nil_append, l_0, l_1, l_m1, l_2, l_3, l_4, l_5, l_6, l_7, l_8, l_9, l_10, l_16, l_20, l_40, l_48, l_99, l_200, l_999, l_9999, li_73, li_78, li_m1000000, li_90, li_251, li_400, li_2400, li_91, li_153, li_173, li_96, li_32, li_92, li_12, li_93, li_80, li_14, li_1000000000, li_30, li_11, li_24, li_13, li_97, li_64, li_1600, li_49, li_255, li_2147483647, li_12345, li_1103515245, li_59, li_57, li_122, li_1023, li_1000000, li_52, li_51, li_50, li_47, li_46, li_45, li_44, li_43, li_42, li_41, li_39, li_38, li_37, li_36, li_35, li_34, li_33, li_29, li_28, li_27, li_26, li_25, li_23, li_22, li_21, li_19, li_18, li_17, li_15, li_m8, li_m2, li_60, li_54, li_2907, li_151, li_127, oN, iI_add, iI_sub, iI_mul, iI_neg, Int.reduceAdd, Int.reduceSub, Int.reduceMul, Int.reduceNeg, Int.toNat_natCast, iI_cl, cl_341, sg_341_e0, e, e1]
theorem m_241o {b j : Nat} (h : MS K I) (hb : b < kn K) (hj : j < 7) : am_do X 241 [.ref 139, .int (iI b), .int (iI (if j = 0 then 6 else (j : Int) - 1))] (am_sh I J) = some (some (.int (iI (imv K (1 + 7 * b + j)))), am_sh I J) := by
  rw [imv_b hj]
  obtain rfl | rfl | rfl | rfl | rfl | rfl | rfl : j = 0 ∨ j = 1 ∨ j = 2 ∨ j = 3 ∨ j = 4 ∨ j = 5 ∨ j = 6 := by omega
  · exact m_241_6 h hb
  · exact m_241_0 h hb
  · exact m_241_1 h hb
  · exact m_241_2 h hb
  · exact m_241_3 h hb
  · exact m_241_4 h hb
  · exact m_241_5 h hb
theorem IM_MS {I1 : Nat → Nat → Int32} {m : Nat} (h : MS K I0) (g : IM 139 43 161 K I0 I1 m) : MS K I1 := MS_cg h (fun c k z => g.2.2 c k (by omega) (by omega))
theorem m_342i (h : MS K I0) {b : Nat} (hb : b < kn K) {I1 : Nat → Nat → Int32} (g : IM 139 43 161 K I0 I1 (1 + 7 * b + 1)) : ∃ I' : Nat → Nat → Int32, am_ev X amP_342 23 [.ref 139, .int (iI b), .int (iI (0 : Nat))] [] (am_sh I1 J) = am_ev X amP_342 11 [.ref 139, .int (iI ((b : Int) + 1)), .int (iI 6)] [] (am_sh I' J) ∧ IM 139 43 161 K I0 I' (1 + 7 * b + 7) := by
  have hk := K_n (MS_k h)
  refine Lp1 (n := 6) (G := fun j (I2 : Nat → Nat → Int32) => am_ev X amP_342 23 [.ref 139, .int (iI b), .int (iI j)] [] (am_sh I2 J)) (Iv := fun j I2 => IM 139 43 161 K I0 I2 (1 + 7 * b + (j + 1))) (P := fun r => ∃ I' : Nat → Nat → Int32, r = am_ev X amP_342 11 [.ref 139, .int (iI ((b : Int) + 1)), .int (iI 6)] [] (am_sh I' J) ∧ IM 139 43 161 K I0 I' (1 + 7 * b + 7)) (by
    intro j I2 hj g2
    right
    have a1 := m_241o (X := X) (J := J) (j := j + 1) (IM_MS h g2) hb (by omega)
    rw [if_neg (by omega), show ((j + 1 : Nat) : Int) - 1 = j by omega] at a1
    have a2 := c_341 (X := X) (J := J) (x := iI (imv K (1 + 7 * b + (j + 1)))) g2.1 (by omega)
    refine ⟨am_up (am_up I2 161 (1 + 7 * b + (j + 1)) (iI (imv K (1 + 7 * b + (j + 1))))) 139 43 (iI (((1 + 7 * b + (j + 1) : Nat) : Int) + 1)), IM_s (by omega) g2, ?_⟩
    try dsimp only
    rw [cS, sg_342_23]
    simp (disch := first | omega | assumption | exact cat_n | exact cat_i _ | exact cat_r _ | (simp (disch := omega) only [l_0, l_1, l_m1, l_2, l_3, l_4, l_5, l_6, l_7, l_8, l_9, l_10, l_16, l_20, l_40, l_48, l_99, l_200, l_999, l_9999, li_73, li_78, li_m1000000, li_90, li_251, li_400, li_2400, li_91, li_153, li_173, li_96, li_32, li_92, li_12, li_93, li_80, li_14, li_1000000000, li_30, li_11, li_24, li_13, li_97, li_64, li_1600, li_49, li_255, li_2147483647, li_12345, li_1103515245, li_59, li_57, li_122, li_1023, li_1000000, li_52, li_51, li_50, li_47, li_46, li_45, li_44, li_43, li_42, li_41, li_39, li_38, li_37, li_36, li_35, li_34, li_33, li_29, li_28, li_27, li_26, li_25, li_23, li_22, li_21, li_19, li_18, li_17, li_15, li_m8, li_m2, li_60, li_54, li_2907, li_151, li_127, oN, iI_add, iI_sub, iI_mul, iI_neg, Int.reduceAdd, Int.reduceSub, Int.reduceMul, Int.reduceNeg, Int.toNat_natCast, iI_lt, iI_le, iI_eq, iI_cl, true_or, or_true, false_or, or_false, true_and, and_true, not_true_eq_false, not_false_eq_true]; first | done | omega)) only [↓if_pos, ↓if_neg, Option.bind_some, Option.toList_some, Option.toList_none, List.cons_append, List.nil_append, l_0, l_1, l_m1, l_2, l_3, l_4, l_5, l_6, l_7, l_8, l_9, l_10, l_16, l_20, l_40, l_48, l_99, l_200, l_999, l_9999, li_73, li_78, li_m1000000, li_90, li_251, li_400, li_2400, li_91, li_153, li_173, li_96, li_32, li_92, li_12, li_93, li_80, li_14, li_1000000000, li_30, li_11, li_24, li_13, li_97, li_64, li_1600, li_49, li_255, li_2147483647, li_12345, li_1103515245, li_59, li_57, li_122, li_1023, li_1000000, li_52, li_51, li_50, li_47, li_46, li_45, li_44, li_43, li_42, li_41, li_39, li_38, li_37, li_36, li_35, li_34, li_33, li_29, li_28, li_27, li_26, li_25, li_23, li_22, li_21, li_19, li_18, li_17, li_15, li_m8, li_m2, li_60, li_54, li_2907, li_151, li_127, oN, iI_add, iI_sub, iI_mul, iI_neg, Int.reduceAdd, Int.reduceSub, Int.reduceMul, Int.reduceNeg, Int.toNat_natCast, iI_cl, a1, a2, sg_342_31, sg_342_32]) (by
    intro I2 g2
    refine ⟨I2, ?_, g2⟩
    have c6 : iI ((6 : Nat) : Int) = iI 6 := rfl
    try dsimp only
    rw [sg_342_23]
    simp (disch := first | omega | assumption | exact cat_n | exact cat_i _ | exact cat_r _ | (simp (disch := omega) only [l_0, l_1, l_m1, l_2, l_3, l_4, l_5, l_6, l_7, l_8, l_9, l_10, l_16, l_20, l_40, l_48, l_99, l_200, l_999, l_9999, li_73, li_78, li_m1000000, li_90, li_251, li_400, li_2400, li_91, li_153, li_173, li_96, li_32, li_92, li_12, li_93, li_80, li_14, li_1000000000, li_30, li_11, li_24, li_13, li_97, li_64, li_1600, li_49, li_255, li_2147483647, li_12345, li_1103515245, li_59, li_57, li_122, li_1023, li_1000000, li_52, li_51, li_50, li_47, li_46, li_45, li_44, li_43, li_42, li_41, li_39, li_38, li_37, li_36, li_35, li_34, li_33, li_29, li_28, li_27, li_26, li_25, li_23, li_22, li_21, li_19, li_18, li_17, li_15, li_m8, li_m2, li_60, li_54, li_2907, li_151, li_127, oN, iI_add, iI_sub, iI_mul, iI_neg, Int.reduceAdd, Int.reduceSub, Int.reduceMul, Int.reduceNeg, Int.toNat_natCast, iI_lt, iI_le, iI_eq, iI_cl, true_or, or_true, false_or, or_false, true_and, and_true, not_true_eq_false, not_false_eq_true]; first | done | omega)) only [↓if_pos, ↓if_neg, Option.bind_some, Option.toList_some, Option.toList_none, List.cons_append, List.nil_append, l_0, l_1, l_m1, l_2, l_3, l_4, l_5, l_6, l_7, l_8, l_9, l_10, l_16, l_20, l_40, l_48, l_99, l_200, l_999, l_9999, li_73, li_78, li_m1000000, li_90, li_251, li_400, li_2400, li_91, li_153, li_173, li_96, li_32, li_92, li_12, li_93, li_80, li_14, li_1000000000, li_30, li_11, li_24, li_13, li_97, li_64, li_1600, li_49, li_255, li_2147483647, li_12345, li_1103515245, li_59, li_57, li_122, li_1023, li_1000000, li_52, li_51, li_50, li_47, li_46, li_45, li_44, li_43, li_42, li_41, li_39, li_38, li_37, li_36, li_35, li_34, li_33, li_29, li_28, li_27, li_26, li_25, li_23, li_22, li_21, li_19, li_18, li_17, li_15, li_m8, li_m2, li_60, li_54, li_2907, li_151, li_127, oN, iI_add, iI_sub, iI_mul, iI_neg, Int.reduceAdd, Int.reduceSub, Int.reduceMul, Int.reduceNeg, Int.toNat_natCast, iI_cl, c6]) I1 g
theorem m_342 (h : MS K I) : ∃ I' : Nat → Nat → Int32, am_do X 342 [.ref 139] (am_sh I J) = some (some (.int (iI ((1 + 7 * kn K : Nat) + 1 : Int))), am_sh I' J) ∧ IW 139 43 161 K I I' := by
  have hk := K_n (MS_k h)
  have hk0 := MS_k h
  have he := K_e (MS_k h)
  have C : ∀ (I1 : Nat → Nat → Int32), IM 139 43 161 K I I1 (1 + 7 * kn K) → ∃ I' : Nat → Nat → Int32, am_ev X amP_342 40 [.ref 139, .int (iI 173), .int (iI (0 : Nat))] [] (am_sh I1 J) = some (some (.int (iI ((1 + 7 * kn K : Nat) + 1 : Int))), am_sh I' J) ∧ IW 139 43 161 K I I' := by
    intro I1 g
    have e0 : I1 139 43 = iI (1 + 7 * kn K : Nat) := g.1
    refine Lp1 (n := 1 + 7 * kn K) (G := fun j (_ : Unit) => am_ev X amP_342 40 [.ref 139, .int (iI (ck K j)), .int (iI j)] [] (am_sh I1 J)) (Iv := fun j _ => True) (P := fun r => ∃ I' : Nat → Nat → Int32, r = some (some (.int (iI ((1 + 7 * kn K : Nat) + 1 : Int))), am_sh I' J) ∧ IW 139 43 161 K I I') (by
      intro j _ hj _
      right
      refine ⟨(), trivial, ?_⟩
      have r1 := ck_rg (K := K) (m := j)
      have r2 := imv_rg hk0 hj
      have e1 := g.2.1 j hj
      have e2 : ck K (j + 1) = (3 * ck K j + imv K j) % 251 := rfl
      try dsimp only
      rw [cS, sg_342_40, e0, e2]
      simp (disch := first | omega | assumption | exact cat_n | exact cat_i _ | exact cat_r _ | (simp (disch := omega) only [l_0, l_1, l_m1, l_2, l_3, l_4, l_5, l_6, l_7, l_8, l_9, l_10, l_16, l_20, l_40, l_48, l_99, l_200, l_999, l_9999, li_73, li_78, li_m1000000, li_90, li_251, li_400, li_2400, li_91, li_153, li_173, li_96, li_32, li_92, li_12, li_93, li_80, li_14, li_1000000000, li_30, li_11, li_24, li_13, li_97, li_64, li_1600, li_49, li_255, li_2147483647, li_12345, li_1103515245, li_59, li_57, li_122, li_1023, li_1000000, li_52, li_51, li_50, li_47, li_46, li_45, li_44, li_43, li_42, li_41, li_39, li_38, li_37, li_36, li_35, li_34, li_33, li_29, li_28, li_27, li_26, li_25, li_23, li_22, li_21, li_19, li_18, li_17, li_15, li_m8, li_m2, li_60, li_54, li_2907, li_151, li_127, oN, iI_add, iI_sub, iI_mul, iI_neg, Int.reduceAdd, Int.reduceSub, Int.reduceMul, Int.reduceNeg, Int.toNat_natCast, iI_lt, iI_le, iI_eq, iI_cl, true_or, or_true, false_or, or_false, true_and, and_true, not_true_eq_false, not_false_eq_true]; first | done | omega)) only [↓if_pos, ↓if_neg, Option.bind_some, Option.toList_some, Option.toList_none, List.cons_append, List.nil_append, l_0, l_1, l_m1, l_2, l_3, l_4, l_5, l_6, l_7, l_8, l_9, l_10, l_16, l_20, l_40, l_48, l_99, l_200, l_999, l_9999, li_73, li_78, li_m1000000, li_90, li_251, li_400, li_2400, li_91, li_153, li_173, li_96, li_32, li_92, li_12, li_93, li_80, li_14, li_1000000000, li_30, li_11, li_24, li_13, li_97, li_64, li_1600, li_49, li_255, li_2147483647, li_12345, li_1103515245, li_59, li_57, li_122, li_1023, li_1000000, li_52, li_51, li_50, li_47, li_46, li_45, li_44, li_43, li_42, li_41, li_39, li_38, li_37, li_36, li_35, li_34, li_33, li_29, li_28, li_27, li_26, li_25, li_23, li_22, li_21, li_19, li_18, li_17, li_15, li_m8, li_m2, li_60, li_54, li_2907, li_151, li_127, oN, iI_add, iI_sub, iI_mul, iI_neg, Int.reduceAdd, Int.reduceSub, Int.reduceMul, Int.reduceNeg, Int.toNat_natCast, iI_cl, e1, iI_div, em_]) (by
      intro _ _
      have a2 := c_341 (X := X) (J := J) (x := iI (ck K (1 + 7 * kn K))) e0 (by omega)
      have w := IW_s (p := 139) (q := 43) (r := 161) (by omega) g
      refine ⟨_, ?_, w⟩
      have e1 := w.1
      try dsimp only
      rw [sg_342_40, e0]
      simp (disch := first | omega | assumption | exact cat_n | exact cat_i _ | exact cat_r _ | (simp (disch := omega) only [l_0, l_1, l_m1, l_2, l_3, l_4, l_5, l_6, l_7, l_8, l_9, l_10, l_16, l_20, l_40, l_48, l_99, l_200, l_999, l_9999, li_73, li_78, li_m1000000, li_90, li_251, li_400, li_2400, li_91, li_153, li_173, li_96, li_32, li_92, li_12, li_93, li_80, li_14, li_1000000000, li_30, li_11, li_24, li_13, li_97, li_64, li_1600, li_49, li_255, li_2147483647, li_12345, li_1103515245, li_59, li_57, li_122, li_1023, li_1000000, li_52, li_51, li_50, li_47, li_46, li_45, li_44, li_43, li_42, li_41, li_39, li_38, li_37, li_36, li_35, li_34, li_33, li_29, li_28, li_27, li_26, li_25, li_23, li_22, li_21, li_19, li_18, li_17, li_15, li_m8, li_m2, li_60, li_54, li_2907, li_151, li_127, oN, iI_add, iI_sub, iI_mul, iI_neg, Int.reduceAdd, Int.reduceSub, Int.reduceMul, Int.reduceNeg, Int.toNat_natCast, iI_lt, iI_le, iI_eq, iI_cl, true_or, or_true, false_or, or_false, true_and, and_true, not_true_eq_false, not_false_eq_true]; first | done | omega)) only [↓if_pos, ↓if_neg, Option.bind_some, Option.toList_some, Option.toList_none, List.cons_append, List.nil_append, l_0, l_1, l_m1, l_2, l_3, l_4, l_5, l_6, l_7, l_8, l_9, l_10, l_16, l_20, l_40, l_48, l_99, l_200, l_999, l_9999, li_73, li_78, li_m1000000, li_90, li_251, li_400, li_2400, li_91, li_153, li_173, li_96, li_32, li_92, li_12, li_93, li_80, li_14, li_1000000000, li_30, li_11, li_24, li_13, li_97, li_64, li_1600, li_49, li_255, li_2147483647, li_12345, li_1103515245, li_59, li_57, li_122, li_1023, li_1000000, li_52, li_51, li_50, li_47, li_46, li_45, li_44, li_43, li_42, li_41, li_39, li_38, li_37, li_36, li_35, li_34, li_33, li_29, li_28, li_27, li_26, li_25, li_23, li_22, li_21, li_19, li_18, li_17, li_15, li_m8, li_m2, li_60, li_54, li_2907, li_151, li_127, oN, iI_add, iI_sub, iI_mul, iI_neg, Int.reduceAdd, Int.reduceSub, Int.reduceMul, Int.reduceNeg, Int.toNat_natCast, iI_cl, a2, sg_342_60, e1]) () trivial
  have g0 : IM 139 43 161 K I (am_up (am_up (am_up I 139 43 (iI 0)) 161 0 (iI (ke K))) 139 43 (iI ((0 : Nat) + 1 : Int))) (1 + 7 * 0) := by
    refine ⟨up_at _ _ _ _, fun k hk => ?_, fun c k z1 z2 => ?_⟩
    · obtain rfl : k = 0 := by omega
      rw [up_ck (by omega), up_at]
      rfl
    · rw [up_ck (by omega), up_ck (by omega), up_ck (by omega)]
  have B := Lp1 (n := kn K) (G := fun b (s : (Nat → Nat → Int32) × Value) => am_ev X amP_342 11 [.ref 139, .int (iI b), s.2] [] (am_sh s.1 J)) (Iv := fun b s => s.2.category = 1 ∧ IM 139 43 161 K I s.1 (1 + 7 * b)) (P := fun r => ∃ I' : Nat → Nat → Int32, r = some (some (.int (iI ((1 + 7 * kn K : Nat) + 1 : Int))), am_sh I' J) ∧ IW 139 43 161 K I I') (by
    rintro b ⟨I1, w2⟩ hb ⟨hw2, g⟩
    right
    try dsimp only at g hw2
    have a1 := m_241o (X := X) (J := J) (j := 0) (IM_MS h g) hb (by omega)
    rw [if_pos rfl] at a1
    have a2 := c_341 (X := X) (J := J) (x := iI (imv K (1 + 7 * b + 0))) g.1 (by omega)
    have g1 := IM_s (by omega) g
    obtain ⟨I2, p1, p2⟩ := m_342i (X := X) (J := J) h hb g1
    rw [c0] at p1
    refine ⟨(I2, .int (iI 6)), ⟨rfl, p2⟩, ?_⟩
    have en : I1 139 1 = iI (kn K) := (g.2.2 139 1 (by omega) (by omega)).trans (MS_n h)
    rw [Nat.add_zero] at a1 a2
    try dsimp only
    rw [cS, sg_342_11, en]
    · simp (disch := first | omega | assumption | exact cat_n | exact cat_i _ | exact cat_r _ | (simp (disch := omega) only [l_0, l_1, l_m1, l_2, l_3, l_4, l_5, l_6, l_7, l_8, l_9, l_10, l_16, l_20, l_40, l_48, l_99, l_200, l_999, l_9999, li_73, li_78, li_m1000000, li_90, li_251, li_400, li_2400, li_91, li_153, li_173, li_96, li_32, li_92, li_12, li_93, li_80, li_14, li_1000000000, li_30, li_11, li_24, li_13, li_97, li_64, li_1600, li_49, li_255, li_2147483647, li_12345, li_1103515245, li_59, li_57, li_122, li_1023, li_1000000, li_52, li_51, li_50, li_47, li_46, li_45, li_44, li_43, li_42, li_41, li_39, li_38, li_37, li_36, li_35, li_34, li_33, li_29, li_28, li_27, li_26, li_25, li_23, li_22, li_21, li_19, li_18, li_17, li_15, li_m8, li_m2, li_60, li_54, li_2907, li_151, li_127, oN, iI_add, iI_sub, iI_mul, iI_neg, Int.reduceAdd, Int.reduceSub, Int.reduceMul, Int.reduceNeg, Int.toNat_natCast, iI_lt, iI_le, iI_eq, iI_cl, true_or, or_true, false_or, or_false, true_and, and_true, not_true_eq_false, not_false_eq_true]; first | done | omega)) only [↓if_pos, ↓if_neg, Option.bind_some, Option.toList_some, Option.toList_none, List.cons_append, List.nil_append, l_0, l_1, l_m1, l_2, l_3, l_4, l_5, l_6, l_7, l_8, l_9, l_10, l_16, l_20, l_40, l_48, l_99, l_200, l_999, l_9999, li_73, li_78, li_m1000000, li_90, li_251, li_400, li_2400, li_91, li_153, li_173, li_96, li_32, li_92, li_12, li_93, li_80, li_14, li_1000000000, li_30, li_11, li_24, li_13, li_97, li_64, li_1600, li_49, li_255, li_2147483647, li_12345, li_1103515245, li_59, li_57, li_122, li_1023, li_1000000, li_52, li_51, li_50, li_47, li_46, li_45, li_44, li_43, li_42, li_41, li_39, li_38, li_37, li_36, li_35, li_34, li_33, li_29, li_28, li_27, li_26, li_25, li_23, li_22, li_21, li_19, li_18, li_17, li_15, li_m8, li_m2, li_60, li_54, li_2907, li_151, li_127, oN, iI_add, iI_sub, iI_mul, iI_neg, Int.reduceAdd, Int.reduceSub, Int.reduceMul, Int.reduceNeg, Int.toNat_natCast, iI_cl, a1, a2, sg_342_20, sg_342_21, p1]
    all_goals assumption) (by
    rintro ⟨I1, w2⟩ ⟨hw2, g⟩
    try dsimp only at g hw2
    obtain ⟨I', p1, p2⟩ := C I1 g
    rw [c0] at p1
    refine ⟨I', ?_, p2⟩
    have en : I1 139 1 = iI (kn K) := (g.2.2 139 1 (by omega) (by omega)).trans (MS_n h)
    try dsimp only
    rw [sg_342_11, en]
    · simp (disch := first | omega | assumption | exact cat_n | exact cat_i _ | exact cat_r _ | (simp (disch := omega) only [l_0, l_1, l_m1, l_2, l_3, l_4, l_5, l_6, l_7, l_8, l_9, l_10, l_16, l_20, l_40, l_48, l_99, l_200, l_999, l_9999, li_73, li_78, li_m1000000, li_90, li_251, li_400, li_2400, li_91, li_153, li_173, li_96, li_32, li_92, li_12, li_93, li_80, li_14, li_1000000000, li_30, li_11, li_24, li_13, li_97, li_64, li_1600, li_49, li_255, li_2147483647, li_12345, li_1103515245, li_59, li_57, li_122, li_1023, li_1000000, li_52, li_51, li_50, li_47, li_46, li_45, li_44, li_43, li_42, li_41, li_39, li_38, li_37, li_36, li_35, li_34, li_33, li_29, li_28, li_27, li_26, li_25, li_23, li_22, li_21, li_19, li_18, li_17, li_15, li_m8, li_m2, li_60, li_54, li_2907, li_151, li_127, oN, iI_add, iI_sub, iI_mul, iI_neg, Int.reduceAdd, Int.reduceSub, Int.reduceMul, Int.reduceNeg, Int.toNat_natCast, iI_lt, iI_le, iI_eq, iI_cl, true_or, or_true, false_or, or_false, true_and, and_true, not_true_eq_false, not_false_eq_true]; first | done | omega)) only [↓if_pos, ↓if_neg, Option.bind_some, Option.toList_some, Option.toList_none, List.cons_append, List.nil_append, l_0, l_1, l_m1, l_2, l_3, l_4, l_5, l_6, l_7, l_8, l_9, l_10, l_16, l_20, l_40, l_48, l_99, l_200, l_999, l_9999, li_73, li_78, li_m1000000, li_90, li_251, li_400, li_2400, li_91, li_153, li_173, li_96, li_32, li_92, li_12, li_93, li_80, li_14, li_1000000000, li_30, li_11, li_24, li_13, li_97, li_64, li_1600, li_49, li_255, li_2147483647, li_12345, li_1103515245, li_59, li_57, li_122, li_1023, li_1000000, li_52, li_51, li_50, li_47, li_46, li_45, li_44, li_43, li_42, li_41, li_39, li_38, li_37, li_36, li_35, li_34, li_33, li_29, li_28, li_27, li_26, li_25, li_23, li_22, li_21, li_19, li_18, li_17, li_15, li_m8, li_m2, li_60, li_54, li_2907, li_151, li_127, oN, iI_add, iI_sub, iI_mul, iI_neg, Int.reduceAdd, Int.reduceSub, Int.reduceMul, Int.reduceNeg, Int.toNat_natCast, iI_cl, p1]
    all_goals assumption) (_, .null) ⟨cat_n, g0⟩
  obtain ⟨I', p1, p2⟩ := B
  refine ⟨I', ?_, p2⟩
  have e0 : am_up I 139 43 (iI 0) 148 0 = iI (ke K) := (up_ck (by omega)).trans (MS_e h)
  have a2 := c_341 (X := X) (J := J) (I := am_up I 139 43 (iI 0)) (m := 0) (x := iI (ke K)) (up_at _ _ _ _) (by omega)
  simp (disch := first | omega | assumption | exact cat_n | exact cat_i _ | exact cat_r _ | (simp (disch := omega) only [l_0, l_1, l_m1, l_2, l_3, l_4, l_5, l_6, l_7, l_8, l_9, l_10, l_16, l_20, l_40, l_48, l_99, l_200, l_999, l_9999, li_73, li_78, li_m1000000, li_90, li_251, li_400, li_2400, li_91, li_153, li_173, li_96, li_32, li_92, li_12, li_93, li_80, li_14, li_1000000000, li_30, li_11, li_24, li_13, li_97, li_64, li_1600, li_49, li_255, li_2147483647, li_12345, li_1103515245, li_59, li_57, li_122, li_1023, li_1000000, li_52, li_51, li_50, li_47, li_46, li_45, li_44, li_43, li_42, li_41, li_39, li_38, li_37, li_36, li_35, li_34, li_33, li_29, li_28, li_27, li_26, li_25, li_23, li_22, li_21, li_19, li_18, li_17, li_15, li_m8, li_m2, li_60, li_54, li_2907, li_151, li_127, oN, iI_add, iI_sub, iI_mul, iI_neg, Int.reduceAdd, Int.reduceSub, Int.reduceMul, Int.reduceNeg, Int.toNat_natCast, iI_lt, iI_le, iI_eq, iI_cl, true_or, or_true, false_or, or_false, true_and, and_true, not_true_eq_false, not_false_eq_true]; first | done | omega)) only [↓if_pos, ↓if_neg, Option.bind_some, Option.toList_some, Option.toList_none, List.cons_append, List.nil_append, l_0, l_1, l_m1, l_2, l_3, l_4, l_5, l_6, l_7, l_8, l_9, l_10, l_16, l_20, l_40, l_48, l_99, l_200, l_999, l_9999, li_73, li_78, li_m1000000, li_90, li_251, li_400, li_2400, li_91, li_153, li_173, li_96, li_32, li_92, li_12, li_93, li_80, li_14, li_1000000000, li_30, li_11, li_24, li_13, li_97, li_64, li_1600, li_49, li_255, li_2147483647, li_12345, li_1103515245, li_59, li_57, li_122, li_1023, li_1000000, li_52, li_51, li_50, li_47, li_46, li_45, li_44, li_43, li_42, li_41, li_39, li_38, li_37, li_36, li_35, li_34, li_33, li_29, li_28, li_27, li_26, li_25, li_23, li_22, li_21, li_19, li_18, li_17, li_15, li_m8, li_m2, li_60, li_54, li_2907, li_151, li_127, oN, iI_add, iI_sub, iI_mul, iI_neg, Int.reduceAdd, Int.reduceSub, Int.reduceMul, Int.reduceNeg, Int.toNat_natCast, iI_cl, cl_342, sg_342_e0, sg_342_9, e0, a2]
  exact p1
end S74
/-- 49 image -/
theorem op_49 {X : am_X} (hX : X 0 = am_X00 0) : am_Same X Rl_ 204 342 [] := by
  intro n I J hn h
  obtain ⟨hc, hm⟩ := Rl_K h
  have hk := K_n (CS_k hc)
  obtain ⟨I1, p1, a1, a2, a3, a4⟩ := k_73 (X := X) (J := J) hX hc
  have m1 : MS (kI I) I1 := MS_cg hm (fun c k z => a4 c k (by omega) (by omega))
  obtain ⟨I2, p2, b1, b2, b3, b4⟩ := m_342 (X := X) (J := J) m1
  generalize hN : 1 + 7 * kn (kI I) = N at *
  have e : ∀ c k, ¬ (c = 133 ∧ k = 1) → c ≠ 134 → ¬ (c = 139 ∧ k = 43) → c ≠ 161 → I2 c k = I c k := fun c k z1 z2 z3 z4 => (b4 c k z3 z4).trans (a4 c k z1 z2)
  refine ⟨_, I1, J, I2, J, ?_, p2, ?_⟩
  · simp (disch := first | omega | assumption | exact cat_n | exact cat_i _ | exact cat_r _ | (simp (disch := omega) only [l_0, l_1, l_m1, l_2, l_3, l_4, l_5, l_6, l_7, l_8, l_9, l_10, l_16, l_20, l_40, l_48, l_99, l_200, l_999, l_9999, li_73, li_78, li_m1000000, li_90, li_251, li_400, li_2400, li_91, li_153, li_173, li_96, li_32, li_92, li_12, li_93, li_80, li_14, li_1000000000, li_30, li_11, li_24, li_13, li_97, li_64, li_1600, li_49, li_255, li_2147483647, li_12345, li_1103515245, li_59, li_57, li_122, li_1023, li_1000000, li_52, li_51, li_50, li_47, li_46, li_45, li_44, li_43, li_42, li_41, li_39, li_38, li_37, li_36, li_35, li_34, li_33, li_29, li_28, li_27, li_26, li_25, li_23, li_22, li_21, li_19, li_18, li_17, li_15, li_m8, li_m2, li_60, li_54, li_2907, li_151, li_127, oN, iI_add, iI_sub, iI_mul, iI_neg, Int.reduceAdd, Int.reduceSub, Int.reduceMul, Int.reduceNeg, Int.toNat_natCast, iI_lt, iI_le, iI_eq, iI_cl, true_or, or_true, false_or, or_false, true_and, and_true, not_true_eq_false, not_false_eq_true]; first | done | omega)) only [↓if_pos, ↓if_neg, Option.bind_some, Option.toList_some, Option.toList_none, List.cons_append, List.nil_append, l_0, l_1, l_m1, l_2, l_3, l_4, l_5, l_6, l_7, l_8, l_9, l_10, l_16, l_20, l_40, l_48, l_99, l_200, l_999, l_9999, li_73, li_78, li_m1000000, li_90, li_251, li_400, li_2400, li_91, li_153, li_173, li_96, li_32, li_92, li_12, li_93, li_80, li_14, li_1000000000, li_30, li_11, li_24, li_13, li_97, li_64, li_1600, li_49, li_255, li_2147483647, li_12345, li_1103515245, li_59, li_57, li_122, li_1023, li_1000000, li_52, li_51, li_50, li_47, li_46, li_45, li_44, li_43, li_42, li_41, li_39, li_38, li_37, li_36, li_35, li_34, li_33, li_29, li_28, li_27, li_26, li_25, li_23, li_22, li_21, li_19, li_18, li_17, li_15, li_m8, li_m2, li_60, li_54, li_2907, li_151, li_127, oN, iI_add, iI_sub, iI_mul, iI_neg, Int.reduceAdd, Int.reduceSub, Int.reduceMul, Int.reduceNeg, Int.toNat_natCast, iI_cl, cl_204, sg_204_e0, sg_204_5, p1]
  have h' := Rl_mono h
  obtain ⟨d1, d2, d3, d4, d5, _⟩ := h
  refine Rl_small (I' := I2) (fun c j w => e c j (fun z => ?_) (fun z => ?_) (fun z => ?_) (fun z => ?_)) h' (T_congr (e 1 1 (by omega) (by omega) (by omega) (by omega)) (fun k => e 2 k (by omega) (by omega) (by omega) (by omega)) (e 139 12 (by omega) (by omega) (by omega) (by omega)) (fun k => e 145 k (by omega) (by omega) (by omega) (by omega)) d1) (F_congr (e 3 0 (by omega) (by omega) (by omega) (by omega)) (e 3 1 (by omega) (by omega) (by omega) (by omega)) (e 139 14 (by omega) (by omega) (by omega) (by omega)) (e 139 15 (by omega) (by omega) (by omega) (by omega)) d2) (R_congr (fun k => e 138 k (by omega) (by omega) (by omega) (by omega)) (fun k => e 146 k (by omega) (by omega) (by omega) (by omega)) d3) (D_congr (e 106 7 (by omega) (by omega) (by omega) (by omega)) (e 139 41 (by omega) (by omega) (by omega) (by omega)) d4) ?_
  · obtain ⟨rfl, rfl⟩ := z; cases w
  · subst z; cases w
  · obtain ⟨rfl, rfl⟩ := z; cases w
  · subst z; cases w
  · have c1 : I2 133 1 = iI ((N : Int) + 1) := (b4 133 1 (by omega) (by omega)).trans a1
    have c2 : ∀ k, I2 134 k = I1 134 k := fun k => b4 134 k (by omega) (by omega)
    unfold rl_M
    rw [b1, c1, to_iI (by omega) (by omega)]
    refine ⟨rfl, by omega, by omega, fun k hk' => ?_⟩
    rw [c2]
    by_cases y : k = N
    · subst y; rw [b3, a3]
    · rw [b2 k (by omega), a2 k (by omega)]
