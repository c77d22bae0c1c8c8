/-! A BODY CHANGES: the class lays its ring and forgets what it kept of it; a step of both behind a begun act -/
section S86
variable {X : am_X} {K : Sk} {I I' : Nat → Nat → Int32} {J : Nat → Nat → Int64} {b : Nat} {f : Nat → Int}
theorem k_50 (hb : b < 10) : ∃ I' : Nat → Nat → Int32, am_do X 50 [.ref 83, .int (iI b)] (am_sh I J) = some (none, am_sh I' J) ∧ (∀ o, o < 10 → I' 84 (pr_ b o) = iI (-1)) ∧ (∀ k, (∀ o, o < 10 → k ≠ pr_ b o) → I' 84 k = I 84 k) ∧ ∀ c k, c ≠ 84 → I' c k = I c k := by
  have L := Lp1 (n := 10) (G := fun o (I1 : Nat → Nat → Int32) => am_ev X amP_50 2 [.ref 83, .int (iI b), .int (iI o)] [] (am_sh I1 J)) (Iv := fun n I1 => (∀ o, o < n → I1 84 (pr_ b o) = iI (-1)) ∧ (∀ k, (∀ o, o < 10 → k ≠ pr_ b o) → I1 84 k = I 84 k) ∧ ∀ c k, c ≠ 84 → I1 c k = I c k) (P := fun r => ∃ I' : Nat → Nat → Int32, r = some (none, am_sh I' J) ∧ (∀ o, o < 10 → I' 84 (pr_ b o) = iI (-1)) ∧ (∀ k, (∀ o, o < 10 → k ≠ pr_ b o) → I' 84 k = I 84 k) ∧ ∀ c k, c ≠ 84 → I' c k = I c k) (by
    rintro o I1 ho ⟨g1, g2, g3⟩
    right
    have hp := pr_lt (a := b) (b := o) hb ho
    refine ⟨am_up I1 84 (pr_ b o) (iI (-1)), ⟨fun o' z => ?_, fun k z => ?_, fun c k z => ?_⟩, ?_⟩
    · by_cases y : pr_ b o' = pr_ b o
      · rw [y, up_at]
      · rw [up_k y]
        refine g1 o' ?_
        have : o' ≠ o := fun w => y (by rw [w])
        omega
    · rw [up_k (z o ho)]; exact g2 k z
    · rw [up_ck (by omega)]; exact g3 c k z
    · try dsimp only
      rw [cS, sg_50_2]
      simp (disch := first | omega | assumption | exact cat_n | exact cat_i _ | exact cat_r _ | (simp (disch := omega) only [l_0, l_1, l_m1, l_2, l_3, l_4, l_5, l_6, l_7, l_8, l_9, l_10, l_16, l_20, l_40, l_48, l_99, l_200, l_999, l_9999, li_73, li_78, li_m1000000, li_90, li_251, li_400, li_2400, li_91, li_153, li_173, li_96, li_32, li_92, li_12, li_93, li_80, li_14, li_1000000000, li_30, li_11, li_24, li_13, li_97, li_64, li_1600, li_49, li_255, li_2147483647, li_12345, li_1103515245, li_59, li_57, li_122, li_1023, li_1000000, li_52, li_51, li_50, li_47, li_46, li_45, li_44, li_43, li_42, li_41, li_39, li_38, li_37, li_36, li_35, li_34, li_33, li_29, li_28, li_27, li_26, li_25, li_23, li_22, li_21, li_19, li_18, li_17, li_15, li_m8, li_m2, li_60, li_54, li_2907, li_151, li_127, oN, iI_add, iI_sub, iI_mul, iI_neg, Int.reduceAdd, Int.reduceSub, Int.reduceMul, Int.reduceNeg, Int.toNat_natCast, iI_lt, iI_le, iI_eq, iI_cl, true_or, or_true, false_or, or_false, true_and, and_true, not_true_eq_false, not_false_eq_true]; first | done | omega)) only [↓if_pos, ↓if_neg, Option.bind_some, Option.toList_some, Option.toList_none, List.cons_append, List.nil_append, l_0, l_1, l_m1, l_2, l_3, l_4, l_5, l_6, l_7, l_8, l_9, l_10, l_16, l_20, l_40, l_48, l_99, l_200, l_999, l_9999, li_73, li_78, li_m1000000, li_90, li_251, li_400, li_2400, li_91, li_153, li_173, li_96, li_32, li_92, li_12, li_93, li_80, li_14, li_1000000000, li_30, li_11, li_24, li_13, li_97, li_64, li_1600, li_49, li_255, li_2147483647, li_12345, li_1103515245, li_59, li_57, li_122, li_1023, li_1000000, li_52, li_51, li_50, li_47, li_46, li_45, li_44, li_43, li_42, li_41, li_39, li_38, li_37, li_36, li_35, li_34, li_33, li_29, li_28, li_27, li_26, li_25, li_23, li_22, li_21, li_19, li_18, li_17, li_15, li_m8, li_m2, li_60, li_54, li_2907, li_151, li_127, oN, iI_add, iI_sub, iI_mul, iI_neg, Int.reduceAdd, Int.reduceSub, Int.reduceMul, Int.reduceNeg, Int.toNat_natCast, iI_cl, c_51, sg_50_10]) (by
    rintro I1 ⟨g1, g2, g3⟩
    refine ⟨I1, ?_, g1, g2, g3⟩
    try dsimp only
    rw [sg_50_2]
    have c10 : iI ((10 : Nat) : Int) = iI 10 := rfl
    simp (disch := first | omega | assumption | exact cat_n | exact cat_i _ | exact cat_r _ | (simp (disch := omega) only [l_0, l_1, l_m1, l_2, l_3, l_4, l_5, l_6, l_7, l_8, l_9, l_10, l_16, l_20, l_40, l_48, l_99, l_200, l_999, l_9999, li_73, li_78, li_m1000000, li_90, li_251, li_400, li_2400, li_91, li_153, li_173, li_96, li_32, li_92, li_12, li_93, li_80, li_14, li_1000000000, li_30, li_11, li_24, li_13, li_97, li_64, li_1600, li_49, li_255, li_2147483647, li_12345, li_1103515245, li_59, li_57, li_122, li_1023, li_1000000, li_52, li_51, li_50, li_47, li_46, li_45, li_44, li_43, li_42, li_41, li_39, li_38, li_37, li_36, li_35, li_34, li_33, li_29, li_28, li_27, li_26, li_25, li_23, li_22, li_21, li_19, li_18, li_17, li_15, li_m8, li_m2, li_60, li_54, li_2907, li_151, li_127, oN, iI_add, iI_sub, iI_mul, iI_neg, Int.reduceAdd, Int.reduceSub, Int.reduceMul, Int.reduceNeg, Int.toNat_natCast, iI_lt, iI_le, iI_eq, iI_cl, true_or, or_true, false_or, or_false, true_and, and_true, not_true_eq_false, not_false_eq_true]; first | done | omega)) only [↓if_pos, ↓if_neg, Option.bind_some, Option.toList_some, Option.toList_none, List.cons_append, List.nil_append, l_0, l_1, l_m1, l_2, l_3, l_4, l_5, l_6, l_7, l_8, l_9, l_10, l_16, l_20, l_40, l_48, l_99, l_200, l_999, l_9999, li_73, li_78, li_m1000000, li_90, li_251, li_400, li_2400, li_91, li_153, li_173, li_96, li_32, li_92, li_12, li_93, li_80, li_14, li_1000000000, li_30, li_11, li_24, li_13, li_97, li_64, li_1600, li_49, li_255, li_2147483647, li_12345, li_1103515245, li_59, li_57, li_122, li_1023, li_1000000, li_52, li_51, li_50, li_47, li_46, li_45, li_44, li_43, li_42, li_41, li_39, li_38, li_37, li_36, li_35, li_34, li_33, li_29, li_28, li_27, li_26, li_25, li_23, li_22, li_21, li_19, li_18, li_17, li_15, li_m8, li_m2, li_60, li_54, li_2907, li_151, li_127, oN, iI_add, iI_sub, iI_mul, iI_neg, Int.reduceAdd, Int.reduceSub, Int.reduceMul, Int.reduceNeg, Int.toNat_natCast, iI_cl, c10]) I ⟨fun o z => by omega, fun _ _ => rfl, fun _ _ _ => rfl⟩
  obtain ⟨I', p1, p2⟩ := L
  try dsimp only at p1
  rw [c0] at p1
  refine ⟨I', ?_, p2⟩
  simp (disch := first | omega | assumption | exact cat_n | exact cat_i _ | exact cat_r _ | (simp (disch := omega) only [l_0, l_1, l_m1, l_2, l_3, l_4, l_5, l_6, l_7, l_8, l_9, l_10, l_16, l_20, l_40, l_48, l_99, l_200, l_999, l_9999, li_73, li_78, li_m1000000, li_90, li_251, li_400, li_2400, li_91, li_153, li_173, li_96, li_32, li_92, li_12, li_93, li_80, li_14, li_1000000000, li_30, li_11, li_24, li_13, li_97, li_64, li_1600, li_49, li_255, li_2147483647, li_12345, li_1103515245, li_59, li_57, li_122, li_1023, li_1000000, li_52, li_51, li_50, li_47, li_46, li_45, li_44, li_43, li_42, li_41, li_39, li_38, li_37, li_36, li_35, li_34, li_33, li_29, li_28, li_27, li_26, li_25, li_23, li_22, li_21, li_19, li_18, li_17, li_15, li_m8, li_m2, li_60, li_54, li_2907, li_151, li_127, oN, iI_add, iI_sub, iI_mul, iI_neg, Int.reduceAdd, Int.reduceSub, Int.reduceMul, Int.reduceNeg, Int.toNat_natCast, iI_lt, iI_le, iI_eq, iI_cl, true_or, or_true, false_or, or_false, true_and, and_true, not_true_eq_false, not_false_eq_true]; first | done | omega)) only [↓if_pos, ↓if_neg, Option.bind_some, Option.toList_some, Option.toList_none, List.cons_append, List.nil_append, l_0, l_1, l_m1, l_2, l_3, l_4, l_5, l_6, l_7, l_8, l_9, l_10, l_16, l_20, l_40, l_48, l_99, l_200, l_999, l_9999, li_73, li_78, li_m1000000, li_90, li_251, li_400, li_2400, li_91, li_153, li_173, li_96, li_32, li_92, li_12, li_93, li_80, li_14, li_1000000000, li_30, li_11, li_24, li_13, li_97, li_64, li_1600, li_49, li_255, li_2147483647, li_12345, li_1103515245, li_59, li_57, li_122, li_1023, li_1000000, li_52, li_51, li_50, li_47, li_46, li_45, li_44, li_43, li_42, li_41, li_39, li_38, li_37, li_36, li_35, li_34, li_33, li_29, li_28, li_27, li_26, li_25, li_23, li_22, li_21, li_19, li_18, li_17, li_15, li_m8, li_m2, li_60, li_54, li_2907, li_151, li_127, oN, iI_add, iI_sub, iI_mul, iI_neg, Int.reduceAdd, Int.reduceSub, Int.reduceMul, Int.reduceNeg, Int.toNat_natCast, iI_cl, cl_50, sg_50_e0, p1]
theorem k_80 (hb : b < 10) : ∃ I' : Nat → Nat → Int32, am_do X 80 [.ref 79, .int (iI b)] (am_sh I J) = some (none, am_sh I' J) ∧ (∀ o, o < 10 → I' 80 (pr_ b o) = iI (-1)) ∧ (∀ k, (∀ o, o < 10 → k ≠ pr_ b o) → I' 80 k = I 80 k) ∧ ∀ c k, c ≠ 80 → I' c k = I c k := by
  have L := Lp1 (n := 10) (G := fun o (I1 : Nat → Nat → Int32) => am_ev X amP_80 2 [.ref 79, .int (iI b), .int (iI o)] [] (am_sh I1 J)) (Iv := fun n I1 => (∀ o, o < n → I1 80 (pr_ b o) = iI (-1)) ∧ (∀ k, (∀ o, o < 10 → k ≠ pr_ b o) → I1 80 k = I 80 k) ∧ ∀ c k, c ≠ 80 → I1 c k = I c k) (P := fun r => ∃ I' : Nat → Nat → Int32, r = some (none, am_sh I' J) ∧ (∀ o, o < 10 → I' 80 (pr_ b o) = iI (-1)) ∧ (∀ k, (∀ o, o < 10 → k ≠ pr_ b o) → I' 80 k = I 80 k) ∧ ∀ c k, c ≠ 80 → I' c k = I c k) (by
    rintro o I1 ho ⟨g1, g2, g3⟩
    right
    have hp := pr_lt (a := b) (b := o) hb ho
    refine ⟨am_up I1 80 (pr_ b o) (iI (-1)), ⟨fun o' z => ?_, fun k z => ?_, fun c k z => ?_⟩, ?_⟩
    · by_cases y : pr_ b o' = pr_ b o
      · rw [y, up_at]
      · rw [up_k y]
        refine g1 o' ?_
        have : o' ≠ o := fun w => y (by rw [w])
        omega
    · rw [up_k (z o ho)]; exact g2 k z
    · rw [up_ck (by omega)]; exact g3 c k z
    · try dsimp only
      rw [cS, sg_80_2]
      simp (disch := first | omega | assumption | exact cat_n | exact cat_i _ | exact cat_r _ | (simp (disch := omega) only [l_0, l_1, l_m1, l_2, l_3, l_4, l_5, l_6, l_7, l_8, l_9, l_10, l_16, l_20, l_40, l_48, l_99, l_200, l_999, l_9999, li_73, li_78, li_m1000000, li_90, li_251, li_400, li_2400, li_91, li_153, li_173, li_96, li_32, li_92, li_12, li_93, li_80, li_14, li_1000000000, li_30, li_11, li_24, li_13, li_97, li_64, li_1600, li_49, li_255, li_2147483647, li_12345, li_1103515245, li_59, li_57, li_122, li_1023, li_1000000, li_52, li_51, li_50, li_47, li_46, li_45, li_44, li_43, li_42, li_41, li_39, li_38, li_37, li_36, li_35, li_34, li_33, li_29, li_28, li_27, li_26, li_25, li_23, li_22, li_21, li_19, li_18, li_17, li_15, li_m8, li_m2, li_60, li_54, li_2907, li_151, li_127, oN, iI_add, iI_sub, iI_mul, iI_neg, Int.reduceAdd, Int.reduceSub, Int.reduceMul, Int.reduceNeg, Int.toNat_natCast, iI_lt, iI_le, iI_eq, iI_cl, true_or, or_true, false_or, or_false, true_and, and_true, not_true_eq_false, not_false_eq_true]; first | done | omega)) only [↓if_pos, ↓if_neg, Option.bind_some, Option.toList_some, Option.toList_none, List.cons_append, List.nil_append, l_0, l_1, l_m1, l_2, l_3, l_4, l_5, l_6, l_7, l_8, l_9, l_10, l_16, l_20, l_40, l_48, l_99, l_200, l_999, l_9999, li_73, li_78, li_m1000000, li_90, li_251, li_400, li_2400, li_91, li_153, li_173, li_96, li_32, li_92, li_12, li_93, li_80, li_14, li_1000000000, li_30, li_11, li_24, li_13, li_97, li_64, li_1600, li_49, li_255, li_2147483647, li_12345, li_1103515245, li_59, li_57, li_122, li_1023, li_1000000, li_52, li_51, li_50, li_47, li_46, li_45, li_44, li_43, li_42, li_41, li_39, li_38, li_37, li_36, li_35, li_34, li_33, li_29, li_28, li_27, li_26, li_25, li_23, li_22, li_21, li_19, li_18, li_17, li_15, li_m8, li_m2, li_60, li_54, li_2907, li_151, li_127, oN, iI_add, iI_sub, iI_mul, iI_neg, Int.reduceAdd, Int.reduceSub, Int.reduceMul, Int.reduceNeg, Int.toNat_natCast, iI_cl, c_51, sg_80_10]) (by
    rintro I1 ⟨g1, g2, g3⟩
    refine ⟨I1, ?_, g1, g2, g3⟩
    try dsimp only
    rw [sg_80_2]
    have c10 : iI ((10 : Nat) : Int) = iI 10 := rfl
    simp (disch := first | omega | assumption | exact cat_n | exact cat_i _ | exact cat_r _ | (simp (disch := omega) only [l_0, l_1, l_m1, l_2, l_3, l_4, l_5, l_6, l_7, l_8, l_9, l_10, l_16, l_20, l_40, l_48, l_99, l_200, l_999, l_9999, li_73, li_78, li_m1000000, li_90, li_251, li_400, li_2400, li_91, li_153, li_173, li_96, li_32, li_92, li_12, li_93, li_80, li_14, li_1000000000, li_30, li_11, li_24, li_13, li_97, li_64, li_1600, li_49, li_255, li_2147483647, li_12345, li_1103515245, li_59, li_57, li_122, li_1023, li_1000000, li_52, li_51, li_50, li_47, li_46, li_45, li_44, li_43, li_42, li_41, li_39, li_38, li_37, li_36, li_35, li_34, li_33, li_29, li_28, li_27, li_26, li_25, li_23, li_22, li_21, li_19, li_18, li_17, li_15, li_m8, li_m2, li_60, li_54, li_2907, li_151, li_127, oN, iI_add, iI_sub, iI_mul, iI_neg, Int.reduceAdd, Int.reduceSub, Int.reduceMul, Int.reduceNeg, Int.toNat_natCast, iI_lt, iI_le, iI_eq, iI_cl, true_or, or_true, false_or, or_false, true_and, and_true, not_true_eq_false, not_false_eq_true]; first | done | omega)) only [↓if_pos, ↓if_neg, Option.bind_some, Option.toList_some, Option.toList_none, List.cons_append, List.nil_append, l_0, l_1, l_m1, l_2, l_3, l_4, l_5, l_6, l_7, l_8, l_9, l_10, l_16, l_20, l_40, l_48, l_99, l_200, l_999, l_9999, li_73, li_78, li_m1000000, li_90, li_251, li_400, li_2400, li_91, li_153, li_173, li_96, li_32, li_92, li_12, li_93, li_80, li_14, li_1000000000, li_30, li_11, li_24, li_13, li_97, li_64, li_1600, li_49, li_255, li_2147483647, li_12345, li_1103515245, li_59, li_57, li_122, li_1023, li_1000000, li_52, li_51, li_50, li_47, li_46, li_45, li_44, li_43, li_42, li_41, li_39, li_38, li_37, li_36, li_35, li_34, li_33, li_29, li_28, li_27, li_26, li_25, li_23, li_22, li_21, li_19, li_18, li_17, li_15, li_m8, li_m2, li_60, li_54, li_2907, li_151, li_127, oN, iI_add, iI_sub, iI_mul, iI_neg, Int.reduceAdd, Int.reduceSub, Int.reduceMul, Int.reduceNeg, Int.toNat_natCast, iI_cl, c10]) I ⟨fun o z => by omega, fun _ _ => rfl, fun _ _ _ => rfl⟩
  obtain ⟨I', p1, p2⟩ := L
  try dsimp only at p1
  rw [c0] at p1
  refine ⟨I', ?_, p2⟩
  simp (disch := first | omega | assumption | exact cat_n | exact cat_i _ | exact cat_r _ | (simp (disch := omega) only [l_0, l_1, l_m1, l_2, l_3, l_4, l_5, l_6, l_7, l_8, l_9, l_10, l_16, l_20, l_40, l_48, l_99, l_200, l_999, l_9999, li_73, li_78, li_m1000000, li_90, li_251, li_400, li_2400, li_91, li_153, li_173, li_96, li_32, li_92, li_12, li_93, li_80, li_14, li_1000000000, li_30, li_11, li_24, li_13, li_97, li_64, li_1600, li_49, li_255, li_2147483647, li_12345, li_1103515245, li_59, li_57, li_122, li_1023, li_1000000, li_52, li_51, li_50, li_47, li_46, li_45, li_44, li_43, li_42, li_41, li_39, li_38, li_37, li_36, li_35, li_34, li_33, li_29, li_28, li_27, li_26, li_25, li_23, li_22, li_21, li_19, li_18, li_17, li_15, li_m8, li_m2, li_60, li_54, li_2907, li_151, li_127, oN, iI_add, iI_sub, iI_mul, iI_neg, Int.reduceAdd, Int.reduceSub, Int.reduceMul, Int.reduceNeg, Int.toNat_natCast, iI_lt, iI_le, iI_eq, iI_cl, true_or, or_true, false_or, or_false, true_and, and_true, not_true_eq_false, not_false_eq_true]; first | done | omega)) only [↓if_pos, ↓if_neg, Option.bind_some, Option.toList_some, Option.toList_none, List.cons_append, List.nil_append, l_0, l_1, l_m1, l_2, l_3, l_4, l_5, l_6, l_7, l_8, l_9, l_10, l_16, l_20, l_40, l_48, l_99, l_200, l_999, l_9999, li_73, li_78, li_m1000000, li_90, li_251, li_400, li_2400, li_91, li_153, li_173, li_96, li_32, li_92, li_12, li_93, li_80, li_14, li_1000000000, li_30, li_11, li_24, li_13, li_97, li_64, li_1600, li_49, li_255, li_2147483647, li_12345, li_1103515245, li_59, li_57, li_122, li_1023, li_1000000, li_52, li_51, li_50, li_47, li_46, li_45, li_44, li_43, li_42, li_41, li_39, li_38, li_37, li_36, li_35, li_34, li_33, li_29, li_28, li_27, li_26, li_25, li_23, li_22, li_21, li_19, li_18, li_17, li_15, li_m8, li_m2, li_60, li_54, li_2907, li_151, li_127, oN, iI_add, iI_sub, iI_mul, iI_neg, Int.reduceAdd, Int.reduceSub, Int.reduceMul, Int.reduceNeg, Int.toNat_natCast, iI_cl, cl_80, sg_80_e0, p1]
/-- the class has another row of b and has forgotten of it -/
def CN (b : Nat) (f : Nat → Int) (I I' : Nat → Nat → Int32) : Prop := CB I' b ∧ cr I' b = f ∧ (∀ o, o < 10 → I' 84 (pr_ b o) = iI (-1) ∧ I' 80 (pr_ b o) = iI (-1)) ∧ (∀ k, (∀ o, o < 10 → k ≠ pr_ b o) → I' 84 k = I 84 k ∧ I' 80 k = I 80 k) ∧ ∀ c k, ¬ (c = am_bd b ∧ k = 1) → ¬ (am_bd b + 1 ≤ c ∧ c ≤ am_bd b + 5) → c ≠ 80 → c ≠ 84 → I' c k = I c k
theorem k_3 (hf : cr I b = f) (ok : ps_ok f) (hb : b < 10) {I0 : Nat → Nat → Int32} (h0 : ∀ c k, c ≠ am_bd b + 1 → I c k = I0 c k) : ∃ I' : Nat → Nat → Int32, am_do X 3 [.ref 106, .int (iI b)] (am_sh I J) = some (none, am_sh I' J) ∧ CN b f I0 I' := by
  have hbd := bd_eq (b := b) (by omega)
  obtain ⟨I1, p1, a1, a2, a3⟩ := k_31 (X := X) (J := J) hf ok (by omega)
  obtain ⟨I2, p2, b1, b2, b3⟩ := k_80 (X := X) (J := J) (I := I1) hb
  obtain ⟨I3, p3, d1, d2, d3⟩ := k_50 (X := X) (J := J) (I := I2) hb
  have e : ∀ j, j ≤ 5 → ∀ k, I3 (am_bd b + j) k = I1 (am_bd b + j) k := fun j hj k => by rw [d3 _ _ (by omega), b3 _ _ (by omega)]
  refine ⟨I3, ?_, CB_congr e a1, (cr_congr (e 1 (by omega))).trans a2, fun o ho => ⟨d1 o ho, ?_⟩, fun k z => ⟨?_, ?_⟩, fun c k z1 z2 z3 z4 => ?_⟩
  · simp (disch := first | omega | assumption | exact cat_n | exact cat_i _ | exact cat_r _ | (simp (disch := omega) only [l_0, l_1, l_m1, l_2, l_3, l_4, l_5, l_6, l_7, l_8, l_9, l_10, l_16, l_20, l_40, l_48, l_99, l_200, l_999, l_9999, li_73, li_78, li_m1000000, li_90, li_251, li_400, li_2400, li_91, li_153, li_173, li_96, li_32, li_92, li_12, li_93, li_80, li_14, li_1000000000, li_30, li_11, li_24, li_13, li_97, li_64, li_1600, li_49, li_255, li_2147483647, li_12345, li_1103515245, li_59, li_57, li_122, li_1023, li_1000000, li_52, li_51, li_50, li_47, li_46, li_45, li_44, li_43, li_42, li_41, li_39, li_38, li_37, li_36, li_35, li_34, li_33, li_29, li_28, li_27, li_26, li_25, li_23, li_22, li_21, li_19, li_18, li_17, li_15, li_m8, li_m2, li_60, li_54, li_2907, li_151, li_127, oN, iI_add, iI_sub, iI_mul, iI_neg, Int.reduceAdd, Int.reduceSub, Int.reduceMul, Int.reduceNeg, Int.toNat_natCast, iI_lt, iI_le, iI_eq, iI_cl, true_or, or_true, false_or, or_false, true_and, and_true, not_true_eq_false, not_false_eq_true]; first | done | omega)) only [↓if_pos, ↓if_neg, Option.bind_some, Option.toList_some, Option.toList_none, List.cons_append, List.nil_append, l_0, l_1, l_m1, l_2, l_3, l_4, l_5, l_6, l_7, l_8, l_9, l_10, l_16, l_20, l_40, l_48, l_99, l_200, l_999, l_9999, li_73, li_78, li_m1000000, li_90, li_251, li_400, li_2400, li_91, li_153, li_173, li_96, li_32, li_92, li_12, li_93, li_80, li_14, li_1000000000, li_30, li_11, li_24, li_13, li_97, li_64, li_1600, li_49, li_255, li_2147483647, li_12345, li_1103515245, li_59, li_57, li_122, li_1023, li_1000000, li_52, li_51, li_50, li_47, li_46, li_45, li_44, li_43, li_42, li_41, li_39, li_38, li_37, li_36, li_35, li_34, li_33, li_29, li_28, li_27, li_26, li_25, li_23, li_22, li_21, li_19, li_18, li_17, li_15, li_m8, li_m2, li_60, li_54, li_2907, li_151, li_127, oN, iI_add, iI_sub, iI_mul, iI_neg, Int.reduceAdd, Int.reduceSub, Int.reduceMul, Int.reduceNeg, Int.toNat_natCast, iI_cl, cl_3, sg_3_e0, sg_3_6, sg_3_10, sg_3_14, p1, p2, p3]
  · rw [d3 _ _ (by omega)]; exact b1 o ho
  · rw [d2 k z, b3 _ _ (by omega), a3 _ _ (by omega) (by omega), h0 _ _ (by omega)]
  · rw [d3 _ _ (by omega), b2 k z, a3 _ _ (by omega) (by omega), h0 _ _ (by omega)]
  · rw [d3 c k z4, b3 c k z3, a3 c k z1 (by omega), h0 c k (by omega)]
theorem CS_new (h : CS K I) (hb : b < kn K) (ok : ps_ok f) (g : CN b f I I') : CS (ks K b f) I' := by
  have hk := K_n (CS_k h)
  have hbd := bd_eq (b := b) (by omega)
  obtain ⟨g1, g2, -, -, g5⟩ := g
  refine ⟨ks_ok (CS_k h) ok, ?_, fun o ho => ?_⟩
  · rw [g5 16 2 (by omega) (by omega) (by omega) (by omega), g5 16 3 (by omega) (by omega) (by omega) (by omega), g5 16 4 (by omega) (by omega) (by omega) (by omega), g5 16 5 (by omega) (by omega) (by omega) (by omega)]
    exact h.2.1
  · have ho' : o < kn K := ho
    have hod := bd_eq (b := o) (by omega)
    by_cases y : o = b
    · subst y
      rw [ks_b]
      exact ⟨g1, g2⟩
    · rw [ks_o y]
      have e' : ∀ j, j ≤ 5 → ∀ k, I' (am_bd o + j) k = I (am_bd o + j) k := fun j hj k => g5 _ k (by omega) (by omega) (by omega) (by omega)
      exact ⟨CB_congr e' (CS_B h ho'), (cr_congr (e' 1 (by omega))).trans (CS_r h ho')⟩
theorem C_new (h : CS K I) (hb : b < kn K) (gC : rl_C I) (h' : CS (ks K b f) I') (g : CN b f I I') : rl_C I' := by
  have hk := K_n (CS_k h)
  have hbd := bd_eq (b := b) (by omega)
  obtain ⟨-, -, g3, g4, g5⟩ := g
  rw [C_iff h']
  rw [C_iff h] at gC
  obtain ⟨c1, c2, c3⟩ := gC
  have hp : ∀ a c, a < c → c < kn K → a ≠ b → c ≠ b → ∀ o, o < 10 → 10 * a + c ≠ pr_ b o := fun a c h1 h2 h3 h4 o ho => by unfold pr_; omega
  refine ⟨fun a c hac hc => ?_, fun a c hac hc => ?_, fun k hk => ?_⟩
  · have hc' : c < kn K := hc
    by_cases y1 : a = b
    · left
      have := (g3 c (by omega)).1
      rw [show 10 * a + c = pr_ b c by unfold pr_; omega, this]
      rfl
    · by_cases y2 : c = b
      · left
        have := (g3 a (by omega)).1
        rw [show 10 * a + c = pr_ b a by unfold pr_; omega, this]
        rfl
      · rw [ks_o y1, ks_o y2, (g4 _ (hp a c hac hc' y1 y2)).1, g5 85 _ (by omega) (by omega) (by omega) (by omega)]
        exact c1 a c hac hc'
  · have hc' : c < kn K := hc
    by_cases y1 : a = b
    · left
      have := (g3 c (by omega)).2
      rw [show 10 * a + c = pr_ b c by unfold pr_; omega, this]
      rfl
    · by_cases y2 : c = b
      · left
        have := (g3 a (by omega)).2
        rw [show 10 * a + c = pr_ b a by unfold pr_; omega, this]
        rfl
      · rw [ks_o y1, ks_o y2, (g4 _ (hp a c hac hc' y1 y2)).2]
        exact c2 a c hac hc'
  · rw [g5 104 k (by omega) (by omega) (by omega) (by omega)]
    exact c3 k hk
/-- the class's cells alone -/
theorem CS_lo (h : CS K I) (e : ∀ c k, c ≤ 138 → I' c k = I c k) : CS K I' := by
  have hk := K_n (CS_k h)
  refine ⟨CS_k h, ?_, fun o ho => ?_⟩
  · rw [e 16 2 (by omega), e 16 3 (by omega), e 16 4 (by omega), e 16 5 (by omega)]
    exact h.2.1
  · have hod := bd_eq (b := o) (by omega)
    have e' : ∀ j, j ≤ 5 → ∀ k, I' (am_bd o + j) k = I (am_bd o + j) k := fun j hj k => e _ k (by omega)
    exact ⟨CB_congr e' (CS_B h ho), (cr_congr (e' 1 (by omega))).trans (CS_r h ho)⟩
theorem C_lo (h : CS K I) (g : rl_C I) (e : ∀ c k, c ≤ 138 → I' c k = I c k) : rl_C I' := by
  rw [C_iff (CS_lo h e)]
  rw [C_iff h] at g
  simp only [e 84 _ (by omega), e 85 _ (by omega), e 80 _ (by omega), e 104 _ (by omega)]
  exact g
end S86
/-- cells that no act changes but for the seed -/
def AF2 (c k : Nat) : Prop := AF c k ∧ ¬ (c = 106 ∧ k = 7) ∧ ¬ (c = 139 ∧ k = 41)
theorem Rl_act2 {n : Nat} {K : Sk} {I I' : Nat → Nat → Int32} {J J' : Nat → Nat → Int64} (g : Rl_ n I J) (hn : n < 512) (t0 : I 16 1 ≠ 0) (hf : ∀ c k, AF2 c k → I' c k = I c k) (hD : rl_D I') (hc : CS K I') (hm : MS K I') (kp : KP I') (hU : rl_U I') (hC : rl_C I') (hv : I' 16 8 = iI ((I 16 8).toInt + 1)) : Rl_ (n + 1) I' J' := by
  generalize hI2 : am_up (am_up I' 106 7 (I 106 7)) 139 41 (I 139 41) = I2
  have e : ∀ c k, ¬ (c = 106 ∧ k = 7) → ¬ (c = 139 ∧ k = 41) → I2 c k = I' c k := fun c k z1 z2 => by rw [← hI2, up_ck (by omega), up_ck (by omega)]
  have e1 : I2 106 7 = I 106 7 := by rw [← hI2, up_ck (by omega), up_at]
  have e2 : I2 139 41 = I 139 41 := by rw [← hI2, up_at]
  have hc2 : CS K I2 := by
    have hk := K_n (CS_k hc)
    refine ⟨CS_k hc, ?_, fun o ho => ?_⟩
    · rw [e 16 2 (by omega) (by omega), e 16 3 (by omega) (by omega), e 16 4 (by omega) (by omega), e 16 5 (by omega) (by omega)]
      exact hc.2.1
    · have hod := bd_eq (b := o) (by omega)
      have e' : ∀ j, j ≤ 5 → ∀ k, I2 (am_bd o + j) k = I' (am_bd o + j) k := fun j hj k => e _ k (by omega) (by omega)
      exact ⟨CB_congr e' (CS_B hc ho), (cr_congr (e' 1 (by omega))).trans (CS_r hc ho)⟩
  have hm2 : MS K I2 := MS_cg hm (fun c k z => e c k (by omega) (by omega))
  have kp2 : KP I2 := KP_cg kp (e _ _ (by omega) (by omega)) (fun k => e _ _ (by omega) (by omega)) (fun k _ => e _ _ (by omega) (by omega))
  have hU2 : rl_U I2 := by
    have eu : un I2 = un I' := by unfold un; rw [e _ _ (by omega) (by omega)]
    have eo : uo I2 = uo I' := by unfold uo; rw [e _ _ (by omega) (by omega)]
    have ec : cn I2 = cn I' := by unfold cn; rw [e _ _ (by omega) (by omega)]
    have f140 : I2 140 = I' 140 := funext fun k => e _ _ (by omega) (by omega)
    have f141 : I2 141 = I' 141 := funext fun k => e _ _ (by omega) (by omega)
    have f149 : I2 149 = I' 149 := funext fun k => e _ _ (by omega) (by omega)
    unfold rl_U at hU ⊢
    rw [eu, eo, ec, f140, f141, f149, e 139 24 (by omega) (by omega), e 106 6 (by omega) (by omega), e 106 5 (by omega) (by omega)]
    refine ⟨hU.1, hU.2.1, hU.2.2.1, fun v hv' => ?_⟩
    have er : I2 (108 + (uo I' + v) % 20) = I' (108 + (uo I' + v) % 20) := funext fun k => e _ _ (by omega) (by omega)
    rw [er]
    exact hU.2.2.2 v hv'
  have hC2 : rl_C I2 := by
    rw [C_iff hc2]
    rw [C_iff hc] at hC
    have e84 : ∀ k, I2 84 k = I' 84 k := fun k => e _ _ (by omega) (by omega)
    have e85 : ∀ k, I2 85 k = I' 85 k := fun k => e _ _ (by omega) (by omega)
    have e80 : ∀ k, I2 80 k = I' 80 k := fun k => e _ _ (by omega) (by omega)
    have e104 : ∀ k, I2 104 k = I' 104 k := fun k => e _ _ (by omega) (by omega)
    simp only [e84, e85, e80, e104]
    exact hC
  have R := Rl_act (J' := J') g hn t0 (I' := I2) (fun c k z => by
    by_cases y1 : c = 106 ∧ k = 7
    · rw [y1.1, y1.2, e1]
    · by_cases y2 : c = 139 ∧ k = 41
      · rw [y2.1, y2.2, e2]
      · rw [e c k y1 y2]; exact hf c k ⟨z, y1, y2⟩) hc2 hm2 kp2 hU2 hC2 ((e _ _ (by omega) (by omega)).trans hv)
  obtain ⟨g1, g2, g3, g4, g5, g6, g7, g8, g9, g10, g11, g12, g13, g14⟩ := R
  have s : ∀ c k, ¬ (c = 106 ∧ k = 7) → ¬ (c = 139 ∧ k = 41) → I' c k = I2 c k := fun c k z1 z2 => (e c k z1 z2).symm
  refine ⟨T_congr (s _ _ (by omega) (by omega)) (fun k => s _ _ (by omega) (by omega)) (s _ _ (by omega) (by omega)) (fun k => s _ _ (by omega) (by omega)) g1, F_congr (s _ _ (by omega) (by omega)) (s _ _ (by omega) (by omega)) (s _ _ (by omega) (by omega)) (s _ _ (by omega) (by omega)) g2, R_congr (fun k => s _ _ (by omega) (by omega)) (fun k => s _ _ (by omega) (by omega)) g3, hD, M_congr (s _ _ (by omega) (by omega)) (fun k => s _ _ (by omega) (by omega)) (s _ _ (by omega) (by omega)) (fun k => s _ _ (by omega) (by omega)) g5, ?_, ?_, ?_, ?_, ?_, hU, ?_, hC, ?_⟩
  · intro k hk
    rw [s 147 k (by omega) (by omega)]
    exact g6 k hk
  · exact CW_congr (fun k _ => s _ _ (by omega) (by omega)) (fun c h1 h2 k => s _ _ (by omega) (by omega)) g7
  · exact MW_congr (s _ _ (by omega) (by omega)) (fun k => s _ _ (by omega) (by omega)) (fun k => s _ _ (by omega) (by omega)) (fun k => s _ _ (by omega) (by omega)) (fun k => s _ _ (by omega) (by omega)) g8
  · have ec : cn I' = cn I2 := by unfold cn; rw [s _ _ (by omega) (by omega)]
    have c10 := g7.1.2
    unfold rl_S at g9 ⊢
    rw [ec]
    have s16 : ∀ k, I' 16 k = I2 16 k := fun k => s _ _ (by omega) (by omega)
    have s148 : ∀ k, I' 148 k = I2 148 k := fun k => s _ _ (by omega) (by omega)
    have s18 : ∀ k, I' 18 k = I2 18 k := fun k => s _ _ (by omega) (by omega)
    simp only [s16, s148, s18, s 139 0 (by omega) (by omega), s 139 1 (by omega) (by omega), s 139 2 (by omega) (by omega), s 106 6 (by omega) (by omega), s 128 1 (by omega) (by omega)]
    refine ⟨g9.1, g9.2.1, g9.2.2.1, g9.2.2.2.1, g9.2.2.2.2.1, g9.2.2.2.2.2.1, g9.2.2.2.2.2.2.1, g9.2.2.2.2.2.2.2.1, g9.2.2.2.2.2.2.2.2.1, fun b hb' => ?_⟩
    have hbd := bd_eq (b := b) (by omega)
    rw [mr_congr (I := I2) (fun k => s _ _ (by omega) (by omega)) (fun k => s _ _ (by omega) (by omega)) (fun k => s _ _ (by omega) (by omega)), cr_congr (I := I2) (fun k => s _ _ (by omega) (by omega))]
    exact g9.2.2.2.2.2.2.2.2.2 b hb'
  · intro b hb'
    have ec : cn I' = cn I2 := by unfold cn; rw [s _ _ (by omega) (by omega)]
    rw [ec] at hb'
    have := g7.1.2
    have hbd := bd_eq (b := b) (by omega)
    rw [s (am_bd b) 0 (by omega) (by omega)]
    refine ⟨(g10 b hb').1, fun i hi => ?_⟩
    rw [s 142 _ (by omega) (by omega)]
    exact (g10 b hb').2 i hi
  · unfold rl_E at g12 ⊢
    rw [s 139 36 (by omega) (by omega), s 139 37 (by omega) (by omega), s 128 0 (by omega) (by omega), s 128 1 (by omega) (by omega), s 16 2 (by omega) (by omega)]
    refine ⟨g12.1, g12.2.1, g12.2.2.1, fun k hk => ?_⟩
    rw [s 158 k (by omega) (by omega), s 159 k (by omega) (by omega), s 129 k (by omega) (by omega), s 130 k (by omega) (by omega)]
    exact g12.2.2.2 k hk
  · have f103 : I' 103 = I2 103 := funext fun k => s _ _ (by omega) (by omega)
    have ec : cn I' = cn I2 := by unfold cn; rw [s _ _ (by omega) (by omega)]
    have c10 := g7.1.2
    have eK : kI I' = kI I2 := by
      unfold kI
      rw [ec, s 16 3 (by omega) (by omega), s 16 4 (by omega) (by omega), s 16 5 (by omega) (by omega)]
      congr 2
      funext b
      split
      · rename_i hb'
        have hbd := bd_eq (b := b) (by omega)
        exact cr_congr (fun k => s _ _ (by omega) (by omega))
      · rfl
    unfold rl_V rl_L at g14 ⊢
    rw [s 16 8 (by omega) (by omega), s 96 8 (by omega) (by omega), s 96 5 (by omega) (by omega), s 96 6 (by omega) (by omega), s 96 7 (by omega) (by omega), f103, eK]
    exact g14
/-- what an act of the class may change behind its beginning; of the model -/
def CC (c k : Nat) : Prop := (c = 16 ∧ (k = 3 ∨ k = 5 ∨ k = 6)) ∨ c = 18 ∨ (19 ≤ c ∧ c ≤ 78 ∧ ¬ ((c - 19) % 6 = 0 ∧ k = 0)) ∨ (80 ≤ c ∧ c ≤ 95) ∨ (c = 106 ∧ k = 7)
def CM (c k : Nat) : Prop := c = 148 ∨ c = 150 ∨ (c = 139 ∧ k = 41)
theorem Rl_step {n : Nat} {K : Sk} {I I1 I2 I3 I4 : Nat → Nat → Int32} {J J' : Nat → Nat → Int64} (h : Rl_ n I J) (hn : n < 512) (t0 : I 16 1 ≠ 0) (b1 : BGc I I1) (b2 : I1 16 8 = iI ((I 16 8).toInt + 1)) (b3 : ∀ c k, ¬ (108 ≤ c ∧ c ≤ 127) → ¬ (c = 16 ∧ k = 8) → ¬ (c = 106 ∧ (k = 5 ∨ k = 6)) → I1 c k = I c k) (f2 : ∀ c k, ¬ CC c k → I2 c k = I1 c k) (d1 : BGm I I3) (d2 : ∀ c k, ¬ (c = 139 ∧ k = 24) → c ≠ 149 → I3 c k = I2 c k) (f4 : ∀ c k, ¬ CM c k → I4 c k = I3 c k) (hc : CS K I2) (hC : rl_C I2) (hm : MS K I4) (kp : KP I4) (hD : rl_D I4) : Rl_ (n + 1) I4 J' := by
  have e1 : ∀ c k, c ≤ 138 → I4 c k = I2 c k := fun c k z => by rw [f4 c k (by unfold CM; omega), d2 c k (by omega) (by omega)]
  have F : ∀ c k, ¬ (108 ≤ c ∧ c ≤ 127) → ¬ (c = 16 ∧ k = 8) → ¬ (c = 106 ∧ (k = 5 ∨ k = 6)) → ¬ CC c k → ¬ (c = 139 ∧ k = 24) → c ≠ 149 → ¬ CM c k → I4 c k = I c k := fun c k z1 z2 z3 z4 z5 z6 z7 => by rw [f4 c k z7, d2 c k z5 z6, f2 c k z4, b3 c k z1 z2 z3]
  unfold CC CM at F
  refine Rl_act2 h hn t0 (fun c k z => ?_) hD (CS_lo hc e1) hm kp (U_act h (BGc_cg b1 (fun s hs k => ?_) ?_ ?_) (BGm_cg d1 (fun k => ?_) ?_) ?_ (fun k => ?_) (fun k => ?_)) (C_lo hc hC e1) ?_
  · unfold AF2 AF at z
    exact F c k (by omega) (by omega) (by omega) (by omega) (by omega) (by omega) (by omega)
  · rw [e1 _ _ (by omega), f2 _ _ (by unfold CC; omega)]
  · rw [e1 _ _ (by omega), f2 _ _ (by unfold CC; omega)]
  · rw [e1 _ _ (by omega), f2 _ _ (by unfold CC; omega)]
  · exact f4 _ _ (by unfold CM; omega)
  · exact f4 _ _ (by unfold CM; omega)
  · exact F _ _ (by omega) (by omega) (by omega) (by omega) (by omega) (by omega) (by omega)
  · exact F _ _ (by omega) (by omega) (by omega) (by omega) (by omega) (by omega) (by omega)
  · exact F _ _ (by omega) (by omega) (by omega) (by omega) (by omega) (by omega) (by omega)
  · rw [e1 _ _ (by omega), f2 _ _ (by unfold CC; omega), b2]
