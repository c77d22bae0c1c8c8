/-! SEARCHES of the class: burns by their cost -/
/-- the lesser (0) or the greater (1) d with which a kind costs so much; -1 without one -/
def dAt (f : Nat → Int) (k c : Int) (w : Nat) : Int := if k ≤ 1 then (if w = 0 then (if c ≤ f 2 - c then c else -1) else (if c < f 2 - c then f 2 - c else -1)) else if k ≤ 3 then (if w = 0 then (if c % 2 = 0 then c / 2 else -1) else -1) else (if w = 0 then (if c % 3 = 0 then c / 3 else -1) else -1)
section DAT
variable {f : Nat → Int} {k c d : Int} {w : Nat}
theorem dAt_c (c1 : 1 ≤ c) (h : dAt f k c w = d) (hd : d ≠ -1) : bn_c f k d = c ∧ 1 ≤ d := by
  unfold dAt at h
  unfold bn_c
  by_cases q1 : k ≤ 1
  · rw [if_pos q1] at h ⊢
    by_cases q2 : w = 0
    · rw [if_pos q2] at h
      by_cases q3 : c ≤ f 2 - c
      · rw [if_pos q3] at h; omega
      · rw [if_neg q3] at h; omega
    · rw [if_neg q2] at h
      by_cases q3 : c < f 2 - c
      · rw [if_pos q3] at h; omega
      · rw [if_neg q3] at h; omega
  · rw [if_neg q1] at h ⊢
    by_cases q2 : k ≤ 3
    · rw [if_pos q2] at h ⊢
      by_cases q3 : w = 0
      · rw [if_pos q3] at h
        by_cases q4 : c % 2 = 0
        · rw [if_pos q4] at h; omega
        · rw [if_neg q4] at h; omega
      · rw [if_neg q3] at h; omega
    · rw [if_neg q2] at h ⊢
      by_cases q3 : w = 0
      · rw [if_pos q3] at h
        by_cases q4 : c % 3 = 0
        · rw [if_pos q4] at h; omega
        · rw [if_neg q4] at h; omega
      · rw [if_neg q3] at h; omega
theorem dAt_rg (ok : ps_ok f) (c1 : 1 ≤ c) (c2 : c ≤ 99) : -1 ≤ dAt f k c w ∧ dAt f k c w ≤ 100 := by
  have := ok.2.1
  unfold dAt
  repeat' split
  all_goals omega
theorem dAt_all (h : bn_r f k d) (hc : bn_c f k d = c) : ∃ w, w < 2 ∧ dAt f k c w = d := by
  obtain ⟨⟨h1, h2⟩, ⟨h3, h4⟩, h5⟩ := h
  unfold bn_c at hc
  unfold dAt
  by_cases q1 : k ≤ 1
  · have := h5 q1
    rw [if_pos q1] at hc
    simp only [if_pos q1]
    by_cases q2 : d ≤ f 2 - d
    · refine ⟨0, by omega, ?_⟩
      rw [if_pos rfl, if_pos (by omega)]; omega
    · refine ⟨1, by omega, ?_⟩
      rw [if_neg (by omega), if_pos (by omega)]; omega
  · rw [if_neg q1] at hc
    simp only [if_neg q1]
    by_cases q2 : k ≤ 3
    · rw [if_pos q2] at hc
      simp only [if_pos q2]
      refine ⟨0, by omega, ?_⟩
      rw [if_pos rfl, if_pos (by omega)]; omega
    · rw [if_neg q2] at hc
      simp only [if_neg q2]
      refine ⟨0, by omega, ?_⟩
      rw [if_pos rfl, if_pos (by omega)]; omega
theorem dAt_le {w' : Nat} (hw : w < 2) (hw' : w' < 2) (h : w ≤ w') (h1 : dAt f k c w ≠ -1) (h2 : dAt f k c w' ≠ -1) : dAt f k c w ≤ dAt f k c w' := by
  by_cases e : w = w'
  · rw [e]; exact Int.le_refl _
  · obtain rfl : w = 0 := by omega
    obtain rfl : w' = 1 := by omega
    unfold dAt at *
    by_cases q1 : k ≤ 1
    · simp only [if_pos q1] at *
      simp only [show ¬ ((1 : Nat) = 0) by omega, if_false, if_true] at *
      by_cases q3 : c ≤ f 2 - c
      · rw [if_pos q3] at h1 ⊢
        by_cases q4 : c < f 2 - c
        · rw [if_pos q4]; omega
        · rw [if_neg q4] at h2; omega
      · rw [if_neg q3] at h1; omega
    · simp only [if_neg q1] at *
      by_cases q2 : k ≤ 3
      · simp only [if_pos q2] at *
        simp only [show ¬ ((1 : Nat) = 0) by omega, if_false] at h2
        omega
      · simp only [if_neg q2] at *
        simp only [show ¬ ((1 : Nat) = 0) by omega, if_false] at h2
        omega
end DAT
section S9c
variable {X : am_X} {K : Sk} {I I' : Nat → Nat → Int32} {J : Nat → Nat → Int64} {b : Nat}
theorem k_45 (h : CS K I) (hb : b < kn K) {k c : Int} (k0 : 0 ≤ k) (k1 : k ≤ 5) (c1 : 1 ≤ c) (c2 : c ≤ 99) {w : Nat} (hw : w < 2) : am_do X 45 [.ref (am_bd b), .int (iI k), .int (iI c), .int (iI w)] (am_sh I J) = some (some (.int (iI (dAt (kf K b) k c w))), am_sh I J) := by
  have hn := K_n (CS_k h)
  have r := K_rg (CS_k h) hb
  have ct := CS_tn h hb
  have fin : ∀ x : Int, dAt (kf K b) k c w = x → am_ev X amP_45 0 [.ref (am_bd b), .int (iI k), .int (iI c), .int (iI w), .null, .null] [] (am_sh I J) = some (some (.int (iI x)), am_sh I J) → am_do X 45 [.ref (am_bd b), .int (iI k), .int (iI c), .int (iI w)] (am_sh I J) = some (some (.int (iI (dAt (kf K b) k c w))), am_sh I J) := fun x h1 h2 => by rw [h1, cl_45]; exact h2
  by_cases q1 : k ≤ 1
  · rcases (by omega : w = 0 ∨ w = 1) with rfl | rfl
    · by_cases q3 : c ≤ kf K b 2 - c
      · refine fin c (by unfold dAt; rw [if_pos q1, if_pos rfl, if_pos q3]) ?_
        rw [sg_45_e0 (hb1 := by omega), ct]; simp (disch := first | omega | assumption | exact cat_n | exact cat_i _ | exact cat_r _ | (simp (disch := omega) only [l_0, l_1, l_m1, l_2, l_3, l_4, l_5, l_6, l_7, l_8, l_9, l_10, l_16, l_20, l_40, l_48, l_99, l_200, l_999, l_9999, li_73, li_78, li_m1000000, li_90, li_251, li_400, li_2400, li_91, li_153, li_173, li_96, li_32, li_92, li_12, li_93, li_80, li_14, li_1000000000, li_30, li_11, li_24, li_13, li_97, li_64, li_1600, li_49, li_255, li_2147483647, li_12345, li_1103515245, li_59, li_57, li_122, li_1023, li_1000000, li_52, li_51, li_50, li_47, li_46, li_45, li_44, li_43, li_42, li_41, li_39, li_38, li_37, li_36, li_35, li_34, li_33, li_29, li_28, li_27, li_26, li_25, li_23, li_22, li_21, li_19, li_18, li_17, li_15, li_m8, li_m2, li_60, li_54, li_2907, li_151, li_127, oN, iI_add, iI_sub, iI_mul, iI_neg, Int.reduceAdd, Int.reduceSub, Int.reduceMul, Int.reduceNeg, Int.toNat_natCast, Int.reduceToNat, iI_lt, iI_le, iI_eq, iI_cl, true_or, or_true, false_or, or_false, true_and, and_true, not_true_eq_false, not_false_eq_true]; first | done | omega)) only [↓if_pos, ↓if_neg, Option.bind_some, Option.toList_some, Option.toList_none, List.cons_append, List.nil_append, l_0, l_1, l_m1, l_2, l_3, l_4, l_5, l_6, l_7, l_8, l_9, l_10, l_16, l_20, l_40, l_48, l_99, l_200, l_999, l_9999, li_73, li_78, li_m1000000, li_90, li_251, li_400, li_2400, li_91, li_153, li_173, li_96, li_32, li_92, li_12, li_93, li_80, li_14, li_1000000000, li_30, li_11, li_24, li_13, li_97, li_64, li_1600, li_49, li_255, li_2147483647, li_12345, li_1103515245, li_59, li_57, li_122, li_1023, li_1000000, li_52, li_51, li_50, li_47, li_46, li_45, li_44, li_43, li_42, li_41, li_39, li_38, li_37, li_36, li_35, li_34, li_33, li_29, li_28, li_27, li_26, li_25, li_23, li_22, li_21, li_19, li_18, li_17, li_15, li_m8, li_m2, li_60, li_54, li_2907, li_151, li_127, oN, iI_add, iI_sub, iI_mul, iI_neg, Int.reduceAdd, Int.reduceSub, Int.reduceMul, Int.reduceNeg, Int.toNat_natCast, Int.reduceToNat, iI_cl]
      · refine fin (-1) (by unfold dAt; rw [if_pos q1, if_pos rfl, if_neg q3]) ?_
        rw [sg_45_e0 (hb1 := by omega), ct]; simp (disch := first | omega | assumption | exact cat_n | exact cat_i _ | exact cat_r _ | (simp (disch := omega) only [l_0, l_1, l_m1, l_2, l_3, l_4, l_5, l_6, l_7, l_8, l_9, l_10, l_16, l_20, l_40, l_48, l_99, l_200, l_999, l_9999, li_73, li_78, li_m1000000, li_90, li_251, li_400, li_2400, li_91, li_153, li_173, li_96, li_32, li_92, li_12, li_93, li_80, li_14, li_1000000000, li_30, li_11, li_24, li_13, li_97, li_64, li_1600, li_49, li_255, li_2147483647, li_12345, li_1103515245, li_59, li_57, li_122, li_1023, li_1000000, li_52, li_51, li_50, li_47, li_46, li_45, li_44, li_43, li_42, li_41, li_39, li_38, li_37, li_36, li_35, li_34, li_33, li_29, li_28, li_27, li_26, li_25, li_23, li_22, li_21, li_19, li_18, li_17, li_15, li_m8, li_m2, li_60, li_54, li_2907, li_151, li_127, oN, iI_add, iI_sub, iI_mul, iI_neg, Int.reduceAdd, Int.reduceSub, Int.reduceMul, Int.reduceNeg, Int.toNat_natCast, Int.reduceToNat, iI_lt, iI_le, iI_eq, iI_cl, true_or, or_true, false_or, or_false, true_and, and_true, not_true_eq_false, not_false_eq_true]; first | done | omega)) only [↓if_pos, ↓if_neg, Option.bind_some, Option.toList_some, Option.toList_none, List.cons_append, List.nil_append, l_0, l_1, l_m1, l_2, l_3, l_4, l_5, l_6, l_7, l_8, l_9, l_10, l_16, l_20, l_40, l_48, l_99, l_200, l_999, l_9999, li_73, li_78, li_m1000000, li_90, li_251, li_400, li_2400, li_91, li_153, li_173, li_96, li_32, li_92, li_12, li_93, li_80, li_14, li_1000000000, li_30, li_11, li_24, li_13, li_97, li_64, li_1600, li_49, li_255, li_2147483647, li_12345, li_1103515245, li_59, li_57, li_122, li_1023, li_1000000, li_52, li_51, li_50, li_47, li_46, li_45, li_44, li_43, li_42, li_41, li_39, li_38, li_37, li_36, li_35, li_34, li_33, li_29, li_28, li_27, li_26, li_25, li_23, li_22, li_21, li_19, li_18, li_17, li_15, li_m8, li_m2, li_60, li_54, li_2907, li_151, li_127, oN, iI_add, iI_sub, iI_mul, iI_neg, Int.reduceAdd, Int.reduceSub, Int.reduceMul, Int.reduceNeg, Int.toNat_natCast, Int.reduceToNat, iI_cl]
    · by_cases q3 : c < kf K b 2 - c
      · refine fin (kf K b 2 - c) (by unfold dAt; rw [if_pos q1, if_neg (by omega), if_pos q3]) ?_
        rw [sg_45_e0 (hb1 := by omega), ct]; simp (disch := first | omega | assumption | exact cat_n | exact cat_i _ | exact cat_r _ | (simp (disch := omega) only [l_0, l_1, l_m1, l_2, l_3, l_4, l_5, l_6, l_7, l_8, l_9, l_10, l_16, l_20, l_40, l_48, l_99, l_200, l_999, l_9999, li_73, li_78, li_m1000000, li_90, li_251, li_400, li_2400, li_91, li_153, li_173, li_96, li_32, li_92, li_12, li_93, li_80, li_14, li_1000000000, li_30, li_11, li_24, li_13, li_97, li_64, li_1600, li_49, li_255, li_2147483647, li_12345, li_1103515245, li_59, li_57, li_122, li_1023, li_1000000, li_52, li_51, li_50, li_47, li_46, li_45, li_44, li_43, li_42, li_41, li_39, li_38, li_37, li_36, li_35, li_34, li_33, li_29, li_28, li_27, li_26, li_25, li_23, li_22, li_21, li_19, li_18, li_17, li_15, li_m8, li_m2, li_60, li_54, li_2907, li_151, li_127, oN, iI_add, iI_sub, iI_mul, iI_neg, Int.reduceAdd, Int.reduceSub, Int.reduceMul, Int.reduceNeg, Int.toNat_natCast, Int.reduceToNat, iI_lt, iI_le, iI_eq, iI_cl, true_or, or_true, false_or, or_false, true_and, and_true, not_true_eq_false, not_false_eq_true]; first | done | omega)) only [↓if_pos, ↓if_neg, Option.bind_some, Option.toList_some, Option.toList_none, List.cons_append, List.nil_append, l_0, l_1, l_m1, l_2, l_3, l_4, l_5, l_6, l_7, l_8, l_9, l_10, l_16, l_20, l_40, l_48, l_99, l_200, l_999, l_9999, li_73, li_78, li_m1000000, li_90, li_251, li_400, li_2400, li_91, li_153, li_173, li_96, li_32, li_92, li_12, li_93, li_80, li_14, li_1000000000, li_30, li_11, li_24, li_13, li_97, li_64, li_1600, li_49, li_255, li_2147483647, li_12345, li_1103515245, li_59, li_57, li_122, li_1023, li_1000000, li_52, li_51, li_50, li_47, li_46, li_45, li_44, li_43, li_42, li_41, li_39, li_38, li_37, li_36, li_35, li_34, li_33, li_29, li_28, li_27, li_26, li_25, li_23, li_22, li_21, li_19, li_18, li_17, li_15, li_m8, li_m2, li_60, li_54, li_2907, li_151, li_127, oN, iI_add, iI_sub, iI_mul, iI_neg, Int.reduceAdd, Int.reduceSub, Int.reduceMul, Int.reduceNeg, Int.toNat_natCast, Int.reduceToNat, iI_cl]
      · refine fin (-1) (by unfold dAt; rw [if_pos q1, if_neg (by omega), if_neg q3]) ?_
        rw [sg_45_e0 (hb1 := by omega), ct]; simp (disch := first | omega | assumption | exact cat_n | exact cat_i _ | exact cat_r _ | (simp (disch := omega) only [l_0, l_1, l_m1, l_2, l_3, l_4, l_5, l_6, l_7, l_8, l_9, l_10, l_16, l_20, l_40, l_48, l_99, l_200, l_999, l_9999, li_73, li_78, li_m1000000, li_90, li_251, li_400, li_2400, li_91, li_153, li_173, li_96, li_32, li_92, li_12, li_93, li_80, li_14, li_1000000000, li_30, li_11, li_24, li_13, li_97, li_64, li_1600, li_49, li_255, li_2147483647, li_12345, li_1103515245, li_59, li_57, li_122, li_1023, li_1000000, li_52, li_51, li_50, li_47, li_46, li_45, li_44, li_43, li_42, li_41, li_39, li_38, li_37, li_36, li_35, li_34, li_33, li_29, li_28, li_27, li_26, li_25, li_23, li_22, li_21, li_19, li_18, li_17, li_15, li_m8, li_m2, li_60, li_54, li_2907, li_151, li_127, oN, iI_add, iI_sub, iI_mul, iI_neg, Int.reduceAdd, Int.reduceSub, Int.reduceMul, Int.reduceNeg, Int.toNat_natCast, Int.reduceToNat, iI_lt, iI_le, iI_eq, iI_cl, true_or, or_true, false_or, or_false, true_and, and_true, not_true_eq_false, not_false_eq_true]; first | done | omega)) only [↓if_pos, ↓if_neg, Option.bind_some, Option.toList_some, Option.toList_none, List.cons_append, List.nil_append, l_0, l_1, l_m1, l_2, l_3, l_4, l_5, l_6, l_7, l_8, l_9, l_10, l_16, l_20, l_40, l_48, l_99, l_200, l_999, l_9999, li_73, li_78, li_m1000000, li_90, li_251, li_400, li_2400, li_91, li_153, li_173, li_96, li_32, li_92, li_12, li_93, li_80, li_14, li_1000000000, li_30, li_11, li_24, li_13, li_97, li_64, li_1600, li_49, li_255, li_2147483647, li_12345, li_1103515245, li_59, li_57, li_122, li_1023, li_1000000, li_52, li_51, li_50, li_47, li_46, li_45, li_44, li_43, li_42, li_41, li_39, li_38, li_37, li_36, li_35, li_34, li_33, li_29, li_28, li_27, li_26, li_25, li_23, li_22, li_21, li_19, li_18, li_17, li_15, li_m8, li_m2, li_60, li_54, li_2907, li_151, li_127, oN, iI_add, iI_sub, iI_mul, iI_neg, Int.reduceAdd, Int.reduceSub, Int.reduceMul, Int.reduceNeg, Int.toNat_natCast, Int.reduceToNat, iI_cl]
  · by_cases q2 : k ≤ 3
    · rcases (by omega : w = 0 ∨ w = 1) with rfl | rfl
      · by_cases q4 : c % 2 = 0
        · refine fin (c / 2) (by unfold dAt; rw [if_neg q1, if_pos q2, if_pos rfl, if_pos q4]) ?_
          rw [sg_45_e0 (hb1 := by omega), ct]; simp (disch := first | omega | assumption | exact cat_n | exact cat_i _ | exact cat_r _ | (simp (disch := omega) only [l_0, l_1, l_m1, l_2, l_3, l_4, l_5, l_6, l_7, l_8, l_9, l_10, l_16, l_20, l_40, l_48, l_99, l_200, l_999, l_9999, li_73, li_78, li_m1000000, li_90, li_251, li_400, li_2400, li_91, li_153, li_173, li_96, li_32, li_92, li_12, li_93, li_80, li_14, li_1000000000, li_30, li_11, li_24, li_13, li_97, li_64, li_1600, li_49, li_255, li_2147483647, li_12345, li_1103515245, li_59, li_57, li_122, li_1023, li_1000000, li_52, li_51, li_50, li_47, li_46, li_45, li_44, li_43, li_42, li_41, li_39, li_38, li_37, li_36, li_35, li_34, li_33, li_29, li_28, li_27, li_26, li_25, li_23, li_22, li_21, li_19, li_18, li_17, li_15, li_m8, li_m2, li_60, li_54, li_2907, li_151, li_127, oN, iI_add, iI_sub, iI_mul, iI_neg, Int.reduceAdd, Int.reduceSub, Int.reduceMul, Int.reduceNeg, Int.toNat_natCast, Int.reduceToNat, iI_lt, iI_le, iI_eq, iI_cl, true_or, or_true, false_or, or_false, true_and, and_true, not_true_eq_false, not_false_eq_true]; first | done | omega)) only [↓if_pos, ↓if_neg, Option.bind_some, Option.toList_some, Option.toList_none, List.cons_append, List.nil_append, l_0, l_1, l_m1, l_2, l_3, l_4, l_5, l_6, l_7, l_8, l_9, l_10, l_16, l_20, l_40, l_48, l_99, l_200, l_999, l_9999, li_73, li_78, li_m1000000, li_90, li_251, li_400, li_2400, li_91, li_153, li_173, li_96, li_32, li_92, li_12, li_93, li_80, li_14, li_1000000000, li_30, li_11, li_24, li_13, li_97, li_64, li_1600, li_49, li_255, li_2147483647, li_12345, li_1103515245, li_59, li_57, li_122, li_1023, li_1000000, li_52, li_51, li_50, li_47, li_46, li_45, li_44, li_43, li_42, li_41, li_39, li_38, li_37, li_36, li_35, li_34, li_33, li_29, li_28, li_27, li_26, li_25, li_23, li_22, li_21, li_19, li_18, li_17, li_15, li_m8, li_m2, li_60, li_54, li_2907, li_151, li_127, oN, iI_add, iI_sub, iI_mul, iI_neg, Int.reduceAdd, Int.reduceSub, Int.reduceMul, Int.reduceNeg, Int.toNat_natCast, Int.reduceToNat, iI_cl, iI_div, em_]
        · refine fin (-1) (by unfold dAt; rw [if_neg q1, if_pos q2, if_pos rfl, if_neg q4]) ?_
          rw [sg_45_e0 (hb1 := by omega), ct]; simp (disch := first | omega | assumption | exact cat_n | exact cat_i _ | exact cat_r _ | (simp (disch := omega) only [l_0, l_1, l_m1, l_2, l_3, l_4, l_5, l_6, l_7, l_8, l_9, l_10, l_16, l_20, l_40, l_48, l_99, l_200, l_999, l_9999, li_73, li_78, li_m1000000, li_90, li_251, li_400, li_2400, li_91, li_153, li_173, li_96, li_32, li_92, li_12, li_93, li_80, li_14, li_1000000000, li_30, li_11, li_24, li_13, li_97, li_64, li_1600, li_49, li_255, li_2147483647, li_12345, li_1103515245, li_59, li_57, li_122, li_1023, li_1000000, li_52, li_51, li_50, li_47, li_46, li_45, li_44, li_43, li_42, li_41, li_39, li_38, li_37, li_36, li_35, li_34, li_33, li_29, li_28, li_27, li_26, li_25, li_23, li_22, li_21, li_19, li_18, li_17, li_15, li_m8, li_m2, li_60, li_54, li_2907, li_151, li_127, oN, iI_add, iI_sub, iI_mul, iI_neg, Int.reduceAdd, Int.reduceSub, Int.reduceMul, Int.reduceNeg, Int.toNat_natCast, Int.reduceToNat, iI_lt, iI_le, iI_eq, iI_cl, true_or, or_true, false_or, or_false, true_and, and_true, not_true_eq_false, not_false_eq_true]; first | done | omega)) only [↓if_pos, ↓if_neg, Option.bind_some, Option.toList_some, Option.toList_none, List.cons_append, List.nil_append, l_0, l_1, l_m1, l_2, l_3, l_4, l_5, l_6, l_7, l_8, l_9, l_10, l_16, l_20, l_40, l_48, l_99, l_200, l_999, l_9999, li_73, li_78, li_m1000000, li_90, li_251, li_400, li_2400, li_91, li_153, li_173, li_96, li_32, li_92, li_12, li_93, li_80, li_14, li_1000000000, li_30, li_11, li_24, li_13, li_97, li_64, li_1600, li_49, li_255, li_2147483647, li_12345, li_1103515245, li_59, li_57, li_122, li_1023, li_1000000, li_52, li_51, li_50, li_47, li_46, li_45, li_44, li_43, li_42, li_41, li_39, li_38, li_37, li_36, li_35, li_34, li_33, li_29, li_28, li_27, li_26, li_25, li_23, li_22, li_21, li_19, li_18, li_17, li_15, li_m8, li_m2, li_60, li_54, li_2907, li_151, li_127, oN, iI_add, iI_sub, iI_mul, iI_neg, Int.reduceAdd, Int.reduceSub, Int.reduceMul, Int.reduceNeg, Int.toNat_natCast, Int.reduceToNat, iI_cl, iI_div, em_]
      · refine fin (-1) (by unfold dAt; rw [if_neg q1, if_pos q2, if_neg (by omega)]) ?_
        rw [sg_45_e0 (hb1 := by omega), ct]; simp (disch := first | omega | assumption | exact cat_n | exact cat_i _ | exact cat_r _ | (simp (disch := omega) only [l_0, l_1, l_m1, l_2, l_3, l_4, l_5, l_6, l_7, l_8, l_9, l_10, l_16, l_20, l_40, l_48, l_99, l_200, l_999, l_9999, li_73, li_78, li_m1000000, li_90, li_251, li_400, li_2400, li_91, li_153, li_173, li_96, li_32, li_92, li_12, li_93, li_80, li_14, li_1000000000, li_30, li_11, li_24, li_13, li_97, li_64, li_1600, li_49, li_255, li_2147483647, li_12345, li_1103515245, li_59, li_57, li_122, li_1023, li_1000000, li_52, li_51, li_50, li_47, li_46, li_45, li_44, li_43, li_42, li_41, li_39, li_38, li_37, li_36, li_35, li_34, li_33, li_29, li_28, li_27, li_26, li_25, li_23, li_22, li_21, li_19, li_18, li_17, li_15, li_m8, li_m2, li_60, li_54, li_2907, li_151, li_127, oN, iI_add, iI_sub, iI_mul, iI_neg, Int.reduceAdd, Int.reduceSub, Int.reduceMul, Int.reduceNeg, Int.toNat_natCast, Int.reduceToNat, iI_lt, iI_le, iI_eq, iI_cl, true_or, or_true, false_or, or_false, true_and, and_true, not_true_eq_false, not_false_eq_true]; first | done | omega)) only [↓if_pos, ↓if_neg, Option.bind_some, Option.toList_some, Option.toList_none, List.cons_append, List.nil_append, l_0, l_1, l_m1, l_2, l_3, l_4, l_5, l_6, l_7, l_8, l_9, l_10, l_16, l_20, l_40, l_48, l_99, l_200, l_999, l_9999, li_73, li_78, li_m1000000, li_90, li_251, li_400, li_2400, li_91, li_153, li_173, li_96, li_32, li_92, li_12, li_93, li_80, li_14, li_1000000000, li_30, li_11, li_24, li_13, li_97, li_64, li_1600, li_49, li_255, li_2147483647, li_12345, li_1103515245, li_59, li_57, li_122, li_1023, li_1000000, li_52, li_51, li_50, li_47, li_46, li_45, li_44, li_43, li_42, li_41, li_39, li_38, li_37, li_36, li_35, li_34, li_33, li_29, li_28, li_27, li_26, li_25, li_23, li_22, li_21, li_19, li_18, li_17, li_15, li_m8, li_m2, li_60, li_54, li_2907, li_151, li_127, oN, iI_add, iI_sub, iI_mul, iI_neg, Int.reduceAdd, Int.reduceSub, Int.reduceMul, Int.reduceNeg, Int.toNat_natCast, Int.reduceToNat, iI_cl]
    · rcases (by omega : w = 0 ∨ w = 1) with rfl | rfl
      · by_cases q4 : c % 3 = 0
        · refine fin (c / 3) (by unfold dAt; rw [if_neg q1, if_neg q2, if_pos rfl, if_pos q4]) ?_
          rw [sg_45_e0 (hb1 := by omega), ct]; simp (disch := first | omega | assumption | exact cat_n | exact cat_i _ | exact cat_r _ | (simp (disch := omega) only [l_0, l_1, l_m1, l_2, l_3, l_4, l_5, l_6, l_7, l_8, l_9, l_10, l_16, l_20, l_40, l_48, l_99, l_200, l_999, l_9999, li_73, li_78, li_m1000000, li_90, li_251, li_400, li_2400, li_91, li_153, li_173, li_96, li_32, li_92, li_12, li_93, li_80, li_14, li_1000000000, li_30, li_11, li_24, li_13, li_97, li_64, li_1600, li_49, li_255, li_2147483647, li_12345, li_1103515245, li_59, li_57, li_122, li_1023, li_1000000, li_52, li_51, li_50, li_47, li_46, li_45, li_44, li_43, li_42, li_41, li_39, li_38, li_37, li_36, li_35, li_34, li_33, li_29, li_28, li_27, li_26, li_25, li_23, li_22, li_21, li_19, li_18, li_17, li_15, li_m8, li_m2, li_60, li_54, li_2907, li_151, li_127, oN, iI_add, iI_sub, iI_mul, iI_neg, Int.reduceAdd, Int.reduceSub, Int.reduceMul, Int.reduceNeg, Int.toNat_natCast, Int.reduceToNat, iI_lt, iI_le, iI_eq, iI_cl, true_or, or_true, false_or, or_false, true_and, and_true, not_true_eq_false, not_false_eq_true]; first | done | omega)) only [↓if_pos, ↓if_neg, Option.bind_some, Option.toList_some, Option.toList_none, List.cons_append, List.nil_append, l_0, l_1, l_m1, l_2, l_3, l_4, l_5, l_6, l_7, l_8, l_9, l_10, l_16, l_20, l_40, l_48, l_99, l_200, l_999, l_9999, li_73, li_78, li_m1000000, li_90, li_251, li_400, li_2400, li_91, li_153, li_173, li_96, li_32, li_92, li_12, li_93, li_80, li_14, li_1000000000, li_30, li_11, li_24, li_13, li_97, li_64, li_1600, li_49, li_255, li_2147483647, li_12345, li_1103515245, li_59, li_57, li_122, li_1023, li_1000000, li_52, li_51, li_50, li_47, li_46, li_45, li_44, li_43, li_42, li_41, li_39, li_38, li_37, li_36, li_35, li_34, li_33, li_29, li_28, li_27, li_26, li_25, li_23, li_22, li_21, li_19, li_18, li_17, li_15, li_m8, li_m2, li_60, li_54, li_2907, li_151, li_127, oN, iI_add, iI_sub, iI_mul, iI_neg, Int.reduceAdd, Int.reduceSub, Int.reduceMul, Int.reduceNeg, Int.toNat_natCast, Int.reduceToNat, iI_cl, iI_div, em_]
        · refine fin (-1) (by unfold dAt; rw [if_neg q1, if_neg q2, if_pos rfl, if_neg q4]) ?_
          rw [sg_45_e0 (hb1 := by omega), ct]; simp (disch := first | omega | assumption | exact cat_n | exact cat_i _ | exact cat_r _ | (simp (disch := omega) only [l_0, l_1, l_m1, l_2, l_3, l_4, l_5, l_6, l_7, l_8, l_9, l_10, l_16, l_20, l_40, l_48, l_99, l_200, l_999, l_9999, li_73, li_78, li_m1000000, li_90, li_251, li_400, li_2400, li_91, li_153, li_173, li_96, li_32, li_92, li_12, li_93, li_80, li_14, li_1000000000, li_30, li_11, li_24, li_13, li_97, li_64, li_1600, li_49, li_255, li_2147483647, li_12345, li_1103515245, li_59, li_57, li_122, li_1023, li_1000000, li_52, li_51, li_50, li_47, li_46, li_45, li_44, li_43, li_42, li_41, li_39, li_38, li_37, li_36, li_35, li_34, li_33, li_29, li_28, li_27, li_26, li_25, li_23, li_22, li_21, li_19, li_18, li_17, li_15, li_m8, li_m2, li_60, li_54, li_2907, li_151, li_127, oN, iI_add, iI_sub, iI_mul, iI_neg, Int.reduceAdd, Int.reduceSub, Int.reduceMul, Int.reduceNeg, Int.toNat_natCast, Int.reduceToNat, iI_lt, iI_le, iI_eq, iI_cl, true_or, or_true, false_or, or_false, true_and, and_true, not_true_eq_false, not_false_eq_true]; first | done | omega)) only [↓if_pos, ↓if_neg, Option.bind_some, Option.toList_some, Option.toList_none, List.cons_append, List.nil_append, l_0, l_1, l_m1, l_2, l_3, l_4, l_5, l_6, l_7, l_8, l_9, l_10, l_16, l_20, l_40, l_48, l_99, l_200, l_999, l_9999, li_73, li_78, li_m1000000, li_90, li_251, li_400, li_2400, li_91, li_153, li_173, li_96, li_32, li_92, li_12, li_93, li_80, li_14, li_1000000000, li_30, li_11, li_24, li_13, li_97, li_64, li_1600, li_49, li_255, li_2147483647, li_12345, li_1103515245, li_59, li_57, li_122, li_1023, li_1000000, li_52, li_51, li_50, li_47, li_46, li_45, li_44, li_43, li_42, li_41, li_39, li_38, li_37, li_36, li_35, li_34, li_33, li_29, li_28, li_27, li_26, li_25, li_23, li_22, li_21, li_19, li_18, li_17, li_15, li_m8, li_m2, li_60, li_54, li_2907, li_151, li_127, oN, iI_add, iI_sub, iI_mul, iI_neg, Int.reduceAdd, Int.reduceSub, Int.reduceMul, Int.reduceNeg, Int.toNat_natCast, Int.reduceToNat, iI_cl, iI_div, em_]
      · refine fin (-1) (by unfold dAt; rw [if_neg q1, if_neg q2, if_neg (by omega)]) ?_
        rw [sg_45_e0 (hb1 := by omega), ct]; simp (disch := first | omega | assumption | exact cat_n | exact cat_i _ | exact cat_r _ | (simp (disch := omega) only [l_0, l_1, l_m1, l_2, l_3, l_4, l_5, l_6, l_7, l_8, l_9, l_10, l_16, l_20, l_40, l_48, l_99, l_200, l_999, l_9999, li_73, li_78, li_m1000000, li_90, li_251, li_400, li_2400, li_91, li_153, li_173, li_96, li_32, li_92, li_12, li_93, li_80, li_14, li_1000000000, li_30, li_11, li_24, li_13, li_97, li_64, li_1600, li_49, li_255, li_2147483647, li_12345, li_1103515245, li_59, li_57, li_122, li_1023, li_1000000, li_52, li_51, li_50, li_47, li_46, li_45, li_44, li_43, li_42, li_41, li_39, li_38, li_37, li_36, li_35, li_34, li_33, li_29, li_28, li_27, li_26, li_25, li_23, li_22, li_21, li_19, li_18, li_17, li_15, li_m8, li_m2, li_60, li_54, li_2907, li_151, li_127, oN, iI_add, iI_sub, iI_mul, iI_neg, Int.reduceAdd, Int.reduceSub, Int.reduceMul, Int.reduceNeg, Int.toNat_natCast, Int.reduceToNat, iI_lt, iI_le, iI_eq, iI_cl, true_or, or_true, false_or, or_false, true_and, and_true, not_true_eq_false, not_false_eq_true]; first | done | omega)) only [↓if_pos, ↓if_neg, Option.bind_some, Option.toList_some, Option.toList_none, List.cons_append, List.nil_append, l_0, l_1, l_m1, l_2, l_3, l_4, l_5, l_6, l_7, l_8, l_9, l_10, l_16, l_20, l_40, l_48, l_99, l_200, l_999, l_9999, li_73, li_78, li_m1000000, li_90, li_251, li_400, li_2400, li_91, li_153, li_173, li_96, li_32, li_92, li_12, li_93, li_80, li_14, li_1000000000, li_30, li_11, li_24, li_13, li_97, li_64, li_1600, li_49, li_255, li_2147483647, li_12345, li_1103515245, li_59, li_57, li_122, li_1023, li_1000000, li_52, li_51, li_50, li_47, li_46, li_45, li_44, li_43, li_42, li_41, li_39, li_38, li_37, li_36, li_35, li_34, li_33, li_29, li_28, li_27, li_26, li_25, li_23, li_22, li_21, li_19, li_18, li_17, li_15, li_m8, li_m2, li_60, li_54, li_2907, li_151, li_127, oN, iI_add, iI_sub, iI_mul, iI_neg, Int.reduceAdd, Int.reduceSub, Int.reduceMul, Int.reduceNeg, Int.toNat_natCast, Int.reduceToNat, iI_cl]
end S9c
/-- none that is wanted lies ahead of cost c, body b, burn j -/
def bfr (f : Nat → Int) (c : Int) (j : Nat) (k d : Int) : Prop := ∃ j', j' < j ∧ ((j' / 2 : Nat) : Int) = k ∧ dAt f k c (j' % 2) = d
def NOb (K : Sk) (S : Nat → Prop) (ok : Nat → Int → Int → Prop) (c : Int) (b j : Nat) : Prop := ∀ (b' : Nat) (k' d' : Int), b' < kn K → S b' → ok b' k' d' → ¬ (bn_c (kf K b') k' d' < c ∨ (bn_c (kf K b') k' d' = c ∧ (b' < b ∨ (b' = b ∧ bfr (kf K b') c j k' d'))))
/-- a burn is noted -/
def nt4 (I : Nat → Nat → Int32) (x y z w : Int32) : Nat → Nat → Int32 := am_up (am_up (am_up (am_up I 103 0 x) 103 1 y) 103 2 z) 103 3 w
/-- what a search ends in -/
def SE_ (K : Sk) (S : Nat → Prop) (ok : Nat → Int → Int → Prop) (Inv : (Nat → Nat → Int32) → Prop) (J : Nat → Nat → Int64) (r : Option (Option Value × am_S)) : Prop :=
  (∃ I' : Nat → Nat → Int32, r = some (some (.int (iI 0)), am_sh I' J) ∧ Inv I' ∧ ∀ (b : Nat) (k d : Int), b < kn K → S b → ¬ ok b k d) ∨ (∃ (I1 : Nat → Nat → Int32) (b : Nat) (k d : Int), r = some (some (.int (iI 1)), am_sh (nt4 I1 (iI b) (iI k) (iI d) (iI (bn_c (kf K b) k d))) J) ∧ Inv I1 ∧ (b < kn K ∧ S b ∧ ok b k d) ∧ ∀ (b' : Nat) (k' d' : Int), b' < kn K → S b' → ok b' k' d' → lx4 (bn_c (kf K b) k d) b k d (bn_c (kf K b') k' d') b' k' d')
section S9d
variable {X : am_X} {K : Sk} {I I' : Nat → Nat → Int32} {J : Nat → Nat → Int64} {S : Nat → Prop} {ok : Nat → Int → Int → Prop} {Inv : (Nat → Nat → Int32) → Prop} {g : Int}
theorem NO_c {c : Int} (h : NOb K S ok c (kn K) 0) : NOb K S ok (c + 1) 0 0 := by
  intro b' k' d' h1 h2 h3 z
  refine h b' k' d' h1 h2 h3 ?_
  rcases z with z | ⟨-, z | ⟨-, j, hj, -⟩⟩
  · by_cases y : bn_c (kf K b') k' d' = c
    · exact Or.inr ⟨y, Or.inl h1⟩
    · exact Or.inl (by omega)
  · omega
  · omega
theorem NO_n {c : Int} {b : Nat} (hS : ¬ S b) (h : NOb K S ok c b 0) : NOb K S ok c (b + 1) 0 := by
  intro b' k' d' h1 h2 h3 z
  refine h b' k' d' h1 h2 h3 ?_
  rcases z with z | ⟨y, z | ⟨-, j, hj, -⟩⟩
  · exact Or.inl z
  · by_cases e : b' = b
    · rw [e] at h2; exact absurd h2 hS
    · exact Or.inr ⟨y, Or.inl (by omega)⟩
  · omega
theorem NO_b (hok : ∀ b k d, ok b k d → bn_k (kf K b) k d) {c : Int} {b : Nat} (h : NOb K S ok c b 12) : NOb K S ok c (b + 1) 0 := by
  intro b' k' d' h1 h2 h3 z
  refine h b' k' d' h1 h2 h3 ?_
  rcases z with z | ⟨y, z | ⟨-, j, hj, -⟩⟩
  · exact Or.inl z
  · refine Or.inr ⟨y, ?_⟩
    by_cases e : b' = b
    · refine Or.inr ⟨e, ?_⟩
      have r := bn_kr (hok b' k' d' h3)
      obtain ⟨w, w1, w2⟩ := dAt_all r y
      have := r.1
      refine ⟨2 * k'.toNat + w, by omega, by omega, ?_⟩
      rw [show (2 * k'.toNat + w) % 2 = w by omega]
      exact w2
    · exact Or.inl (by omega)
  · omega
theorem NO_j {c : Int} {b j : Nat} (h : NOb K S ok c b j) (hn : ¬ ok b ((j / 2 : Nat) : Int) (dAt (kf K b) ((j / 2 : Nat) : Int) c (j % 2))) : NOb K S ok c b (j + 1) := by
  intro b' k' d' h1 h2 h3 z
  rcases z with z | ⟨y, z | ⟨e, j', hj, e1, e2⟩⟩
  · exact h b' k' d' h1 h2 h3 (Or.inl z)
  · exact h b' k' d' h1 h2 h3 (Or.inr ⟨y, Or.inl z⟩)
  · by_cases ej : j' = j
    · subst ej
      rw [← e1, e] at e2
      rw [e, ← e1, ← e2] at h3
      exact hn h3
    · exact h b' k' d' h1 h2 h3 (Or.inr ⟨y, Or.inr ⟨e, j', by omega, e1, e2⟩⟩)
set_option maxHeartbeats 1000000 in
theorem k_148 (hI : ∀ I, Inv I → CS K I) (hok : ∀ b k d, ok b k d → bn_k (kf K b) k d) (hR : ∀ (I : Nat → Nat → Int32) (b : Nat) (k d : Int), Inv I → b < kn K → S b → 0 ≤ k → k ≤ 5 → 1 ≤ d → d ≤ 200 → ∃ I' : Nat → Nat → Int32, am_do X 150 [.ref 96, .int (iI b), .int (iI k), .int (iI d), .int (iI g)] (am_sh I J) = some (some (.int (bI (ok b k d))), am_sh I' J) ∧ Inv I') (hi : Inv I) : SE_ K S ok Inv J (am_do X 148 [.ref 96, .int (st S (kn K)), .int (iI g)] (am_sh I J)) := by
  have hk := K_n (CS_k (hI I hi))
  have hK := CS_k (hI I hi)
  by_cases qz : st S (kn K) = iI 0
  · refine Or.inl ⟨I, ?_, hi, fun b k d hb hS => absurd hS ((st_zi (by omega)).mp qz b hb)⟩
    rw [qz, cl_148, sg_148_e0]
    simp (disch := first | omega | assumption | exact cat_n | exact cat_i _ | exact cat_r _ | (simp (disch := omega) only [l_0, l_1, l_m1, l_2, l_3, l_4, l_5, l_6, l_7, l_8, l_9, l_10, l_16, l_20, l_40, l_48, l_99, l_200, l_999, l_9999, li_73, li_78, li_m1000000, li_90, li_251, li_400, li_2400, li_91, li_153, li_173, li_96, li_32, li_92, li_12, li_93, li_80, li_14, li_1000000000, li_30, li_11, li_24, li_13, li_97, li_64, li_1600, li_49, li_255, li_2147483647, li_12345, li_1103515245, li_59, li_57, li_122, li_1023, li_1000000, li_52, li_51, li_50, li_47, li_46, li_45, li_44, li_43, li_42, li_41, li_39, li_38, li_37, li_36, li_35, li_34, li_33, li_29, li_28, li_27, li_26, li_25, li_23, li_22, li_21, li_19, li_18, li_17, li_15, li_m8, li_m2, li_60, li_54, li_2907, li_151, li_127, oN, iI_add, iI_sub, iI_mul, iI_neg, Int.reduceAdd, Int.reduceSub, Int.reduceMul, Int.reduceNeg, Int.toNat_natCast, Int.reduceToNat, iI_lt, iI_le, iI_eq, iI_cl, true_or, or_true, false_or, or_false, true_and, and_true, not_true_eq_false, not_false_eq_true]; first | done | omega)) only [↓if_pos, ↓if_neg, Option.bind_some, Option.toList_some, Option.toList_none, List.cons_append, List.nil_append, l_0, l_1, l_m1, l_2, l_3, l_4, l_5, l_6, l_7, l_8, l_9, l_10, l_16, l_20, l_40, l_48, l_99, l_200, l_999, l_9999, li_73, li_78, li_m1000000, li_90, li_251, li_400, li_2400, li_91, li_153, li_173, li_96, li_32, li_92, li_12, li_93, li_80, li_14, li_1000000000, li_30, li_11, li_24, li_13, li_97, li_64, li_1600, li_49, li_255, li_2147483647, li_12345, li_1103515245, li_59, li_57, li_122, li_1023, li_1000000, li_52, li_51, li_50, li_47, li_46, li_45, li_44, li_43, li_42, li_41, li_39, li_38, li_37, li_36, li_35, li_34, li_33, li_29, li_28, li_27, li_26, li_25, li_23, li_22, li_21, li_19, li_18, li_17, li_15, li_m8, li_m2, li_60, li_54, li_2907, li_151, li_127, oN, iI_add, iI_sub, iI_mul, iI_neg, Int.reduceAdd, Int.reduceSub, Int.reduceMul, Int.reduceNeg, Int.toNat_natCast, Int.reduceToNat, iI_cl]
    rw [sg_148_2 (hw4 := cat_n) (hw5 := cat_n) (hw6 := cat_n) (hw7 := cat_n)]
    simp (disch := first | omega | assumption | exact cat_n | exact cat_i _ | exact cat_r _ | (simp (disch := omega) only [l_0, l_1, l_m1, l_2, l_3, l_4, l_5, l_6, l_7, l_8, l_9, l_10, l_16, l_20, l_40, l_48, l_99, l_200, l_999, l_9999, li_73, li_78, li_m1000000, li_90, li_251, li_400, li_2400, li_91, li_153, li_173, li_96, li_32, li_92, li_12, li_93, li_80, li_14, li_1000000000, li_30, li_11, li_24, li_13, li_97, li_64, li_1600, li_49, li_255, li_2147483647, li_12345, li_1103515245, li_59, li_57, li_122, li_1023, li_1000000, li_52, li_51, li_50, li_47, li_46, li_45, li_44, li_43, li_42, li_41, li_39, li_38, li_37, li_36, li_35, li_34, li_33, li_29, li_28, li_27, li_26, li_25, li_23, li_22, li_21, li_19, li_18, li_17, li_15, li_m8, li_m2, li_60, li_54, li_2907, li_151, li_127, oN, iI_add, iI_sub, iI_mul, iI_neg, Int.reduceAdd, Int.reduceSub, Int.reduceMul, Int.reduceNeg, Int.toNat_natCast, Int.reduceToNat, iI_lt, iI_le, iI_eq, iI_cl, true_or, or_true, false_or, or_false, true_and, and_true, not_true_eq_false, not_false_eq_true]; first | done | omega)) only [↓if_pos, ↓if_neg, Option.bind_some, Option.toList_some, Option.toList_none, List.cons_append, List.nil_append, l_0, l_1, l_m1, l_2, l_3, l_4, l_5, l_6, l_7, l_8, l_9, l_10, l_16, l_20, l_40, l_48, l_99, l_200, l_999, l_9999, li_73, li_78, li_m1000000, li_90, li_251, li_400, li_2400, li_91, li_153, li_173, li_96, li_32, li_92, li_12, li_93, li_80, li_14, li_1000000000, li_30, li_11, li_24, li_13, li_97, li_64, li_1600, li_49, li_255, li_2147483647, li_12345, li_1103515245, li_59, li_57, li_122, li_1023, li_1000000, li_52, li_51, li_50, li_47, li_46, li_45, li_44, li_43, li_42, li_41, li_39, li_38, li_37, li_36, li_35, li_34, li_33, li_29, li_28, li_27, li_26, li_25, li_23, li_22, li_21, li_19, li_18, li_17, li_15, li_m8, li_m2, li_60, li_54, li_2907, li_151, li_127, oN, iI_add, iI_sub, iI_mul, iI_neg, Int.reduceAdd, Int.reduceSub, Int.reduceMul, Int.reduceNeg, Int.toNat_natCast, Int.reduceToNat, iI_cl]
  -- the burns of a body
  have B1 : ∀ (c : Int) (b : Nat) (I1 : Nat → Nat → Int32) (w7 : Value), 1 ≤ c → c ≤ 99 → b < kn K → S b → Inv I1 → w7.category = 1 → NOb K S ok c b 0 → SE_ K S ok Inv J (am_ev X amP_148 27 [.ref 96, .int (st S (kn K)), .int (iI g), .int (iI c), .int (iI b), .int (iI 12), .int (iI (0 : Nat)), w7] [] (am_sh I1 J)) ∨ ∃ (I2 : Nat → Nat → Int32) (w7' : Value), am_ev X amP_148 27 [.ref 96, .int (st S (kn K)), .int (iI g), .int (iI c), .int (iI b), .int (iI 12), .int (iI (0 : Nat)), w7] [] (am_sh I1 J) = am_ev X amP_148 9 [.ref 96, .int (st S (kn K)), .int (iI g), .int (iI c), .int (iI ((b : Int) + 1)), .int (iI 12), .int (iI 12), w7'] [] (am_sh I2 J) ∧ Inv I2 ∧ w7'.category = 1 ∧ NOb K S ok c (b + 1) 0 := by
    intro c b I1 w7 c1 c2 hb hS h1 hw7 hno
    refine Lp1 (n := 12) (G := fun j (s : (Nat → Nat → Int32) × Value) => am_ev X amP_148 27 [.ref 96, .int (st S (kn K)), .int (iI g), .int (iI c), .int (iI b), .int (iI 12), .int (iI j), s.2] [] (am_sh s.1 J)) (Iv := fun j s => Inv s.1 ∧ s.2.category = 1 ∧ NOb K S ok c b j) (P := fun r => SE_ K S ok Inv J r ∨ ∃ (I2 : Nat → Nat → Int32) (w7' : Value), r = am_ev X amP_148 9 [.ref 96, .int (st S (kn K)), .int (iI g), .int (iI c), .int (iI ((b : Int) + 1)), .int (iI 12), .int (iI 12), w7'] [] (am_sh I2 J) ∧ Inv I2 ∧ w7'.category = 1 ∧ NOb K S ok c (b + 1) 0) (by
      rintro j ⟨I2, w⟩ hj ⟨h2, hw, no⟩
      try dsimp only at h2 hw
      have hc2 := hI I2 h2
      have e45 := k_45 (X := X) (J := J) hc2 hb (k := ((j / 2 : Nat) : Int)) (c := c) (by omega) (by omega) c1 c2 (w := j % 2) (Nat.mod_lt _ (by omega))
      have dr := dAt_rg (f := kf K b) (k := ((j / 2 : Nat) : Int)) (w := j % 2) (K_f hK hb) c1 c2
      have dc := dAt_c (f := kf K b) (k := ((j / 2 : Nat) : Int)) (w := j % 2) c1 rfl
      have n1 : (j : Int) / 2 = ((j / 2 : Nat) : Int) := by omega
      have n2 : (j : Int) - ((j / 2 : Nat) : Int) * 2 = ((j % 2 : Nat) : Int) := by omega
      have noj := NO_j (b := b) no
      have step : am_ev X amP_148 27 [.ref 96, .int (st S (kn K)), .int (iI g), .int (iI c), .int (iI b), .int (iI 12), .int (iI j), w] [] (am_sh I2 J) = am_ev X amP_148 43 [.ref 96, .int (st S (kn K)), .int (iI g), .int (iI c), .int (iI b), .int (iI 12), .int (iI j), w] [.int (iI (dAt (kf K b) ((j / 2 : Nat) : Int) c (j % 2)))] (am_sh I2 J) := by
        rw [sg_148_27 (hw7 := hw)]
        simp (disch := first | omega | assumption | exact cat_n | exact cat_i _ | exact cat_r _ | (simp (disch := omega) only [l_0, l_1, l_m1, l_2, l_3, l_4, l_5, l_6, l_7, l_8, l_9, l_10, l_16, l_20, l_40, l_48, l_99, l_200, l_999, l_9999, li_73, li_78, li_m1000000, li_90, li_251, li_400, li_2400, li_91, li_153, li_173, li_96, li_32, li_92, li_12, li_93, li_80, li_14, li_1000000000, li_30, li_11, li_24, li_13, li_97, li_64, li_1600, li_49, li_255, li_2147483647, li_12345, li_1103515245, li_59, li_57, li_122, li_1023, li_1000000, li_52, li_51, li_50, li_47, li_46, li_45, li_44, li_43, li_42, li_41, li_39, li_38, li_37, li_36, li_35, li_34, li_33, li_29, li_28, li_27, li_26, li_25, li_23, li_22, li_21, li_19, li_18, li_17, li_15, li_m8, li_m2, li_60, li_54, li_2907, li_151, li_127, oN, iI_add, iI_sub, iI_mul, iI_neg, Int.reduceAdd, Int.reduceSub, Int.reduceMul, Int.reduceNeg, Int.toNat_natCast, Int.reduceToNat, iI_lt, iI_le, iI_eq, iI_cl, true_or, or_true, false_or, or_false, true_and, and_true, not_true_eq_false, not_false_eq_true]; first | done | omega)) only [↓if_pos, ↓if_neg, Option.bind_some, Option.toList_some, Option.toList_none, List.cons_append, List.nil_append, l_0, l_1, l_m1, l_2, l_3, l_4, l_5, l_6, l_7, l_8, l_9, l_10, l_16, l_20, l_40, l_48, l_99, l_200, l_999, l_9999, li_73, li_78, li_m1000000, li_90, li_251, li_400, li_2400, li_91, li_153, li_173, li_96, li_32, li_92, li_12, li_93, li_80, li_14, li_1000000000, li_30, li_11, li_24, li_13, li_97, li_64, li_1600, li_49, li_255, li_2147483647, li_12345, li_1103515245, li_59, li_57, li_122, li_1023, li_1000000, li_52, li_51, li_50, li_47, li_46, li_45, li_44, li_43, li_42, li_41, li_39, li_38, li_37, li_36, li_35, li_34, li_33, li_29, li_28, li_27, li_26, li_25, li_23, li_22, li_21, li_19, li_18, li_17, li_15, li_m8, li_m2, li_60, li_54, li_2907, li_151, li_127, oN, iI_add, iI_sub, iI_mul, iI_neg, Int.reduceAdd, Int.reduceSub, Int.reduceMul, Int.reduceNeg, Int.toNat_natCast, Int.reduceToNat, iI_cl, iI_div, n1, n2, e45]
      generalize hd : dAt (kf K b) ((j / 2 : Nat) : Int) c (j % 2) = d at *
      generalize hkk : ((j / 2 : Nat) : Int) = k at *
      have kr : 0 ≤ k ∧ k ≤ 5 := by omega
      by_cases qd : d = -1
      · right
        refine ⟨(I2, .int (iI d)), ⟨h2, rfl, noj (fun z => ?_)⟩, ?_⟩
        · have := (bn_kr (hok _ _ _ z)).2.1
          omega
        · try dsimp only
          rw [cS, step, sg_148_43 (hw7 := hw)]
          simp (disch := first | omega | assumption | exact cat_n | exact cat_i _ | exact cat_r _ | (simp (disch := omega) only [l_0, l_1, l_m1, l_2, l_3, l_4, l_5, l_6, l_7, l_8, l_9, l_10, l_16, l_20, l_40, l_48, l_99, l_200, l_999, l_9999, li_73, li_78, li_m1000000, li_90, li_251, li_400, li_2400, li_91, li_153, li_173, li_96, li_32, li_92, li_12, li_93, li_80, li_14, li_1000000000, li_30, li_11, li_24, li_13, li_97, li_64, li_1600, li_49, li_255, li_2147483647, li_12345, li_1103515245, li_59, li_57, li_122, li_1023, li_1000000, li_52, li_51, li_50, li_47, li_46, li_45, li_44, li_43, li_42, li_41, li_39, li_38, li_37, li_36, li_35, li_34, li_33, li_29, li_28, li_27, li_26, li_25, li_23, li_22, li_21, li_19, li_18, li_17, li_15, li_m8, li_m2, li_60, li_54, li_2907, li_151, li_127, oN, iI_add, iI_sub, iI_mul, iI_neg, Int.reduceAdd, Int.reduceSub, Int.reduceMul, Int.reduceNeg, Int.toNat_natCast, Int.reduceToNat, iI_lt, iI_le, iI_eq, iI_cl, true_or, or_true, false_or, or_false, true_and, and_true, not_true_eq_false, not_false_eq_true]; first | done | omega)) only [↓if_pos, ↓if_neg, Option.bind_some, Option.toList_some, Option.toList_none, List.cons_append, List.nil_append, l_0, l_1, l_m1, l_2, l_3, l_4, l_5, l_6, l_7, l_8, l_9, l_10, l_16, l_20, l_40, l_48, l_99, l_200, l_999, l_9999, li_73, li_78, li_m1000000, li_90, li_251, li_400, li_2400, li_91, li_153, li_173, li_96, li_32, li_92, li_12, li_93, li_80, li_14, li_1000000000, li_30, li_11, li_24, li_13, li_97, li_64, li_1600, li_49, li_255, li_2147483647, li_12345, li_1103515245, li_59, li_57, li_122, li_1023, li_1000000, li_52, li_51, li_50, li_47, li_46, li_45, li_44, li_43, li_42, li_41, li_39, li_38, li_37, li_36, li_35, li_34, li_33, li_29, li_28, li_27, li_26, li_25, li_23, li_22, li_21, li_19, li_18, li_17, li_15, li_m8, li_m2, li_60, li_54, li_2907, li_151, li_127, oN, iI_add, iI_sub, iI_mul, iI_neg, Int.reduceAdd, Int.reduceSub, Int.reduceMul, Int.reduceNeg, Int.toNat_natCast, Int.reduceToNat, iI_cl]
      · have d1 := (dc qd).2
        obtain ⟨I3, p3, h3⟩ := hR I2 b k d h2 hb hS kr.1 kr.2 d1 (by omega)
        by_cases qo : ok b k d
        · left
          left
          right
          rw [bI_t qo] at p3
          have ecost := (dc qd).1
          refine ⟨I3, b, k, d, ?_, h3, ⟨hb, hS, qo⟩, fun b' k' d' hb' hS' ho' => ?_⟩
          · try dsimp only
            rw [step, sg_148_43 (hw7 := hw), ecost]
            simp (disch := first | omega | assumption | exact cat_n | exact cat_i _ | exact cat_r _ | (simp (disch := omega) only [l_0, l_1, l_m1, l_2, l_3, l_4, l_5, l_6, l_7, l_8, l_9, l_10, l_16, l_20, l_40, l_48, l_99, l_200, l_999, l_9999, li_73, li_78, li_m1000000, li_90, li_251, li_400, li_2400, li_91, li_153, li_173, li_96, li_32, li_92, li_12, li_93, li_80, li_14, li_1000000000, li_30, li_11, li_24, li_13, li_97, li_64, li_1600, li_49, li_255, li_2147483647, li_12345, li_1103515245, li_59, li_57, li_122, li_1023, li_1000000, li_52, li_51, li_50, li_47, li_46, li_45, li_44, li_43, li_42, li_41, li_39, li_38, li_37, li_36, li_35, li_34, li_33, li_29, li_28, li_27, li_26, li_25, li_23, li_22, li_21, li_19, li_18, li_17, li_15, li_m8, li_m2, li_60, li_54, li_2907, li_151, li_127, oN, iI_add, iI_sub, iI_mul, iI_neg, Int.reduceAdd, Int.reduceSub, Int.reduceMul, Int.reduceNeg, Int.toNat_natCast, Int.reduceToNat, iI_lt, iI_le, iI_eq, iI_cl, true_or, or_true, false_or, or_false, true_and, and_true, not_true_eq_false, not_false_eq_true]; first | done | omega)) only [↓if_pos, ↓if_neg, Option.bind_some, Option.toList_some, Option.toList_none, List.cons_append, List.nil_append, l_0, l_1, l_m1, l_2, l_3, l_4, l_5, l_6, l_7, l_8, l_9, l_10, l_16, l_20, l_40, l_48, l_99, l_200, l_999, l_9999, li_73, li_78, li_m1000000, li_90, li_251, li_400, li_2400, li_91, li_153, li_173, li_96, li_32, li_92, li_12, li_93, li_80, li_14, li_1000000000, li_30, li_11, li_24, li_13, li_97, li_64, li_1600, li_49, li_255, li_2147483647, li_12345, li_1103515245, li_59, li_57, li_122, li_1023, li_1000000, li_52, li_51, li_50, li_47, li_46, li_45, li_44, li_43, li_42, li_41, li_39, li_38, li_37, li_36, li_35, li_34, li_33, li_29, li_28, li_27, li_26, li_25, li_23, li_22, li_21, li_19, li_18, li_17, li_15, li_m8, li_m2, li_60, li_54, li_2907, li_151, li_127, oN, iI_add, iI_sub, iI_mul, iI_neg, Int.reduceAdd, Int.reduceSub, Int.reduceMul, Int.reduceNeg, Int.toNat_natCast, Int.reduceToNat, iI_cl, iI_div, n1, p3, sg_148_55, cl_149, sg_149_e0, sg_148_64]
            rfl
          · have no' := no b' k' d' hb' hS' ho'
            rw [ecost]
            by_cases y1 : bn_c (kf K b') k' d' = c
            · refine Or.inr ⟨y1.symm, ?_⟩
              by_cases y2 : b' = b
              · refine Or.inr ⟨by omega, ?_⟩
                have r := bn_kr (hok b' k' d' ho')
                obtain ⟨w', w1, w2⟩ := dAt_all r y1
                have hjj : ¬ (2 * k'.toNat + w' < j) := fun z => no' (Or.inr ⟨y1, Or.inr ⟨y2, 2 * k'.toNat + w', z, by have := r.1; omega, by rw [show (2 * k'.toNat + w') % 2 = w' by omega]; exact w2⟩⟩)
                have kr' := r.1
                by_cases y3 : k = k'
                · refine Or.inr ⟨y3, ?_⟩
                  have hw2 : j % 2 ≤ w' := by omega
                  rw [← w2, ← hd, y2, ← y3]
                  refine dAt_le (Nat.mod_lt _ (by omega)) w1 hw2 (by rw [hd]; exact qd) ?_
                  rw [y2, ← y3] at w2
                  rw [w2]
                  have := r.2.1
                  omega
                · exact Or.inl (by omega)
              · refine Or.inl ?_
                have : ¬ b' < b := fun z => no' (Or.inr ⟨y1, Or.inl z⟩)
                omega
            · refine Or.inl ?_
              have : ¬ bn_c (kf K b') k' d' < c := fun z => no' (Or.inl z)
              omega
        · right
          rw [bI_f qo] at p3
          refine ⟨(I3, .int (iI d)), ⟨h3, rfl, noj qo⟩, ?_⟩
          try dsimp only
          rw [cS, step, sg_148_43 (hw7 := hw)]
          simp (disch := first | omega | assumption | exact cat_n | exact cat_i _ | exact cat_r _ | (simp (disch := omega) only [l_0, l_1, l_m1, l_2, l_3, l_4, l_5, l_6, l_7, l_8, l_9, l_10, l_16, l_20, l_40, l_48, l_99, l_200, l_999, l_9999, li_73, li_78, li_m1000000, li_90, li_251, li_400, li_2400, li_91, li_153, li_173, li_96, li_32, li_92, li_12, li_93, li_80, li_14, li_1000000000, li_30, li_11, li_24, li_13, li_97, li_64, li_1600, li_49, li_255, li_2147483647, li_12345, li_1103515245, li_59, li_57, li_122, li_1023, li_1000000, li_52, li_51, li_50, li_47, li_46, li_45, li_44, li_43, li_42, li_41, li_39, li_38, li_37, li_36, li_35, li_34, li_33, li_29, li_28, li_27, li_26, li_25, li_23, li_22, li_21, li_19, li_18, li_17, li_15, li_m8, li_m2, li_60, li_54, li_2907, li_151, li_127, oN, iI_add, iI_sub, iI_mul, iI_neg, Int.reduceAdd, Int.reduceSub, Int.reduceMul, Int.reduceNeg, Int.toNat_natCast, Int.reduceToNat, iI_lt, iI_le, iI_eq, iI_cl, true_or, or_true, false_or, or_false, true_and, and_true, not_true_eq_false, not_false_eq_true]; first | done | omega)) only [↓if_pos, ↓if_neg, Option.bind_some, Option.toList_some, Option.toList_none, List.cons_append, List.nil_append, l_0, l_1, l_m1, l_2, l_3, l_4, l_5, l_6, l_7, l_8, l_9, l_10, l_16, l_20, l_40, l_48, l_99, l_200, l_999, l_9999, li_73, li_78, li_m1000000, li_90, li_251, li_400, li_2400, li_91, li_153, li_173, li_96, li_32, li_92, li_12, li_93, li_80, li_14, li_1000000000, li_30, li_11, li_24, li_13, li_97, li_64, li_1600, li_49, li_255, li_2147483647, li_12345, li_1103515245, li_59, li_57, li_122, li_1023, li_1000000, li_52, li_51, li_50, li_47, li_46, li_45, li_44, li_43, li_42, li_41, li_39, li_38, li_37, li_36, li_35, li_34, li_33, li_29, li_28, li_27, li_26, li_25, li_23, li_22, li_21, li_19, li_18, li_17, li_15, li_m8, li_m2, li_60, li_54, li_2907, li_151, li_127, oN, iI_add, iI_sub, iI_mul, iI_neg, Int.reduceAdd, Int.reduceSub, Int.reduceMul, Int.reduceNeg, Int.toNat_natCast, Int.reduceToNat, iI_cl, iI_div, n1, p3, sg_148_55]) (by
      rintro ⟨I2, w⟩ ⟨h2, hw, no⟩
      try dsimp only at h2 hw
      right
      refine ⟨I2, w, ?_, h2, hw, NO_b hok no⟩
      have c12 : iI ((12 : Nat) : Int) = iI 12 := rfl
      try dsimp only
      rw [sg_148_27 (hw7 := hw)]
      simp (disch := first | omega | assumption | exact cat_n | exact cat_i _ | exact cat_r _ | (simp (disch := omega) only [l_0, l_1, l_m1, l_2, l_3, l_4, l_5, l_6, l_7, l_8, l_9, l_10, l_16, l_20, l_40, l_48, l_99, l_200, l_999, l_9999, li_73, li_78, li_m1000000, li_90, li_251, li_400, li_2400, li_91, li_153, li_173, li_96, li_32, li_92, li_12, li_93, li_80, li_14, li_1000000000, li_30, li_11, li_24, li_13, li_97, li_64, li_1600, li_49, li_255, li_2147483647, li_12345, li_1103515245, li_59, li_57, li_122, li_1023, li_1000000, li_52, li_51, li_50, li_47, li_46, li_45, li_44, li_43, li_42, li_41, li_39, li_38, li_37, li_36, li_35, li_34, li_33, li_29, li_28, li_27, li_26, li_25, li_23, li_22, li_21, li_19, li_18, li_17, li_15, li_m8, li_m2, li_60, li_54, li_2907, li_151, li_127, oN, iI_add, iI_sub, iI_mul, iI_neg, Int.reduceAdd, Int.reduceSub, Int.reduceMul, Int.reduceNeg, Int.toNat_natCast, Int.reduceToNat, iI_lt, iI_le, iI_eq, iI_cl, true_or, or_true, false_or, or_false, true_and, and_true, not_true_eq_false, not_false_eq_true]; first | done | omega)) only [↓if_pos, ↓if_neg, Option.bind_some, Option.toList_some, Option.toList_none, List.cons_append, List.nil_append, l_0, l_1, l_m1, l_2, l_3, l_4, l_5, l_6, l_7, l_8, l_9, l_10, l_16, l_20, l_40, l_48, l_99, l_200, l_999, l_9999, li_73, li_78, li_m1000000, li_90, li_251, li_400, li_2400, li_91, li_153, li_173, li_96, li_32, li_92, li_12, li_93, li_80, li_14, li_1000000000, li_30, li_11, li_24, li_13, li_97, li_64, li_1600, li_49, li_255, li_2147483647, li_12345, li_1103515245, li_59, li_57, li_122, li_1023, li_1000000, li_52, li_51, li_50, li_47, li_46, li_45, li_44, li_43, li_42, li_41, li_39, li_38, li_37, li_36, li_35, li_34, li_33, li_29, li_28, li_27, li_26, li_25, li_23, li_22, li_21, li_19, li_18, li_17, li_15, li_m8, li_m2, li_60, li_54, li_2907, li_151, li_127, oN, iI_add, iI_sub, iI_mul, iI_neg, Int.reduceAdd, Int.reduceSub, Int.reduceMul, Int.reduceNeg, Int.toNat_natCast, Int.reduceToNat, iI_cl, c12]) (I1, w7) ⟨h1, hw7, hno⟩
  -- the bodies
  have B2 : ∀ (c : Int) (I1 : Nat → Nat → Int32) (w5 w6 w7 : Value), 1 ≤ c → c ≤ 99 → Inv I1 → w5.category = 1 → w6.category = 1 → w7.category = 1 → NOb K S ok c 0 0 → SE_ K S ok Inv J (am_ev X amP_148 9 [.ref 96, .int (st S (kn K)), .int (iI g), .int (iI c), .int (iI (0 : Nat)), w5, w6, w7] [] (am_sh I1 J)) ∨ ∃ (I2 : Nat → Nat → Int32) (w4 w5' w6' w7' : Value), am_ev X amP_148 9 [.ref 96, .int (st S (kn K)), .int (iI g), .int (iI c), .int (iI (0 : Nat)), w5, w6, w7] [] (am_sh I1 J) = am_ev X amP_148 2 [.ref 96, .int (st S (kn K)), .int (iI g), .int (iI (c + 1)), w4, w5', w6', w7'] [] (am_sh I2 J) ∧ Inv I2 ∧ (w4.category = 1 ∧ w5'.category = 1 ∧ w6'.category = 1 ∧ w7'.category = 1) ∧ NOb K S ok (c + 1) 0 0 := by
    intro c I1 w5 w6 w7 c1 c2 h1 hw5 hw6 hw7 hno
    refine Lp1 (n := kn K) (G := fun b (s : (Nat → Nat → Int32) × Value × Value × Value) => am_ev X amP_148 9 [.ref 96, .int (st S (kn K)), .int (iI g), .int (iI c), .int (iI b), s.2.1, s.2.2.1, s.2.2.2] [] (am_sh s.1 J)) (Iv := fun b s => Inv s.1 ∧ (s.2.1.category = 1 ∧ s.2.2.1.category = 1 ∧ s.2.2.2.category = 1) ∧ NOb K S ok c b 0) (P := fun r => SE_ K S ok Inv J r ∨ ∃ (I2 : Nat → Nat → Int32) (w4 w5' w6' w7' : Value), r = am_ev X amP_148 2 [.ref 96, .int (st S (kn K)), .int (iI g), .int (iI (c + 1)), w4, w5', w6', w7'] [] (am_sh I2 J) ∧ Inv I2 ∧ (w4.category = 1 ∧ w5'.category = 1 ∧ w6'.category = 1 ∧ w7'.category = 1) ∧ NOb K S ok (c + 1) 0 0) (by
      rintro b ⟨I2, v5, v6, v7⟩ hb ⟨h2, ⟨hv5, hv6, hv7⟩, no⟩
      try dsimp only at h2 hv5 hv6 hv7
      have en := CS_n (hI I2 h2)
      by_cases qS : S b
      · have step : am_ev X amP_148 9 [.ref 96, .int (st S (kn K)), .int (iI g), .int (iI c), .int (iI b), v5, v6, v7] [] (am_sh I2 J) = am_ev X amP_148 27 [.ref 96, .int (st S (kn K)), .int (iI g), .int (iI c), .int (iI b), .int (iI 12), .int (iI (0 : Nat)), v7] [] (am_sh I2 J) := by
          rw [c0, sg_148_9 (hw5 := hv5) (hw6 := hv6) (hw7 := hv7), en]
          simp (disch := first | omega | assumption | exact cat_n | exact cat_i _ | exact cat_r _ | (simp (disch := omega) only [l_0, l_1, l_m1, l_2, l_3, l_4, l_5, l_6, l_7, l_8, l_9, l_10, l_16, l_20, l_40, l_48, l_99, l_200, l_999, l_9999, li_73, li_78, li_m1000000, li_90, li_251, li_400, li_2400, li_91, li_153, li_173, li_96, li_32, li_92, li_12, li_93, li_80, li_14, li_1000000000, li_30, li_11, li_24, li_13, li_97, li_64, li_1600, li_49, li_255, li_2147483647, li_12345, li_1103515245, li_59, li_57, li_122, li_1023, li_1000000, li_52, li_51, li_50, li_47, li_46, li_45, li_44, li_43, li_42, li_41, li_39, li_38, li_37, li_36, li_35, li_34, li_33, li_29, li_28, li_27, li_26, li_25, li_23, li_22, li_21, li_19, li_18, li_17, li_15, li_m8, li_m2, li_60, li_54, li_2907, li_151, li_127, oN, iI_add, iI_sub, iI_mul, iI_neg, Int.reduceAdd, Int.reduceSub, Int.reduceMul, Int.reduceNeg, Int.toNat_natCast, Int.reduceToNat, iI_lt, iI_le, iI_eq, iI_cl, true_or, or_true, false_or, or_false, true_and, and_true, not_true_eq_false, not_false_eq_true]; first | done | omega)) only [↓if_pos, ↓if_neg, Option.bind_some, Option.toList_some, Option.toList_none, List.cons_append, List.nil_append, l_0, l_1, l_m1, l_2, l_3, l_4, l_5, l_6, l_7, l_8, l_9, l_10, l_16, l_20, l_40, l_48, l_99, l_200, l_999, l_9999, li_73, li_78, li_m1000000, li_90, li_251, li_400, li_2400, li_91, li_153, li_173, li_96, li_32, li_92, li_12, li_93, li_80, li_14, li_1000000000, li_30, li_11, li_24, li_13, li_97, li_64, li_1600, li_49, li_255, li_2147483647, li_12345, li_1103515245, li_59, li_57, li_122, li_1023, li_1000000, li_52, li_51, li_50, li_47, li_46, li_45, li_44, li_43, li_42, li_41, li_39, li_38, li_37, li_36, li_35, li_34, li_33, li_29, li_28, li_27, li_26, li_25, li_23, li_22, li_21, li_19, li_18, li_17, li_15, li_m8, li_m2, li_60, li_54, li_2907, li_151, li_127, oN, iI_add, iI_sub, iI_mul, iI_neg, Int.reduceAdd, Int.reduceSub, Int.reduceMul, Int.reduceNeg, Int.toNat_natCast, Int.reduceToNat, iI_cl, st_at (p := S) (n := kn K) (k := b) (by omega) hb qS]
        rcases B1 c b I2 v7 c1 c2 hb qS h2 hv7 no with q | ⟨I3, w7', q1, q2, q3, q4⟩
        · left
          left
          try dsimp only
          rw [step]
          exact q
        · right
          refine ⟨(I3, .int (iI 12), .int (iI 12), w7'), ⟨q2, ⟨rfl, rfl, q3⟩, q4⟩, ?_⟩
          try dsimp only
          rw [cS, step, q1]
      · right
        refine ⟨(I2, .int (iI 0), .int (iI 0), v7), ⟨h2, ⟨rfl, rfl, hv7⟩, NO_n qS no⟩, ?_⟩
        try dsimp only
        rw [cS, sg_148_9 (hw5 := hv5) (hw6 := hv6) (hw7 := hv7), en]
        simp (disch := first | omega | assumption | exact cat_n | exact cat_i _ | exact cat_r _ | (simp (disch := omega) only [l_0, l_1, l_m1, l_2, l_3, l_4, l_5, l_6, l_7, l_8, l_9, l_10, l_16, l_20, l_40, l_48, l_99, l_200, l_999, l_9999, li_73, li_78, li_m1000000, li_90, li_251, li_400, li_2400, li_91, li_153, li_173, li_96, li_32, li_92, li_12, li_93, li_80, li_14, li_1000000000, li_30, li_11, li_24, li_13, li_97, li_64, li_1600, li_49, li_255, li_2147483647, li_12345, li_1103515245, li_59, li_57, li_122, li_1023, li_1000000, li_52, li_51, li_50, li_47, li_46, li_45, li_44, li_43, li_42, li_41, li_39, li_38, li_37, li_36, li_35, li_34, li_33, li_29, li_28, li_27, li_26, li_25, li_23, li_22, li_21, li_19, li_18, li_17, li_15, li_m8, li_m2, li_60, li_54, li_2907, li_151, li_127, oN, iI_add, iI_sub, iI_mul, iI_neg, Int.reduceAdd, Int.reduceSub, Int.reduceMul, Int.reduceNeg, Int.toNat_natCast, Int.reduceToNat, iI_lt, iI_le, iI_eq, iI_cl, true_or, or_true, false_or, or_false, true_and, and_true, not_true_eq_false, not_false_eq_true]; first | done | omega)) only [↓if_pos, ↓if_neg, Option.bind_some, Option.toList_some, Option.toList_none, List.cons_append, List.nil_append, l_0, l_1, l_m1, l_2, l_3, l_4, l_5, l_6, l_7, l_8, l_9, l_10, l_16, l_20, l_40, l_48, l_99, l_200, l_999, l_9999, li_73, li_78, li_m1000000, li_90, li_251, li_400, li_2400, li_91, li_153, li_173, li_96, li_32, li_92, li_12, li_93, li_80, li_14, li_1000000000, li_30, li_11, li_24, li_13, li_97, li_64, li_1600, li_49, li_255, li_2147483647, li_12345, li_1103515245, li_59, li_57, li_122, li_1023, li_1000000, li_52, li_51, li_50, li_47, li_46, li_45, li_44, li_43, li_42, li_41, li_39, li_38, li_37, li_36, li_35, li_34, li_33, li_29, li_28, li_27, li_26, li_25, li_23, li_22, li_21, li_19, li_18, li_17, li_15, li_m8, li_m2, li_60, li_54, li_2907, li_151, li_127, oN, iI_add, iI_sub, iI_mul, iI_neg, Int.reduceAdd, Int.reduceSub, Int.reduceMul, Int.reduceNeg, Int.toNat_natCast, Int.reduceToNat, iI_cl, st_no (p := S) (n := kn K) (k := b) (by omega) (by omega) (fun z => qS z.2)]
        rw [sg_148_27 (hw7 := hv7)]
        simp (disch := first | omega | assumption | exact cat_n | exact cat_i _ | exact cat_r _ | (simp (disch := omega) only [l_0, l_1, l_m1, l_2, l_3, l_4, l_5, l_6, l_7, l_8, l_9, l_10, l_16, l_20, l_40, l_48, l_99, l_200, l_999, l_9999, li_73, li_78, li_m1000000, li_90, li_251, li_400, li_2400, li_91, li_153, li_173, li_96, li_32, li_92, li_12, li_93, li_80, li_14, li_1000000000, li_30, li_11, li_24, li_13, li_97, li_64, li_1600, li_49, li_255, li_2147483647, li_12345, li_1103515245, li_59, li_57, li_122, li_1023, li_1000000, li_52, li_51, li_50, li_47, li_46, li_45, li_44, li_43, li_42, li_41, li_39, li_38, li_37, li_36, li_35, li_34, li_33, li_29, li_28, li_27, li_26, li_25, li_23, li_22, li_21, li_19, li_18, li_17, li_15, li_m8, li_m2, li_60, li_54, li_2907, li_151, li_127, oN, iI_add, iI_sub, iI_mul, iI_neg, Int.reduceAdd, Int.reduceSub, Int.reduceMul, Int.reduceNeg, Int.toNat_natCast, Int.reduceToNat, iI_lt, iI_le, iI_eq, iI_cl, true_or, or_true, false_or, or_false, true_and, and_true, not_true_eq_false, not_false_eq_true]; first | done | omega)) only [↓if_pos, ↓if_neg, Option.bind_some, Option.toList_some, Option.toList_none, List.cons_append, List.nil_append, l_0, l_1, l_m1, l_2, l_3, l_4, l_5, l_6, l_7, l_8, l_9, l_10, l_16, l_20, l_40, l_48, l_99, l_200, l_999, l_9999, li_73, li_78, li_m1000000, li_90, li_251, li_400, li_2400, li_91, li_153, li_173, li_96, li_32, li_92, li_12, li_93, li_80, li_14, li_1000000000, li_30, li_11, li_24, li_13, li_97, li_64, li_1600, li_49, li_255, li_2147483647, li_12345, li_1103515245, li_59, li_57, li_122, li_1023, li_1000000, li_52, li_51, li_50, li_47, li_46, li_45, li_44, li_43, li_42, li_41, li_39, li_38, li_37, li_36, li_35, li_34, li_33, li_29, li_28, li_27, li_26, li_25, li_23, li_22, li_21, li_19, li_18, li_17, li_15, li_m8, li_m2, li_60, li_54, li_2907, li_151, li_127, oN, iI_add, iI_sub, iI_mul, iI_neg, Int.reduceAdd, Int.reduceSub, Int.reduceMul, Int.reduceNeg, Int.toNat_natCast, Int.reduceToNat, iI_cl]) (by
      rintro ⟨I2, v5, v6, v7⟩ ⟨h2, ⟨hv5, hv6, hv7⟩, no⟩
      try dsimp only at h2 hv5 hv6 hv7
      have en := CS_n (hI I2 h2)
      right
      refine ⟨I2, .int (iI (kn K)), v5, v6, v7, ?_, h2, ⟨rfl, hv5, hv6, hv7⟩, NO_c no⟩
      try dsimp only
      rw [sg_148_9 (hw5 := hv5) (hw6 := hv6) (hw7 := hv7), en]
      simp (disch := first | omega | assumption | exact cat_n | exact cat_i _ | exact cat_r _ | (simp (disch := omega) only [l_0, l_1, l_m1, l_2, l_3, l_4, l_5, l_6, l_7, l_8, l_9, l_10, l_16, l_20, l_40, l_48, l_99, l_200, l_999, l_9999, li_73, li_78, li_m1000000, li_90, li_251, li_400, li_2400, li_91, li_153, li_173, li_96, li_32, li_92, li_12, li_93, li_80, li_14, li_1000000000, li_30, li_11, li_24, li_13, li_97, li_64, li_1600, li_49, li_255, li_2147483647, li_12345, li_1103515245, li_59, li_57, li_122, li_1023, li_1000000, li_52, li_51, li_50, li_47, li_46, li_45, li_44, li_43, li_42, li_41, li_39, li_38, li_37, li_36, li_35, li_34, li_33, li_29, li_28, li_27, li_26, li_25, li_23, li_22, li_21, li_19, li_18, li_17, li_15, li_m8, li_m2, li_60, li_54, li_2907, li_151, li_127, oN, iI_add, iI_sub, iI_mul, iI_neg, Int.reduceAdd, Int.reduceSub, Int.reduceMul, Int.reduceNeg, Int.toNat_natCast, Int.reduceToNat, iI_lt, iI_le, iI_eq, iI_cl, true_or, or_true, false_or, or_false, true_and, and_true, not_true_eq_false, not_false_eq_true]; first | done | omega)) only [↓if_pos, ↓if_neg, Option.bind_some, Option.toList_some, Option.toList_none, List.cons_append, List.nil_append, l_0, l_1, l_m1, l_2, l_3, l_4, l_5, l_6, l_7, l_8, l_9, l_10, l_16, l_20, l_40, l_48, l_99, l_200, l_999, l_9999, li_73, li_78, li_m1000000, li_90, li_251, li_400, li_2400, li_91, li_153, li_173, li_96, li_32, li_92, li_12, li_93, li_80, li_14, li_1000000000, li_30, li_11, li_24, li_13, li_97, li_64, li_1600, li_49, li_255, li_2147483647, li_12345, li_1103515245, li_59, li_57, li_122, li_1023, li_1000000, li_52, li_51, li_50, li_47, li_46, li_45, li_44, li_43, li_42, li_41, li_39, li_38, li_37, li_36, li_35, li_34, li_33, li_29, li_28, li_27, li_26, li_25, li_23, li_22, li_21, li_19, li_18, li_17, li_15, li_m8, li_m2, li_60, li_54, li_2907, li_151, li_127, oN, iI_add, iI_sub, iI_mul, iI_neg, Int.reduceAdd, Int.reduceSub, Int.reduceMul, Int.reduceNeg, Int.toNat_natCast, Int.reduceToNat, iI_cl]) (I1, w5, w6, w7) ⟨h1, ⟨hw5, hw6, hw7⟩, hno⟩
  -- the costs
  have C := Lp1 (n := 99) (G := fun i (s : (Nat → Nat → Int32) × Value × Value × Value × Value) => am_ev X amP_148 2 [.ref 96, .int (st S (kn K)), .int (iI g), .int (iI ((i : Int) + 1)), s.2.1, s.2.2.1, s.2.2.2.1, s.2.2.2.2] [] (am_sh s.1 J)) (Iv := fun i s => Inv s.1 ∧ (s.2.1.category = 1 ∧ s.2.2.1.category = 1 ∧ s.2.2.2.1.category = 1 ∧ s.2.2.2.2.category = 1) ∧ NOb K S ok ((i : Int) + 1) 0 0) (P := fun r => SE_ K S ok Inv J r) (by
    rintro i ⟨I2, v4, v5, v6, v7⟩ hi' ⟨h2, ⟨hv4, hv5, hv6, hv7⟩, no⟩
    try dsimp only at h2 hv4 hv5 hv6 hv7
    have step : am_ev X amP_148 2 [.ref 96, .int (st S (kn K)), .int (iI g), .int (iI ((i : Int) + 1)), v4, v5, v6, v7] [] (am_sh I2 J) = am_ev X amP_148 9 [.ref 96, .int (st S (kn K)), .int (iI g), .int (iI ((i : Int) + 1)), .int (iI (0 : Nat)), v5, v6, v7] [] (am_sh I2 J) := by
      rw [c0, sg_148_2 (hw4 := hv4) (hw5 := hv5) (hw6 := hv6) (hw7 := hv7)]
      simp (disch := first | omega | assumption | exact cat_n | exact cat_i _ | exact cat_r _ | (simp (disch := omega) only [l_0, l_1, l_m1, l_2, l_3, l_4, l_5, l_6, l_7, l_8, l_9, l_10, l_16, l_20, l_40, l_48, l_99, l_200, l_999, l_9999, li_73, li_78, li_m1000000, li_90, li_251, li_400, li_2400, li_91, li_153, li_173, li_96, li_32, li_92, li_12, li_93, li_80, li_14, li_1000000000, li_30, li_11, li_24, li_13, li_97, li_64, li_1600, li_49, li_255, li_2147483647, li_12345, li_1103515245, li_59, li_57, li_122, li_1023, li_1000000, li_52, li_51, li_50, li_47, li_46, li_45, li_44, li_43, li_42, li_41, li_39, li_38, li_37, li_36, li_35, li_34, li_33, li_29, li_28, li_27, li_26, li_25, li_23, li_22, li_21, li_19, li_18, li_17, li_15, li_m8, li_m2, li_60, li_54, li_2907, li_151, li_127, oN, iI_add, iI_sub, iI_mul, iI_neg, Int.reduceAdd, Int.reduceSub, Int.reduceMul, Int.reduceNeg, Int.toNat_natCast, Int.reduceToNat, iI_lt, iI_le, iI_eq, iI_cl, true_or, or_true, false_or, or_false, true_and, and_true, not_true_eq_false, not_false_eq_true]; first | done | omega)) only [↓if_pos, ↓if_neg, Option.bind_some, Option.toList_some, Option.toList_none, List.cons_append, List.nil_append, l_0, l_1, l_m1, l_2, l_3, l_4, l_5, l_6, l_7, l_8, l_9, l_10, l_16, l_20, l_40, l_48, l_99, l_200, l_999, l_9999, li_73, li_78, li_m1000000, li_90, li_251, li_400, li_2400, li_91, li_153, li_173, li_96, li_32, li_92, li_12, li_93, li_80, li_14, li_1000000000, li_30, li_11, li_24, li_13, li_97, li_64, li_1600, li_49, li_255, li_2147483647, li_12345, li_1103515245, li_59, li_57, li_122, li_1023, li_1000000, li_52, li_51, li_50, li_47, li_46, li_45, li_44, li_43, li_42, li_41, li_39, li_38, li_37, li_36, li_35, li_34, li_33, li_29, li_28, li_27, li_26, li_25, li_23, li_22, li_21, li_19, li_18, li_17, li_15, li_m8, li_m2, li_60, li_54, li_2907, li_151, li_127, oN, iI_add, iI_sub, iI_mul, iI_neg, Int.reduceAdd, Int.reduceSub, Int.reduceMul, Int.reduceNeg, Int.toNat_natCast, Int.reduceToNat, iI_cl, qz]
    rcases B2 ((i : Int) + 1) I2 v5 v6 v7 (by omega) (by omega) h2 hv5 hv6 hv7 no with q | ⟨I3, w4, w5, w6, w7, q1, q2, q3, q4⟩
    · left
      try dsimp only
      rw [step]
      exact q
    · right
      refine ⟨(I3, w4, w5, w6, w7), ⟨q2, q3, by rw [cS]; exact q4⟩, ?_⟩
      try dsimp only
      rw [cS, step, q1]) (by
    rintro ⟨I2, v4, v5, v6, v7⟩ ⟨h2, ⟨hv4, hv5, hv6, hv7⟩, no⟩
    try dsimp only at h2 hv4 hv5 hv6 hv7
    left
    refine ⟨I2, ?_, h2, fun b k d hb hS ho => no b k d hb hS ho (Or.inl ?_)⟩
    · try dsimp only
      rw [sg_148_2 (hw4 := hv4) (hw5 := hv5) (hw6 := hv6) (hw7 := hv7)]
      simp (disch := first | omega | assumption | exact cat_n | exact cat_i _ | exact cat_r _ | (simp (disch := omega) only [l_0, l_1, l_m1, l_2, l_3, l_4, l_5, l_6, l_7, l_8, l_9, l_10, l_16, l_20, l_40, l_48, l_99, l_200, l_999, l_9999, li_73, li_78, li_m1000000, li_90, li_251, li_400, li_2400, li_91, li_153, li_173, li_96, li_32, li_92, li_12, li_93, li_80, li_14, li_1000000000, li_30, li_11, li_24, li_13, li_97, li_64, li_1600, li_49, li_255, li_2147483647, li_12345, li_1103515245, li_59, li_57, li_122, li_1023, li_1000000, li_52, li_51, li_50, li_47, li_46, li_45, li_44, li_43, li_42, li_41, li_39, li_38, li_37, li_36, li_35, li_34, li_33, li_29, li_28, li_27, li_26, li_25, li_23, li_22, li_21, li_19, li_18, li_17, li_15, li_m8, li_m2, li_60, li_54, li_2907, li_151, li_127, oN, iI_add, iI_sub, iI_mul, iI_neg, Int.reduceAdd, Int.reduceSub, Int.reduceMul, Int.reduceNeg, Int.toNat_natCast, Int.reduceToNat, iI_lt, iI_le, iI_eq, iI_cl, true_or, or_true, false_or, or_false, true_and, and_true, not_true_eq_false, not_false_eq_true]; first | done | omega)) only [↓if_pos, ↓if_neg, Option.bind_some, Option.toList_some, Option.toList_none, List.cons_append, List.nil_append, l_0, l_1, l_m1, l_2, l_3, l_4, l_5, l_6, l_7, l_8, l_9, l_10, l_16, l_20, l_40, l_48, l_99, l_200, l_999, l_9999, li_73, li_78, li_m1000000, li_90, li_251, li_400, li_2400, li_91, li_153, li_173, li_96, li_32, li_92, li_12, li_93, li_80, li_14, li_1000000000, li_30, li_11, li_24, li_13, li_97, li_64, li_1600, li_49, li_255, li_2147483647, li_12345, li_1103515245, li_59, li_57, li_122, li_1023, li_1000000, li_52, li_51, li_50, li_47, li_46, li_45, li_44, li_43, li_42, li_41, li_39, li_38, li_37, li_36, li_35, li_34, li_33, li_29, li_28, li_27, li_26, li_25, li_23, li_22, li_21, li_19, li_18, li_17, li_15, li_m8, li_m2, li_60, li_54, li_2907, li_151, li_127, oN, iI_add, iI_sub, iI_mul, iI_neg, Int.reduceAdd, Int.reduceSub, Int.reduceMul, Int.reduceNeg, Int.toNat_natCast, Int.reduceToNat, iI_cl]
    · have := (hok b k d ho).2
      have := (K_rg hK hb).2.2.2.2.2.2.1
      omega) (I, .null, .null, .null, .null) ⟨hi, ⟨rfl, rfl, rfl, rfl⟩, fun b' k' d' h1 h2 h3 z => by
      have := (bn_c_rg (K_f hK h1) (bn_kr (hok b' k' d' h3))).1
      rw [c0] at z
      rcases z with z | ⟨-, z | ⟨-, j, hj, -⟩⟩
      · omega
      · omega
      · omega⟩
  try dsimp only at C
  rw [c0, Int.zero_add] at C
  rw [cl_148, sg_148_e0]
  simp (disch := first | omega | assumption | exact cat_n | exact cat_i _ | exact cat_r _ | (simp (disch := omega) only [l_0, l_1, l_m1, l_2, l_3, l_4, l_5, l_6, l_7, l_8, l_9, l_10, l_16, l_20, l_40, l_48, l_99, l_200, l_999, l_9999, li_73, li_78, li_m1000000, li_90, li_251, li_400, li_2400, li_91, li_153, li_173, li_96, li_32, li_92, li_12, li_93, li_80, li_14, li_1000000000, li_30, li_11, li_24, li_13, li_97, li_64, li_1600, li_49, li_255, li_2147483647, li_12345, li_1103515245, li_59, li_57, li_122, li_1023, li_1000000, li_52, li_51, li_50, li_47, li_46, li_45, li_44, li_43, li_42, li_41, li_39, li_38, li_37, li_36, li_35, li_34, li_33, li_29, li_28, li_27, li_26, li_25, li_23, li_22, li_21, li_19, li_18, li_17, li_15, li_m8, li_m2, li_60, li_54, li_2907, li_151, li_127, oN, iI_add, iI_sub, iI_mul, iI_neg, Int.reduceAdd, Int.reduceSub, Int.reduceMul, Int.reduceNeg, Int.toNat_natCast, Int.reduceToNat, iI_lt, iI_le, iI_eq, iI_cl, true_or, or_true, false_or, or_false, true_and, and_true, not_true_eq_false, not_false_eq_true]; first | done | omega)) only [↓if_pos, ↓if_neg, Option.bind_some, Option.toList_some, Option.toList_none, List.cons_append, List.nil_append, l_0, l_1, l_m1, l_2, l_3, l_4, l_5, l_6, l_7, l_8, l_9, l_10, l_16, l_20, l_40, l_48, l_99, l_200, l_999, l_9999, li_73, li_78, li_m1000000, li_90, li_251, li_400, li_2400, li_91, li_153, li_173, li_96, li_32, li_92, li_12, li_93, li_80, li_14, li_1000000000, li_30, li_11, li_24, li_13, li_97, li_64, li_1600, li_49, li_255, li_2147483647, li_12345, li_1103515245, li_59, li_57, li_122, li_1023, li_1000000, li_52, li_51, li_50, li_47, li_46, li_45, li_44, li_43, li_42, li_41, li_39, li_38, li_37, li_36, li_35, li_34, li_33, li_29, li_28, li_27, li_26, li_25, li_23, li_22, li_21, li_19, li_18, li_17, li_15, li_m8, li_m2, li_60, li_54, li_2907, li_151, li_127, oN, iI_add, iI_sub, iI_mul, iI_neg, Int.reduceAdd, Int.reduceSub, Int.reduceMul, Int.reduceNeg, Int.toNat_natCast, Int.reduceToNat, iI_cl]
  exact C
end S9d
