/-! ACT undo (47) -/
section S93
variable {X : am_X} {K : Sk} {I I' : Nat → Nat → Int32} {J : Nat → Nat → Int64} {b : Nat}
/-- all is forgotten -/
theorem k_2 {v : Int} (e8 : I 16 8 = iI v) (v0 : 0 ≤ v) (v1 : v ≤ 100000) : ∃ I' : Nat → Nat → Int32, am_do X 2 [.ref 106] (am_sh I J) = some (none, am_sh I' J) ∧ I' 16 8 = iI (v + 1) ∧ (∀ k, k < 100 → I' 80 k = iI (-1) ∧ I' 84 k = iI (-1)) ∧ ∀ c k, ¬ (c = 16 ∧ k = 8) → c ≠ 80 → c ≠ 84 → I' c k = I c k := by
  have k80 : am_K 80 = (20, 100) := (am_Kc (by omega)).trans rfl
  have k84 : am_K 84 = (20, 100) := (am_Kc (by omega)).trans rfl
  obtain ⟨I2, p2, i1, i2⟩ := c_360 (X := X) (J := J) (I := am_up I 16 8 (iI (v + 1))) (a := 80) (n := 100) (by omega) k80 (by omega) (v := iI (-1))
  obtain ⟨I3, p3, j1, j2⟩ := c_360 (X := X) (J := J) (I := I2) (a := 84) (n := 100) (by omega) k84 (by omega) (v := iI (-1))
  refine ⟨I3, ?_, ?_, fun k hk => ⟨?_, j2 k hk⟩, fun c k z1 z2 z3 => ?_⟩
  · simp (disch := first | omega | assumption | exact cat_n | exact cat_i _ | exact cat_r _ | (simp (disch := omega) only [l_0, l_1, l_m1, l_2, l_3, l_4, l_5, l_6, l_7, l_8, l_9, l_10, l_16, l_20, l_40, l_48, l_99, l_200, l_999, l_9999, li_73, li_78, li_m1000000, li_90, li_251, li_400, li_2400, li_91, li_153, li_173, li_96, li_32, li_92, li_12, li_93, li_80, li_14, li_1000000000, li_30, li_11, li_24, li_13, li_97, li_64, li_1600, li_49, li_255, li_2147483647, li_12345, li_1103515245, li_59, li_57, li_122, li_1023, li_1000000, li_52, li_51, li_50, li_47, li_46, li_45, li_44, li_43, li_42, li_41, li_39, li_38, li_37, li_36, li_35, li_34, li_33, li_29, li_28, li_27, li_26, li_25, li_23, li_22, li_21, li_19, li_18, li_17, li_15, li_m8, li_m2, li_60, li_54, li_2907, li_151, li_127, oN, iI_add, iI_sub, iI_mul, iI_neg, Int.reduceAdd, Int.reduceSub, Int.reduceMul, Int.reduceNeg, Int.toNat_natCast, Int.reduceToNat, iI_lt, iI_le, iI_eq, iI_cl, true_or, or_true, false_or, or_false, true_and, and_true, not_true_eq_false, not_false_eq_true]; first | done | omega)) only [↓if_pos, ↓if_neg, Option.bind_some, Option.toList_some, Option.toList_none, List.cons_append, List.nil_append, l_0, l_1, l_m1, l_2, l_3, l_4, l_5, l_6, l_7, l_8, l_9, l_10, l_16, l_20, l_40, l_48, l_99, l_200, l_999, l_9999, li_73, li_78, li_m1000000, li_90, li_251, li_400, li_2400, li_91, li_153, li_173, li_96, li_32, li_92, li_12, li_93, li_80, li_14, li_1000000000, li_30, li_11, li_24, li_13, li_97, li_64, li_1600, li_49, li_255, li_2147483647, li_12345, li_1103515245, li_59, li_57, li_122, li_1023, li_1000000, li_52, li_51, li_50, li_47, li_46, li_45, li_44, li_43, li_42, li_41, li_39, li_38, li_37, li_36, li_35, li_34, li_33, li_29, li_28, li_27, li_26, li_25, li_23, li_22, li_21, li_19, li_18, li_17, li_15, li_m8, li_m2, li_60, li_54, li_2907, li_151, li_127, oN, iI_add, iI_sub, iI_mul, iI_neg, Int.reduceAdd, Int.reduceSub, Int.reduceMul, Int.reduceNeg, Int.toNat_natCast, Int.reduceToNat, iI_cl, cl_2, sg_2_e0, sg_2_10, sg_2_13, e8, cl_79, sg_79_e0, sg_79_4, p2, cl_49, sg_49_e0, sg_49_4, p3]
  · rw [j1 16 8 (by omega), i1 16 8 (by omega), up_at]
  · rw [j1 80 k (by omega)]; exact i2 k hk
  · rw [j1 c k z3, i1 c k z2, up_ck (by omega)]
theorem C_all (h' : CS K I') (e : ∀ k, k < 100 → I' 80 k = iI (-1) ∧ I' 84 k = iI (-1)) (g : ∀ k, k < 10 → 0 ≤ (I' 104 k).toInt ∧ (I' 104 k).toInt < 48) : rl_C I' := by
  have hk := K_n (CS_k h')
  rw [C_iff h']
  refine ⟨fun a c hac hc => Or.inl ?_, fun a c hac hc => Or.inl ?_, g⟩
  · exact (e (10 * a + c) (by omega)).2
  · exact (e (10 * a + c) (by omega)).1
theorem k_109 (en : I 16 2 = iI (kn K)) (hk : kn K ≤ 10) {a : Nat} (ha : a < 162) (ka : am_K a = (20, 173)) (a1 : 108 ≤ a) (a2 : a ≤ 127) (hok : ∀ b, b < kn K → ps_ok (sr (I a) b)) : ∃ I' : Nat → Nat → Int32, am_do X 109 [.ref 16, .ref a] (am_sh I J) = some (none, am_sh I' J) ∧ (∀ b, b < kn K → CB I' b ∧ cr I' b = sr (I a) b) ∧ (I' 16 3 = I a 90 ∧ I' 16 5 = I a 91 ∧ I' 16 6 = I a 92 ∧ ∀ j, j < 80 → I' 18 j = I a (93 + j)) ∧ ∀ c k, ¬ (c = 16 ∧ (k = 3 ∨ k = 5 ∨ k = 6)) → c ≠ 18 → ¬ (19 ≤ c ∧ c ≤ 78 ∧ ¬ ((c - 19) % 6 = 0 ∧ k = 0)) → I' c k = I c k := by
  have B := Lp1 (n := kn K) (G := fun b (I1 : Nat → Nat → Int32) => am_ev X amP_109 2 [.ref 16, .ref a, .int (iI b)] [] (am_sh I1 J)) (Iv := fun b I1 => (∀ o, o < b → CB I1 o ∧ cr I1 o = sr (I a) o) ∧ ∀ c k, ¬ (19 ≤ c ∧ c ≤ 78 ∧ ¬ ((c - 19) % 6 = 0 ∧ k = 0)) → I1 c k = I c k) (P := fun r => ∃ I' : Nat → Nat → Int32, r = some (none, am_sh I' J) ∧ (∀ b, b < kn K → CB I' b ∧ cr I' b = sr (I a) b) ∧ (I' 16 3 = I a 90 ∧ I' 16 5 = I a 91 ∧ I' 16 6 = I a 92 ∧ ∀ j, j < 80 → I' 18 j = I a (93 + j)) ∧ ∀ c k, ¬ (c = 16 ∧ (k = 3 ∨ k = 5 ∨ k = 6)) → c ≠ 18 → ¬ (19 ≤ c ∧ c ≤ 78 ∧ ¬ ((c - 19) % 6 = 0 ∧ k = 0)) → I' c k = I c k) (by
    rintro b I1 hb ⟨g1, g2⟩
    right
    have hbd := bd_eq (b := b) (by omega)
    have en1 : I1 16 2 = iI (kn K) := (g2 16 2 (by omega)).trans en
    have e9 : ((b : Int) * 9).toNat = 9 * b := by omega
    obtain ⟨I2, hI2⟩ : ∃ I2 : Nat → Nat → Int32, I2 = fun c k => if c = am_bd b + 1 then (if 0 ≤ k ∧ k < 9 then I1 a (9 * b + (k - 0)) else I1 c k) else I1 c k := ⟨_, rfl⟩
    have f2 : ∀ c k, c ≠ am_bd b + 1 → I2 c k = I1 c k := fun c k z => by rw [hI2]; show (if c = am_bd b + 1 then _ else _) = _; rw [if_neg z]
    have v2 : ∀ k, k < 9 → I2 (am_bd b + 1) k = I a (9 * b + k) := fun k hk => by
      rw [hI2]
      show (if am_bd b + 1 = am_bd b + 1 then (if 0 ≤ k ∧ k < 9 then I1 a (9 * b + (k - 0)) else _) else _) = _
      rw [if_pos rfl, if_pos (by omega), show k - 0 = k by omega]
      exact g2 a _ (by omega)
    have c2 : cr I2 b = sr (I a) b := by
      funext k
      unfold cr sr
      by_cases q : k < 9
      · rw [if_pos q, if_pos q, v2 k q]
      · rw [if_neg q, if_neg q]
    obtain ⟨I3, p3, x1, x2, x3⟩ := k_31 (X := X) (J := J) c2 (hok b hb) (by omega)
    refine ⟨I3, ⟨fun o ho => ?_, fun c k z => ?_⟩, ?_⟩
    · by_cases y : o = b
      · subst y; exact ⟨x1, x2⟩
      · have hod := bd_eq (b := o) (by omega)
        have e' : ∀ j, j ≤ 5 → ∀ k, I3 (am_bd o + j) k = I1 (am_bd o + j) k := fun j hj k => by rw [x3 _ _ (by omega) (by omega), f2 _ _ (by omega)]
        obtain ⟨y1, y2⟩ := g1 o (by omega)
        exact ⟨CB_congr e' y1, (cr_congr (e' 1 (by omega))).trans y2⟩
    · rw [x3 c k (by omega) (by omega), f2 c k (by omega)]; exact g2 c k z
    · try dsimp only
      rw [cS, sg_109_2 (X := X) (n1 := 173) (ha1 := ha) (ka1 := ka), en1]
      simp (disch := first | omega | assumption | exact cat_n | exact cat_i _ | exact cat_r _ | (simp (disch := omega) only [l_0, l_1, l_m1, l_2, l_3, l_4, l_5, l_6, l_7, l_8, l_9, l_10, l_16, l_20, l_40, l_48, l_99, l_200, l_999, l_9999, li_73, li_78, li_m1000000, li_90, li_251, li_400, li_2400, li_91, li_153, li_173, li_96, li_32, li_92, li_12, li_93, li_80, li_14, li_1000000000, li_30, li_11, li_24, li_13, li_97, li_64, li_1600, li_49, li_255, li_2147483647, li_12345, li_1103515245, li_59, li_57, li_122, li_1023, li_1000000, li_52, li_51, li_50, li_47, li_46, li_45, li_44, li_43, li_42, li_41, li_39, li_38, li_37, li_36, li_35, li_34, li_33, li_29, li_28, li_27, li_26, li_25, li_23, li_22, li_21, li_19, li_18, li_17, li_15, li_m8, li_m2, li_60, li_54, li_2907, li_151, li_127, oN, iI_add, iI_sub, iI_mul, iI_neg, Int.reduceAdd, Int.reduceSub, Int.reduceMul, Int.reduceNeg, Int.toNat_natCast, Int.reduceToNat, iI_lt, iI_le, iI_eq, iI_cl, true_or, or_true, false_or, or_false, true_and, and_true, not_true_eq_false, not_false_eq_true]; first | done | omega)) only [↓if_pos, ↓if_neg, Option.bind_some, Option.toList_some, Option.toList_none, List.cons_append, List.nil_append, l_0, l_1, l_m1, l_2, l_3, l_4, l_5, l_6, l_7, l_8, l_9, l_10, l_16, l_20, l_40, l_48, l_99, l_200, l_999, l_9999, li_73, li_78, li_m1000000, li_90, li_251, li_400, li_2400, li_91, li_153, li_173, li_96, li_32, li_92, li_12, li_93, li_80, li_14, li_1000000000, li_30, li_11, li_24, li_13, li_97, li_64, li_1600, li_49, li_255, li_2147483647, li_12345, li_1103515245, li_59, li_57, li_122, li_1023, li_1000000, li_52, li_51, li_50, li_47, li_46, li_45, li_44, li_43, li_42, li_41, li_39, li_38, li_37, li_36, li_35, li_34, li_33, li_29, li_28, li_27, li_26, li_25, li_23, li_22, li_21, li_19, li_18, li_17, li_15, li_m8, li_m2, li_60, li_54, li_2907, li_151, li_127, oN, iI_add, iI_sub, iI_mul, iI_neg, Int.reduceAdd, Int.reduceSub, Int.reduceMul, Int.reduceNeg, Int.toNat_natCast, Int.reduceToNat, iI_cl, e9]
      simp only [Int.toNat_zero, Nat.zero_add, Int.reduceToNat, ← hI2]
      rw [p3]
      show am_ev X amP_109 23 _ [] (am_sh I3 J) = _
      rw [sg_109_23 (X := X) (n1 := 173) (ha1 := ha) (ka1 := ka)]
      simp (disch := first | omega | assumption | exact cat_n | exact cat_i _ | exact cat_r _ | (simp (disch := omega) only [l_0, l_1, l_m1, l_2, l_3, l_4, l_5, l_6, l_7, l_8, l_9, l_10, l_16, l_20, l_40, l_48, l_99, l_200, l_999, l_9999, li_73, li_78, li_m1000000, li_90, li_251, li_400, li_2400, li_91, li_153, li_173, li_96, li_32, li_92, li_12, li_93, li_80, li_14, li_1000000000, li_30, li_11, li_24, li_13, li_97, li_64, li_1600, li_49, li_255, li_2147483647, li_12345, li_1103515245, li_59, li_57, li_122, li_1023, li_1000000, li_52, li_51, li_50, li_47, li_46, li_45, li_44, li_43, li_42, li_41, li_39, li_38, li_37, li_36, li_35, li_34, li_33, li_29, li_28, li_27, li_26, li_25, li_23, li_22, li_21, li_19, li_18, li_17, li_15, li_m8, li_m2, li_60, li_54, li_2907, li_151, li_127, oN, iI_add, iI_sub, iI_mul, iI_neg, Int.reduceAdd, Int.reduceSub, Int.reduceMul, Int.reduceNeg, Int.toNat_natCast, Int.reduceToNat, iI_lt, iI_le, iI_eq, iI_cl, true_or, or_true, false_or, or_false, true_and, and_true, not_true_eq_false, not_false_eq_true]; first | done | omega)) only [↓if_pos, ↓if_neg, Option.bind_some, Option.toList_some, Option.toList_none, List.cons_append, List.nil_append, l_0, l_1, l_m1, l_2, l_3, l_4, l_5, l_6, l_7, l_8, l_9, l_10, l_16, l_20, l_40, l_48, l_99, l_200, l_999, l_9999, li_73, li_78, li_m1000000, li_90, li_251, li_400, li_2400, li_91, li_153, li_173, li_96, li_32, li_92, li_12, li_93, li_80, li_14, li_1000000000, li_30, li_11, li_24, li_13, li_97, li_64, li_1600, li_49, li_255, li_2147483647, li_12345, li_1103515245, li_59, li_57, li_122, li_1023, li_1000000, li_52, li_51, li_50, li_47, li_46, li_45, li_44, li_43, li_42, li_41, li_39, li_38, li_37, li_36, li_35, li_34, li_33, li_29, li_28, li_27, li_26, li_25, li_23, li_22, li_21, li_19, li_18, li_17, li_15, li_m8, li_m2, li_60, li_54, li_2907, li_151, li_127, oN, iI_add, iI_sub, iI_mul, iI_neg, Int.reduceAdd, Int.reduceSub, Int.reduceMul, Int.reduceNeg, Int.toNat_natCast, Int.reduceToNat, iI_cl]) (by
    rintro I1 ⟨g1, g2⟩
    have en1 : I1 16 2 = iI (kn K) := (g2 16 2 (by omega)).trans en
    have ra : ∀ k, I1 a k = I a k := fun k => g2 a k (by omega)
    generalize hU : am_up (am_up (am_up I1 16 3 (I a 90)) 16 5 (I a 91)) 16 6 (I a 92) = U
    have u1 : ∀ c k, ¬ (c = 16 ∧ (k = 3 ∨ k = 5 ∨ k = 6)) → U c k = I1 c k := fun c k z => by rw [← hU, up_ck (by omega), up_ck (by omega), up_ck (by omega)]
    have u3 : U 16 3 = I a 90 := by rw [← hU, up_k (by omega), up_k (by omega), up_at]
    have u5 : U 16 5 = I a 91 := by rw [← hU, up_k (by omega), up_at]
    have u6 : U 16 6 = I a 92 := by rw [← hU, up_at]
    have f : ∀ c k, ¬ (c = 18) → (fun c k => if c = 18 then (if 0 ≤ k ∧ k < 80 then U a (93 + (k - 0)) else U c k) else U c k) c k = U c k := fun c k z => by
      show (if c = 18 then _ else _) = _
      rw [if_neg z]
    refine ⟨fun c k => if c = 18 then (if 0 ≤ k ∧ k < 80 then U a (93 + (k - 0)) else U c k) else U c k, ?_, fun b hb => ?_, ⟨?_, ?_, ?_, fun j hj => ?_⟩, fun c k z1 z2 z3 => ?_⟩
    · have v1 : ∀ v k, am_up I1 16 3 v a k = I a k := fun v k => (up_ck (by omega)).trans (ra k)
      have v2 : ∀ v w k, am_up (am_up I1 16 3 v) 16 5 w a k = I a k := fun v w k => (up_ck (by omega)).trans (v1 v k)
      try dsimp only
      rw [sg_109_2 (X := X) (n1 := 173) (ha1 := ha) (ka1 := ka), en1]
      simp (disch := first | omega | assumption | exact cat_n | exact cat_i _ | exact cat_r _ | (simp (disch := omega) only [l_0, l_1, l_m1, l_2, l_3, l_4, l_5, l_6, l_7, l_8, l_9, l_10, l_16, l_20, l_40, l_48, l_99, l_200, l_999, l_9999, li_73, li_78, li_m1000000, li_90, li_251, li_400, li_2400, li_91, li_153, li_173, li_96, li_32, li_92, li_12, li_93, li_80, li_14, li_1000000000, li_30, li_11, li_24, li_13, li_97, li_64, li_1600, li_49, li_255, li_2147483647, li_12345, li_1103515245, li_59, li_57, li_122, li_1023, li_1000000, li_52, li_51, li_50, li_47, li_46, li_45, li_44, li_43, li_42, li_41, li_39, li_38, li_37, li_36, li_35, li_34, li_33, li_29, li_28, li_27, li_26, li_25, li_23, li_22, li_21, li_19, li_18, li_17, li_15, li_m8, li_m2, li_60, li_54, li_2907, li_151, li_127, oN, iI_add, iI_sub, iI_mul, iI_neg, Int.reduceAdd, Int.reduceSub, Int.reduceMul, Int.reduceNeg, Int.toNat_natCast, Int.reduceToNat, iI_lt, iI_le, iI_eq, iI_cl, true_or, or_true, false_or, or_false, true_and, and_true, not_true_eq_false, not_false_eq_true]; first | done | omega)) only [↓if_pos, ↓if_neg, Option.bind_some, Option.toList_some, Option.toList_none, List.cons_append, List.nil_append, l_0, l_1, l_m1, l_2, l_3, l_4, l_5, l_6, l_7, l_8, l_9, l_10, l_16, l_20, l_40, l_48, l_99, l_200, l_999, l_9999, li_73, li_78, li_m1000000, li_90, li_251, li_400, li_2400, li_91, li_153, li_173, li_96, li_32, li_92, li_12, li_93, li_80, li_14, li_1000000000, li_30, li_11, li_24, li_13, li_97, li_64, li_1600, li_49, li_255, li_2147483647, li_12345, li_1103515245, li_59, li_57, li_122, li_1023, li_1000000, li_52, li_51, li_50, li_47, li_46, li_45, li_44, li_43, li_42, li_41, li_39, li_38, li_37, li_36, li_35, li_34, li_33, li_29, li_28, li_27, li_26, li_25, li_23, li_22, li_21, li_19, li_18, li_17, li_15, li_m8, li_m2, li_60, li_54, li_2907, li_151, li_127, oN, iI_add, iI_sub, iI_mul, iI_neg, Int.reduceAdd, Int.reduceSub, Int.reduceMul, Int.reduceNeg, Int.toNat_natCast, Int.reduceToNat, iI_cl, ra]
      simp only [Int.toNat_zero, Nat.zero_add, Int.reduceToNat, ra, v1, v2, hU]
    · have hbd := bd_eq (b := b) (by omega)
      obtain ⟨y1, y2⟩ := g1 b hb
      have e' : ∀ j, j ≤ 5 → ∀ k, (fun c k => if c = 18 then (if 0 ≤ k ∧ k < 80 then U a (93 + (k - 0)) else U c k) else U c k) (am_bd b + j) k = I1 (am_bd b + j) k := fun j hj k => by rw [f _ _ (by omega), u1 _ _ (by omega)]
      exact ⟨CB_congr e' y1, (cr_congr (e' 1 (by omega))).trans y2⟩
    · rw [f _ _ (by omega), u3]
    · rw [f _ _ (by omega), u5]
    · rw [f _ _ (by omega), u6]
    · show (if 18 = 18 then (if 0 ≤ j ∧ j < 80 then U a (93 + (j - 0)) else _) else _) = _
      rw [if_pos rfl, if_pos (by omega), show j - 0 = j by omega, u1 _ _ (by omega), ra]
    · rw [f c k z2, u1 c k z1]; exact g2 c k z3) I ⟨fun o ho => by omega, fun _ _ _ => rfl⟩
  obtain ⟨I', p1, p2⟩ := B
  try dsimp only at p1
  rw [c0] at p1
  refine ⟨I', ?_, p2⟩
  rw [cl_109]
  · rw [sg_109_e0 (X := X) (n1 := 173) (ha1 := ha) (ka1 := ka)]
    simp (disch := first | omega | assumption | exact cat_n | exact cat_i _ | exact cat_r _ | (simp (disch := omega) only [l_0, l_1, l_m1, l_2, l_3, l_4, l_5, l_6, l_7, l_8, l_9, l_10, l_16, l_20, l_40, l_48, l_99, l_200, l_999, l_9999, li_73, li_78, li_m1000000, li_90, li_251, li_400, li_2400, li_91, li_153, li_173, li_96, li_32, li_92, li_12, li_93, li_80, li_14, li_1000000000, li_30, li_11, li_24, li_13, li_97, li_64, li_1600, li_49, li_255, li_2147483647, li_12345, li_1103515245, li_59, li_57, li_122, li_1023, li_1000000, li_52, li_51, li_50, li_47, li_46, li_45, li_44, li_43, li_42, li_41, li_39, li_38, li_37, li_36, li_35, li_34, li_33, li_29, li_28, li_27, li_26, li_25, li_23, li_22, li_21, li_19, li_18, li_17, li_15, li_m8, li_m2, li_60, li_54, li_2907, li_151, li_127, oN, iI_add, iI_sub, iI_mul, iI_neg, Int.reduceAdd, Int.reduceSub, Int.reduceMul, Int.reduceNeg, Int.toNat_natCast, Int.reduceToNat, iI_lt, iI_le, iI_eq, iI_cl, true_or, or_true, false_or, or_false, true_and, and_true, not_true_eq_false, not_false_eq_true]; first | done | omega)) only [↓if_pos, ↓if_neg, Option.bind_some, Option.toList_some, Option.toList_none, List.cons_append, List.nil_append, l_0, l_1, l_m1, l_2, l_3, l_4, l_5, l_6, l_7, l_8, l_9, l_10, l_16, l_20, l_40, l_48, l_99, l_200, l_999, l_9999, li_73, li_78, li_m1000000, li_90, li_251, li_400, li_2400, li_91, li_153, li_173, li_96, li_32, li_92, li_12, li_93, li_80, li_14, li_1000000000, li_30, li_11, li_24, li_13, li_97, li_64, li_1600, li_49, li_255, li_2147483647, li_12345, li_1103515245, li_59, li_57, li_122, li_1023, li_1000000, li_52, li_51, li_50, li_47, li_46, li_45, li_44, li_43, li_42, li_41, li_39, li_38, li_37, li_36, li_35, li_34, li_33, li_29, li_28, li_27, li_26, li_25, li_23, li_22, li_21, li_19, li_18, li_17, li_15, li_m8, li_m2, li_60, li_54, li_2907, li_151, li_127, oN, iI_add, iI_sub, iI_mul, iI_neg, Int.reduceAdd, Int.reduceSub, Int.reduceMul, Int.reduceNeg, Int.toNat_natCast, Int.reduceToNat, iI_cl, p1]
  all_goals first | assumption | omega | exact cat_n | exact cat_i _ | exact cat_r _ | rfl
/-- the model's rows stand, its places not yet -/
def MA (K : Sk) (I : Nat → Nat → Int32) : Prop := Kok K ∧ (I 139 1 = iI (kn K) ∧ I 139 2 = iI (kz K) ∧ I 148 0 = iI (ke K) ∧ I 148 1 = iI (kt K)) ∧ ∀ b, b < kn K → mr I b = kf K b
theorem m_248 (h : MA K I) : ∃ I' : Nat → Nat → Int32, am_do X 248 [.ref 139] (am_sh I J) = some (none, am_sh I' J) ∧ MS K I' ∧ ∀ c k, c ≠ 150 → I' c k = I c k := by
  obtain ⟨hk, hcell, hr⟩ := h
  have hn := K_n hk
  have hM : ∀ I1 : Nat → Nat → Int32, (∀ c k, c ≠ 150 → I1 c k = I c k) → ∀ b, b < kn K → mr I1 b = kf K b := fun I1 f b hb => (mr_congr (fun k => f _ _ (by omega)) (fun k => f _ _ (by omega)) (fun k => f _ _ (by omega))).trans (hr b hb)
  have B := Lp1 (n := kn K) (G := fun b (I1 : Nat → Nat → Int32) => am_ev X amP_248 2 [.ref 139, .int (iI b)] [] (am_sh I1 J)) (Iv := fun b I1 => (∀ c k, c ≠ 150 → I1 c k = I c k) ∧ ∀ o, o < b → mg I1 o) (P := fun r => ∃ I' : Nat → Nat → Int32, r = some (none, am_sh I' J) ∧ MS K I' ∧ ∀ c k, c ≠ 150 → I' c k = I c k) (by
    rintro b I1 hb ⟨f1, g1⟩
    right
    have en : I1 139 1 = iI (kn K) := (f1 139 1 (by omega)).trans hcell.1
    obtain ⟨I2, p2, f2, x1, x2⟩ := n_247 (X := X) (J := J) (hM I1 f1 b hb) (K_f hk hb) (by omega)
    have f2' : ∀ c k, c ≠ 150 → I2 c k = I c k := fun c k z => (f2 c k (by omega)).trans (f1 c k z)
    refine ⟨I2, ⟨f2', fun o ho => ?_⟩, ?_⟩
    · by_cases y : o = b
      · subst y; exact x2
      · have g := g1 o (by omega)
        unfold mg at g ⊢
        rw [hM I2 f2' o (by omega)]
        rw [hM I1 f1 o (by omega)] at g
        intro t ht
        have hT := (K_rg hk (b := o) (by omega)).2.1
        rw [f2 _ _ (by omega), f2 _ _ (by omega), f2 _ _ (by omega), f2 _ _ (by omega)]
        exact g t ht
    · try dsimp only
      rw [cS, sg_248_2, en]
      simp (disch := first | omega | assumption | exact cat_n | exact cat_i _ | exact cat_r _ | (simp (disch := omega) only [l_0, l_1, l_m1, l_2, l_3, l_4, l_5, l_6, l_7, l_8, l_9, l_10, l_16, l_20, l_40, l_48, l_99, l_200, l_999, l_9999, li_73, li_78, li_m1000000, li_90, li_251, li_400, li_2400, li_91, li_153, li_173, li_96, li_32, li_92, li_12, li_93, li_80, li_14, li_1000000000, li_30, li_11, li_24, li_13, li_97, li_64, li_1600, li_49, li_255, li_2147483647, li_12345, li_1103515245, li_59, li_57, li_122, li_1023, li_1000000, li_52, li_51, li_50, li_47, li_46, li_45, li_44, li_43, li_42, li_41, li_39, li_38, li_37, li_36, li_35, li_34, li_33, li_29, li_28, li_27, li_26, li_25, li_23, li_22, li_21, li_19, li_18, li_17, li_15, li_m8, li_m2, li_60, li_54, li_2907, li_151, li_127, oN, iI_add, iI_sub, iI_mul, iI_neg, Int.reduceAdd, Int.reduceSub, Int.reduceMul, Int.reduceNeg, Int.toNat_natCast, Int.reduceToNat, iI_lt, iI_le, iI_eq, iI_cl, true_or, or_true, false_or, or_false, true_and, and_true, not_true_eq_false, not_false_eq_true]; first | done | omega)) only [↓if_pos, ↓if_neg, Option.bind_some, Option.toList_some, Option.toList_none, List.cons_append, List.nil_append, l_0, l_1, l_m1, l_2, l_3, l_4, l_5, l_6, l_7, l_8, l_9, l_10, l_16, l_20, l_40, l_48, l_99, l_200, l_999, l_9999, li_73, li_78, li_m1000000, li_90, li_251, li_400, li_2400, li_91, li_153, li_173, li_96, li_32, li_92, li_12, li_93, li_80, li_14, li_1000000000, li_30, li_11, li_24, li_13, li_97, li_64, li_1600, li_49, li_255, li_2147483647, li_12345, li_1103515245, li_59, li_57, li_122, li_1023, li_1000000, li_52, li_51, li_50, li_47, li_46, li_45, li_44, li_43, li_42, li_41, li_39, li_38, li_37, li_36, li_35, li_34, li_33, li_29, li_28, li_27, li_26, li_25, li_23, li_22, li_21, li_19, li_18, li_17, li_15, li_m8, li_m2, li_60, li_54, li_2907, li_151, li_127, oN, iI_add, iI_sub, iI_mul, iI_neg, Int.reduceAdd, Int.reduceSub, Int.reduceMul, Int.reduceNeg, Int.toNat_natCast, Int.reduceToNat, iI_cl, p2, sg_248_9]) (by
    rintro I1 ⟨f1, g1⟩
    have en : I1 139 1 = iI (kn K) := (f1 139 1 (by omega)).trans hcell.1
    refine ⟨I1, ?_, ⟨hk, ?_, fun b hb => ⟨hM I1 f1 b hb, g1 b hb⟩⟩, f1⟩
    · try dsimp only
      rw [sg_248_2, en]
      simp (disch := first | omega | assumption | exact cat_n | exact cat_i _ | exact cat_r _ | (simp (disch := omega) only [l_0, l_1, l_m1, l_2, l_3, l_4, l_5, l_6, l_7, l_8, l_9, l_10, l_16, l_20, l_40, l_48, l_99, l_200, l_999, l_9999, li_73, li_78, li_m1000000, li_90, li_251, li_400, li_2400, li_91, li_153, li_173, li_96, li_32, li_92, li_12, li_93, li_80, li_14, li_1000000000, li_30, li_11, li_24, li_13, li_97, li_64, li_1600, li_49, li_255, li_2147483647, li_12345, li_1103515245, li_59, li_57, li_122, li_1023, li_1000000, li_52, li_51, li_50, li_47, li_46, li_45, li_44, li_43, li_42, li_41, li_39, li_38, li_37, li_36, li_35, li_34, li_33, li_29, li_28, li_27, li_26, li_25, li_23, li_22, li_21, li_19, li_18, li_17, li_15, li_m8, li_m2, li_60, li_54, li_2907, li_151, li_127, oN, iI_add, iI_sub, iI_mul, iI_neg, Int.reduceAdd, Int.reduceSub, Int.reduceMul, Int.reduceNeg, Int.toNat_natCast, Int.reduceToNat, iI_lt, iI_le, iI_eq, iI_cl, true_or, or_true, false_or, or_false, true_and, and_true, not_true_eq_false, not_false_eq_true]; first | done | omega)) only [↓if_pos, ↓if_neg, Option.bind_some, Option.toList_some, Option.toList_none, List.cons_append, List.nil_append, l_0, l_1, l_m1, l_2, l_3, l_4, l_5, l_6, l_7, l_8, l_9, l_10, l_16, l_20, l_40, l_48, l_99, l_200, l_999, l_9999, li_73, li_78, li_m1000000, li_90, li_251, li_400, li_2400, li_91, li_153, li_173, li_96, li_32, li_92, li_12, li_93, li_80, li_14, li_1000000000, li_30, li_11, li_24, li_13, li_97, li_64, li_1600, li_49, li_255, li_2147483647, li_12345, li_1103515245, li_59, li_57, li_122, li_1023, li_1000000, li_52, li_51, li_50, li_47, li_46, li_45, li_44, li_43, li_42, li_41, li_39, li_38, li_37, li_36, li_35, li_34, li_33, li_29, li_28, li_27, li_26, li_25, li_23, li_22, li_21, li_19, li_18, li_17, li_15, li_m8, li_m2, li_60, li_54, li_2907, li_151, li_127, oN, iI_add, iI_sub, iI_mul, iI_neg, Int.reduceAdd, Int.reduceSub, Int.reduceMul, Int.reduceNeg, Int.toNat_natCast, Int.reduceToNat, iI_cl]
    · rw [f1 139 1 (by omega), f1 139 2 (by omega), f1 148 0 (by omega), f1 148 1 (by omega)]
      exact hcell) I ⟨fun _ _ _ => rfl, fun o ho => by omega⟩
  obtain ⟨I', p1, p2⟩ := B
  try dsimp only at p1
  rw [c0] at p1
  refine ⟨I', ?_, p2⟩
  simp (disch := first | omega | assumption | exact cat_n | exact cat_i _ | exact cat_r _ | (simp (disch := omega) only [l_0, l_1, l_m1, l_2, l_3, l_4, l_5, l_6, l_7, l_8, l_9, l_10, l_16, l_20, l_40, l_48, l_99, l_200, l_999, l_9999, li_73, li_78, li_m1000000, li_90, li_251, li_400, li_2400, li_91, li_153, li_173, li_96, li_32, li_92, li_12, li_93, li_80, li_14, li_1000000000, li_30, li_11, li_24, li_13, li_97, li_64, li_1600, li_49, li_255, li_2147483647, li_12345, li_1103515245, li_59, li_57, li_122, li_1023, li_1000000, li_52, li_51, li_50, li_47, li_46, li_45, li_44, li_43, li_42, li_41, li_39, li_38, li_37, li_36, li_35, li_34, li_33, li_29, li_28, li_27, li_26, li_25, li_23, li_22, li_21, li_19, li_18, li_17, li_15, li_m8, li_m2, li_60, li_54, li_2907, li_151, li_127, oN, iI_add, iI_sub, iI_mul, iI_neg, Int.reduceAdd, Int.reduceSub, Int.reduceMul, Int.reduceNeg, Int.toNat_natCast, Int.reduceToNat, iI_lt, iI_le, iI_eq, iI_cl, true_or, or_true, false_or, or_false, true_and, and_true, not_true_eq_false, not_false_eq_true]; first | done | omega)) only [↓if_pos, ↓if_neg, Option.bind_some, Option.toList_some, Option.toList_none, List.cons_append, List.nil_append, l_0, l_1, l_m1, l_2, l_3, l_4, l_5, l_6, l_7, l_8, l_9, l_10, l_16, l_20, l_40, l_48, l_99, l_200, l_999, l_9999, li_73, li_78, li_m1000000, li_90, li_251, li_400, li_2400, li_91, li_153, li_173, li_96, li_32, li_92, li_12, li_93, li_80, li_14, li_1000000000, li_30, li_11, li_24, li_13, li_97, li_64, li_1600, li_49, li_255, li_2147483647, li_12345, li_1103515245, li_59, li_57, li_122, li_1023, li_1000000, li_52, li_51, li_50, li_47, li_46, li_45, li_44, li_43, li_42, li_41, li_39, li_38, li_37, li_36, li_35, li_34, li_33, li_29, li_28, li_27, li_26, li_25, li_23, li_22, li_21, li_19, li_18, li_17, li_15, li_m8, li_m2, li_60, li_54, li_2907, li_151, li_127, oN, iI_add, iI_sub, iI_mul, iI_neg, Int.reduceAdd, Int.reduceSub, Int.reduceMul, Int.reduceNeg, Int.toNat_natCast, Int.reduceToNat, iI_cl, cl_248, sg_248_e0, p1]
end S93
set_option maxHeartbeats 1000000 in
/-- 47 undo -/
theorem op_47 (X : am_X) : am_Same X Rl_ 202 339 [] := by
  intro n I J hn h
  obtain ⟨hc, hm⟩ := Rl_K h
  have hk := K_n (CS_k hc)
  have hk0 := CS_k hc
  obtain ⟨r1, ⟨r2, r3⟩, ⟨r4, r5⟩, r6⟩ := R_U h
  have c208 := c_208 X I J (k := 4) (by omega)
  rw [show ((4 : Nat) : Int) = 4 from rfl, l_m1] at c208
  have c219 := c_219 X (rf1 I 4) J (k := 4) (by omega)
  rw [show ((4 : Nat) : Int) = 4 from rfl, l_0] at c219
  by_cases q : un I = 0
  · have e6 : I 106 6 = iI 0 := by rw [r2, q]; rfl
    have e24 : rf1 I 4 139 24 = iI 0 := ((rf1_ne (by omega)).trans r1).trans e6
    refine ⟨iI 0, rf1 I 4, J, rf2 (rf1 I 4) 4, J, ?_, ?_, Rl_ref (k := 4) (by omega) h⟩
    · simp (disch := first | omega | assumption | exact cat_n | exact cat_i _ | exact cat_r _ | (simp (disch := omega) only [l_0, l_1, l_m1, l_2, l_3, l_4, l_5, l_6, l_7, l_8, l_9, l_10, l_16, l_20, l_40, l_48, l_99, l_200, l_999, l_9999, li_73, li_78, li_m1000000, li_90, li_251, li_400, li_2400, li_91, li_153, li_173, li_96, li_32, li_92, li_12, li_93, li_80, li_14, li_1000000000, li_30, li_11, li_24, li_13, li_97, li_64, li_1600, li_49, li_255, li_2147483647, li_12345, li_1103515245, li_59, li_57, li_122, li_1023, li_1000000, li_52, li_51, li_50, li_47, li_46, li_45, li_44, li_43, li_42, li_41, li_39, li_38, li_37, li_36, li_35, li_34, li_33, li_29, li_28, li_27, li_26, li_25, li_23, li_22, li_21, li_19, li_18, li_17, li_15, li_m8, li_m2, li_60, li_54, li_2907, li_151, li_127, oN, iI_add, iI_sub, iI_mul, iI_neg, Int.reduceAdd, Int.reduceSub, Int.reduceMul, Int.reduceNeg, Int.toNat_natCast, Int.reduceToNat, iI_lt, iI_le, iI_eq, iI_cl, true_or, or_true, false_or, or_false, true_and, and_true, not_true_eq_false, not_false_eq_true]; first | done | omega)) only [↓if_pos, ↓if_neg, Option.bind_some, Option.toList_some, Option.toList_none, List.cons_append, List.nil_append, l_0, l_1, l_m1, l_2, l_3, l_4, l_5, l_6, l_7, l_8, l_9, l_10, l_16, l_20, l_40, l_48, l_99, l_200, l_999, l_9999, li_73, li_78, li_m1000000, li_90, li_251, li_400, li_2400, li_91, li_153, li_173, li_96, li_32, li_92, li_12, li_93, li_80, li_14, li_1000000000, li_30, li_11, li_24, li_13, li_97, li_64, li_1600, li_49, li_255, li_2147483647, li_12345, li_1103515245, li_59, li_57, li_122, li_1023, li_1000000, li_52, li_51, li_50, li_47, li_46, li_45, li_44, li_43, li_42, li_41, li_39, li_38, li_37, li_36, li_35, li_34, li_33, li_29, li_28, li_27, li_26, li_25, li_23, li_22, li_21, li_19, li_18, li_17, li_15, li_m8, li_m2, li_60, li_54, li_2907, li_151, li_127, oN, iI_add, iI_sub, iI_mul, iI_neg, Int.reduceAdd, Int.reduceSub, Int.reduceMul, Int.reduceNeg, Int.toNat_natCast, Int.reduceToNat, iI_cl, cl_202, sg_202_e0, sg_202_3, sg_202_7, cl_5, sg_5_e0, e6, c208]
    · simp (disch := first | omega | assumption | exact cat_n | exact cat_i _ | exact cat_r _ | (simp (disch := omega) only [l_0, l_1, l_m1, l_2, l_3, l_4, l_5, l_6, l_7, l_8, l_9, l_10, l_16, l_20, l_40, l_48, l_99, l_200, l_999, l_9999, li_73, li_78, li_m1000000, li_90, li_251, li_400, li_2400, li_91, li_153, li_173, li_96, li_32, li_92, li_12, li_93, li_80, li_14, li_1000000000, li_30, li_11, li_24, li_13, li_97, li_64, li_1600, li_49, li_255, li_2147483647, li_12345, li_1103515245, li_59, li_57, li_122, li_1023, li_1000000, li_52, li_51, li_50, li_47, li_46, li_45, li_44, li_43, li_42, li_41, li_39, li_38, li_37, li_36, li_35, li_34, li_33, li_29, li_28, li_27, li_26, li_25, li_23, li_22, li_21, li_19, li_18, li_17, li_15, li_m8, li_m2, li_60, li_54, li_2907, li_151, li_127, oN, iI_add, iI_sub, iI_mul, iI_neg, Int.reduceAdd, Int.reduceSub, Int.reduceMul, Int.reduceNeg, Int.toNat_natCast, Int.reduceToNat, iI_lt, iI_le, iI_eq, iI_cl, true_or, or_true, false_or, or_false, true_and, and_true, not_true_eq_false, not_false_eq_true]; first | done | omega)) only [↓if_pos, ↓if_neg, Option.bind_some, Option.toList_some, Option.toList_none, List.cons_append, List.nil_append, l_0, l_1, l_m1, l_2, l_3, l_4, l_5, l_6, l_7, l_8, l_9, l_10, l_16, l_20, l_40, l_48, l_99, l_200, l_999, l_9999, li_73, li_78, li_m1000000, li_90, li_251, li_400, li_2400, li_91, li_153, li_173, li_96, li_32, li_92, li_12, li_93, li_80, li_14, li_1000000000, li_30, li_11, li_24, li_13, li_97, li_64, li_1600, li_49, li_255, li_2147483647, li_12345, li_1103515245, li_59, li_57, li_122, li_1023, li_1000000, li_52, li_51, li_50, li_47, li_46, li_45, li_44, li_43, li_42, li_41, li_39, li_38, li_37, li_36, li_35, li_34, li_33, li_29, li_28, li_27, li_26, li_25, li_23, li_22, li_21, li_19, li_18, li_17, li_15, li_m8, li_m2, li_60, li_54, li_2907, li_151, li_127, oN, iI_add, iI_sub, iI_mul, iI_neg, Int.reduceAdd, Int.reduceSub, Int.reduceMul, Int.reduceNeg, Int.toNat_natCast, Int.reduceToNat, iI_cl, cl_339, sg_339_e0, sg_339_6, e24, c219]
  · obtain ⟨U, hU⟩ : ∃ U : Nat, un I = U + 1 := ⟨un I - 1, by omega⟩
    have t0 : I 16 1 ≠ 0 := fun z => by
      have := ((R_S h).2.2.2.2.2.2.2.2.1 z).2.2.2.2.2.1
      rw [r2, hU] at this
      have k0 : (iI ((U + 1 : Nat) : Int)).toInt = 0 := by rw [this]; rfl
      rw [to_iI (by omega) (by omega)] at k0
      omega
    have e6 : I 106 6 = iI ((U : Int) + 1) := by rw [r2, hU]; rfl
    obtain ⟨sn1, ⟨sn2, ze, ze1, ze2, ze3⟩, ⟨sn3, zt, zt1, zt2, zt3⟩, ⟨sn4, zk, zk1, zk2, zk3⟩, sn5⟩ := r6 U (by omega)
    have hs : (uo I + U) % 20 < 20 := Nat.mod_lt _ (by omega)
    generalize ha : 108 + (uo I + U) % 20 = a at *
    have sn2' : I a 90 = I 149 (153 * U + 0) := sn2
    have sn3' : I a 91 = I 149 (153 * U + 1) := sn3
    have sn4' : I a 92 = I 149 (153 * U + 2) := sn4
    -- the class
    obtain ⟨I1, hI1⟩ : ∃ I1, am_up I 106 6 (iI U) = I1 := ⟨_, rfl⟩
    have f1 : ∀ c k, ¬ (c = 106 ∧ k = 6) → I1 c k = I c k := fun c k z => by rw [← hI1, up_ck (by omega)]
    have ea : I1 a = I a := funext fun k => f1 a k (by omega)
    have ka : am_K a = (20, 173) := by rw [← ha]; exact K_20 _ hs
    obtain ⟨I2, p2, g1, ⟨g3, g5, g6, g7⟩, g8⟩ := k_109 (X := X) (K := kI I) (J := J) (I := I1) ((f1 16 2 (by omega)).trans (CS_n hc)) hk (a := a) (by omega) ka (by omega) (by omega) (fun b hb => by rw [ea]; exact (sn1 b hb).2)
    rw [ea] at g1 g3 g5 g6 g7
    obtain ⟨⟨v1, v2⟩, -, -⟩ := R_V h
    obtain ⟨v, ev⟩ : ∃ v : Int, (I 16 8).toInt = v := ⟨_, rfl⟩
    rw [ev] at v1 v2
    have e8 : I2 16 8 = iI v := ((g8 16 8 (by omega) (by omega) (by omega)).trans (f1 16 8 (by omega))).trans (iI_of ev)
    obtain ⟨I3, p3, j8, jA, jF⟩ := k_2 (X := X) (J := J) e8 (by omega) (by omega)
    have F3 : ∀ c k, ¬ (c = 16 ∧ (k = 3 ∨ k = 5 ∨ k = 6 ∨ k = 8)) → c ≠ 18 → ¬ (19 ≤ c ∧ c ≤ 78 ∧ ¬ ((c - 19) % 6 = 0 ∧ k = 0)) → c ≠ 80 → c ≠ 84 → ¬ (c = 106 ∧ k = 6) → I3 c k = I c k := fun c k z1 z2 z3 z4 z5 z6 => by rw [jF c k (by omega) z4 z5, g8 c k (by omega) z2 z3, f1 c k z6]
    obtain ⟨K', hK'⟩ : ∃ K' : Sk, K' = (kn (kI I), fun b => sr (I a) b, ze, kz (kI I), zt) := ⟨_, rfl⟩
    have kn' : kn K' = kn (kI I) := by rw [hK']; rfl
    have kf' : ∀ b, kf K' b = sr (I a) b := fun b => by rw [hK']; rfl
    have ke' : ke K' = ze := by rw [hK']; rfl
    have kz' : kz K' = kz (kI I) := by rw [hK']; rfl
    have kt' : kt K' = zt := by rw [hK']; rfl
    have Kk : Kok K' := by
      refine ⟨by rw [kn']; exact hk, fun b hb => ?_, by rw [ke']; omega, by rw [kz']; exact K_z hk0, by rw [kt']; omega⟩
      rw [kf']
      exact (sn1 b (by rw [kn'] at hb; exact hb)).2
    have c3 : CS K' I3 := by
      refine ⟨Kk, ⟨?_, ?_, ?_, ?_⟩, fun b hb => ?_⟩
      · rw [F3 _ _ (by omega) (by omega) (by omega) (by omega) (by omega) (by omega), kn']; exact CS_n hc
      · rw [jF _ _ (by omega) (by omega) (by omega), g3, ze1, ke']
      · rw [F3 _ _ (by omega) (by omega) (by omega) (by omega) (by omega) (by omega), kz']; exact CS_z hc
      · rw [jF _ _ (by omega) (by omega) (by omega), g5, zt1, kt']
      · rw [kn'] at hb
        have hbd := bd_eq (b := b) (by omega)
        have e' : ∀ j, j ≤ 5 → ∀ k, I3 (am_bd b + j) k = I2 (am_bd b + j) k := fun j hj k => jF _ _ (by omega) (by omega) (by omega)
        obtain ⟨y1, y2⟩ := g1 b hb
        rw [kf']
        exact ⟨CB_congr e' y1, (cr_congr (e' 1 (by omega))).trans y2⟩
    -- the model
    have M3 : ∀ c k, 138 ≤ c → I3 c k = I c k := fun c k z => F3 c k (by omega) (by omega) (by omega) (by omega) (by omega) (by omega)
    have e24 : I3 139 24 = iI ((U : Int) + 1) := (M3 _ _ (by omega)).trans (r1.trans e6)
    have B := Lp1 (n := 153) (G := fun i (I4 : Nat → Nat → Int32) => am_ev X amP_339 15 [.ref 139, .int (iI i)] [] (am_sh I4 J)) (Iv := fun i I4 => I4 139 24 = iI U ∧ (∀ j, j < i → I4 148 j = I 149 (153 * U + j)) ∧ ∀ c k, ¬ (c = 139 ∧ k = 24) → c ≠ 148 → I4 c k = I3 c k) (P := fun r => ∃ I4 : Nat → Nat → Int32, r = some (some (.int (iI 1)), am_sh I4 J) ∧ MS K' I4 ∧ I4 139 24 = iI U ∧ (∀ j, j < 153 → I4 148 j = I 149 (153 * U + j)) ∧ ∀ c k, ¬ (c = 139 ∧ k = 24) → c ≠ 148 → c ≠ 150 → I4 c k = I3 c k) (by
      rintro i I4 hi ⟨x1, x2, x3⟩
      right
      have n1 : (153 * (U : Int) + (i : Int)).toNat = 153 * U + i := by omega
      have n2 : I4 149 (153 * U + i) = I 149 (153 * U + i) := (x3 _ _ (by omega) (by omega)).trans (M3 _ _ (by omega))
      refine ⟨am_up I4 148 i (I 149 (153 * U + i)), ⟨(up_ck (by omega)).trans x1, fun j hj => ?_, fun c k z1 z2 => (up_ck (by omega)).trans (x3 c k z1 z2)⟩, ?_⟩
      · by_cases y : j = i
        · subst y; rw [up_at]
        · rw [up_k y]; exact x2 j (by omega)
      · try dsimp only
        rw [cS, sg_339_15, x1]
        simp (disch := first | omega | assumption | exact cat_n | exact cat_i _ | exact cat_r _ | (simp (disch := omega) only [l_0, l_1, l_m1, l_2, l_3, l_4, l_5, l_6, l_7, l_8, l_9, l_10, l_16, l_20, l_40, l_48, l_99, l_200, l_999, l_9999, li_73, li_78, li_m1000000, li_90, li_251, li_400, li_2400, li_91, li_153, li_173, li_96, li_32, li_92, li_12, li_93, li_80, li_14, li_1000000000, li_30, li_11, li_24, li_13, li_97, li_64, li_1600, li_49, li_255, li_2147483647, li_12345, li_1103515245, li_59, li_57, li_122, li_1023, li_1000000, li_52, li_51, li_50, li_47, li_46, li_45, li_44, li_43, li_42, li_41, li_39, li_38, li_37, li_36, li_35, li_34, li_33, li_29, li_28, li_27, li_26, li_25, li_23, li_22, li_21, li_19, li_18, li_17, li_15, li_m8, li_m2, li_60, li_54, li_2907, li_151, li_127, oN, iI_add, iI_sub, iI_mul, iI_neg, Int.reduceAdd, Int.reduceSub, Int.reduceMul, Int.reduceNeg, Int.toNat_natCast, Int.reduceToNat, iI_lt, iI_le, iI_eq, iI_cl, true_or, or_true, false_or, or_false, true_and, and_true, not_true_eq_false, not_false_eq_true]; first | done | omega)) only [↓if_pos, ↓if_neg, Option.bind_some, Option.toList_some, Option.toList_none, List.cons_append, List.nil_append, l_0, l_1, l_m1, l_2, l_3, l_4, l_5, l_6, l_7, l_8, l_9, l_10, l_16, l_20, l_40, l_48, l_99, l_200, l_999, l_9999, li_73, li_78, li_m1000000, li_90, li_251, li_400, li_2400, li_91, li_153, li_173, li_96, li_32, li_92, li_12, li_93, li_80, li_14, li_1000000000, li_30, li_11, li_24, li_13, li_97, li_64, li_1600, li_49, li_255, li_2147483647, li_12345, li_1103515245, li_59, li_57, li_122, li_1023, li_1000000, li_52, li_51, li_50, li_47, li_46, li_45, li_44, li_43, li_42, li_41, li_39, li_38, li_37, li_36, li_35, li_34, li_33, li_29, li_28, li_27, li_26, li_25, li_23, li_22, li_21, li_19, li_18, li_17, li_15, li_m8, li_m2, li_60, li_54, li_2907, li_151, li_127, oN, iI_add, iI_sub, iI_mul, iI_neg, Int.reduceAdd, Int.reduceSub, Int.reduceMul, Int.reduceNeg, Int.toNat_natCast, Int.reduceToNat, iI_cl, n1, n2]) (by
      rintro I4 ⟨x1, x2, x3⟩
      have mA : MA K' I4 := by
        refine ⟨Kk, ⟨?_, ?_, ?_, ?_⟩, fun b hb => ?_⟩
        · rw [x3 _ _ (by omega) (by omega), M3 _ _ (by omega), kn']; exact MS_n hm
        · rw [x3 _ _ (by omega) (by omega), M3 _ _ (by omega), kz']; exact MS_z hm
        · rw [x2 _ (by omega), ← sn2', ze1, ke']
        · rw [x2 _ (by omega), ← sn3', zt1, kt']
        · rw [kn'] at hb
          have f140 : I4 140 = I 140 := funext fun k => (x3 _ _ (by omega) (by omega)).trans (M3 _ _ (by omega))
          have f141 : I4 141 = I 141 := funext fun k => (x3 _ _ (by omega) (by omega)).trans (M3 _ _ (by omega))
          rw [kf']
          unfold mr
          rw [f140, f141, mrw_cg (m := fun j => I 149 (153 * U + j)) (by omega) x2]
          exact (sn1 b hb).1
      obtain ⟨I5, p5, m5, f5⟩ := m_248 (X := X) (J := J) mA
      refine ⟨I5, ?_, m5, (f5 _ _ (by omega)).trans x1, fun j hj => (f5 _ _ (by omega)).trans (x2 j hj), fun c k z1 z2 z3 => (f5 c k z3).trans (x3 c k z1 z2)⟩
      have n3 : iI ((153 : Nat) : Int) = iI 153 := rfl
      try dsimp only
      rw [n3, sg_339_15]
      simp (disch := first | omega | assumption | exact cat_n | exact cat_i _ | exact cat_r _ | (simp (disch := omega) only [l_0, l_1, l_m1, l_2, l_3, l_4, l_5, l_6, l_7, l_8, l_9, l_10, l_16, l_20, l_40, l_48, l_99, l_200, l_999, l_9999, li_73, li_78, li_m1000000, li_90, li_251, li_400, li_2400, li_91, li_153, li_173, li_96, li_32, li_92, li_12, li_93, li_80, li_14, li_1000000000, li_30, li_11, li_24, li_13, li_97, li_64, li_1600, li_49, li_255, li_2147483647, li_12345, li_1103515245, li_59, li_57, li_122, li_1023, li_1000000, li_52, li_51, li_50, li_47, li_46, li_45, li_44, li_43, li_42, li_41, li_39, li_38, li_37, li_36, li_35, li_34, li_33, li_29, li_28, li_27, li_26, li_25, li_23, li_22, li_21, li_19, li_18, li_17, li_15, li_m8, li_m2, li_60, li_54, li_2907, li_151, li_127, oN, iI_add, iI_sub, iI_mul, iI_neg, Int.reduceAdd, Int.reduceSub, Int.reduceMul, Int.reduceNeg, Int.toNat_natCast, Int.reduceToNat, iI_lt, iI_le, iI_eq, iI_cl, true_or, or_true, false_or, or_false, true_and, and_true, not_true_eq_false, not_false_eq_true]; first | done | omega)) only [↓if_pos, ↓if_neg, Option.bind_some, Option.toList_some, Option.toList_none, List.cons_append, List.nil_append, l_0, l_1, l_m1, l_2, l_3, l_4, l_5, l_6, l_7, l_8, l_9, l_10, l_16, l_20, l_40, l_48, l_99, l_200, l_999, l_9999, li_73, li_78, li_m1000000, li_90, li_251, li_400, li_2400, li_91, li_153, li_173, li_96, li_32, li_92, li_12, li_93, li_80, li_14, li_1000000000, li_30, li_11, li_24, li_13, li_97, li_64, li_1600, li_49, li_255, li_2147483647, li_12345, li_1103515245, li_59, li_57, li_122, li_1023, li_1000000, li_52, li_51, li_50, li_47, li_46, li_45, li_44, li_43, li_42, li_41, li_39, li_38, li_37, li_36, li_35, li_34, li_33, li_29, li_28, li_27, li_26, li_25, li_23, li_22, li_21, li_19, li_18, li_17, li_15, li_m8, li_m2, li_60, li_54, li_2907, li_151, li_127, oN, iI_add, iI_sub, iI_mul, iI_neg, Int.reduceAdd, Int.reduceSub, Int.reduceMul, Int.reduceNeg, Int.toNat_natCast, Int.reduceToNat, iI_cl, p5, sg_339_35]) (am_up I3 139 24 (iI U)) ⟨up_at _ _ _ _, fun j hj => by omega, fun c k z1 z2 => up_ck (by omega)⟩
    obtain ⟨I4, p4, m4, y24, y148, fM⟩ := B
    try dsimp only at p4
    rw [c0] at p4
    have lo : ∀ c k, c ≤ 138 → I4 c k = I3 c k := fun c k z => fM c k (by omega) (by omega) (by omega)
    have F4 : ∀ c k, ¬ (c = 16 ∧ (k = 3 ∨ k = 5 ∨ k = 6 ∨ k = 8)) → c ≠ 18 → ¬ (19 ≤ c ∧ c ≤ 78 ∧ ¬ ((c - 19) % 6 = 0 ∧ k = 0)) → c ≠ 80 → c ≠ 84 → ¬ (c = 106 ∧ k = 6) → ¬ (c = 139 ∧ k = 24) → c ≠ 148 → c ≠ 150 → I4 c k = I c k := fun c k z1 z2 z3 z4 z5 z6 z7 z8 z9 => (fM c k z7 z8 z9).trans (F3 c k z1 z2 z3 z4 z5 z6)
    refine ⟨iI 1, I3, J, I4, J, ?_, ?_, Rl_act2 h hn t0 (fun c k z => ?_) (D_congr ?_ ?_ (R_D h)) (CS_lo c3 lo) m4 ?_ ?_ (C_lo c3 (C_all c3 jA (fun k hk => ?_)) lo) ?_⟩
    · have w5 : ∀ x, am_up I 106 6 x 106 5 = iI (uo I) := fun x => (up_k (by omega)).trans r4
      have em : ((uo I : Int) + (U : Int)) % 20 = (((uo I + U) % 20 : Nat) : Int) := by omega
      have ecl : (iI ((((uo I + U) % 20 : Nat)) : Int)).toNatClampNeg = (uo I + U) % 20 := by rw [iI_cl (by omega) (by omega), Int.toNat_natCast]
      have es : (U : Int) + 1 - 1 = U := by omega
      have e5 : am_do X 5 [.ref 106] (am_sh I J) = some (some (.int (iI 1)), am_sh I3 J) := by
        rw [cl_5, sg_5_e0, e6]
        simp only [w5, up_at]
        simp (disch := first | omega | assumption | exact cat_n | exact cat_i _ | exact cat_r _ | (simp (disch := omega) only [l_0, l_1, l_m1, l_2, l_3, l_4, l_5, l_6, l_7, l_8, l_9, l_10, l_16, l_20, l_40, l_48, l_99, l_200, l_999, l_9999, li_73, li_78, li_m1000000, li_90, li_251, li_400, li_2400, li_91, li_153, li_173, li_96, li_32, li_92, li_12, li_93, li_80, li_14, li_1000000000, li_30, li_11, li_24, li_13, li_97, li_64, li_1600, li_49, li_255, li_2147483647, li_12345, li_1103515245, li_59, li_57, li_122, li_1023, li_1000000, li_52, li_51, li_50, li_47, li_46, li_45, li_44, li_43, li_42, li_41, li_39, li_38, li_37, li_36, li_35, li_34, li_33, li_29, li_28, li_27, li_26, li_25, li_23, li_22, li_21, li_19, li_18, li_17, li_15, li_m8, li_m2, li_60, li_54, li_2907, li_151, li_127, oN, iI_add, iI_sub, iI_mul, iI_neg, Int.reduceAdd, Int.reduceSub, Int.reduceMul, Int.reduceNeg, Int.toNat_natCast, Int.reduceToNat, iI_lt, iI_le, iI_eq, iI_cl, true_or, or_true, false_or, or_false, true_and, and_true, not_true_eq_false, not_false_eq_true]; first | done | omega)) only [↓if_pos, ↓if_neg, Option.bind_some, Option.toList_some, Option.toList_none, List.cons_append, List.nil_append, l_0, l_1, l_m1, l_2, l_3, l_4, l_5, l_6, l_7, l_8, l_9, l_10, l_16, l_20, l_40, l_48, l_99, l_200, l_999, l_9999, li_73, li_78, li_m1000000, li_90, li_251, li_400, li_2400, li_91, li_153, li_173, li_96, li_32, li_92, li_12, li_93, li_80, li_14, li_1000000000, li_30, li_11, li_24, li_13, li_97, li_64, li_1600, li_49, li_255, li_2147483647, li_12345, li_1103515245, li_59, li_57, li_122, li_1023, li_1000000, li_52, li_51, li_50, li_47, li_46, li_45, li_44, li_43, li_42, li_41, li_39, li_38, li_37, li_36, li_35, li_34, li_33, li_29, li_28, li_27, li_26, li_25, li_23, li_22, li_21, li_19, li_18, li_17, li_15, li_m8, li_m2, li_60, li_54, li_2907, li_151, li_127, oN, iI_add, iI_sub, iI_mul, iI_neg, Int.reduceAdd, Int.reduceSub, Int.reduceMul, Int.reduceNeg, Int.toNat_natCast, Int.reduceToNat, iI_cl, es, iI_div, em_, em, ecl, ha, hI1, p2, sg_5_24, p3, sg_5_26]
      simp (disch := first | omega | assumption | exact cat_n | exact cat_i _ | exact cat_r _ | (simp (disch := omega) only [l_0, l_1, l_m1, l_2, l_3, l_4, l_5, l_6, l_7, l_8, l_9, l_10, l_16, l_20, l_40, l_48, l_99, l_200, l_999, l_9999, li_73, li_78, li_m1000000, li_90, li_251, li_400, li_2400, li_91, li_153, li_173, li_96, li_32, li_92, li_12, li_93, li_80, li_14, li_1000000000, li_30, li_11, li_24, li_13, li_97, li_64, li_1600, li_49, li_255, li_2147483647, li_12345, li_1103515245, li_59, li_57, li_122, li_1023, li_1000000, li_52, li_51, li_50, li_47, li_46, li_45, li_44, li_43, li_42, li_41, li_39, li_38, li_37, li_36, li_35, li_34, li_33, li_29, li_28, li_27, li_26, li_25, li_23, li_22, li_21, li_19, li_18, li_17, li_15, li_m8, li_m2, li_60, li_54, li_2907, li_151, li_127, oN, iI_add, iI_sub, iI_mul, iI_neg, Int.reduceAdd, Int.reduceSub, Int.reduceMul, Int.reduceNeg, Int.toNat_natCast, Int.reduceToNat, iI_lt, iI_le, iI_eq, iI_cl, true_or, or_true, false_or, or_false, true_and, and_true, not_true_eq_false, not_false_eq_true]; first | done | omega)) only [↓if_pos, ↓if_neg, Option.bind_some, Option.toList_some, Option.toList_none, List.cons_append, List.nil_append, l_0, l_1, l_m1, l_2, l_3, l_4, l_5, l_6, l_7, l_8, l_9, l_10, l_16, l_20, l_40, l_48, l_99, l_200, l_999, l_9999, li_73, li_78, li_m1000000, li_90, li_251, li_400, li_2400, li_91, li_153, li_173, li_96, li_32, li_92, li_12, li_93, li_80, li_14, li_1000000000, li_30, li_11, li_24, li_13, li_97, li_64, li_1600, li_49, li_255, li_2147483647, li_12345, li_1103515245, li_59, li_57, li_122, li_1023, li_1000000, li_52, li_51, li_50, li_47, li_46, li_45, li_44, li_43, li_42, li_41, li_39, li_38, li_37, li_36, li_35, li_34, li_33, li_29, li_28, li_27, li_26, li_25, li_23, li_22, li_21, li_19, li_18, li_17, li_15, li_m8, li_m2, li_60, li_54, li_2907, li_151, li_127, oN, iI_add, iI_sub, iI_mul, iI_neg, Int.reduceAdd, Int.reduceSub, Int.reduceMul, Int.reduceNeg, Int.toNat_natCast, Int.reduceToNat, iI_cl, cl_202, sg_202_e0, sg_202_3, e5]
    · have es : (U : Int) + 1 - 1 = U := by omega
      simp (disch := first | omega | assumption | exact cat_n | exact cat_i _ | exact cat_r _ | (simp (disch := omega) only [l_0, l_1, l_m1, l_2, l_3, l_4, l_5, l_6, l_7, l_8, l_9, l_10, l_16, l_20, l_40, l_48, l_99, l_200, l_999, l_9999, li_73, li_78, li_m1000000, li_90, li_251, li_400, li_2400, li_91, li_153, li_173, li_96, li_32, li_92, li_12, li_93, li_80, li_14, li_1000000000, li_30, li_11, li_24, li_13, li_97, li_64, li_1600, li_49, li_255, li_2147483647, li_12345, li_1103515245, li_59, li_57, li_122, li_1023, li_1000000, li_52, li_51, li_50, li_47, li_46, li_45, li_44, li_43, li_42, li_41, li_39, li_38, li_37, li_36, li_35, li_34, li_33, li_29, li_28, li_27, li_26, li_25, li_23, li_22, li_21, li_19, li_18, li_17, li_15, li_m8, li_m2, li_60, li_54, li_2907, li_151, li_127, oN, iI_add, iI_sub, iI_mul, iI_neg, Int.reduceAdd, Int.reduceSub, Int.reduceMul, Int.reduceNeg, Int.toNat_natCast, Int.reduceToNat, iI_lt, iI_le, iI_eq, iI_cl, true_or, or_true, false_or, or_false, true_and, and_true, not_true_eq_false, not_false_eq_true]; first | done | omega)) only [↓if_pos, ↓if_neg, Option.bind_some, Option.toList_some, Option.toList_none, List.cons_append, List.nil_append, l_0, l_1, l_m1, l_2, l_3, l_4, l_5, l_6, l_7, l_8, l_9, l_10, l_16, l_20, l_40, l_48, l_99, l_200, l_999, l_9999, li_73, li_78, li_m1000000, li_90, li_251, li_400, li_2400, li_91, li_153, li_173, li_96, li_32, li_92, li_12, li_93, li_80, li_14, li_1000000000, li_30, li_11, li_24, li_13, li_97, li_64, li_1600, li_49, li_255, li_2147483647, li_12345, li_1103515245, li_59, li_57, li_122, li_1023, li_1000000, li_52, li_51, li_50, li_47, li_46, li_45, li_44, li_43, li_42, li_41, li_39, li_38, li_37, li_36, li_35, li_34, li_33, li_29, li_28, li_27, li_26, li_25, li_23, li_22, li_21, li_19, li_18, li_17, li_15, li_m8, li_m2, li_60, li_54, li_2907, li_151, li_127, oN, iI_add, iI_sub, iI_mul, iI_neg, Int.reduceAdd, Int.reduceSub, Int.reduceMul, Int.reduceNeg, Int.toNat_natCast, Int.reduceToNat, iI_cl, cl_339, sg_339_e0, e24, es, p4]
    · unfold AF2 AF at z
      exact F4 c k (by omega) (by omega) (by omega) (by omega) (by omega) (by omega) (by omega) (by omega) (by omega)
    · exact F4 _ _ (by omega) (by omega) (by omega) (by omega) (by omega) (by omega) (by omega) (by omega) (by omega)
    · exact F4 _ _ (by omega) (by omega) (by omega) (by omega) (by omega) (by omega) (by omega) (by omega) (by omega)
    · refine ⟨?_, ⟨zk, ?_, zk2, zk3⟩, fun j hj => ?_⟩
      · rw [y148 _ (by omega), lo _ _ (by omega), jF _ _ (by omega) (by omega) (by omega), g6, ← sn4']
      · rw [lo _ _ (by omega), jF _ _ (by omega) (by omega) (by omega), g6, zk1]
      · rw [lo _ _ (by omega), jF _ _ (by omega) (by omega) (by omega), g6] at hj
        have : (I a 92).toInt = zk := by rw [zk1, to_iI (by omega) (by omega)]
        rw [y148 _ (by omega), lo _ _ (by omega), jF _ _ (by omega) (by omega) (by omega), g7 j (by omega)]
        exact sn5 j hj
    · have u1 : I4 106 6 = iI U := by
        rw [lo _ _ (by omega), jF _ _ (by omega) (by omega) (by omega), g8 _ _ (by omega) (by omega) (by omega), ← hI1, up_at]
      have u2 : un I4 = U := by unfold un; rw [u1, to_iI (by omega) (by omega)]; omega
      have u3 : I4 106 5 = I 106 5 := F4 _ _ (by omega) (by omega) (by omega) (by omega) (by omega) (by omega) (by omega) (by omega) (by omega)
      have u4 : uo I4 = uo I := by unfold uo; rw [u3]
      have u5 : cn I4 = cn I := by unfold cn; rw [F4 _ _ (by omega) (by omega) (by omega) (by omega) (by omega) (by omega) (by omega) (by omega) (by omega)]
      have f140 : I4 140 = I 140 := funext fun k => F4 _ _ (by omega) (by omega) (by omega) (by omega) (by omega) (by omega) (by omega) (by omega) (by omega)
      have f141 : I4 141 = I 141 := funext fun k => F4 _ _ (by omega) (by omega) (by omega) (by omega) (by omega) (by omega) (by omega) (by omega) (by omega)
      have f149 : I4 149 = I 149 := funext fun k => F4 _ _ (by omega) (by omega) (by omega) (by omega) (by omega) (by omega) (by omega) (by omega) (by omega)
      unfold rl_U
      rw [u2, u4, u5, u1, u3, y24, f140, f141, f149]
      refine ⟨rfl, ⟨rfl, by omega⟩, ⟨r4, r5⟩, fun v hv => ?_⟩
      have er : I4 (108 + (uo I + v) % 20) = I (108 + (uo I + v) % 20) := funext fun k => F4 _ _ (by omega) (by omega) (by omega) (by omega) (by omega) (by omega) (by omega) (by omega) (by omega)
      rw [er]
      exact r6 v (by omega)
    · rw [F3 _ _ (by omega) (by omega) (by omega) (by omega) (by omega) (by omega)]
      exact (R_C h).2.2 k hk
    · rw [lo _ _ (by omega), j8, ev]
