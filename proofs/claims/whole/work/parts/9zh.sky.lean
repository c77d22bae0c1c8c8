/-! op sky (2) -/
set_option maxHeartbeats 2000000 in
/-- 2 sky -/
theorem op_2 {X : am_X} (hX : X 3 = am_X00 3) : am_Same X Rl_ 157 239 [] := by
  intro n I J hn h
  obtain ⟨t1, t2, t3, t4⟩ := R_T h
  obtain ⟨L, eL⟩ : ∃ L : Nat, (I 1 1).toInt = L := ⟨(I 1 1).toInt.toNat, by omega⟩
  have e11 : I 1 1 = iI L := iI_of eL
  have e12 : I 139 12 = iI L := t1.trans e11
  have tp : TP (fun k => (I 2 k).toInt) L I := ⟨e11, by omega, fun k hk => ⟨(iI_to _).symm, (t4 k (by omega)).2⟩⟩
  have tm : TM (fun k => (I 2 k).toInt) L I := ⟨by omega, fun k hk => ⟨(t4 k (by omega)).1.trans (iI_to _).symm, (t4 k (by omega)).2⟩⟩
  generalize hT : (fun k => (I 2 k).toInt) = T at *
  have hw : rl_W I := h.2.2.2.2.2.1
  -- where the model begins
  obtain ⟨B, hB⟩ : ∃ B : (Nat → Nat → Int32) → Nat → Nat → Int32, B = fun V => am_up (am_up (am_up (am_up (am_up V 139 12 (iI 0)) 139 16 (iI L)) 139 17 (iI 0)) 139 19 (iI 0)) 139 20 (iI (-1)) := ⟨_, rfl⟩
  have Be : ∀ V, B V = am_up (am_up (am_up (am_up (am_up V 139 12 (iI 0)) 139 16 (iI L)) 139 17 (iI 0)) 139 19 (iI 0)) 139 20 (iI (-1)) := fun V => by rw [hB]
  have fB : ∀ V c k, ¬ (c = 139 ∧ (k = 12 ∨ k = 16 ∨ k = 17 ∨ k = 19 ∨ k = 20)) → B V c k = V c k := fun V c k w => by rw [Be, up_ck (by omega), up_ck (by omega), up_ck (by omega), up_ck (by omega), up_ck (by omega)]
  have b12 : ∀ V, B V 139 12 = iI 0 := fun V => by rw [Be, up_k (by omega), up_k (by omega), up_k (by omega), up_k (by omega), up_at]
  have mB : ∀ V : Nat → Nat → Int32, (∀ c k, 139 ≤ c → c ≠ 146 → V c k = I c k) → MRd T L 0 (B V) := fun V eV => by
    refine ⟨TM_cg tm (fun k => by rw [fB _ _ _ (by omega), eV _ _ (by omega) (by omega)]), by omega, ?_, ?_, ?_, ?_, ?_⟩
    · rw [Be, up_k (by omega), up_k (by omega), up_k (by omega), up_at]
    · rw [Be, up_k (by omega), up_k (by omega), up_at]; rfl
    · rw [Be, up_k (by omega), up_at]
    · exact W_cg hw (fun k => by rw [fB _ _ _ (by omega), eV _ _ (by omega) (by omega)])
    · rw [Be, up_at]
  have mS : ∀ (V Im' : Nat → Nat → Int32) (w : Int32), (∀ c k, 139 ≤ c → c ≠ 146 → V c k = I c k) → am_do X 238 [.ref 139] (am_sh (B V) J) = some (some (.int w), am_sh Im' J) → am_do X 239 [.ref 139] (am_sh V J) = am_ev X amP_239 15 [.ref 139, .null, .null] [.int w] (am_sh Im' J) := fun V Im' w eV q => by
    have e12' : V 139 12 = iI L := (eV _ _ (by omega) (by omega)).trans e12
    rw [Be] at q
    simp (disch := first | omega | assumption | exact cat_n | exact cat_i _ | exact cat_r _ | (simp (disch := omega) only [l_0, l_1, l_m1, l_2, l_3, l_4, l_5, l_6, l_7, l_8, l_9, l_10, l_16, l_20, l_40, l_48, l_99, l_200, l_999, l_9999, li_73, li_78, li_m1000000, li_90, li_251, li_400, li_2400, li_91, li_153, li_173, li_96, li_32, li_92, li_12, li_93, li_80, li_14, li_1000000000, li_30, li_11, li_24, li_13, li_97, li_64, li_1600, li_49, li_255, li_2147483647, li_12345, li_1103515245, li_59, li_57, li_122, li_1023, li_1000000, li_52, li_51, li_50, li_47, li_46, li_45, li_44, li_43, li_42, li_41, li_39, li_38, li_37, li_36, li_35, li_34, li_33, li_29, li_28, li_27, li_26, li_25, li_23, li_22, li_21, li_19, li_18, li_17, li_15, li_m8, li_m2, li_60, li_54, li_2907, li_151, li_127, oN, iI_add, iI_sub, iI_mul, iI_neg, Int.reduceAdd, Int.reduceSub, Int.reduceMul, Int.reduceNeg, Int.toNat_natCast, Int.reduceToNat, iI_lt, iI_le, iI_eq, iI_cl, true_or, or_true, false_or, or_false, true_and, and_true, not_true_eq_false, not_false_eq_true]; first | done | omega)) only [↓if_pos, ↓if_neg, Option.bind_some, Option.toList_some, Option.toList_none, List.cons_append, List.nil_append, l_0, l_1, l_m1, l_2, l_3, l_4, l_5, l_6, l_7, l_8, l_9, l_10, l_16, l_20, l_40, l_48, l_99, l_200, l_999, l_9999, li_73, li_78, li_m1000000, li_90, li_251, li_400, li_2400, li_91, li_153, li_173, li_96, li_32, li_92, li_12, li_93, li_80, li_14, li_1000000000, li_30, li_11, li_24, li_13, li_97, li_64, li_1600, li_49, li_255, li_2147483647, li_12345, li_1103515245, li_59, li_57, li_122, li_1023, li_1000000, li_52, li_51, li_50, li_47, li_46, li_45, li_44, li_43, li_42, li_41, li_39, li_38, li_37, li_36, li_35, li_34, li_33, li_29, li_28, li_27, li_26, li_25, li_23, li_22, li_21, li_19, li_18, li_17, li_15, li_m8, li_m2, li_60, li_54, li_2907, li_151, li_127, oN, iI_add, iI_sub, iI_mul, iI_neg, Int.reduceAdd, Int.reduceSub, Int.reduceMul, Int.reduceNeg, Int.toNat_natCast, Int.reduceToNat, iI_cl, cl_239, sg_239_e0, cl_223, sg_223_e0, e12']
    rw [sg_239_3 (hw1 := cat_n) (hw2 := cat_n)]
    simp (disch := first | omega | assumption | exact cat_n | exact cat_i _ | exact cat_r _ | (simp (disch := omega) only [l_0, l_1, l_m1, l_2, l_3, l_4, l_5, l_6, l_7, l_8, l_9, l_10, l_16, l_20, l_40, l_48, l_99, l_200, l_999, l_9999, li_73, li_78, li_m1000000, li_90, li_251, li_400, li_2400, li_91, li_153, li_173, li_96, li_32, li_92, li_12, li_93, li_80, li_14, li_1000000000, li_30, li_11, li_24, li_13, li_97, li_64, li_1600, li_49, li_255, li_2147483647, li_12345, li_1103515245, li_59, li_57, li_122, li_1023, li_1000000, li_52, li_51, li_50, li_47, li_46, li_45, li_44, li_43, li_42, li_41, li_39, li_38, li_37, li_36, li_35, li_34, li_33, li_29, li_28, li_27, li_26, li_25, li_23, li_22, li_21, li_19, li_18, li_17, li_15, li_m8, li_m2, li_60, li_54, li_2907, li_151, li_127, oN, iI_add, iI_sub, iI_mul, iI_neg, Int.reduceAdd, Int.reduceSub, Int.reduceMul, Int.reduceNeg, Int.toNat_natCast, Int.reduceToNat, iI_lt, iI_le, iI_eq, iI_cl, true_or, or_true, false_or, or_false, true_and, and_true, not_true_eq_false, not_false_eq_true]; first | done | omega)) only [↓if_pos, ↓if_neg, Option.bind_some, Option.toList_some, Option.toList_none, List.cons_append, List.nil_append, l_0, l_1, l_m1, l_2, l_3, l_4, l_5, l_6, l_7, l_8, l_9, l_10, l_16, l_20, l_40, l_48, l_99, l_200, l_999, l_9999, li_73, li_78, li_m1000000, li_90, li_251, li_400, li_2400, li_91, li_153, li_173, li_96, li_32, li_92, li_12, li_93, li_80, li_14, li_1000000000, li_30, li_11, li_24, li_13, li_97, li_64, li_1600, li_49, li_255, li_2147483647, li_12345, li_1103515245, li_59, li_57, li_122, li_1023, li_1000000, li_52, li_51, li_50, li_47, li_46, li_45, li_44, li_43, li_42, li_41, li_39, li_38, li_37, li_36, li_35, li_34, li_33, li_29, li_28, li_27, li_26, li_25, li_23, li_22, li_21, li_19, li_18, li_17, li_15, li_m8, li_m2, li_60, li_54, li_2907, li_151, li_127, oN, iI_add, iI_sub, iI_mul, iI_neg, Int.reduceAdd, Int.reduceSub, Int.reduceMul, Int.reduceNeg, Int.toNat_natCast, Int.reduceToNat, iI_cl, q]
  obtain ⟨v, w, I1, Im0, p1, -, Fc1, -, res⟩ := J_read (X := X) (J := J) (Jm := J) hX tp (mB I (fun _ _ _ _ => rfl))
  have M1 : ∀ c k, 16 ≤ c → I1 c k = I c k := fun c k z => Fc1 c k (by omega) (by omega) (by omega)
  obtain ⟨I2, hI2⟩ : ∃ I2, am_up I1 1 1 (iI 0) = I2 := ⟨_, rfl⟩
  have f2 : ∀ c k, ¬ (c = 1 ∧ k = 1) → I2 c k = I1 c k := fun c k z => by rw [← hI2, up_ck (by omega)]
  have same : ∀ (v' : Int32) (I1' : Nat → Nat → Int32), am_do X 111 [.ref 3] (am_sh I J) = some (some (.int v'), am_sh I1' J) → v' = v ∧ I1' = I1 := fun v' I1' q => by
    rw [p1] at q
    have a := Prod.mk.inj (Option.some.inj q)
    exact ⟨(Value.int.inj (Option.some.inj a.1)).symm, (sh_inj a.2).symm⟩
  rcases res with ⟨k, p, kk, cb, mb, rfl⟩ | ⟨m, f, r, g, z, R, ⟨z0, z1, z2, z3⟩, rfl, rfl⟩
  · -- a fault
    have c208 : am_do X 208 [.ref 0, .int (iI 1)] (am_sh I2 J) = some (some (.int (iI (-1))), am_sh (rf1 I2 1) J) := c_208 X I2 J (k := 1) (by omega)
    obtain ⟨I3, hI3⟩ : ∃ I3, rf1 I2 1 = I3 := ⟨_, rfl⟩
    have f3 : ∀ c k, c ≠ 138 → I3 c k = I2 c k := fun c k z => by rw [← hI3, rf1_ne (by omega)]
    have eV : ∀ c k, 139 ≤ c → c ≠ 146 → I3 c k = I c k := fun c k z _ => by rw [f3 c k (by omega), f2 c k (by omega), M1 c k (by omega)]
    obtain ⟨v', w', I1', Im1, q1, q2, -, Fm1, res⟩ := J_read (X := X) (J := J) (Jm := J) hX tp (mB I3 eV)
    obtain ⟨rfl, rfl⟩ := same v' I1' q1
    rcases res with ⟨k', p', kk', cb', mb', -⟩ | ⟨m, f, r, g, z, R, -, ev, -⟩
    · have A := mS I3 Im1 w' eV q2
      obtain ⟨I4, hI4⟩ : ∃ I4, am_up (am_up Im1 139 14 (iI k')) 139 15 (iI p') = I4 := ⟨_, rfl⟩
      have f4 : ∀ c k, ¬ (c = 139 ∧ (k = 14 ∨ k = 15)) → I4 c k = Im1 c k := fun c k z => by rw [← hI4, up_ck (by omega), up_ck (by omega)]
      have c218 : am_do X 218 [.ref 139, .int (iI 1)] (am_sh I4 J) = some (some (.int (iI (-1))), am_sh (rf2 I4 1) J) := c_218 X I4 J (k := 1) (by omega)
      refine ⟨iI (-1), I3, J, rf2 I4 1, J, ?_, ?_, ?_⟩
      · simp (disch := first | omega | assumption | exact cat_n | exact cat_i _ | exact cat_r _ | (simp (disch := omega) only [l_0, l_1, l_m1, l_2, l_3, l_4, l_5, l_6, l_7, l_8, l_9, l_10, l_16, l_20, l_40, l_48, l_99, l_200, l_999, l_9999, li_73, li_78, li_m1000000, li_90, li_251, li_400, li_2400, li_91, li_153, li_173, li_96, li_32, li_92, li_12, li_93, li_80, li_14, li_1000000000, li_30, li_11, li_24, li_13, li_97, li_64, li_1600, li_49, li_255, li_2147483647, li_12345, li_1103515245, li_59, li_57, li_122, li_1023, li_1000000, li_52, li_51, li_50, li_47, li_46, li_45, li_44, li_43, li_42, li_41, li_39, li_38, li_37, li_36, li_35, li_34, li_33, li_29, li_28, li_27, li_26, li_25, li_23, li_22, li_21, li_19, li_18, li_17, li_15, li_m8, li_m2, li_60, li_54, li_2907, li_151, li_127, oN, iI_add, iI_sub, iI_mul, iI_neg, Int.reduceAdd, Int.reduceSub, Int.reduceMul, Int.reduceNeg, Int.toNat_natCast, Int.reduceToNat, iI_lt, iI_le, iI_eq, iI_cl, true_or, or_true, false_or, or_false, true_and, and_true, not_true_eq_false, not_false_eq_true]; first | done | omega)) only [↓if_pos, ↓if_neg, Option.bind_some, Option.toList_some, Option.toList_none, List.cons_append, List.nil_append, l_0, l_1, l_m1, l_2, l_3, l_4, l_5, l_6, l_7, l_8, l_9, l_10, l_16, l_20, l_40, l_48, l_99, l_200, l_999, l_9999, li_73, li_78, li_m1000000, li_90, li_251, li_400, li_2400, li_91, li_153, li_173, li_96, li_32, li_92, li_12, li_93, li_80, li_14, li_1000000000, li_30, li_11, li_24, li_13, li_97, li_64, li_1600, li_49, li_255, li_2147483647, li_12345, li_1103515245, li_59, li_57, li_122, li_1023, li_1000000, li_52, li_51, li_50, li_47, li_46, li_45, li_44, li_43, li_42, li_41, li_39, li_38, li_37, li_36, li_35, li_34, li_33, li_29, li_28, li_27, li_26, li_25, li_23, li_22, li_21, li_19, li_18, li_17, li_15, li_m8, li_m2, li_60, li_54, li_2907, li_151, li_127, oN, iI_add, iI_sub, iI_mul, iI_neg, Int.reduceAdd, Int.reduceSub, Int.reduceMul, Int.reduceNeg, Int.toNat_natCast, Int.reduceToNat, iI_cl, cl_157, sg_157_e0, p1]
        rw [sg_157_3 (hw1 := cat_n), l_0, hI2]
        simp (disch := first | omega | assumption | exact cat_n | exact cat_i _ | exact cat_r _ | (simp (disch := omega) only [l_0, l_1, l_m1, l_2, l_3, l_4, l_5, l_6, l_7, l_8, l_9, l_10, l_16, l_20, l_40, l_48, l_99, l_200, l_999, l_9999, li_73, li_78, li_m1000000, li_90, li_251, li_400, li_2400, li_91, li_153, li_173, li_96, li_32, li_92, li_12, li_93, li_80, li_14, li_1000000000, li_30, li_11, li_24, li_13, li_97, li_64, li_1600, li_49, li_255, li_2147483647, li_12345, li_1103515245, li_59, li_57, li_122, li_1023, li_1000000, li_52, li_51, li_50, li_47, li_46, li_45, li_44, li_43, li_42, li_41, li_39, li_38, li_37, li_36, li_35, li_34, li_33, li_29, li_28, li_27, li_26, li_25, li_23, li_22, li_21, li_19, li_18, li_17, li_15, li_m8, li_m2, li_60, li_54, li_2907, li_151, li_127, oN, iI_add, iI_sub, iI_mul, iI_neg, Int.reduceAdd, Int.reduceSub, Int.reduceMul, Int.reduceNeg, Int.toNat_natCast, Int.reduceToNat, iI_lt, iI_le, iI_eq, iI_cl, true_or, or_true, false_or, or_false, true_and, and_true, not_true_eq_false, not_false_eq_true]; first | done | omega)) only [↓if_pos, ↓if_neg, Option.bind_some, Option.toList_some, Option.toList_none, List.cons_append, List.nil_append, l_0, l_1, l_m1, l_2, l_3, l_4, l_5, l_6, l_7, l_8, l_9, l_10, l_16, l_20, l_40, l_48, l_99, l_200, l_999, l_9999, li_73, li_78, li_m1000000, li_90, li_251, li_400, li_2400, li_91, li_153, li_173, li_96, li_32, li_92, li_12, li_93, li_80, li_14, li_1000000000, li_30, li_11, li_24, li_13, li_97, li_64, li_1600, li_49, li_255, li_2147483647, li_12345, li_1103515245, li_59, li_57, li_122, li_1023, li_1000000, li_52, li_51, li_50, li_47, li_46, li_45, li_44, li_43, li_42, li_41, li_39, li_38, li_37, li_36, li_35, li_34, li_33, li_29, li_28, li_27, li_26, li_25, li_23, li_22, li_21, li_19, li_18, li_17, li_15, li_m8, li_m2, li_60, li_54, li_2907, li_151, li_127, oN, iI_add, iI_sub, iI_mul, iI_neg, Int.reduceAdd, Int.reduceSub, Int.reduceMul, Int.reduceNeg, Int.toNat_natCast, Int.reduceToNat, iI_cl, c208, hI3, sg_157_14]
      · have nz : ¬ iI k' = 0 := by rw [l_0, iI_eq (by omega) (by omega) (by omega) (by omega)]; omega
        have b1 : am_up Im1 139 14 (iI k') 139 20 = iI p' := by rw [up_k (by omega)]; exact mb'.2
        have b2 : I4 139 19 = iI k' := (f4 _ _ (by omega)).trans mb'.1
        rw [A, sg_239_15 (hw1 := cat_n) (hw2 := cat_n), mb'.1, b1, hI4, b2, if_neg nz]
        simp (disch := first | omega | assumption | exact cat_n | exact cat_i _ | exact cat_r _ | (simp (disch := omega) only [l_0, l_1, l_m1, l_2, l_3, l_4, l_5, l_6, l_7, l_8, l_9, l_10, l_16, l_20, l_40, l_48, l_99, l_200, l_999, l_9999, li_73, li_78, li_m1000000, li_90, li_251, li_400, li_2400, li_91, li_153, li_173, li_96, li_32, li_92, li_12, li_93, li_80, li_14, li_1000000000, li_30, li_11, li_24, li_13, li_97, li_64, li_1600, li_49, li_255, li_2147483647, li_12345, li_1103515245, li_59, li_57, li_122, li_1023, li_1000000, li_52, li_51, li_50, li_47, li_46, li_45, li_44, li_43, li_42, li_41, li_39, li_38, li_37, li_36, li_35, li_34, li_33, li_29, li_28, li_27, li_26, li_25, li_23, li_22, li_21, li_19, li_18, li_17, li_15, li_m8, li_m2, li_60, li_54, li_2907, li_151, li_127, oN, iI_add, iI_sub, iI_mul, iI_neg, Int.reduceAdd, Int.reduceSub, Int.reduceMul, Int.reduceNeg, Int.toNat_natCast, Int.reduceToNat, iI_lt, iI_le, iI_eq, iI_cl, true_or, or_true, false_or, or_false, true_and, and_true, not_true_eq_false, not_false_eq_true]; first | done | omega)) only [↓if_pos, ↓if_neg, Option.bind_some, Option.toList_some, Option.toList_none, List.cons_append, List.nil_append, l_0, l_1, l_m1, l_2, l_3, l_4, l_5, l_6, l_7, l_8, l_9, l_10, l_16, l_20, l_40, l_48, l_99, l_200, l_999, l_9999, li_73, li_78, li_m1000000, li_90, li_251, li_400, li_2400, li_91, li_153, li_173, li_96, li_32, li_92, li_12, li_93, li_80, li_14, li_1000000000, li_30, li_11, li_24, li_13, li_97, li_64, li_1600, li_49, li_255, li_2147483647, li_12345, li_1103515245, li_59, li_57, li_122, li_1023, li_1000000, li_52, li_51, li_50, li_47, li_46, li_45, li_44, li_43, li_42, li_41, li_39, li_38, li_37, li_36, li_35, li_34, li_33, li_29, li_28, li_27, li_26, li_25, li_23, li_22, li_21, li_19, li_18, li_17, li_15, li_m8, li_m2, li_60, li_54, li_2907, li_151, li_127, oN, iI_add, iI_sub, iI_mul, iI_neg, Int.reduceAdd, Int.reduceSub, Int.reduceMul, Int.reduceNeg, Int.toNat_natCast, Int.reduceToNat, iI_cl, c218]
        rw [sg_239_30 (hw2 := cat_n)]
      · have hr := Rl_ref (k := 1) (by omega) h
        have E0 : ∀ c j, ¬ (c = 146 ∧ j = 1) → rf2 I4 1 c j = I4 c j := fun c j y => by unfold rf2; rw [up_ck (by omega)]
        have EB : ∀ c j, ¬ (c = 139 ∧ (6 ≤ j ∧ j ≤ 8 ∨ j = 12 ∨ 14 ≤ j ∧ j ≤ 20)) → c ≠ 143 → c ≠ 144 → I4 c j = I3 c j := fun c j y1 y2 y3 => by rw [f4 c j (by omega), Fm1 c j (by omega) y2 y3, fB _ _ _ (by omega)]
        have E : ∀ c j, ¬ (c = 146 ∧ j = 1) → ¬ (c = 139 ∧ (6 ≤ j ∧ j ≤ 8 ∨ j = 12 ∨ 14 ≤ j ∧ j ≤ 20)) → c ≠ 143 → c ≠ 144 → c ≠ 138 → ¬ (c = 1 ∧ j = 1) → c ≠ 3 → c ≠ 4 → ¬ (6 ≤ c ∧ c ≤ 15) → rf2 I4 1 c j = I c j := fun c j y0 y1 y2 y3 y4 y5 y6 y7 y8 => by rw [E0 c j y0, EB c j y1 y2 y3, f3 c j y4, f2 c j y5, Fc1 c j y6 y7 y8]
        refine Rl_mono (Rl_small (fun c j w0 => ?_) h (hT0 ?_ ?_) ⟨?_, ?_⟩ (R_congr (I := rf2 (rf1 I 1) 1) (fun j => ?_) (fun j => ?_) hr.2.2.1) (D_congr (E _ _ (by omega) (by omega) (by omega) (by omega) (by omega) (by omega) (by omega) (by omega) (by omega)) (E _ _ (by omega) (by omega) (by omega) (by omega) (by omega) (by omega) (by omega) (by omega) (by omega)) h.2.2.2.1) (M_congr (E _ _ (by omega) (by omega) (by omega) (by omega) (by omega) (by omega) (by omega) (by omega) (by omega)) (fun j => E _ _ (by omega) (by omega) (by omega) (by omega) (by omega) (by omega) (by omega) (by omega) (by omega)) (E _ _ (by omega) (by omega) (by omega) (by omega) (by omega) (by omega) (by omega) (by omega) (by omega)) (fun j => E _ _ (by omega) (by omega) (by omega) (by omega) (by omega) (by omega) (by omega) (by omega) (by omega)) h.2.2.2.2.1))
        · by_cases y1 : c ≤ 4 ∨ (6 ≤ c ∧ c ≤ 15) ∨ c = 138 ∨ c = 143 ∨ c = 144 ∨ c = 146
          · by_cases y2 : c = 0
            · subst y2
              exact E 0 j (by omega) (by omega) (by omega) (by omega) (by omega) (by omega) (by omega) (by omega) (by omega)
            · exfalso
              rcases (by omega : c = 1 ∨ c = 2 ∨ c = 3 ∨ c = 4 ∨ c = 6 ∨ c = 7 ∨ c = 8 ∨ c = 9 ∨ c = 10 ∨ c = 11 ∨ c = 12 ∨ c = 13 ∨ c = 14 ∨ c = 15 ∨ c = 138 ∨ c = 143 ∨ c = 144 ∨ c = 146) with rfl | rfl | rfl | rfl | rfl | rfl | rfl | rfl | rfl | rfl | rfl | rfl | rfl | rfl | rfl | rfl | rfl | rfl <;> (revert w0; unfold W_1; simp [W_0, W_c, W_m, W_b])
          · by_cases y3 : c = 139 ∧ (6 ≤ j ∧ j ≤ 8 ∨ j = 12 ∨ 14 ≤ j ∧ j ≤ 20)
            · exfalso
              obtain ⟨rfl, y4⟩ := y3
              rcases (by omega : j = 6 ∨ j = 7 ∨ j = 8 ∨ j = 12 ∨ j = 14 ∨ j = 15 ∨ j = 16 ∨ j = 17 ∨ j = 18 ∨ j = 19 ∨ j = 20) with rfl | rfl | rfl | rfl | rfl | rfl | rfl | rfl | rfl | rfl | rfl <;> exact absurd w0 (by decide)
            · exact E c j (by omega) y3 (by omega) (by omega) (by omega) (by omega) (by omega) (by omega) (by omega)
        · rw [E0 _ _ (by omega), EB _ _ (by omega) (by omega) (by omega), f3 _ _ (by omega), ← hI2, up_at]
        · rw [E0 _ _ (by omega), f4 _ _ (by omega), Fm1 _ _ (by omega) (by omega) (by omega), b12]
        · rw [E0 _ _ (by omega), E0 _ _ (by omega), EB 3 0 (by omega) (by omega) (by omega), f3 _ _ (by omega), f2 _ _ (by omega), cb'.1, ← hI4, up_k (by omega), up_at]
        · rw [E0 _ _ (by omega), E0 _ _ (by omega), EB 3 1 (by omega) (by omega) (by omega), f3 _ _ (by omega), f2 _ _ (by omega), cb'.2, ← hI4, up_at]
        · have a : rf2 I4 1 138 j = I3 138 j := by rw [E0 _ _ (by omega), EB _ _ (by omega) (by omega) (by omega)]
          have a2 : ∀ V : Nat → Nat → Int32, rf2 V 1 138 j = V 138 j := fun V => by unfold rf2; rw [up_ck (by omega)]
          rw [a, a2, ← hI3]
          unfold rf1
          by_cases y : j = 1
          · subst y
            rw [up_at, up_at, f2 _ _ (by omega), M1 _ _ (by omega)]
          · rw [up_k y, up_k y, f2 _ _ (by omega), M1 _ _ (by omega)]
        · have a : I4 146 j = I 146 j := by rw [EB _ _ (by omega) (by omega) (by omega), f3 _ _ (by omega), f2 _ _ (by omega), M1 _ _ (by omega)]
          have a3 : rf1 I 1 146 j = I 146 j := rf1_ne (by omega)
          unfold rf2
          by_cases y : j = 1
          · subst y
            rw [up_at, up_at, a, a3]
          · rw [up_k y, up_k y, a, a3]
    · exfalso
      have n10 := R.1.2.2.1
      have := (iI_eq (by omega) (by omega) (by omega) (by omega)).mp ev
      omega
  · obtain ⟨I3, p3, c3, a16, nm3, f3⟩ := k_106 (X := X) (J := J) (RDN_cg R (fun c k y => f2 c k (by omega)))
    obtain ⟨⟨v1, v2⟩, -, -⟩ := R_V h
    obtain ⟨v, ev⟩ : ∃ v : Int, (I 16 8).toInt = v := ⟨_, rfl⟩
    rw [ev] at v1 v2
    obtain ⟨I4, hI4⟩ : ∃ I4, am_up I3 128 1 (iI 0) = I4 := ⟨_, rfl⟩
    have f4 : ∀ c k, ¬ (c = 128 ∧ k = 1) → I4 c k = I3 c k := fun c k y => by rw [← hI4, up_ck (by omega)]
    obtain ⟨I5, hI5⟩ : ∃ I5, am_up (am_up (am_up I4 106 5 (iI 0)) 106 6 (iI 0)) 16 6 (iI 0) = I5 := ⟨_, rfl⟩
    have f5 : ∀ c k, ¬ (c = 106 ∧ (k = 5 ∨ k = 6)) → ¬ (c = 16 ∧ k = 6) → I5 c k = I4 c k := fun c k y1 y2 => by rw [← hI5, up_ck (by omega), up_ck (by omega), up_ck (by omega)]
    have e8 : I5 16 8 = iI v := by rw [f5 _ _ (by omega) (by omega), f4 _ _ (by omega), f3 _ _ (by omega) (by omega), f2 _ _ (by omega), M1 _ _ (by omega)]; exact iI_of ev
    obtain ⟨I6, p6, j8, jA, jF⟩ := k_2 (X := X) (J := J) (I := I5) e8 (by omega) (by omega)
    have F6 : ∀ c k, ¬ (c = 16) → c ≠ 80 → c ≠ 84 → ¬ (c = 106 ∧ (k = 5 ∨ k = 6)) → ¬ (c = 128 ∧ k = 1) → ¬ (19 ≤ c ∧ c ≤ 78) → ¬ (c = 1 ∧ k = 1) → I6 c k = I1 c k := fun c k y1 y2 y3 y4 y5 y6 y7 => by rw [jF c k (by omega) y2 y3, f5 c k y4 (by omega), f4 c k y5, f3 c k (by omega) y6, f2 c k y7]
    have eV : ∀ c k, 139 ≤ c → c ≠ 146 → I6 c k = I c k := fun c k y _ => by rw [F6 c k (by omega) (by omega) (by omega) (by omega) (by omega) (by omega) (by omega), M1 c k (by omega)]
    obtain ⟨v', w', I1', Im1, q1, q2, -, Fm1, res⟩ := J_read (X := X) (J := J) (Jm := J) hX tp (mB I6 eV)
    obtain ⟨rfl, rfl⟩ := same v' I1' q1
    rcases res with ⟨k', p', kk', cb', mb', ew⟩ | ⟨m', f', r', g', z', R', ⟨x0, x1, x2, x3⟩, ew, rfl⟩
    · exfalso
      have n10 := R.1.2.2.1
      have := (iI_eq (by omega) (by omega) (by omega) (by omega)).mp ew
      omega
    · have A := mS I6 Im1 _ eV q2
      obtain ⟨I3', p3', c3', a16', nm3', -⟩ := k_106 (X := X) (J := J) (RDN_cg R' (fun c k y => f2 c k (by omega)))
      have e33 : I3' = I3 := by
        rw [p3] at p3'
        exact (sh_inj (Prod.mk.inj (Option.some.inj p3')).2).symm
      subst e33
      obtain ⟨F, p7, m7, s2, o14, o15, u1, w1, s3, nm7, f7⟩ := m_239g (X := X) (J := J) R' x1 x3
      have lo : ∀ c k, c ≤ 138 → F c k = I6 c k := fun c k y => by rw [f7 c k (by omega) (by omega) (by omega) (by omega) (by omega) (by omega), Fm1 c k (by omega) (by omega) (by omega), fB _ _ _ (by omega)]
      have hi : ∀ c k, 139 ≤ c → ¬ (c = 139 ∧ (k ≤ 2 ∨ 6 ≤ k ∧ k ≤ 8 ∨ k = 12 ∨ 14 ≤ k ∧ k ≤ 20 ∨ k = 24 ∨ k = 36)) → ¬ (140 ≤ c ∧ c ≤ 144) → c ≠ 148 → c ≠ 150 → F c k = I c k := fun c k y1 y2 y3 y4 y5 => by rw [f7 c k (by omega) (by omega) (by omega) (by omega) y4 y5, Fm1 c k (by omega) (by omega) (by omega), fB _ _ _ (by omega), F6 c k (by omega) (by omega) (by omega) (by omega) (by omega) (by omega) (by omega), M1 c k (by omega)]
      have c6 : CS (kR m' r' g' z') I6 := CS_cg c3' (fun c k y => by rw [jF c k (by omega) (by omega) (by omega), f5 c k (by omega) (by omega), f4 c k (by omega)])
      have c7 : CS (kR m' r' g' z') F := CS_cg c6 (fun c k y => lo c k (by omega))
      have C6 : rl_C I6 := C_all c6 jA (fun k hk => by
        rw [F6 _ _ (by omega) (by omega) (by omega) (by omega) (by omega) (by omega) (by omega), M1 _ _ (by omega)]
        exact (R_C h).2.2 k hk)
      have hk := R'.1.2.2.1
      refine ⟨iI (m + 1 : Nat), I6, J, F, J, ?_, ?_, ?_⟩
      · have n10 := R.1.2.2.1
        have e1 : am_do X 1 [.ref 106] (am_sh I4 J) = some (none, am_sh I6 J) := by
          simp (disch := first | omega | assumption | exact cat_n | exact cat_i _ | exact cat_r _ | (simp (disch := omega) only [l_0, l_1, l_m1, l_2, l_3, l_4, l_5, l_6, l_7, l_8, l_9, l_10, l_16, l_20, l_40, l_48, l_99, l_200, l_999, l_9999, li_73, li_78, li_m1000000, li_90, li_251, li_400, li_2400, li_91, li_153, li_173, li_96, li_32, li_92, li_12, li_93, li_80, li_14, li_1000000000, li_30, li_11, li_24, li_13, li_97, li_64, li_1600, li_49, li_255, li_2147483647, li_12345, li_1103515245, li_59, li_57, li_122, li_1023, li_1000000, li_52, li_51, li_50, li_47, li_46, li_45, li_44, li_43, li_42, li_41, li_39, li_38, li_37, li_36, li_35, li_34, li_33, li_29, li_28, li_27, li_26, li_25, li_23, li_22, li_21, li_19, li_18, li_17, li_15, li_m8, li_m2, li_60, li_54, li_2907, li_151, li_127, oN, iI_add, iI_sub, iI_mul, iI_neg, Int.reduceAdd, Int.reduceSub, Int.reduceMul, Int.reduceNeg, Int.toNat_natCast, Int.reduceToNat, iI_lt, iI_le, iI_eq, iI_cl, true_or, or_true, false_or, or_false, true_and, and_true, not_true_eq_false, not_false_eq_true]; first | done | omega)) only [↓if_pos, ↓if_neg, Option.bind_some, Option.toList_some, Option.toList_none, List.cons_append, List.nil_append, l_0, l_1, l_m1, l_2, l_3, l_4, l_5, l_6, l_7, l_8, l_9, l_10, l_16, l_20, l_40, l_48, l_99, l_200, l_999, l_9999, li_73, li_78, li_m1000000, li_90, li_251, li_400, li_2400, li_91, li_153, li_173, li_96, li_32, li_92, li_12, li_93, li_80, li_14, li_1000000000, li_30, li_11, li_24, li_13, li_97, li_64, li_1600, li_49, li_255, li_2147483647, li_12345, li_1103515245, li_59, li_57, li_122, li_1023, li_1000000, li_52, li_51, li_50, li_47, li_46, li_45, li_44, li_43, li_42, li_41, li_39, li_38, li_37, li_36, li_35, li_34, li_33, li_29, li_28, li_27, li_26, li_25, li_23, li_22, li_21, li_19, li_18, li_17, li_15, li_m8, li_m2, li_60, li_54, li_2907, li_151, li_127, oN, iI_add, iI_sub, iI_mul, iI_neg, Int.reduceAdd, Int.reduceSub, Int.reduceMul, Int.reduceNeg, Int.toNat_natCast, Int.reduceToNat, iI_cl, cl_1, sg_1_e0, sg_1_12, hI5, p6]
        simp (disch := first | omega | assumption | exact cat_n | exact cat_i _ | exact cat_r _ | (simp (disch := omega) only [l_0, l_1, l_m1, l_2, l_3, l_4, l_5, l_6, l_7, l_8, l_9, l_10, l_16, l_20, l_40, l_48, l_99, l_200, l_999, l_9999, li_73, li_78, li_m1000000, li_90, li_251, li_400, li_2400, li_91, li_153, li_173, li_96, li_32, li_92, li_12, li_93, li_80, li_14, li_1000000000, li_30, li_11, li_24, li_13, li_97, li_64, li_1600, li_49, li_255, li_2147483647, li_12345, li_1103515245, li_59, li_57, li_122, li_1023, li_1000000, li_52, li_51, li_50, li_47, li_46, li_45, li_44, li_43, li_42, li_41, li_39, li_38, li_37, li_36, li_35, li_34, li_33, li_29, li_28, li_27, li_26, li_25, li_23, li_22, li_21, li_19, li_18, li_17, li_15, li_m8, li_m2, li_60, li_54, li_2907, li_151, li_127, oN, iI_add, iI_sub, iI_mul, iI_neg, Int.reduceAdd, Int.reduceSub, Int.reduceMul, Int.reduceNeg, Int.toNat_natCast, Int.reduceToNat, iI_lt, iI_le, iI_eq, iI_cl, true_or, or_true, false_or, or_false, true_and, and_true, not_true_eq_false, not_false_eq_true]; first | done | omega)) only [↓if_pos, ↓if_neg, Option.bind_some, Option.toList_some, Option.toList_none, List.cons_append, List.nil_append, l_0, l_1, l_m1, l_2, l_3, l_4, l_5, l_6, l_7, l_8, l_9, l_10, l_16, l_20, l_40, l_48, l_99, l_200, l_999, l_9999, li_73, li_78, li_m1000000, li_90, li_251, li_400, li_2400, li_91, li_153, li_173, li_96, li_32, li_92, li_12, li_93, li_80, li_14, li_1000000000, li_30, li_11, li_24, li_13, li_97, li_64, li_1600, li_49, li_255, li_2147483647, li_12345, li_1103515245, li_59, li_57, li_122, li_1023, li_1000000, li_52, li_51, li_50, li_47, li_46, li_45, li_44, li_43, li_42, li_41, li_39, li_38, li_37, li_36, li_35, li_34, li_33, li_29, li_28, li_27, li_26, li_25, li_23, li_22, li_21, li_19, li_18, li_17, li_15, li_m8, li_m2, li_60, li_54, li_2907, li_151, li_127, oN, iI_add, iI_sub, iI_mul, iI_neg, Int.reduceAdd, Int.reduceSub, Int.reduceMul, Int.reduceNeg, Int.toNat_natCast, Int.reduceToNat, iI_cl, cl_157, sg_157_e0, p1]
        rw [sg_157_3 (hw1 := cat_n), l_0, hI2]
        simp (disch := first | omega | assumption | exact cat_n | exact cat_i _ | exact cat_r _ | (simp (disch := omega) only [l_0, l_1, l_m1, l_2, l_3, l_4, l_5, l_6, l_7, l_8, l_9, l_10, l_16, l_20, l_40, l_48, l_99, l_200, l_999, l_9999, li_73, li_78, li_m1000000, li_90, li_251, li_400, li_2400, li_91, li_153, li_173, li_96, li_32, li_92, li_12, li_93, li_80, li_14, li_1000000000, li_30, li_11, li_24, li_13, li_97, li_64, li_1600, li_49, li_255, li_2147483647, li_12345, li_1103515245, li_59, li_57, li_122, li_1023, li_1000000, li_52, li_51, li_50, li_47, li_46, li_45, li_44, li_43, li_42, li_41, li_39, li_38, li_37, li_36, li_35, li_34, li_33, li_29, li_28, li_27, li_26, li_25, li_23, li_22, li_21, li_19, li_18, li_17, li_15, li_m8, li_m2, li_60, li_54, li_2907, li_151, li_127, oN, iI_add, iI_sub, iI_mul, iI_neg, Int.reduceAdd, Int.reduceSub, Int.reduceMul, Int.reduceNeg, Int.toNat_natCast, Int.reduceToNat, iI_lt, iI_le, iI_eq, iI_cl, true_or, or_true, false_or, or_false, true_and, and_true, not_true_eq_false, not_false_eq_true]; first | done | omega)) only [↓if_pos, ↓if_neg, Option.bind_some, Option.toList_some, Option.toList_none, List.cons_append, List.nil_append, l_0, l_1, l_m1, l_2, l_3, l_4, l_5, l_6, l_7, l_8, l_9, l_10, l_16, l_20, l_40, l_48, l_99, l_200, l_999, l_9999, li_73, li_78, li_m1000000, li_90, li_251, li_400, li_2400, li_91, li_153, li_173, li_96, li_32, li_92, li_12, li_93, li_80, li_14, li_1000000000, li_30, li_11, li_24, li_13, li_97, li_64, li_1600, li_49, li_255, li_2147483647, li_12345, li_1103515245, li_59, li_57, li_122, li_1023, li_1000000, li_52, li_51, li_50, li_47, li_46, li_45, li_44, li_43, li_42, li_41, li_39, li_38, li_37, li_36, li_35, li_34, li_33, li_29, li_28, li_27, li_26, li_25, li_23, li_22, li_21, li_19, li_18, li_17, li_15, li_m8, li_m2, li_60, li_54, li_2907, li_151, li_127, oN, iI_add, iI_sub, iI_mul, iI_neg, Int.reduceAdd, Int.reduceSub, Int.reduceMul, Int.reduceNeg, Int.toNat_natCast, Int.reduceToNat, iI_cl, p3, sg_157_20, hI4, e1, sg_157_27]
      · rw [A, p7, ew]
      · refine Rl_sky h hn c7 m7 ?_ ?_ ⟨?_, ?_⟩ (fun c k y => ?_) ?_ s2 s3 ?_ (fun b hb => ?_) u1 ?_ ?_ w1 ?_ (C_cg c6 C6 c7 (fun c k y => lo c k (by omega))) ?_
        · rw [lo _ _ (by omega), jF _ _ (by omega) (by omega) (by omega), f5 _ _ (by omega) (by omega), f4 _ _ (by omega), f3 _ _ (by omega) (by omega), ← hI2, up_at]
        · rw [f7 _ _ (by omega) (by omega) (by omega) (by omega) (by omega) (by omega), Fm1 _ _ (by omega) (by omega) (by omega), b12]
        · rw [o14, lo _ _ (by omega), F6 _ _ (by omega) (by omega) (by omega) (by omega) (by omega) (by omega) (by omega), x0]
        · rw [o15, lo _ _ (by omega), F6 _ _ (by omega) (by omega) (by omega) (by omega) (by omega) (by omega) (by omega), x2]
        · by_cases y2 : c ≤ 138
          · rw [lo c k y2, F6 c k (by omega) (by omega) (by omega) (by omega) (by omega) (by omega) (by omega), M1 c k (by omega)]
          · exact hi c k (by omega) (by omega) (by omega) (by omega) (by omega)
        · rw [lo _ _ (by omega), jF _ _ (by omega) (by omega) (by omega), f5 _ _ (by omega) (by omega), f4 _ _ (by omega), a16]
        · rw [lo _ _ (by omega), jF _ _ (by omega) (by omega) (by omega), ← hI5, up_at]
        · have hb' : b < m' := hb
          have hbd := bd_eq (b := b) (by omega)
          exact ⟨f' b, by rw [lo _ _ (by omega), jF _ _ (by omega) (by omega) (by omega), f5 _ _ (by omega) (by omega), f4 _ _ (by omega)]; exact nm3' b hb', (R'.1.2.2.2 b hb').1.2, fun i hi2 => nm7 b hb' i hi2⟩
        · rw [lo _ _ (by omega), jF _ _ (by omega) (by omega) (by omega), ← hI5, up_ck (by omega), up_k (by omega), up_at]
        · rw [lo _ _ (by omega), jF _ _ (by omega) (by omega) (by omega), ← hI5, up_ck (by omega), up_at]
        · rw [lo _ _ (by omega), jF _ _ (by omega) (by omega) (by omega), f5 _ _ (by omega) (by omega), ← hI4, up_at]
        · rw [lo _ _ (by omega), j8, ev]
