/-! THE CLASS LAYS A RING: all of it -/
section S82
variable {X : am_X} {I : Nat → Nat → Int32} {J : Nat → Nat → Int64} {b : Nat} {f : Nat → Int}
theorem k_31 (hf : cr I b = f) (ok : ps_ok f) (hb : b < 11) : ∃ I' : Nat → Nat → Int32, am_do X 31 [.ref (am_bd b)] (am_sh I J) = some (none, am_sh I' J) ∧ CB I' b ∧ cr I' b = f ∧ ∀ c k, ¬ (c = am_bd b ∧ k = 1) → ¬ (am_bd b + 2 ≤ c ∧ c ≤ am_bd b + 5) → I' c k = I c k := by
  have ok' := ok
  obtain ⟨-, ⟨o4, o5⟩, -⟩ := ok'
  obtain ⟨T, eT⟩ : ∃ T : Nat, f 2 = T := ⟨(f 2).toNat, by omega⟩
  have L := Lp1 (n := T) (G := fun s (q : (Nat → Nat → Int32) × Value × Value) => am_ev X amP_31 12 [.ref (am_bd b), .int (iI s), q.2.1, q.2.2] [] (am_sh q.1 J)) (Iv := fun s q => (q.2.1.category = 1 ∧ q.2.2.category = 1) ∧ q.1 (am_bd b) 1 = iI (f 2) ∧ (∀ j : Nat, j < s → q.1 (am_bd b + 2) j = iI (ps_x f j) ∧ q.1 (am_bd b + 3) j = iI (ps_y f j) ∧ q.1 (am_bd b + 4) j = iI (ps_z f j) ∧ q.1 (am_bd b + 5) j = iI (ps_h f j)) ∧ ∀ c k, ¬ (c = am_bd b ∧ k = 1) → ¬ (am_bd b + 2 ≤ c ∧ c ≤ am_bd b + 5) → q.1 c k = I c k) (P := fun r => ∃ I' : Nat → Nat → Int32, r = some (none, am_sh I' J) ∧ CB I' b ∧ cr I' b = f ∧ ∀ c k, ¬ (c = am_bd b ∧ k = 1) → ¬ (am_bd b + 2 ≤ c ∧ c ≤ am_bd b + 5) → I' c k = I c k) (by
    rintro s ⟨I1, w3, w4⟩ hs ⟨⟨hw3, hw4⟩, g1, g2, g3⟩
    try dsimp only at hw3 hw4 g1 g2 g3
    right
    have hf1 : cr I1 b = f := (cr_congr (fun k => g3 _ k (by omega) (by omega))).trans hf
    obtain ⟨v3, v4, x3, x4, p⟩ := k_31s (X := X) (J := J) hf1 ok hb g1 (s := s) (by omega) hw3 hw4
    refine ⟨(pl3 (am_up I1 (am_bd b + 5) s (iI (ps_h f s))) b s (ps_x f s) (ps_y f s) (ps_z f s), v3, v4), ⟨⟨x3, x4⟩, ?_, fun j hj => ?_, fun c k z1 z2 => ?_⟩, ?_⟩
    · try dsimp only
      unfold pl3
      rw [up_ck (by omega), up_ck (by omega), up_ck (by omega), up_ck (by omega)]
      exact g1
    · try dsimp only
      unfold pl3
      by_cases y : j = s
      · subst y
        refine ⟨?_, ?_, ?_, ?_⟩
        · rw [up_ck (by omega), up_at]
        · rw [up_at]
        · rw [up_ck (by omega), up_ck (by omega), up_at]
        · rw [up_ck (by omega), up_ck (by omega), up_ck (by omega), up_at]
      · have g := g2 j (by omega)
        refine ⟨?_, ?_, ?_, ?_⟩
        · rw [up_ck (by omega), up_ck (by omega), up_ck (by omega), up_ck (by omega)]; exact g.1
        · rw [up_ck (by omega), up_ck (by omega), up_ck (by omega), up_ck (by omega)]; exact g.2.1
        · rw [up_ck (by omega), up_ck (by omega), up_ck (by omega), up_ck (by omega)]; exact g.2.2.1
        · rw [up_ck (by omega), up_ck (by omega), up_ck (by omega), up_ck (by omega)]; exact g.2.2.2
    · try dsimp only
      unfold pl3
      rw [up_ck (by omega), up_ck (by omega), up_ck (by omega), up_ck (by omega)]
      exact g3 c k z1 z2
    · try dsimp only
      rw [cS]
      exact p) (by
    rintro ⟨I1, w3, w4⟩ ⟨⟨hw3, hw4⟩, g1, g2, g3⟩
    try dsimp only at hw3 hw4 g1 g2 g3
    have hf1 : cr I1 b = f := (cr_congr (fun k => g3 _ k (by omega) (by omega))).trans hf
    refine ⟨I1, ?_, ⟨by rw [hf1]; exact ok, by rw [hf1]; exact g1, fun s hs => ?_⟩, hf1, g3⟩
    · try dsimp only
      rw [sg_31_12, g1, eT]
      · simp (disch := first | omega | assumption | exact cat_n | exact cat_i _ | exact cat_r _ | (simp (disch := omega) only [l_0, l_1, l_m1, l_2, l_3, l_4, l_5, l_6, l_7, l_8, l_9, l_10, l_16, l_20, l_40, l_48, l_99, l_200, l_999, l_9999, li_73, li_78, li_m1000000, li_90, li_251, li_400, li_2400, li_91, li_153, li_173, li_96, li_32, li_92, li_12, li_93, li_80, li_14, li_1000000000, li_30, li_11, li_24, li_13, li_97, li_64, li_1600, li_49, li_255, li_2147483647, li_12345, li_1103515245, li_59, li_57, li_122, li_1023, li_1000000, li_52, li_51, li_50, li_47, li_46, li_45, li_44, li_43, li_42, li_41, li_39, li_38, li_37, li_36, li_35, li_34, li_33, li_29, li_28, li_27, li_26, li_25, li_23, li_22, li_21, li_19, li_18, li_17, li_15, li_m8, li_m2, li_60, li_54, li_2907, li_151, li_127, oN, iI_add, iI_sub, iI_mul, iI_neg, Int.reduceAdd, Int.reduceSub, Int.reduceMul, Int.reduceNeg, Int.toNat_natCast, iI_lt, iI_le, iI_eq, iI_cl, true_or, or_true, false_or, or_false, true_and, and_true, not_true_eq_false, not_false_eq_true]; first | done | omega)) only [↓if_pos, ↓if_neg, Option.bind_some, Option.toList_some, Option.toList_none, List.cons_append, List.nil_append, l_0, l_1, l_m1, l_2, l_3, l_4, l_5, l_6, l_7, l_8, l_9, l_10, l_16, l_20, l_40, l_48, l_99, l_200, l_999, l_9999, li_73, li_78, li_m1000000, li_90, li_251, li_400, li_2400, li_91, li_153, li_173, li_96, li_32, li_92, li_12, li_93, li_80, li_14, li_1000000000, li_30, li_11, li_24, li_13, li_97, li_64, li_1600, li_49, li_255, li_2147483647, li_12345, li_1103515245, li_59, li_57, li_122, li_1023, li_1000000, li_52, li_51, li_50, li_47, li_46, li_45, li_44, li_43, li_42, li_41, li_39, li_38, li_37, li_36, li_35, li_34, li_33, li_29, li_28, li_27, li_26, li_25, li_23, li_22, li_21, li_19, li_18, li_17, li_15, li_m8, li_m2, li_60, li_54, li_2907, li_151, li_127, oN, iI_add, iI_sub, iI_mul, iI_neg, Int.reduceAdd, Int.reduceSub, Int.reduceMul, Int.reduceNeg, Int.toNat_natCast, iI_cl]
      all_goals assumption
    · rw [hf1] at hs ⊢
      exact g2 s (by omega)) (am_up I (am_bd b) 1 (iI (f 2)), .null, .null) ⟨⟨rfl, rfl⟩, up_at _ _ _ _, fun j hj => by omega, fun c k z1 z2 => up_ck (by omega)⟩
  obtain ⟨I', p1, p2⟩ := L
  try dsimp only at p1
  rw [c0] at p1
  refine ⟨I', ?_, p2⟩
  have c2' := cr_c hf (k := 2) (by omega)
  have m1 : min (f 2) 48 = f 2 := by omega
  have m2 : max 1 (f 2) = f 2 := by omega
  rw [cl_31]
  · rw [sg_31_e0 (hb1 := hb), c2']
    simp (disch := first | omega | assumption | exact cat_n | exact cat_i _ | exact cat_r _ | (simp (disch := omega) only [l_0, l_1, l_m1, l_2, l_3, l_4, l_5, l_6, l_7, l_8, l_9, l_10, l_16, l_20, l_40, l_48, l_99, l_200, l_999, l_9999, li_73, li_78, li_m1000000, li_90, li_251, li_400, li_2400, li_91, li_153, li_173, li_96, li_32, li_92, li_12, li_93, li_80, li_14, li_1000000000, li_30, li_11, li_24, li_13, li_97, li_64, li_1600, li_49, li_255, li_2147483647, li_12345, li_1103515245, li_59, li_57, li_122, li_1023, li_1000000, li_52, li_51, li_50, li_47, li_46, li_45, li_44, li_43, li_42, li_41, li_39, li_38, li_37, li_36, li_35, li_34, li_33, li_29, li_28, li_27, li_26, li_25, li_23, li_22, li_21, li_19, li_18, li_17, li_15, li_m8, li_m2, li_60, li_54, li_2907, li_151, li_127, oN, iI_add, iI_sub, iI_mul, iI_neg, Int.reduceAdd, Int.reduceSub, Int.reduceMul, Int.reduceNeg, Int.toNat_natCast, iI_lt, iI_le, iI_eq, iI_cl, true_or, or_true, false_or, or_false, true_and, and_true, not_true_eq_false, not_false_eq_true]; first | done | omega)) only [↓if_pos, ↓if_neg, Option.bind_some, Option.toList_some, Option.toList_none, List.cons_append, List.nil_append, l_0, l_1, l_m1, l_2, l_3, l_4, l_5, l_6, l_7, l_8, l_9, l_10, l_16, l_20, l_40, l_48, l_99, l_200, l_999, l_9999, li_73, li_78, li_m1000000, li_90, li_251, li_400, li_2400, li_91, li_153, li_173, li_96, li_32, li_92, li_12, li_93, li_80, li_14, li_1000000000, li_30, li_11, li_24, li_13, li_97, li_64, li_1600, li_49, li_255, li_2147483647, li_12345, li_1103515245, li_59, li_57, li_122, li_1023, li_1000000, li_52, li_51, li_50, li_47, li_46, li_45, li_44, li_43, li_42, li_41, li_39, li_38, li_37, li_36, li_35, li_34, li_33, li_29, li_28, li_27, li_26, li_25, li_23, li_22, li_21, li_19, li_18, li_17, li_15, li_m8, li_m2, li_60, li_54, li_2907, li_151, li_127, oN, iI_add, iI_sub, iI_mul, iI_neg, Int.reduceAdd, Int.reduceSub, Int.reduceMul, Int.reduceNeg, Int.toNat_natCast, iI_cl, c_353, c_352, m1, m2, sg_31_8, sg_31_9, p1]
  all_goals first | assumption | omega | exact cat_n | exact cat_i _ | exact cat_r _ | rfl
end S82
