/-! odds (32): the phases that crash -/
section S9r
variable {X : am_X} {K : Sk} {I I' : Nat → Nat → Int32} {J : Nat → Nat → Int64} {b o : Nat}
/-- the step of a phase at a tick -/
theorem ps_rs {f : Nat → Int} {p t : Int} : ps_s (rs f 3 p) t = (p + t) % f 2 := rfl
/-- phase i meets the other within u ticks -/
def pm_ (K : Sk) (b o : Nat) (u : Int) (i : Nat) : Prop := ∃ t : Nat, (t : Int) < u ∧ ht_ K b o ((i + (kt K + t)) % kf K b 2) (ps_s (kf K o) (kt K + t))
theorem pm_mt {u : Int} {i : Nat} : pm_ K b o u i ↔ mt_ K (rs (kf K b) 3 i) (kf K o) u := Iff.rfl
theorem mdq1 {x B : Int} (hB : 0 < B) : (x % B + 1 < B ∧ (x + 1) % B = x % B + 1) ∨ (B ≤ x % B + 1 ∧ (x + 1) % B = 0) := by
  have h1 := Int.emod_nonneg x (show B ≠ 0 by omega)
  have h2 := Int.emod_lt_of_pos x hB
  have h3 : (x + 1) % B = (x % B + 1) % B := by rw [Int.emod_add_emod]
  by_cases z : x % B + 1 < B
  · left
    exact ⟨z, by rw [h3, Int.emod_eq_of_lt (by omega) z]⟩
  · right
    refine ⟨by omega, ?_⟩
    rw [h3, show x % B + 1 = B by omega, Int.emod_self]
theorem mdq2 {x i B : Int} (hB : 0 < B) (i0 : 0 ≤ i) (i1 : i < B) : (x % B + i < B ∧ (i + x) % B = x % B + i) ∨ (B ≤ x % B + i ∧ (i + x) % B = x % B + i - B) := by
  have h1 := Int.emod_nonneg x (show B ≠ 0 by omega)
  have h2 := Int.emod_lt_of_pos x hB
  have h3 : (i + x) % B = (x % B + i) % B := by rw [Int.emod_add_emod, Int.add_comm]
  by_cases z : x % B + i < B
  · left
    exact ⟨z, by rw [h3, Int.emod_eq_of_lt (by omega) z]⟩
  · right
    refine ⟨by omega, ?_⟩
    rw [h3, show x % B + i = (x % B + i - B) + B by omega, Int.add_emod_right, Int.emod_eq_of_lt (by omega) (by omega)]
    omega
set_option maxHeartbeats 1000000 in
theorem k_135 (h : CS K I) (hb : b < kn K) (ho : o < kn K) (hJ : ∀ m : Nat, (m : Int) < kf K o 2 → ∀ s : Nat, s < 64 → (lb (J 105 m) s = true ↔ (s : Int) < kf K b 2 ∧ ht_ K b o s m)) {u : Int} (u0 : 0 ≤ u) (u1 : u ≤ 400) : ∃ x : Int64, am_do X 135 [.ref 96, .ref (am_bd b), .ref (am_bd o), .int (iI u)] (am_sh I J) = some (some (.long x), am_sh I J) ∧ ∀ i : Nat, i < 64 → (lb x i = true ↔ (i : Int) < kf K b 2 ∧ pm_ K b o u i) := by
  have hK := CS_k h
  have hn := K_n hK
  have htt := K_t hK
  have okb := (K_f hK hb).2.1
  have oko := (K_f hK ho).2.1
  have tb := CS_tn h hb
  have to := CS_tn h ho
  obtain ⟨B, hB⟩ : ∃ B : Nat, kf K b 2 = B := ⟨(kf K b 2).toNat, by omega⟩
  obtain ⟨U, hU⟩ : ∃ U : Nat, u = U := ⟨u.toNat, by omega⟩
  subst hU
  have e30 := k_30 (X := X) (J := J) h ho (t := kt K) (by omega) (by omega)
  have M := Lp1 (n := U) (G := fun t (p : Int64 × Value) => am_ev X amP_135 17 [.ref 96, .ref (am_bd b), .ref (am_bd o), .int (iI U), .long p.1, p.2, .int (iI (ps_s (kf K o) (kt K + t))), .int (iI ((kt K + t) % B)), .int (iI t)] [] (am_sh I J)) (Iv := fun t p => p.2.category = 1 ∧ ∀ i : Nat, i < B → (lb p.1 i = true ↔ pm_ K b o t i)) (P := fun r => ∃ x : Int64, r = some (some (.long x), am_sh I J) ∧ ∀ i : Nat, i < 64 → (lb x i = true ↔ (i : Int) < kf K b 2 ∧ pm_ K b o U i)) (by
    rintro t ⟨x, w⟩ ht ⟨hw, v⟩
    right
    have s2 := ps_s_rg (K_f hK ho) (kt K + t)
    have n2 := ps_s1 (K_f hK ho) (kt K + t)
    have n1 := mdq1 (x := kt K + t) (B := B) (by omega)
    have a1 := Int.emod_nonneg (kt K + t) (show (B : Int) ≠ 0 by omega)
    have a2 := Int.emod_lt_of_pos (kt K + t) (show 0 < (B : Int) by omega)
    obtain ⟨m, hm⟩ : ∃ m : Nat, ps_s (kf K o) (kt K + t) = m := ⟨(ps_s (kf K o) (kt K + t)).toNat, by omega⟩
    obtain ⟨r, hr⟩ : ∃ r : Nat, (kt K + t) % B = r := ⟨((kt K + t) % B).toNat, by omega⟩
    have hj : ∀ s : Nat, (lb (J 105 m) s = true ↔ (s : Int) < kf K b 2 ∧ ht_ K b o s m) := fun s => by
      by_cases z : s < 64
      · exact hJ m (by omega) s z
      · have e : lb (J 105 m) s = false := BitVec.getLsbD_of_ge _ _ (by omega)
        rw [e]
        exact ⟨fun y => absurd y (by decide), fun y => absurd y.1 (by omega)⟩
    have ecl : (iI (m : Int)).toNatClampNeg = m := by rw [iI_cl (by omega) (by omega), Int.toNat_natCast]
    obtain ⟨y, hy⟩ : ∃ y : Int64, x ||| (((J 105 m).toUInt64 >>> ((iI (r : Int)).toInt64.toUInt64 &&& Int64.toUInt64 63)).toInt64 ||| (J 105 m <<< ((iI ((B : Int) - (r : Int))).toInt64 &&& 63))) = y := ⟨_, rfl⟩
    have ly : ∀ i : Nat, i < B → (lb y i = true ↔ pm_ K b o (t + 1 : Nat) i) := fun i hi => by
      have e1 : iI ((B : Int) - (r : Int)) = iI ((B - r : Nat) : Int) := by congr 1; omega
      have d := mdq2 (x := kt K + t) (i := i) (B := B) (by omega) (by omega) (by omega)
      rw [hr] at d
      have key : (lb (J 105 m) (r + i) || (decide (B - r ≤ i) && lb (J 105 m) (i - (B - r)))) = true ↔ ht_ K b o ((i + (kt K + t)) % kf K b 2) (ps_s (kf K o) (kt K + t)) := by
        rw [hB, hm, Bool.or_eq_true, Bool.and_eq_true, decide_eq_true_iff, hj, hj, hB]
        rcases d with ⟨d1, d2⟩ | ⟨d1, d2⟩
        · rw [d2, show ((r + i : Nat) : Int) = (r : Int) + i by omega]
          constructor
          · rintro (⟨-, z⟩ | ⟨z, -⟩)
            · exact z
            · omega
          · intro z
            exact Or.inl ⟨by omega, z⟩
        · rw [d2, show ((i - (B - r) : Nat) : Int) = (r : Int) + i - B by omega]
          constructor
          · rintro (⟨z, -⟩ | ⟨-, -, z⟩)
            · omega
            · exact z
          · intro z
            exact Or.inr ⟨by omega, by omega, z⟩
      rw [← hy, lb_or, lb_or, e1, lb_us (by omega), lb_sl (by omega) _ (by omega), Bool.or_eq_true, key, v i hi]
      constructor
      · rintro (⟨t', z1, z2⟩ | z)
        · exact ⟨t', by omega, z2⟩
        · exact ⟨t, by omega, z⟩
      · rintro ⟨t', z1, z2⟩
        by_cases z3 : t' = t
        · subst z3; exact Or.inr z2
        · exact Or.inl ⟨t', by omega, z2⟩
    refine ⟨(y, .null), ⟨cat_n, ly⟩, ?_⟩
    try dsimp only
    rw [cS, show kt K + ((t : Int) + 1) = kt K + t + 1 by omega, sg_135_17 (hb1 := by omega) (hb2 := by omega) (hw5 := hw), tb, to, hB]
    rcases n1 with ⟨p1, p2⟩ | ⟨p1, p2⟩ <;> rcases n2 with ⟨p3, p4⟩ | ⟨p3, p4⟩ <;> rw [p2, p4] <;> rw [hm] at p3 ⊢ <;> rw [hr] at p1 ⊢ <;> rw [ecl] <;> simp (disch := first | omega | assumption | exact cat_n | exact cat_i _ | exact cat_r _ | (simp (disch := omega) only [l_0, l_1, l_m1, l_2, l_3, l_4, l_5, l_6, l_7, l_8, l_9, l_10, l_16, l_20, l_40, l_48, l_99, l_200, l_999, l_9999, li_73, li_78, li_m1000000, li_90, li_251, li_400, li_2400, li_91, li_153, li_173, li_96, li_32, li_92, li_12, li_93, li_80, li_14, li_1000000000, li_30, li_11, li_24, li_13, li_97, li_64, li_1600, li_49, li_255, li_2147483647, li_12345, li_1103515245, li_59, li_57, li_122, li_1023, li_1000000, li_52, li_51, li_50, li_47, li_46, li_45, li_44, li_43, li_42, li_41, li_39, li_38, li_37, li_36, li_35, li_34, li_33, li_29, li_28, li_27, li_26, li_25, li_23, li_22, li_21, li_19, li_18, li_17, li_15, li_m8, li_m2, li_60, li_54, li_2907, li_151, li_127, oN, iI_add, iI_sub, iI_mul, iI_neg, Int.reduceAdd, Int.reduceSub, Int.reduceMul, Int.reduceNeg, Int.toNat_natCast, Int.reduceToNat, iI_lt, iI_le, iI_eq, iI_cl, true_or, or_true, false_or, or_false, true_and, and_true, not_true_eq_false, not_false_eq_true]; first | done | omega)) only [↓if_pos, ↓if_neg, Option.bind_some, Option.toList_some, Option.toList_none, List.cons_append, List.nil_append, l_0, l_1, l_m1, l_2, l_3, l_4, l_5, l_6, l_7, l_8, l_9, l_10, l_16, l_20, l_40, l_48, l_99, l_200, l_999, l_9999, li_73, li_78, li_m1000000, li_90, li_251, li_400, li_2400, li_91, li_153, li_173, li_96, li_32, li_92, li_12, li_93, li_80, li_14, li_1000000000, li_30, li_11, li_24, li_13, li_97, li_64, li_1600, li_49, li_255, li_2147483647, li_12345, li_1103515245, li_59, li_57, li_122, li_1023, li_1000000, li_52, li_51, li_50, li_47, li_46, li_45, li_44, li_43, li_42, li_41, li_39, li_38, li_37, li_36, li_35, li_34, li_33, li_29, li_28, li_27, li_26, li_25, li_23, li_22, li_21, li_19, li_18, li_17, li_15, li_m8, li_m2, li_60, li_54, li_2907, li_151, li_127, oN, iI_add, iI_sub, iI_mul, iI_neg, Int.reduceAdd, Int.reduceSub, Int.reduceMul, Int.reduceNeg, Int.toNat_natCast, Int.reduceToNat, iI_cl] <;> rw [hy]) (by
    rintro ⟨x, w⟩ ⟨hw, v⟩
    refine ⟨x &&& ((Int64.ofNat 1 <<< ((iI B).toInt64 &&& 63)) - Int64.ofNat 1), ?_, fun i hi => ?_⟩
    · try dsimp only
      rw [sg_135_17 (hb1 := by omega) (hb2 := by omega) (hw5 := hw), tb, hB]
      simp (disch := first | omega | assumption | exact cat_n | exact cat_i _ | exact cat_r _ | (simp (disch := omega) only [l_0, l_1, l_m1, l_2, l_3, l_4, l_5, l_6, l_7, l_8, l_9, l_10, l_16, l_20, l_40, l_48, l_99, l_200, l_999, l_9999, li_73, li_78, li_m1000000, li_90, li_251, li_400, li_2400, li_91, li_153, li_173, li_96, li_32, li_92, li_12, li_93, li_80, li_14, li_1000000000, li_30, li_11, li_24, li_13, li_97, li_64, li_1600, li_49, li_255, li_2147483647, li_12345, li_1103515245, li_59, li_57, li_122, li_1023, li_1000000, li_52, li_51, li_50, li_47, li_46, li_45, li_44, li_43, li_42, li_41, li_39, li_38, li_37, li_36, li_35, li_34, li_33, li_29, li_28, li_27, li_26, li_25, li_23, li_22, li_21, li_19, li_18, li_17, li_15, li_m8, li_m2, li_60, li_54, li_2907, li_151, li_127, oN, iI_add, iI_sub, iI_mul, iI_neg, Int.reduceAdd, Int.reduceSub, Int.reduceMul, Int.reduceNeg, Int.toNat_natCast, Int.reduceToNat, iI_lt, iI_le, iI_eq, iI_cl, true_or, or_true, false_or, or_false, true_and, and_true, not_true_eq_false, not_false_eq_true]; first | done | omega)) only [↓if_pos, ↓if_neg, Option.bind_some, Option.toList_some, Option.toList_none, List.cons_append, List.nil_append, l_0, l_1, l_m1, l_2, l_3, l_4, l_5, l_6, l_7, l_8, l_9, l_10, l_16, l_20, l_40, l_48, l_99, l_200, l_999, l_9999, li_73, li_78, li_m1000000, li_90, li_251, li_400, li_2400, li_91, li_153, li_173, li_96, li_32, li_92, li_12, li_93, li_80, li_14, li_1000000000, li_30, li_11, li_24, li_13, li_97, li_64, li_1600, li_49, li_255, li_2147483647, li_12345, li_1103515245, li_59, li_57, li_122, li_1023, li_1000000, li_52, li_51, li_50, li_47, li_46, li_45, li_44, li_43, li_42, li_41, li_39, li_38, li_37, li_36, li_35, li_34, li_33, li_29, li_28, li_27, li_26, li_25, li_23, li_22, li_21, li_19, li_18, li_17, li_15, li_m8, li_m2, li_60, li_54, li_2907, li_151, li_127, oN, iI_add, iI_sub, iI_mul, iI_neg, Int.reduceAdd, Int.reduceSub, Int.reduceMul, Int.reduceNeg, Int.toNat_natCast, Int.reduceToNat, iI_cl]
    · rw [lb_mk (by omega) _ hi, Bool.and_eq_true, decide_eq_true_iff, hB]
      constructor
      · rintro ⟨z1, z2⟩
        exact ⟨by omega, (v i z2).mp z1⟩
      · rintro ⟨z1, z2⟩
        exact ⟨(v i (by omega)).mpr z2, by omega⟩) (Int64.ofNat 0, .null) ⟨cat_n, fun i hi => ⟨fun z => absurd z (by rw [lb_0]; decide), fun ⟨t, z, _⟩ => absurd z (by omega)⟩⟩
  obtain ⟨x, m1, m2⟩ := M
  try dsimp only at m1
  rw [c0, Int.add_zero] at m1
  refine ⟨x, ?_, m2⟩
  have bn : (B : Int) ≠ 0 := by omega
  rw [cl_135]
  · rw [sg_135_e0 (hb1 := by omega) (hb2 := by omega), CS_t h, e30]
    simp (disch := first | omega | assumption | exact cat_n | exact cat_i _ | exact cat_r _ | (simp (disch := omega) only [l_0, l_1, l_m1, l_2, l_3, l_4, l_5, l_6, l_7, l_8, l_9, l_10, l_16, l_20, l_40, l_48, l_99, l_200, l_999, l_9999, li_73, li_78, li_m1000000, li_90, li_251, li_400, li_2400, li_91, li_153, li_173, li_96, li_32, li_92, li_12, li_93, li_80, li_14, li_1000000000, li_30, li_11, li_24, li_13, li_97, li_64, li_1600, li_49, li_255, li_2147483647, li_12345, li_1103515245, li_59, li_57, li_122, li_1023, li_1000000, li_52, li_51, li_50, li_47, li_46, li_45, li_44, li_43, li_42, li_41, li_39, li_38, li_37, li_36, li_35, li_34, li_33, li_29, li_28, li_27, li_26, li_25, li_23, li_22, li_21, li_19, li_18, li_17, li_15, li_m8, li_m2, li_60, li_54, li_2907, li_151, li_127, oN, iI_add, iI_sub, iI_mul, iI_neg, Int.reduceAdd, Int.reduceSub, Int.reduceMul, Int.reduceNeg, Int.toNat_natCast, Int.reduceToNat, iI_lt, iI_le, iI_eq, iI_cl, true_or, or_true, false_or, or_false, true_and, and_true, not_true_eq_false, not_false_eq_true]; first | done | omega)) only [↓if_pos, ↓if_neg, Option.bind_some, Option.toList_some, Option.toList_none, List.cons_append, List.nil_append, l_0, l_1, l_m1, l_2, l_3, l_4, l_5, l_6, l_7, l_8, l_9, l_10, l_16, l_20, l_40, l_48, l_99, l_200, l_999, l_9999, li_73, li_78, li_m1000000, li_90, li_251, li_400, li_2400, li_91, li_153, li_173, li_96, li_32, li_92, li_12, li_93, li_80, li_14, li_1000000000, li_30, li_11, li_24, li_13, li_97, li_64, li_1600, li_49, li_255, li_2147483647, li_12345, li_1103515245, li_59, li_57, li_122, li_1023, li_1000000, li_52, li_51, li_50, li_47, li_46, li_45, li_44, li_43, li_42, li_41, li_39, li_38, li_37, li_36, li_35, li_34, li_33, li_29, li_28, li_27, li_26, li_25, li_23, li_22, li_21, li_19, li_18, li_17, li_15, li_m8, li_m2, li_60, li_54, li_2907, li_151, li_127, oN, iI_add, iI_sub, iI_mul, iI_neg, Int.reduceAdd, Int.reduceSub, Int.reduceMul, Int.reduceNeg, Int.toNat_natCast, Int.reduceToNat, iI_cl]
    rw [sg_135_7 (hb1 := by omega) (hb2 := by omega) (hw5 := cat_n) (hw6 := cat_n) (hw7 := cat_n) (hw8 := cat_n), tb, hB, CS_t h, iI_div (by omega) (by omega) (by omega) (by omega)]
    simp (disch := first | omega | assumption | exact cat_n | exact cat_i _ | exact cat_r _ | (simp (disch := omega) only [l_0, l_1, l_m1, l_2, l_3, l_4, l_5, l_6, l_7, l_8, l_9, l_10, l_16, l_20, l_40, l_48, l_99, l_200, l_999, l_9999, li_73, li_78, li_m1000000, li_90, li_251, li_400, li_2400, li_91, li_153, li_173, li_96, li_32, li_92, li_12, li_93, li_80, li_14, li_1000000000, li_30, li_11, li_24, li_13, li_97, li_64, li_1600, li_49, li_255, li_2147483647, li_12345, li_1103515245, li_59, li_57, li_122, li_1023, li_1000000, li_52, li_51, li_50, li_47, li_46, li_45, li_44, li_43, li_42, li_41, li_39, li_38, li_37, li_36, li_35, li_34, li_33, li_29, li_28, li_27, li_26, li_25, li_23, li_22, li_21, li_19, li_18, li_17, li_15, li_m8, li_m2, li_60, li_54, li_2907, li_151, li_127, oN, iI_add, iI_sub, iI_mul, iI_neg, Int.reduceAdd, Int.reduceSub, Int.reduceMul, Int.reduceNeg, Int.toNat_natCast, Int.reduceToNat, iI_lt, iI_le, iI_eq, iI_cl, true_or, or_true, false_or, or_false, true_and, and_true, not_true_eq_false, not_false_eq_true]; first | done | omega)) only [↓if_pos, ↓if_neg, Option.bind_some, Option.toList_some, Option.toList_none, List.cons_append, List.nil_append, l_0, l_1, l_m1, l_2, l_3, l_4, l_5, l_6, l_7, l_8, l_9, l_10, l_16, l_20, l_40, l_48, l_99, l_200, l_999, l_9999, li_73, li_78, li_m1000000, li_90, li_251, li_400, li_2400, li_91, li_153, li_173, li_96, li_32, li_92, li_12, li_93, li_80, li_14, li_1000000000, li_30, li_11, li_24, li_13, li_97, li_64, li_1600, li_49, li_255, li_2147483647, li_12345, li_1103515245, li_59, li_57, li_122, li_1023, li_1000000, li_52, li_51, li_50, li_47, li_46, li_45, li_44, li_43, li_42, li_41, li_39, li_38, li_37, li_36, li_35, li_34, li_33, li_29, li_28, li_27, li_26, li_25, li_23, li_22, li_21, li_19, li_18, li_17, li_15, li_m8, li_m2, li_60, li_54, li_2907, li_151, li_127, oN, iI_add, iI_sub, iI_mul, iI_neg, Int.reduceAdd, Int.reduceSub, Int.reduceMul, Int.reduceNeg, Int.toNat_natCast, Int.reduceToNat, iI_cl, em_]
    exact m1
  all_goals first | assumption | omega | exact cat_n | exact cat_i _ | exact cat_r _ | rfl
end S9r
