/-! AN ACT BEGINS: the class saves, the model remembers -/
theorem K_20 : ∀ s, s < 20 → am_K (108 + s) = (20, 173) := by
  intro s hs
  refine (am_Kc (by omega)).trans ?_
  revert s
  decide
section S76
variable {X : am_X} {K : Sk} {I I0 : Nat → Nat → Int32} {J : Nat → Nat → Int64}
theorem k_108 (h : CS K I) {a : Nat} (ha : a < 162) (ka : am_K a = (20, 173)) (a1 : 108 ≤ a) (a2 : a ≤ 127) : ∃ I' : Nat → Nat → Int32, am_do X 108 [.ref 16, .ref a] (am_sh I J) = some (none, am_sh I' J) ∧ ((∀ b, b < kn K → ∀ k, k < 9 → I' a (9 * b + k) = I (am_bd b + 1) k) ∧ I' a 90 = I 16 3 ∧ I' a 91 = I 16 5 ∧ I' a 92 = I 16 6 ∧ ∀ j, j < 80 → I' a (93 + j) = I 18 j) ∧ ∀ c k, c ≠ a → I' c k = I c k := by
  have hk := K_n (CS_k h)
  have B := Lp1 (n := kn K) (G := fun b (I1 : Nat → Nat → Int32) => am_ev X amP_108 2 [.ref 16, .ref a, .int (iI b)] [] (am_sh I1 J)) (Iv := fun b I1 => (∀ b', b' < b → ∀ k, k < 9 → I1 a (9 * b' + k) = I (am_bd b' + 1) k) ∧ ∀ c k, c ≠ a → I1 c k = I c k) (P := fun r => ∃ I' : Nat → Nat → Int32, r = some (none, am_sh I' J) ∧ ((∀ b, b < kn K → ∀ k, k < 9 → I' a (9 * b + k) = I (am_bd b + 1) k) ∧ I' a 90 = I 16 3 ∧ I' a 91 = I 16 5 ∧ I' a 92 = I 16 6 ∧ ∀ j, j < 80 → I' a (93 + j) = I 18 j) ∧ ∀ c k, c ≠ a → I' c k = I c k) (by
    rintro b I1 hb ⟨g1, g2⟩
    right
    have hbd := bd_rg (b := b) (by omega)
    have en : I1 16 2 = iI (kn K) := (g2 16 2 (by omega)).trans (CS_n h)
    refine ⟨fun c k => if c = a then (if 9 * b ≤ k ∧ k < 9 * b + 9 then I1 (am_bd b + 1) (k - 9 * b) else I1 c k) else I1 c k, ⟨fun b' hb' k hk => ?_, fun c k z => ?_⟩, ?_⟩
    · try dsimp only
      rw [if_pos rfl]
      by_cases y : b' = b
      · subst y
        rw [if_pos (by omega), show 9 * b' + k - 9 * b' = k by omega]
        exact g2 _ _ (by omega)
      · rw [if_neg (by omega)]
        exact g1 b' (by omega) k hk
    · try dsimp only
      rw [if_neg z]
      exact g2 c k z
    · have e9 : ((b : Int) * 9).toNat = 9 * b := by omega
      try dsimp only
      rw [cS, sg_108_2 (X := X) (n1 := 173) (ha1 := ha) (ka1 := ka), en]
      simp (disch := first | omega | assumption | exact cat_n | exact cat_i _ | exact cat_r _ | (simp (disch := omega) only [l_0, l_1, l_m1, l_2, l_3, l_4, l_5, l_6, l_7, l_8, l_9, l_10, l_16, l_20, l_40, l_48, l_99, l_200, l_999, l_9999, li_73, li_78, li_m1000000, li_90, li_251, li_400, li_2400, li_91, li_153, li_173, li_96, li_32, li_92, li_12, li_93, li_80, li_14, li_1000000000, li_30, li_11, li_24, li_13, li_97, li_64, li_1600, li_49, li_255, li_2147483647, li_12345, li_1103515245, li_59, li_57, li_122, li_1023, li_1000000, li_52, li_51, li_50, li_47, li_46, li_45, li_44, li_43, li_42, li_41, li_39, li_38, li_37, li_36, li_35, li_34, li_33, li_29, li_28, li_27, li_26, li_25, li_23, li_22, li_21, li_19, li_18, li_17, li_15, li_m8, li_m2, li_60, li_54, li_2907, li_151, li_127, oN, iI_add, iI_sub, iI_mul, iI_neg, Int.reduceAdd, Int.reduceSub, Int.reduceMul, Int.reduceNeg, Int.toNat_natCast, iI_lt, iI_le, iI_eq, iI_cl, true_or, or_true, false_or, or_false, true_and, and_true, not_true_eq_false, not_false_eq_true]; first | done | omega)) only [↓if_pos, ↓if_neg, Option.bind_some, Option.toList_some, Option.toList_none, List.cons_append, List.nil_append, l_0, l_1, l_m1, l_2, l_3, l_4, l_5, l_6, l_7, l_8, l_9, l_10, l_16, l_20, l_40, l_48, l_99, l_200, l_999, l_9999, li_73, li_78, li_m1000000, li_90, li_251, li_400, li_2400, li_91, li_153, li_173, li_96, li_32, li_92, li_12, li_93, li_80, li_14, li_1000000000, li_30, li_11, li_24, li_13, li_97, li_64, li_1600, li_49, li_255, li_2147483647, li_12345, li_1103515245, li_59, li_57, li_122, li_1023, li_1000000, li_52, li_51, li_50, li_47, li_46, li_45, li_44, li_43, li_42, li_41, li_39, li_38, li_37, li_36, li_35, li_34, li_33, li_29, li_28, li_27, li_26, li_25, li_23, li_22, li_21, li_19, li_18, li_17, li_15, li_m8, li_m2, li_60, li_54, li_2907, li_151, li_127, oN, iI_add, iI_sub, iI_mul, iI_neg, Int.reduceAdd, Int.reduceSub, Int.reduceMul, Int.reduceNeg, Int.toNat_natCast, iI_cl, e9]
      simp only [Int.toNat_zero, Nat.zero_add, Int.reduceToNat]) (by
    rintro I1 ⟨g1, g2⟩
    have en : I1 16 2 = iI (kn K) := (g2 16 2 (by omega)).trans (CS_n h)
    generalize hU : am_up (am_up (am_up I1 a 90 (I 16 3)) a 91 (I 16 5)) a 92 (I 16 6) = U
    have u1 : ∀ c k, c ≠ a → U c k = I c k := fun c k z => by rw [← hU, up_ck (by omega), up_ck (by omega), up_ck (by omega)]; exact g2 c k z
    have u2 : U a 90 = I 16 3 := by rw [← hU, up_k (by omega), up_k (by omega), up_at]
    have u3 : U a 91 = I 16 5 := by rw [← hU, up_k (by omega), up_at]
    have u4 : U a 92 = I 16 6 := by rw [← hU, up_at]
    have u5 : ∀ k, k < 90 → U a k = I1 a k := fun k z => by rw [← hU, up_k (by omega), up_k (by omega), up_k (by omega)]
    refine ⟨fun c k => if c = a then (if 93 ≤ k ∧ k < 173 then U 18 (k - 93) else U c k) else U c k, ?_, ⟨fun b hb k hk => ?_, ?_, ?_, ?_, fun j hj => ?_⟩, fun c k z => ?_⟩
    · have v1 : I1 16 3 = I 16 3 := g2 16 3 (by omega)
      have v2 : ∀ v, am_up I1 a 90 v 16 5 = I 16 5 := fun v => (up_ck (by omega)).trans (g2 16 5 (by omega))
      have v3 : ∀ v w, am_up (am_up I1 a 90 v) a 91 w 16 6 = I 16 6 := fun v w => by rw [up_ck (by omega), up_ck (by omega)]; exact g2 16 6 (by omega)
      try dsimp only
      rw [sg_108_2 (X := X) (n1 := 173) (ha1 := ha) (ka1 := ka), en]
      simp (disch := first | omega | assumption | exact cat_n | exact cat_i _ | exact cat_r _ | (simp (disch := omega) only [l_0, l_1, l_m1, l_2, l_3, l_4, l_5, l_6, l_7, l_8, l_9, l_10, l_16, l_20, l_40, l_48, l_99, l_200, l_999, l_9999, li_73, li_78, li_m1000000, li_90, li_251, li_400, li_2400, li_91, li_153, li_173, li_96, li_32, li_92, li_12, li_93, li_80, li_14, li_1000000000, li_30, li_11, li_24, li_13, li_97, li_64, li_1600, li_49, li_255, li_2147483647, li_12345, li_1103515245, li_59, li_57, li_122, li_1023, li_1000000, li_52, li_51, li_50, li_47, li_46, li_45, li_44, li_43, li_42, li_41, li_39, li_38, li_37, li_36, li_35, li_34, li_33, li_29, li_28, li_27, li_26, li_25, li_23, li_22, li_21, li_19, li_18, li_17, li_15, li_m8, li_m2, li_60, li_54, li_2907, li_151, li_127, oN, iI_add, iI_sub, iI_mul, iI_neg, Int.reduceAdd, Int.reduceSub, Int.reduceMul, Int.reduceNeg, Int.toNat_natCast, iI_lt, iI_le, iI_eq, iI_cl, true_or, or_true, false_or, or_false, true_and, and_true, not_true_eq_false, not_false_eq_true]; first | done | omega)) only [↓if_pos, ↓if_neg, Option.bind_some, Option.toList_some, Option.toList_none, List.cons_append, List.nil_append, l_0, l_1, l_m1, l_2, l_3, l_4, l_5, l_6, l_7, l_8, l_9, l_10, l_16, l_20, l_40, l_48, l_99, l_200, l_999, l_9999, li_73, li_78, li_m1000000, li_90, li_251, li_400, li_2400, li_91, li_153, li_173, li_96, li_32, li_92, li_12, li_93, li_80, li_14, li_1000000000, li_30, li_11, li_24, li_13, li_97, li_64, li_1600, li_49, li_255, li_2147483647, li_12345, li_1103515245, li_59, li_57, li_122, li_1023, li_1000000, li_52, li_51, li_50, li_47, li_46, li_45, li_44, li_43, li_42, li_41, li_39, li_38, li_37, li_36, li_35, li_34, li_33, li_29, li_28, li_27, li_26, li_25, li_23, li_22, li_21, li_19, li_18, li_17, li_15, li_m8, li_m2, li_60, li_54, li_2907, li_151, li_127, oN, iI_add, iI_sub, iI_mul, iI_neg, Int.reduceAdd, Int.reduceSub, Int.reduceMul, Int.reduceNeg, Int.toNat_natCast, iI_cl, v1]
      simp only [Int.toNat_zero, Nat.zero_add, Int.reduceToNat, v1, v2, v3, hU]
    · try dsimp only
      rw [if_pos rfl, if_neg (by omega), u5 _ (by omega)]
      exact g1 b hb k hk
    · try dsimp only
      rw [if_pos rfl, if_neg (by omega), u2]
    · try dsimp only
      rw [if_pos rfl, if_neg (by omega), u3]
    · try dsimp only
      rw [if_pos rfl, if_neg (by omega), u4]
    · try dsimp only
      rw [if_pos rfl, if_pos (by omega), show 93 + j - 93 = j by omega]
      exact u1 18 j (by omega)
    · try dsimp only
      rw [if_neg z]
      exact u1 c k z) I ⟨fun b' z => by omega, fun _ _ _ => rfl⟩
  obtain ⟨I', p1, p2⟩ := B
  refine ⟨I', ?_, p2⟩
  try dsimp only at p1
  rw [c0] at p1
  rw [cl_108]
  · rw [sg_108_e0 (X := X) (n1 := 173) (ha1 := ha) (ka1 := ka)]
    simp (disch := first | omega | assumption | exact cat_n | exact cat_i _ | exact cat_r _ | (simp (disch := omega) only [l_0, l_1, l_m1, l_2, l_3, l_4, l_5, l_6, l_7, l_8, l_9, l_10, l_16, l_20, l_40, l_48, l_99, l_200, l_999, l_9999, li_73, li_78, li_m1000000, li_90, li_251, li_400, li_2400, li_91, li_153, li_173, li_96, li_32, li_92, li_12, li_93, li_80, li_14, li_1000000000, li_30, li_11, li_24, li_13, li_97, li_64, li_1600, li_49, li_255, li_2147483647, li_12345, li_1103515245, li_59, li_57, li_122, li_1023, li_1000000, li_52, li_51, li_50, li_47, li_46, li_45, li_44, li_43, li_42, li_41, li_39, li_38, li_37, li_36, li_35, li_34, li_33, li_29, li_28, li_27, li_26, li_25, li_23, li_22, li_21, li_19, li_18, li_17, li_15, li_m8, li_m2, li_60, li_54, li_2907, li_151, li_127, oN, iI_add, iI_sub, iI_mul, iI_neg, Int.reduceAdd, Int.reduceSub, Int.reduceMul, Int.reduceNeg, Int.toNat_natCast, iI_lt, iI_le, iI_eq, iI_cl, true_or, or_true, false_or, or_false, true_and, and_true, not_true_eq_false, not_false_eq_true]; first | done | omega)) only [↓if_pos, ↓if_neg, Option.bind_some, Option.toList_some, Option.toList_none, List.cons_append, List.nil_append, l_0, l_1, l_m1, l_2, l_3, l_4, l_5, l_6, l_7, l_8, l_9, l_10, l_16, l_20, l_40, l_48, l_99, l_200, l_999, l_9999, li_73, li_78, li_m1000000, li_90, li_251, li_400, li_2400, li_91, li_153, li_173, li_96, li_32, li_92, li_12, li_93, li_80, li_14, li_1000000000, li_30, li_11, li_24, li_13, li_97, li_64, li_1600, li_49, li_255, li_2147483647, li_12345, li_1103515245, li_59, li_57, li_122, li_1023, li_1000000, li_52, li_51, li_50, li_47, li_46, li_45, li_44, li_43, li_42, li_41, li_39, li_38, li_37, li_36, li_35, li_34, li_33, li_29, li_28, li_27, li_26, li_25, li_23, li_22, li_21, li_19, li_18, li_17, li_15, li_m8, li_m2, li_60, li_54, li_2907, li_151, li_127, oN, iI_add, iI_sub, iI_mul, iI_neg, Int.reduceAdd, Int.reduceSub, Int.reduceMul, Int.reduceNeg, Int.toNat_natCast, iI_cl, p1]
  all_goals first | assumption | omega | exact cat_n | exact cat_i _ | exact cat_r _ | rfl
/-- the class begins an act -/
theorem k_4 {n : Nat} (g : Rl_ n I J) (hn : n < 512) : ∃ I' : Nat → Nat → Int32, am_do X 4 [.ref 106] (am_sh I J) = some (none, am_sh I' J) ∧ BGc I I' ∧ I' 16 8 = iI ((I 16 8).toInt + 1) ∧ ∀ c k, ¬ (108 ≤ c ∧ c ≤ 127) → ¬ (c = 16 ∧ k = 8) → ¬ (c = 106 ∧ (k = 5 ∨ k = 6)) → I' c k = I c k := by
  obtain ⟨hc, -⟩ := Rl_K g
  obtain ⟨r1, ⟨r2, r3⟩, ⟨r4, r5⟩, -⟩ := R_U g
  obtain ⟨⟨v1, v2⟩, -, -⟩ := R_V g
  obtain ⟨v, ev⟩ : ∃ v : Int, (I 16 8).toInt = v := ⟨_, rfl⟩
  have e8 := iI_of ev
  rw [ev] at v1 v2
  have c1 : CS (kI I) (am_up I 16 8 (iI (v + 1))) := by
    refine ⟨CS_k hc, ?_, fun b hb => ?_⟩
    · rw [up_k (by omega), up_k (by omega), up_k (by omega), up_k (by omega)]
      exact hc.2.1
    · have hk := K_n (CS_k hc)
      have hr := bd_rg (b := b) (by omega)
      have e : ∀ o, o ≤ 5 → ∀ k, am_up I 16 8 (iI (v + 1)) (am_bd b + o) k = I (am_bd b + o) k := fun o ho k => up_ck (by omega)
      exact ⟨CB_congr e (CS_B hc hb), (cr_congr (e 1 (by omega))).trans (CS_r hc hb)⟩
  have hs : (uo I + un I) % 20 < 20 := Nat.mod_lt _ (by omega)
  obtain ⟨I1, p1, ⟨a1, a2, a3, a4, a5⟩, a6⟩ := k_108 (X := X) (J := J) c1 (a := 108 + (uo I + un I) % 20) (by omega) (K_20 _ hs) (by omega) (by omega)
  have ecn : kn (kI I) = cn I := rfl
  have hsv : SVc I (I1 (108 + (uo I + un I) % 20)) := by
    refine ⟨fun b hb k hk => ?_, ?_, ?_, ?_, fun j hj => ?_⟩
    · have h10 := (R_n g).2.1
      have hr := bd_rg (b := b) (by omega)
      rw [a1 b (by omega) k hk, up_ck (by omega)]
    · rw [a2, up_k (by omega)]
    · rw [a3, up_k (by omega)]
    · rw [a4, up_k (by omega)]
    · rw [a5 j hj, up_ck (by omega)]
  have f0 : ∀ c k, ¬ (108 ≤ c ∧ c ≤ 127) → ¬ (c = 16 ∧ k = 8) → I1 c k = I c k := fun c k z1 z2 => by rw [a6 c k (by omega), up_ck (by omega)]
  have f1 : I1 106 5 = iI (uo I) := (f0 106 5 (by omega) (by omega)).trans r4
  have f2 : I1 106 6 = iI (un I) := (f0 106 6 (by omega) (by omega)).trans r2
  have f3 : I1 16 8 = iI (v + 1) := by rw [a6 16 8 (by omega), up_at]
  have f4 : ∀ s, s < 20 → s ≠ (uo I + un I) % 20 → ∀ k, I1 (108 + s) k = I (108 + s) k := fun s z1 z2 k => by rw [a6 (108 + s) k (by omega), up_ck (by omega)]
  have b5 : ∀ w, am_up I 16 8 w 106 5 = iI (uo I) := fun w => (up_ck (by omega)).trans r4
  have b6 : ∀ w, am_up I 16 8 w 106 6 = iI (un I) := fun w => (up_ck (by omega)).trans r2
  have em : ((uo I : Int) + (un I : Int)) % 20 = (((uo I + un I) % 20 : Nat) : Int) := by omega
  have em1 : ((uo I : Int) + 1) % 20 = (((uo I + 1) % 20 : Nat) : Int) := by omega
  unfold BGc
  generalize (uo I + un I) % 20 = s at *
  have ecl : (iI (s : Int)).toNatClampNeg = s := by rw [iI_cl (by omega) (by omega), Int.toNat_natCast]
  by_cases q : un I = 20
  · refine ⟨am_up I1 106 5 (iI ((uo I + 1) % 20 : Nat)), ?_, ⟨?_, fun s z1 z2 k => ?_, Or.inl ⟨q, up_at _ _ _ _, ?_⟩⟩, ?_, fun c k z1 z2 z3 => ?_⟩
    · rw [cl_4]
      · rw [sg_4_e0, e8, b5, b6]
        simp (disch := first | omega | assumption | exact cat_n | exact cat_i _ | exact cat_r _ | (simp (disch := omega) only [l_0, l_1, l_m1, l_2, l_3, l_4, l_5, l_6, l_7, l_8, l_9, l_10, l_16, l_20, l_40, l_48, l_99, l_200, l_999, l_9999, li_73, li_78, li_m1000000, li_90, li_251, li_400, li_2400, li_91, li_153, li_173, li_96, li_32, li_92, li_12, li_93, li_80, li_14, li_1000000000, li_30, li_11, li_24, li_13, li_97, li_64, li_1600, li_49, li_255, li_2147483647, li_12345, li_1103515245, li_59, li_57, li_122, li_1023, li_1000000, li_52, li_51, li_50, li_47, li_46, li_45, li_44, li_43, li_42, li_41, li_39, li_38, li_37, li_36, li_35, li_34, li_33, li_29, li_28, li_27, li_26, li_25, li_23, li_22, li_21, li_19, li_18, li_17, li_15, li_m8, li_m2, li_60, li_54, li_2907, li_151, li_127, oN, iI_add, iI_sub, iI_mul, iI_neg, Int.reduceAdd, Int.reduceSub, Int.reduceMul, Int.reduceNeg, Int.toNat_natCast, iI_lt, iI_le, iI_eq, iI_cl, true_or, or_true, false_or, or_false, true_and, and_true, not_true_eq_false, not_false_eq_true]; first | done | omega)) only [↓if_pos, ↓if_neg, Option.bind_some, Option.toList_some, Option.toList_none, List.cons_append, List.nil_append, l_0, l_1, l_m1, l_2, l_3, l_4, l_5, l_6, l_7, l_8, l_9, l_10, l_16, l_20, l_40, l_48, l_99, l_200, l_999, l_9999, li_73, li_78, li_m1000000, li_90, li_251, li_400, li_2400, li_91, li_153, li_173, li_96, li_32, li_92, li_12, li_93, li_80, li_14, li_1000000000, li_30, li_11, li_24, li_13, li_97, li_64, li_1600, li_49, li_255, li_2147483647, li_12345, li_1103515245, li_59, li_57, li_122, li_1023, li_1000000, li_52, li_51, li_50, li_47, li_46, li_45, li_44, li_43, li_42, li_41, li_39, li_38, li_37, li_36, li_35, li_34, li_33, li_29, li_28, li_27, li_26, li_25, li_23, li_22, li_21, li_19, li_18, li_17, li_15, li_m8, li_m2, li_60, li_54, li_2907, li_151, li_127, oN, iI_add, iI_sub, iI_mul, iI_neg, Int.reduceAdd, Int.reduceSub, Int.reduceMul, Int.reduceNeg, Int.toNat_natCast, iI_cl, iI_div, em_, em, ecl, p1, sg_4_20, f1, f2, em1]
      all_goals first | assumption | omega | exact cat_n | exact cat_i _ | exact cat_r _ | rfl
    · have : ∀ k, am_up I1 106 5 (iI ((uo I + 1) % 20 : Nat)) (108 + s) k = I1 (108 + s) k := fun k => up_ck (by omega)
      rw [funext this]
      exact hsv
    · rw [up_ck (by omega)]
      exact f4 s z1 z2 k
    · rw [up_k (by omega), f2, q]
      rfl
    · rw [up_ck (by omega), f3, ev]
    · rw [up_ck (by omega)]
      exact f0 c k z1 z2
  · refine ⟨am_up I1 106 6 (iI (un I + 1 : Nat)), ?_, ⟨?_, fun s z1 z2 k => ?_, Or.inr ⟨by omega, ?_, up_at _ _ _ _⟩⟩, ?_, fun c k z1 z2 z3 => ?_⟩
    · have e1 : ((un I + 1 : Nat) : Int) = (un I : Int) + 1 := by omega
      rw [cl_4]
      · rw [sg_4_e0, e8, b5, b6, e1]
        simp (disch := first | omega | assumption | exact cat_n | exact cat_i _ | exact cat_r _ | (simp (disch := omega) only [l_0, l_1, l_m1, l_2, l_3, l_4, l_5, l_6, l_7, l_8, l_9, l_10, l_16, l_20, l_40, l_48, l_99, l_200, l_999, l_9999, li_73, li_78, li_m1000000, li_90, li_251, li_400, li_2400, li_91, li_153, li_173, li_96, li_32, li_92, li_12, li_93, li_80, li_14, li_1000000000, li_30, li_11, li_24, li_13, li_97, li_64, li_1600, li_49, li_255, li_2147483647, li_12345, li_1103515245, li_59, li_57, li_122, li_1023, li_1000000, li_52, li_51, li_50, li_47, li_46, li_45, li_44, li_43, li_42, li_41, li_39, li_38, li_37, li_36, li_35, li_34, li_33, li_29, li_28, li_27, li_26, li_25, li_23, li_22, li_21, li_19, li_18, li_17, li_15, li_m8, li_m2, li_60, li_54, li_2907, li_151, li_127, oN, iI_add, iI_sub, iI_mul, iI_neg, Int.reduceAdd, Int.reduceSub, Int.reduceMul, Int.reduceNeg, Int.toNat_natCast, iI_lt, iI_le, iI_eq, iI_cl, true_or, or_true, false_or, or_false, true_and, and_true, not_true_eq_false, not_false_eq_true]; first | done | omega)) only [↓if_pos, ↓if_neg, Option.bind_some, Option.toList_some, Option.toList_none, List.cons_append, List.nil_append, l_0, l_1, l_m1, l_2, l_3, l_4, l_5, l_6, l_7, l_8, l_9, l_10, l_16, l_20, l_40, l_48, l_99, l_200, l_999, l_9999, li_73, li_78, li_m1000000, li_90, li_251, li_400, li_2400, li_91, li_153, li_173, li_96, li_32, li_92, li_12, li_93, li_80, li_14, li_1000000000, li_30, li_11, li_24, li_13, li_97, li_64, li_1600, li_49, li_255, li_2147483647, li_12345, li_1103515245, li_59, li_57, li_122, li_1023, li_1000000, li_52, li_51, li_50, li_47, li_46, li_45, li_44, li_43, li_42, li_41, li_39, li_38, li_37, li_36, li_35, li_34, li_33, li_29, li_28, li_27, li_26, li_25, li_23, li_22, li_21, li_19, li_18, li_17, li_15, li_m8, li_m2, li_60, li_54, li_2907, li_151, li_127, oN, iI_add, iI_sub, iI_mul, iI_neg, Int.reduceAdd, Int.reduceSub, Int.reduceMul, Int.reduceNeg, Int.toNat_natCast, iI_cl, iI_div, em_, em, ecl, p1, sg_4_20, f1, f2]
      all_goals first | assumption | omega | exact cat_n | exact cat_i _ | exact cat_r _ | rfl
    · have : ∀ k, am_up I1 106 6 (iI (un I + 1 : Nat)) (108 + s) k = I1 (108 + s) k := fun k => up_ck (by omega)
      rw [funext this]
      exact hsv
    · rw [up_ck (by omega)]
      exact f4 s z1 z2 k
    · rw [up_k (by omega), f1]
    · rw [up_ck (by omega), f3, ev]
    · rw [up_ck (by omega)]
      exact f0 c k z1 z2
/-- the model remembers: behind u rows that it keeps -/
def BM (u : Nat) (I0 I : Nat → Nat → Int32) : Prop := (u = 20 ∧ I 139 24 = iI 20 ∧ (∀ v j, v < 19 → j < 153 → I 149 (153 * v + j) = I0 149 (153 * (v + 1) + j)) ∧ ∀ j, j < 153 → I 149 (153 * 19 + j) = I0 148 j) ∨ (u < 20 ∧ I 139 24 = iI (u + 1 : Nat) ∧ (∀ v j, v < u → j < 153 → I 149 (153 * v + j) = I0 149 (153 * v + j)) ∧ ∀ j, j < 153 → I 149 (153 * u + j) = I0 148 j)
theorem m_244w {u : Nat} (hu : u < 20) (e : I 139 24 = iI u) : ∃ I' : Nat → Nat → Int32, am_ev X amP_244 29 [.ref 139, .int (iI (0 : Nat))] [] (am_sh I J) = some (none, am_sh I' J) ∧ I' 139 24 = iI (u + 1 : Nat) ∧ (∀ j, j < 153 → I' 149 (153 * u + j) = I 148 j) ∧ (∀ j, j < 153 * u → I' 149 j = I 149 j) ∧ ∀ c k, ¬ (c = 139 ∧ k = 24) → c ≠ 149 → I' c k = I c k := by
  refine Lp1 (n := 153) (G := fun i (I1 : Nat → Nat → Int32) => am_ev X amP_244 29 [.ref 139, .int (iI i)] [] (am_sh I1 J)) (Iv := fun i I1 => (∀ j, j < i → I1 149 (153 * u + j) = I 148 j) ∧ (∀ j, j < 153 * u → I1 149 j = I 149 j) ∧ ∀ c k, c ≠ 149 → I1 c k = I c k) (P := fun r => ∃ I' : Nat → Nat → Int32, r = some (none, am_sh I' J) ∧ I' 139 24 = iI (u + 1 : Nat) ∧ (∀ j, j < 153 → I' 149 (153 * u + j) = I 148 j) ∧ (∀ j, j < 153 * u → I' 149 j = I 149 j) ∧ ∀ c k, ¬ (c = 139 ∧ k = 24) → c ≠ 149 → I' c k = I c k) (by
    rintro i I1 hi ⟨g1, g2, g3⟩
    right
    have e1 : I1 139 24 = iI u := (g3 139 24 (by omega)).trans e
    have e2 : I1 148 i = I 148 i := g3 148 i (by omega)
    have e3 : (153 * (u : Int) + (i : Int)).toNat = 153 * u + i := by omega
    refine ⟨am_up I1 149 (153 * u + i) (I 148 i), ⟨fun j hj => ?_, fun j hj => ?_, fun c k z => ?_⟩, ?_⟩
    · by_cases y : j = i
      · subst y; rw [up_at]
      · rw [up_k (by omega)]; exact g1 j (by omega)
    · rw [up_k (by omega)]; exact g2 j hj
    · rw [up_ck (by omega)]; exact g3 c k z
    · try dsimp only
      rw [cS, sg_244_29, e1]
      simp (disch := first | omega | assumption | exact cat_n | exact cat_i _ | exact cat_r _ | (simp (disch := omega) only [l_0, l_1, l_m1, l_2, l_3, l_4, l_5, l_6, l_7, l_8, l_9, l_10, l_16, l_20, l_40, l_48, l_99, l_200, l_999, l_9999, li_73, li_78, li_m1000000, li_90, li_251, li_400, li_2400, li_91, li_153, li_173, li_96, li_32, li_92, li_12, li_93, li_80, li_14, li_1000000000, li_30, li_11, li_24, li_13, li_97, li_64, li_1600, li_49, li_255, li_2147483647, li_12345, li_1103515245, li_59, li_57, li_122, li_1023, li_1000000, li_52, li_51, li_50, li_47, li_46, li_45, li_44, li_43, li_42, li_41, li_39, li_38, li_37, li_36, li_35, li_34, li_33, li_29, li_28, li_27, li_26, li_25, li_23, li_22, li_21, li_19, li_18, li_17, li_15, li_m8, li_m2, li_60, li_54, li_2907, li_151, li_127, oN, iI_add, iI_sub, iI_mul, iI_neg, Int.reduceAdd, Int.reduceSub, Int.reduceMul, Int.reduceNeg, Int.toNat_natCast, iI_lt, iI_le, iI_eq, iI_cl, true_or, or_true, false_or, or_false, true_and, and_true, not_true_eq_false, not_false_eq_true]; first | done | omega)) only [↓if_pos, ↓if_neg, Option.bind_some, Option.toList_some, Option.toList_none, List.cons_append, List.nil_append, l_0, l_1, l_m1, l_2, l_3, l_4, l_5, l_6, l_7, l_8, l_9, l_10, l_16, l_20, l_40, l_48, l_99, l_200, l_999, l_9999, li_73, li_78, li_m1000000, li_90, li_251, li_400, li_2400, li_91, li_153, li_173, li_96, li_32, li_92, li_12, li_93, li_80, li_14, li_1000000000, li_30, li_11, li_24, li_13, li_97, li_64, li_1600, li_49, li_255, li_2147483647, li_12345, li_1103515245, li_59, li_57, li_122, li_1023, li_1000000, li_52, li_51, li_50, li_47, li_46, li_45, li_44, li_43, li_42, li_41, li_39, li_38, li_37, li_36, li_35, li_34, li_33, li_29, li_28, li_27, li_26, li_25, li_23, li_22, li_21, li_19, li_18, li_17, li_15, li_m8, li_m2, li_60, li_54, li_2907, li_151, li_127, oN, iI_add, iI_sub, iI_mul, iI_neg, Int.reduceAdd, Int.reduceSub, Int.reduceMul, Int.reduceNeg, Int.toNat_natCast, iI_cl, e2, e3]) (by
    rintro I1 ⟨g1, g2, g3⟩
    have e1 : I1 139 24 = iI u := (g3 139 24 (by omega)).trans e
    have e4 : ((u + 1 : Nat) : Int) = (u : Int) + 1 := by omega
    refine ⟨am_up I1 139 24 (iI (u + 1 : Nat)), ?_, up_at _ _ _ _, fun j hj => ?_, fun j hj => ?_, fun c k z1 z2 => ?_⟩
    · try dsimp only
      rw [sg_244_29, e1, e4]
      simp (disch := first | omega | assumption | exact cat_n | exact cat_i _ | exact cat_r _ | (simp (disch := omega) only [l_0, l_1, l_m1, l_2, l_3, l_4, l_5, l_6, l_7, l_8, l_9, l_10, l_16, l_20, l_40, l_48, l_99, l_200, l_999, l_9999, li_73, li_78, li_m1000000, li_90, li_251, li_400, li_2400, li_91, li_153, li_173, li_96, li_32, li_92, li_12, li_93, li_80, li_14, li_1000000000, li_30, li_11, li_24, li_13, li_97, li_64, li_1600, li_49, li_255, li_2147483647, li_12345, li_1103515245, li_59, li_57, li_122, li_1023, li_1000000, li_52, li_51, li_50, li_47, li_46, li_45, li_44, li_43, li_42, li_41, li_39, li_38, li_37, li_36, li_35, li_34, li_33, li_29, li_28, li_27, li_26, li_25, li_23, li_22, li_21, li_19, li_18, li_17, li_15, li_m8, li_m2, li_60, li_54, li_2907, li_151, li_127, oN, iI_add, iI_sub, iI_mul, iI_neg, Int.reduceAdd, Int.reduceSub, Int.reduceMul, Int.reduceNeg, Int.toNat_natCast, iI_lt, iI_le, iI_eq, iI_cl, true_or, or_true, false_or, or_false, true_and, and_true, not_true_eq_false, not_false_eq_true]; first | done | omega)) only [↓if_pos, ↓if_neg, Option.bind_some, Option.toList_some, Option.toList_none, List.cons_append, List.nil_append, l_0, l_1, l_m1, l_2, l_3, l_4, l_5, l_6, l_7, l_8, l_9, l_10, l_16, l_20, l_40, l_48, l_99, l_200, l_999, l_9999, li_73, li_78, li_m1000000, li_90, li_251, li_400, li_2400, li_91, li_153, li_173, li_96, li_32, li_92, li_12, li_93, li_80, li_14, li_1000000000, li_30, li_11, li_24, li_13, li_97, li_64, li_1600, li_49, li_255, li_2147483647, li_12345, li_1103515245, li_59, li_57, li_122, li_1023, li_1000000, li_52, li_51, li_50, li_47, li_46, li_45, li_44, li_43, li_42, li_41, li_39, li_38, li_37, li_36, li_35, li_34, li_33, li_29, li_28, li_27, li_26, li_25, li_23, li_22, li_21, li_19, li_18, li_17, li_15, li_m8, li_m2, li_60, li_54, li_2907, li_151, li_127, oN, iI_add, iI_sub, iI_mul, iI_neg, Int.reduceAdd, Int.reduceSub, Int.reduceMul, Int.reduceNeg, Int.toNat_natCast, iI_cl]
    · rw [up_ck (by omega)]; exact g1 j hj
    · rw [up_ck (by omega)]; exact g2 j hj
    · rw [up_ck (by omega)]; exact g3 c k z2) I ⟨fun j hj => by omega, fun _ _ => rfl, fun _ _ _ => rfl⟩
theorem m_244 {u : Nat} (hu : u ≤ 20) (e : I 139 24 = iI u) : ∃ I' : Nat → Nat → Int32, am_do X 244 [.ref 139] (am_sh I J) = some (none, am_sh I' J) ∧ BM u I I' ∧ ∀ c k, ¬ (c = 139 ∧ k = 24) → c ≠ 149 → I' c k = I c k := by
  by_cases q : u = 20
  · subst q
    have e' : I 139 24 = iI 20 := e
    have B := Lp1 (n := 2907) (G := fun i (I1 : Nat → Nat → Int32) => am_ev X amP_244 6 [.ref 139, .int (iI i)] [] (am_sh I1 J)) (Iv := fun i I1 => (∀ j, j < i → I1 149 j = I 149 (j + 153)) ∧ (∀ j, i ≤ j → I1 149 j = I 149 j) ∧ ∀ c k, c ≠ 149 → I1 c k = I c k) (P := fun r => ∃ I' : Nat → Nat → Int32, r = some (none, am_sh I' J) ∧ BM 20 I I' ∧ ∀ c k, ¬ (c = 139 ∧ k = 24) → c ≠ 149 → I' c k = I c k) (by
      rintro i I1 hi ⟨g1, g2, g3⟩
      right
      have e3 : ((i : Int) + 153).toNat = i + 153 := by omega
      have e2 : I1 149 (i + 153) = I 149 (i + 153) := g2 _ (by omega)
      refine ⟨am_up I1 149 i (I 149 (i + 153)), ⟨fun j hj => ?_, fun j hj => ?_, fun c k z => ?_⟩, ?_⟩
      · by_cases y : j = i
        · subst y; rw [up_at]
        · rw [up_k (by omega)]; exact g1 j (by omega)
      · rw [up_k (by omega)]; exact g2 j (by omega)
      · rw [up_ck (by omega)]; exact g3 c k z
      · try dsimp only
        rw [cS, sg_244_6]
        simp (disch := first | omega | assumption | exact cat_n | exact cat_i _ | exact cat_r _ | (simp (disch := omega) only [l_0, l_1, l_m1, l_2, l_3, l_4, l_5, l_6, l_7, l_8, l_9, l_10, l_16, l_20, l_40, l_48, l_99, l_200, l_999, l_9999, li_73, li_78, li_m1000000, li_90, li_251, li_400, li_2400, li_91, li_153, li_173, li_96, li_32, li_92, li_12, li_93, li_80, li_14, li_1000000000, li_30, li_11, li_24, li_13, li_97, li_64, li_1600, li_49, li_255, li_2147483647, li_12345, li_1103515245, li_59, li_57, li_122, li_1023, li_1000000, li_52, li_51, li_50, li_47, li_46, li_45, li_44, li_43, li_42, li_41, li_39, li_38, li_37, li_36, li_35, li_34, li_33, li_29, li_28, li_27, li_26, li_25, li_23, li_22, li_21, li_19, li_18, li_17, li_15, li_m8, li_m2, li_60, li_54, li_2907, li_151, li_127, oN, iI_add, iI_sub, iI_mul, iI_neg, Int.reduceAdd, Int.reduceSub, Int.reduceMul, Int.reduceNeg, Int.toNat_natCast, iI_lt, iI_le, iI_eq, iI_cl, true_or, or_true, false_or, or_false, true_and, and_true, not_true_eq_false, not_false_eq_true]; first | done | omega)) only [↓if_pos, ↓if_neg, Option.bind_some, Option.toList_some, Option.toList_none, List.cons_append, List.nil_append, l_0, l_1, l_m1, l_2, l_3, l_4, l_5, l_6, l_7, l_8, l_9, l_10, l_16, l_20, l_40, l_48, l_99, l_200, l_999, l_9999, li_73, li_78, li_m1000000, li_90, li_251, li_400, li_2400, li_91, li_153, li_173, li_96, li_32, li_92, li_12, li_93, li_80, li_14, li_1000000000, li_30, li_11, li_24, li_13, li_97, li_64, li_1600, li_49, li_255, li_2147483647, li_12345, li_1103515245, li_59, li_57, li_122, li_1023, li_1000000, li_52, li_51, li_50, li_47, li_46, li_45, li_44, li_43, li_42, li_41, li_39, li_38, li_37, li_36, li_35, li_34, li_33, li_29, li_28, li_27, li_26, li_25, li_23, li_22, li_21, li_19, li_18, li_17, li_15, li_m8, li_m2, li_60, li_54, li_2907, li_151, li_127, oN, iI_add, iI_sub, iI_mul, iI_neg, Int.reduceAdd, Int.reduceSub, Int.reduceMul, Int.reduceNeg, Int.toNat_natCast, iI_cl, e2, e3]) (by
      rintro I1 ⟨g1, g2, g3⟩
      have e1 : I1 139 24 = iI 20 := (g3 139 24 (by omega)).trans e'
      obtain ⟨I', p1, p2, p3, p4, p5⟩ := m_244w (X := X) (J := J) (I := am_up I1 139 24 (iI 19)) (u := 19) (by omega) (up_at _ _ _ _)
      rw [c0] at p1
      refine ⟨I', ?_, Or.inl ⟨rfl, p2, fun v j hv hj => ?_, fun j hj => ?_⟩, fun c k z1 z2 => ?_⟩
      · try dsimp only
        rw [sg_244_6, e1]
        simp (disch := first | omega | assumption | exact cat_n | exact cat_i _ | exact cat_r _ | (simp (disch := omega) only [l_0, l_1, l_m1, l_2, l_3, l_4, l_5, l_6, l_7, l_8, l_9, l_10, l_16, l_20, l_40, l_48, l_99, l_200, l_999, l_9999, li_73, li_78, li_m1000000, li_90, li_251, li_400, li_2400, li_91, li_153, li_173, li_96, li_32, li_92, li_12, li_93, li_80, li_14, li_1000000000, li_30, li_11, li_24, li_13, li_97, li_64, li_1600, li_49, li_255, li_2147483647, li_12345, li_1103515245, li_59, li_57, li_122, li_1023, li_1000000, li_52, li_51, li_50, li_47, li_46, li_45, li_44, li_43, li_42, li_41, li_39, li_38, li_37, li_36, li_35, li_34, li_33, li_29, li_28, li_27, li_26, li_25, li_23, li_22, li_21, li_19, li_18, li_17, li_15, li_m8, li_m2, li_60, li_54, li_2907, li_151, li_127, oN, iI_add, iI_sub, iI_mul, iI_neg, Int.reduceAdd, Int.reduceSub, Int.reduceMul, Int.reduceNeg, Int.toNat_natCast, iI_lt, iI_le, iI_eq, iI_cl, true_or, or_true, false_or, or_false, true_and, and_true, not_true_eq_false, not_false_eq_true]; first | done | omega)) only [↓if_pos, ↓if_neg, Option.bind_some, Option.toList_some, Option.toList_none, List.cons_append, List.nil_append, l_0, l_1, l_m1, l_2, l_3, l_4, l_5, l_6, l_7, l_8, l_9, l_10, l_16, l_20, l_40, l_48, l_99, l_200, l_999, l_9999, li_73, li_78, li_m1000000, li_90, li_251, li_400, li_2400, li_91, li_153, li_173, li_96, li_32, li_92, li_12, li_93, li_80, li_14, li_1000000000, li_30, li_11, li_24, li_13, li_97, li_64, li_1600, li_49, li_255, li_2147483647, li_12345, li_1103515245, li_59, li_57, li_122, li_1023, li_1000000, li_52, li_51, li_50, li_47, li_46, li_45, li_44, li_43, li_42, li_41, li_39, li_38, li_37, li_36, li_35, li_34, li_33, li_29, li_28, li_27, li_26, li_25, li_23, li_22, li_21, li_19, li_18, li_17, li_15, li_m8, li_m2, li_60, li_54, li_2907, li_151, li_127, oN, iI_add, iI_sub, iI_mul, iI_neg, Int.reduceAdd, Int.reduceSub, Int.reduceMul, Int.reduceNeg, Int.toNat_natCast, iI_cl, p1]
      · rw [p4 _ (by omega), up_ck (by omega), g1 _ (by omega)]
        congr 1
        omega
      · rw [p3 j hj, up_ck (by omega)]
        exact g3 148 j (by omega)
      · rw [p5 c k z1 z2, up_ck (by omega)]
        exact g3 c k z2) I ⟨fun j hj => by omega, fun _ _ => rfl, fun _ _ _ => rfl⟩
    obtain ⟨I', p1, p2⟩ := B
    try dsimp only at p1
    rw [c0] at p1
    refine ⟨I', ?_, p2⟩
    simp (disch := first | omega | assumption | exact cat_n | exact cat_i _ | exact cat_r _ | (simp (disch := omega) only [l_0, l_1, l_m1, l_2, l_3, l_4, l_5, l_6, l_7, l_8, l_9, l_10, l_16, l_20, l_40, l_48, l_99, l_200, l_999, l_9999, li_73, li_78, li_m1000000, li_90, li_251, li_400, li_2400, li_91, li_153, li_173, li_96, li_32, li_92, li_12, li_93, li_80, li_14, li_1000000000, li_30, li_11, li_24, li_13, li_97, li_64, li_1600, li_49, li_255, li_2147483647, li_12345, li_1103515245, li_59, li_57, li_122, li_1023, li_1000000, li_52, li_51, li_50, li_47, li_46, li_45, li_44, li_43, li_42, li_41, li_39, li_38, li_37, li_36, li_35, li_34, li_33, li_29, li_28, li_27, li_26, li_25, li_23, li_22, li_21, li_19, li_18, li_17, li_15, li_m8, li_m2, li_60, li_54, li_2907, li_151, li_127, oN, iI_add, iI_sub, iI_mul, iI_neg, Int.reduceAdd, Int.reduceSub, Int.reduceMul, Int.reduceNeg, Int.toNat_natCast, iI_lt, iI_le, iI_eq, iI_cl, true_or, or_true, false_or, or_false, true_and, and_true, not_true_eq_false, not_false_eq_true]; first | done | omega)) only [↓if_pos, ↓if_neg, Option.bind_some, Option.toList_some, Option.toList_none, List.cons_append, List.nil_append, l_0, l_1, l_m1, l_2, l_3, l_4, l_5, l_6, l_7, l_8, l_9, l_10, l_16, l_20, l_40, l_48, l_99, l_200, l_999, l_9999, li_73, li_78, li_m1000000, li_90, li_251, li_400, li_2400, li_91, li_153, li_173, li_96, li_32, li_92, li_12, li_93, li_80, li_14, li_1000000000, li_30, li_11, li_24, li_13, li_97, li_64, li_1600, li_49, li_255, li_2147483647, li_12345, li_1103515245, li_59, li_57, li_122, li_1023, li_1000000, li_52, li_51, li_50, li_47, li_46, li_45, li_44, li_43, li_42, li_41, li_39, li_38, li_37, li_36, li_35, li_34, li_33, li_29, li_28, li_27, li_26, li_25, li_23, li_22, li_21, li_19, li_18, li_17, li_15, li_m8, li_m2, li_60, li_54, li_2907, li_151, li_127, oN, iI_add, iI_sub, iI_mul, iI_neg, Int.reduceAdd, Int.reduceSub, Int.reduceMul, Int.reduceNeg, Int.toNat_natCast, iI_cl, cl_244, sg_244_e0, e', p1]
  · obtain ⟨I', p1, p2, p3, p4, p5⟩ := m_244w (X := X) (J := J) (I := I) (u := u) (by omega) e
    rw [c0] at p1
    refine ⟨I', ?_, Or.inr ⟨by omega, p2, fun v j hv hj => ?_, p3⟩, p5⟩
    · simp (disch := first | omega | assumption | exact cat_n | exact cat_i _ | exact cat_r _ | (simp (disch := omega) only [l_0, l_1, l_m1, l_2, l_3, l_4, l_5, l_6, l_7, l_8, l_9, l_10, l_16, l_20, l_40, l_48, l_99, l_200, l_999, l_9999, li_73, li_78, li_m1000000, li_90, li_251, li_400, li_2400, li_91, li_153, li_173, li_96, li_32, li_92, li_12, li_93, li_80, li_14, li_1000000000, li_30, li_11, li_24, li_13, li_97, li_64, li_1600, li_49, li_255, li_2147483647, li_12345, li_1103515245, li_59, li_57, li_122, li_1023, li_1000000, li_52, li_51, li_50, li_47, li_46, li_45, li_44, li_43, li_42, li_41, li_39, li_38, li_37, li_36, li_35, li_34, li_33, li_29, li_28, li_27, li_26, li_25, li_23, li_22, li_21, li_19, li_18, li_17, li_15, li_m8, li_m2, li_60, li_54, li_2907, li_151, li_127, oN, iI_add, iI_sub, iI_mul, iI_neg, Int.reduceAdd, Int.reduceSub, Int.reduceMul, Int.reduceNeg, Int.toNat_natCast, iI_lt, iI_le, iI_eq, iI_cl, true_or, or_true, false_or, or_false, true_and, and_true, not_true_eq_false, not_false_eq_true]; first | done | omega)) only [↓if_pos, ↓if_neg, Option.bind_some, Option.toList_some, Option.toList_none, List.cons_append, List.nil_append, l_0, l_1, l_m1, l_2, l_3, l_4, l_5, l_6, l_7, l_8, l_9, l_10, l_16, l_20, l_40, l_48, l_99, l_200, l_999, l_9999, li_73, li_78, li_m1000000, li_90, li_251, li_400, li_2400, li_91, li_153, li_173, li_96, li_32, li_92, li_12, li_93, li_80, li_14, li_1000000000, li_30, li_11, li_24, li_13, li_97, li_64, li_1600, li_49, li_255, li_2147483647, li_12345, li_1103515245, li_59, li_57, li_122, li_1023, li_1000000, li_52, li_51, li_50, li_47, li_46, li_45, li_44, li_43, li_42, li_41, li_39, li_38, li_37, li_36, li_35, li_34, li_33, li_29, li_28, li_27, li_26, li_25, li_23, li_22, li_21, li_19, li_18, li_17, li_15, li_m8, li_m2, li_60, li_54, li_2907, li_151, li_127, oN, iI_add, iI_sub, iI_mul, iI_neg, Int.reduceAdd, Int.reduceSub, Int.reduceMul, Int.reduceNeg, Int.toNat_natCast, iI_cl, cl_244, sg_244_e0, e, p1]
    · have : 153 * (v + 1) ≤ 153 * u := Nat.mul_le_mul_left 153 (by omega)
      exact p4 _ (by omega)
/-- the model remembers, behind a class that has begun -/
theorem m_244a {n : Nat} {I1 : Nat → Nat → Int32} (g : Rl_ n I J) (e24 : I1 139 24 = I 139 24) (e148 : ∀ k, I1 148 k = I 148 k) (e149 : ∀ k, I1 149 k = I 149 k) : ∃ I' : Nat → Nat → Int32, am_do X 244 [.ref 139] (am_sh I1 J) = some (none, am_sh I' J) ∧ BGm I I' ∧ ∀ c k, ¬ (c = 139 ∧ k = 24) → c ≠ 149 → I' c k = I1 c k := by
  obtain ⟨r1, ⟨r2, r3⟩, -, -⟩ := R_U g
  obtain ⟨I', p1, p2, p3⟩ := m_244 (X := X) (J := J) (I := I1) r3 (e24.trans (r1.trans r2))
  refine ⟨I', p1, ?_, p3⟩
  unfold BM at p2
  unfold BGm
  simp only [e148, e149] at p2
  exact p2
end S76
