/-! AHEAD: who is concerned, who crashes at a tick -/
section ST3
variable {p q : Nat → Prop} {k n : Nat}
theorem b_not (x : Int32) {i : Nat} (hi : i < 32) : bt (x ^^^ iI (-1)) i = !bt x i := by
  have e : iI (-1) = -1 := rfl
  rw [e, b_xor, b_m1 i hi, Bool.xor_true]
theorem st_dif (hn : n ≤ 31) : st p n &&& (st q n ^^^ iI (-1)) = st (fun x => p x ∧ ¬ q x) n := by
  refine b_ext (fun i hi => ?_)
  rw [b_and, b_not _ hi, b_st hn i hi, b_st hn i hi, b_st hn i hi]
  by_cases h : i < n
  · by_cases h1 : p i
    · by_cases h2 : q i
      · rw [bl_t h1, bl_t h2, bl_f (p := p i ∧ ¬ q i) (fun z => z.2 h2)]; simp
      · rw [bl_t h1, bl_f h2, bl_t (p := p i ∧ ¬ q i) ⟨h1, h2⟩]; simp [h]
    · rw [bl_f h1, bl_f (p := p i ∧ ¬ q i) (fun z => h1 z.1)]; simp
  · simp [h]
theorem st_zi (hn : n ≤ 31) : st p n = iI 0 ↔ ∀ k, k < n → ¬ p k := st_z hn
end ST3
/-- who is concerned: those up with a mate that is up, and these -/
def cnd (K : Sk) (A : Nat → Prop) (mt : Nat → Nat → Prop) (x : Nat) : Prop := ∃ b, b < kn K ∧ A b ∧ (∃ o, o < kn K ∧ mt b o ∧ A o) ∧ (x = b ∨ (mt b x ∧ A x))
/-- who crashes at a tick, of those up -/
def crs (K : Sk) (A : Nat → Prop) (t : Int) (x : Nat) : Prop := A x ∧ ∃ o, o < kn K ∧ o ≠ x ∧ A o ∧ ps_far (kf K x) (kf K o) t ≤ kz K * kz K
def AH (K : Sk) (A : Nat → Prop) (mt : Nat → Nat → Prop) (I : Nat → Nat → Int32) : Prop := I 89 8 = st A (kn K) ∧ (∀ a, a < kn K → I 90 a = st (mt a) (kn K)) ∧ I 89 9 = st (cnd K A mt) (kn K)
section S61
variable {X : am_X} {K : Sk} {I : Nat → Nat → Int32} {J : Nat → Nat → Int64} {a b o : Nat} {A : Nat → Prop} {mt : Nat → Nat → Prop}
theorem k_17 (h : CS K I) (h8 : I 89 8 = st A (kn K)) (h9 : ∀ a, a < kn K → I 90 a = st (mt a) (kn K)) : ∃ I' : Nat → Nat → Int32, am_do X 17 [.ref 89] (am_sh I J) = some (none, am_sh I' J) ∧ (∀ c k, ¬ (c = 89 ∧ k = 9) → I' c k = I c k) ∧ AH K A mt I' := by
  have hn := K_n (CS_k h)
  have hF : ∀ I1 : Nat → Nat → Int32, (∀ c k, ¬ (c = 89 ∧ k = 9) → I1 c k = I c k) → CS K I1 := fun I1 f => CS_fr h (fun c k q => f c k (fun z => by rw [z.1] at q; cases q))
  have L := Lp1 (n := kn K) (G := fun k (s : (Nat → Nat → Int32) × Value) => am_ev X amP_17 5 [.ref 89, .int (iI k), s.2] [] (am_sh s.1 J)) (Iv := fun k s => (∀ c j, ¬ (c = 89 ∧ j = 9) → s.1 c j = I c j) ∧ s.1 89 9 = st (fun x => ∃ b, b < k ∧ A b ∧ (∃ o, o < kn K ∧ mt b o ∧ A o) ∧ (x = b ∨ (mt b x ∧ A x))) (kn K) ∧ s.2.category = 1) (P := fun r => ∃ I' : Nat → Nat → Int32, r = some (none, am_sh I' J) ∧ (∀ c k, ¬ (c = 89 ∧ k = 9) → I' c k = I c k) ∧ AH K A mt I') (by
    rintro k ⟨I1, w⟩ hk ⟨f1, v1, hw⟩
    right
    try dsimp only at f1 v1 hw
    have h1 := hF I1 f1
    have a8 : I1 89 8 = st A (kn K) := (f1 89 8 (by omega)).trans h8
    have a9 : I1 90 k = st (mt k) (kn K) := (f1 90 k (by omega)).trans (h9 k hk)
    by_cases q : A k
    · by_cases q2 : ∃ o, o < kn K ∧ mt k o ∧ A o
      · have hne : ¬ st (fun x => mt k x ∧ A x) (kn K) = iI 0 := by
          rw [st_zi (by omega)]
          intro z
          obtain ⟨o, o1, o2⟩ := q2
          exact z o o1 o2
        have es : st (fun x => ∃ b, b < k + 1 ∧ A b ∧ (∃ o, o < kn K ∧ mt b o ∧ A o) ∧ (x = b ∨ (mt b x ∧ A x))) (kn K) = st (fun x => ∃ b, b < k ∧ A b ∧ (∃ o, o < kn K ∧ mt b o ∧ A o) ∧ (x = b ∨ (mt b x ∧ A x))) (kn K) ||| (st (fun x => mt k x ∧ A x) (kn K) ||| st (fun x => x = k) (kn K)) := by
          rw [st_or (by omega), st_or (by omega)]
          refine st_cg (fun x hx => ?_)
          constructor
          · rintro ⟨b, b1, b2, b3, b4⟩
            by_cases e : b = k
            · subst e
              rcases b4 with b4 | b4
              · exact Or.inr (Or.inr b4)
              · exact Or.inr (Or.inl b4)
            · exact Or.inl ⟨b, by omega, b2, b3, b4⟩
          · rintro (⟨b, b1, b2, b3, b4⟩ | z | z)
            · exact ⟨b, by omega, b2, b3, b4⟩
            · exact ⟨k, by omega, q, q2, Or.inr z⟩
            · exact ⟨k, by omega, q, q2, Or.inl z⟩
        refine ⟨(am_up I1 89 9 (st (fun x => ∃ b, b < k + 1 ∧ A b ∧ (∃ o, o < kn K ∧ mt b o ∧ A o) ∧ (x = b ∨ (mt b x ∧ A x))) (kn K)), .int (st (fun x => mt k x ∧ A x) (kn K))), ⟨fun c j hc => by try dsimp only; rw [up_ck (by omega)]; exact f1 c j hc, by try dsimp only; rw [up_at], rfl⟩, ?_⟩
        try dsimp only
        rw [cS, es, sg_17_5]
        · rw [a8]
          simp (disch := first | omega | assumption | exact cat_n | exact cat_i _ | exact cat_r _ | (simp (disch := omega) only [l_0, l_1, l_m1, l_2, l_3, l_4, l_5, l_6, l_7, l_8, l_9, l_10, l_16, l_20, l_40, l_48, l_99, l_200, l_999, l_9999, li_73, li_78, li_m1000000, li_90, li_251, li_400, li_2400, li_91, li_153, li_173, li_96, li_32, li_92, li_12, li_93, li_80, li_14, li_1000000000, li_30, li_11, li_24, li_13, li_97, li_64, li_1600, li_49, li_255, li_2147483647, li_12345, li_1103515245, li_59, li_57, li_122, li_1023, li_1000000, li_52, li_51, li_50, li_47, li_46, li_45, li_44, li_43, li_42, li_41, li_39, li_38, li_37, li_36, li_35, li_34, li_33, li_29, li_28, li_27, li_26, li_25, li_23, li_22, li_21, li_19, li_18, li_17, li_15, li_m8, li_m2, li_60, li_54, li_2907, li_151, li_127, oN, iI_add, iI_sub, iI_mul, iI_neg, Int.reduceAdd, Int.reduceSub, Int.reduceMul, Int.reduceNeg, Int.toNat_natCast, iI_lt, iI_le, iI_eq, iI_cl, true_or, or_true, false_or, or_false, true_and, and_true, not_true_eq_false, not_false_eq_true]; first | done | omega)) only [↓if_pos, ↓if_neg, Option.bind_some, Option.toList_some, Option.toList_none, List.cons_append, List.nil_append, l_0, l_1, l_m1, l_2, l_3, l_4, l_5, l_6, l_7, l_8, l_9, l_10, l_16, l_20, l_40, l_48, l_99, l_200, l_999, l_9999, li_73, li_78, li_m1000000, li_90, li_251, li_400, li_2400, li_91, li_153, li_173, li_96, li_32, li_92, li_12, li_93, li_80, li_14, li_1000000000, li_30, li_11, li_24, li_13, li_97, li_64, li_1600, li_49, li_255, li_2147483647, li_12345, li_1103515245, li_59, li_57, li_122, li_1023, li_1000000, li_52, li_51, li_50, li_47, li_46, li_45, li_44, li_43, li_42, li_41, li_39, li_38, li_37, li_36, li_35, li_34, li_33, li_29, li_28, li_27, li_26, li_25, li_23, li_22, li_21, li_19, li_18, li_17, li_15, li_m8, li_m2, li_60, li_54, li_2907, li_151, li_127, oN, iI_add, iI_sub, iI_mul, iI_neg, Int.reduceAdd, Int.reduceSub, Int.reduceMul, Int.reduceNeg, Int.toNat_natCast, iI_cl, CS_n h1, st_at (p := A) (n := kn K) (k := k) (by omega) hk q, a9, st_and (p := mt k) (q := A) (n := kn K) (by omega), v1, st_one (n := kn K) (k := k) (by omega) hk]
        all_goals first | assumption | omega | exact cat_n | exact cat_i _ | exact cat_r _ | rfl
      · have hne : st (fun x => mt k x ∧ A x) (kn K) = iI 0 := by
          rw [st_zi (by omega)]
          intro o o1 o2
          exact q2 ⟨o, o1, o2⟩
        have es : st (fun x => ∃ b, b < k + 1 ∧ A b ∧ (∃ o, o < kn K ∧ mt b o ∧ A o) ∧ (x = b ∨ (mt b x ∧ A x))) (kn K) = st (fun x => ∃ b, b < k ∧ A b ∧ (∃ o, o < kn K ∧ mt b o ∧ A o) ∧ (x = b ∨ (mt b x ∧ A x))) (kn K) := by
          refine st_cg (fun x hx => ?_)
          constructor
          · rintro ⟨b, b1, b2, b3, b4⟩
            by_cases e : b = k
            · subst e; exact absurd b3 q2
            · exact ⟨b, by omega, b2, b3, b4⟩
          · rintro ⟨b, b1, b2, b3, b4⟩
            exact ⟨b, by omega, b2, b3, b4⟩
        refine ⟨(am_up I1 89 9 (I1 89 9), .int (iI 0)), ⟨fun c j hc => by try dsimp only; rw [up_ck (by omega)]; exact f1 c j hc, by try dsimp only; rw [up_at, es]; exact v1, rfl⟩, ?_⟩
        try dsimp only
        rw [cS, sg_17_5]
        · rw [a8]
          simp (disch := first | omega | assumption | exact cat_n | exact cat_i _ | exact cat_r _ | (simp (disch := omega) only [l_0, l_1, l_m1, l_2, l_3, l_4, l_5, l_6, l_7, l_8, l_9, l_10, l_16, l_20, l_40, l_48, l_99, l_200, l_999, l_9999, li_73, li_78, li_m1000000, li_90, li_251, li_400, li_2400, li_91, li_153, li_173, li_96, li_32, li_92, li_12, li_93, li_80, li_14, li_1000000000, li_30, li_11, li_24, li_13, li_97, li_64, li_1600, li_49, li_255, li_2147483647, li_12345, li_1103515245, li_59, li_57, li_122, li_1023, li_1000000, li_52, li_51, li_50, li_47, li_46, li_45, li_44, li_43, li_42, li_41, li_39, li_38, li_37, li_36, li_35, li_34, li_33, li_29, li_28, li_27, li_26, li_25, li_23, li_22, li_21, li_19, li_18, li_17, li_15, li_m8, li_m2, li_60, li_54, li_2907, li_151, li_127, oN, iI_add, iI_sub, iI_mul, iI_neg, Int.reduceAdd, Int.reduceSub, Int.reduceMul, Int.reduceNeg, Int.toNat_natCast, iI_lt, iI_le, iI_eq, iI_cl, true_or, or_true, false_or, or_false, true_and, and_true, not_true_eq_false, not_false_eq_true]; first | done | omega)) only [↓if_pos, ↓if_neg, Option.bind_some, Option.toList_some, Option.toList_none, List.cons_append, List.nil_append, l_0, l_1, l_m1, l_2, l_3, l_4, l_5, l_6, l_7, l_8, l_9, l_10, l_16, l_20, l_40, l_48, l_99, l_200, l_999, l_9999, li_73, li_78, li_m1000000, li_90, li_251, li_400, li_2400, li_91, li_153, li_173, li_96, li_32, li_92, li_12, li_93, li_80, li_14, li_1000000000, li_30, li_11, li_24, li_13, li_97, li_64, li_1600, li_49, li_255, li_2147483647, li_12345, li_1103515245, li_59, li_57, li_122, li_1023, li_1000000, li_52, li_51, li_50, li_47, li_46, li_45, li_44, li_43, li_42, li_41, li_39, li_38, li_37, li_36, li_35, li_34, li_33, li_29, li_28, li_27, li_26, li_25, li_23, li_22, li_21, li_19, li_18, li_17, li_15, li_m8, li_m2, li_60, li_54, li_2907, li_151, li_127, oN, iI_add, iI_sub, iI_mul, iI_neg, Int.reduceAdd, Int.reduceSub, Int.reduceMul, Int.reduceNeg, Int.toNat_natCast, iI_cl, CS_n h1, st_at (p := A) (n := kn K) (k := k) (by omega) hk q, a9, st_and (p := mt k) (q := A) (n := kn K) (by omega), hne, st_orz]
        all_goals first | assumption | omega | exact cat_n | exact cat_i _ | exact cat_r _ | rfl
    · have es : st (fun x => ∃ b, b < k + 1 ∧ A b ∧ (∃ o, o < kn K ∧ mt b o ∧ A o) ∧ (x = b ∨ (mt b x ∧ A x))) (kn K) = st (fun x => ∃ b, b < k ∧ A b ∧ (∃ o, o < kn K ∧ mt b o ∧ A o) ∧ (x = b ∨ (mt b x ∧ A x))) (kn K) := by
        refine st_cg (fun x hx => ?_)
        constructor
        · rintro ⟨b, b1, b2, b3, b4⟩
          by_cases e : b = k
          · subst e; exact absurd b2 q
          · exact ⟨b, by omega, b2, b3, b4⟩
        · rintro ⟨b, b1, b2, b3, b4⟩
          exact ⟨b, by omega, b2, b3, b4⟩
      refine ⟨(am_up I1 89 9 (I1 89 9), .int (iI 0)), ⟨fun c j hc => by try dsimp only; rw [up_ck (by omega)]; exact f1 c j hc, by try dsimp only; rw [up_at, es]; exact v1, rfl⟩, ?_⟩
      try dsimp only
      rw [cS, sg_17_5]
      · rw [a8]
        simp (disch := first | omega | assumption | exact cat_n | exact cat_i _ | exact cat_r _ | (simp (disch := omega) only [l_0, l_1, l_m1, l_2, l_3, l_4, l_5, l_6, l_7, l_8, l_9, l_10, l_16, l_20, l_40, l_48, l_99, l_200, l_999, l_9999, li_73, li_78, li_m1000000, li_90, li_251, li_400, li_2400, li_91, li_153, li_173, li_96, li_32, li_92, li_12, li_93, li_80, li_14, li_1000000000, li_30, li_11, li_24, li_13, li_97, li_64, li_1600, li_49, li_255, li_2147483647, li_12345, li_1103515245, li_59, li_57, li_122, li_1023, li_1000000, li_52, li_51, li_50, li_47, li_46, li_45, li_44, li_43, li_42, li_41, li_39, li_38, li_37, li_36, li_35, li_34, li_33, li_29, li_28, li_27, li_26, li_25, li_23, li_22, li_21, li_19, li_18, li_17, li_15, li_m8, li_m2, li_60, li_54, li_2907, li_151, li_127, oN, iI_add, iI_sub, iI_mul, iI_neg, Int.reduceAdd, Int.reduceSub, Int.reduceMul, Int.reduceNeg, Int.toNat_natCast, iI_lt, iI_le, iI_eq, iI_cl, true_or, or_true, false_or, or_false, true_and, and_true, not_true_eq_false, not_false_eq_true]; first | done | omega)) only [↓if_pos, ↓if_neg, Option.bind_some, Option.toList_some, Option.toList_none, List.cons_append, List.nil_append, l_0, l_1, l_m1, l_2, l_3, l_4, l_5, l_6, l_7, l_8, l_9, l_10, l_16, l_20, l_40, l_48, l_99, l_200, l_999, l_9999, li_73, li_78, li_m1000000, li_90, li_251, li_400, li_2400, li_91, li_153, li_173, li_96, li_32, li_92, li_12, li_93, li_80, li_14, li_1000000000, li_30, li_11, li_24, li_13, li_97, li_64, li_1600, li_49, li_255, li_2147483647, li_12345, li_1103515245, li_59, li_57, li_122, li_1023, li_1000000, li_52, li_51, li_50, li_47, li_46, li_45, li_44, li_43, li_42, li_41, li_39, li_38, li_37, li_36, li_35, li_34, li_33, li_29, li_28, li_27, li_26, li_25, li_23, li_22, li_21, li_19, li_18, li_17, li_15, li_m8, li_m2, li_60, li_54, li_2907, li_151, li_127, oN, iI_add, iI_sub, iI_mul, iI_neg, Int.reduceAdd, Int.reduceSub, Int.reduceMul, Int.reduceNeg, Int.toNat_natCast, iI_cl, CS_n h1, st_no (p := A) (n := kn K) (k := k) (by omega) (by omega) (fun z => q z.2), st_orz]
      all_goals first | assumption | omega | exact cat_n | exact cat_i _ | exact cat_r _ | rfl) (by
    rintro ⟨I1, w⟩ ⟨f1, v1, hw⟩
    try dsimp only at f1 v1 hw
    have h1 := hF I1 f1
    refine ⟨I1, ?_, f1, (f1 89 8 (by omega)).trans h8, fun a ha => (f1 90 a (by omega)).trans (h9 a ha), v1⟩
    try dsimp only
    rw [sg_17_5]
    · simp (disch := first | omega | assumption | exact cat_n | exact cat_i _ | exact cat_r _ | (simp (disch := omega) only [l_0, l_1, l_m1, l_2, l_3, l_4, l_5, l_6, l_7, l_8, l_9, l_10, l_16, l_20, l_40, l_48, l_99, l_200, l_999, l_9999, li_73, li_78, li_m1000000, li_90, li_251, li_400, li_2400, li_91, li_153, li_173, li_96, li_32, li_92, li_12, li_93, li_80, li_14, li_1000000000, li_30, li_11, li_24, li_13, li_97, li_64, li_1600, li_49, li_255, li_2147483647, li_12345, li_1103515245, li_59, li_57, li_122, li_1023, li_1000000, li_52, li_51, li_50, li_47, li_46, li_45, li_44, li_43, li_42, li_41, li_39, li_38, li_37, li_36, li_35, li_34, li_33, li_29, li_28, li_27, li_26, li_25, li_23, li_22, li_21, li_19, li_18, li_17, li_15, li_m8, li_m2, li_60, li_54, li_2907, li_151, li_127, oN, iI_add, iI_sub, iI_mul, iI_neg, Int.reduceAdd, Int.reduceSub, Int.reduceMul, Int.reduceNeg, Int.toNat_natCast, iI_lt, iI_le, iI_eq, iI_cl, true_or, or_true, false_or, or_false, true_and, and_true, not_true_eq_false, not_false_eq_true]; first | done | omega)) only [↓if_pos, ↓if_neg, Option.bind_some, Option.toList_some, Option.toList_none, List.cons_append, List.nil_append, l_0, l_1, l_m1, l_2, l_3, l_4, l_5, l_6, l_7, l_8, l_9, l_10, l_16, l_20, l_40, l_48, l_99, l_200, l_999, l_9999, li_73, li_78, li_m1000000, li_90, li_251, li_400, li_2400, li_91, li_153, li_173, li_96, li_32, li_92, li_12, li_93, li_80, li_14, li_1000000000, li_30, li_11, li_24, li_13, li_97, li_64, li_1600, li_49, li_255, li_2147483647, li_12345, li_1103515245, li_59, li_57, li_122, li_1023, li_1000000, li_52, li_51, li_50, li_47, li_46, li_45, li_44, li_43, li_42, li_41, li_39, li_38, li_37, li_36, li_35, li_34, li_33, li_29, li_28, li_27, li_26, li_25, li_23, li_22, li_21, li_19, li_18, li_17, li_15, li_m8, li_m2, li_60, li_54, li_2907, li_151, li_127, oN, iI_add, iI_sub, iI_mul, iI_neg, Int.reduceAdd, Int.reduceSub, Int.reduceMul, Int.reduceNeg, Int.toNat_natCast, iI_cl, CS_n h1]
    all_goals first | assumption | omega | exact cat_n | exact cat_i _ | exact cat_r _ | rfl) (am_up I 89 9 (iI 0), .null) ⟨fun c j hc => up_ck (by omega), by
      try dsimp only
      rw [up_at]
      refine ((st_zi (by omega)).mpr (fun x _ z => ?_)).symm
      obtain ⟨b, b1, -⟩ := z
      omega, rfl⟩
  obtain ⟨I', e1, e2⟩ := L
  try dsimp only at e1
  rw [c0] at e1
  refine ⟨I', ?_, e2⟩
  simp (disch := first | omega | assumption | exact cat_n | exact cat_i _ | exact cat_r _ | (simp (disch := omega) only [l_0, l_1, l_m1, l_2, l_3, l_4, l_5, l_6, l_7, l_8, l_9, l_10, l_16, l_20, l_40, l_48, l_99, l_200, l_999, l_9999, li_73, li_78, li_m1000000, li_90, li_251, li_400, li_2400, li_91, li_153, li_173, li_96, li_32, li_92, li_12, li_93, li_80, li_14, li_1000000000, li_30, li_11, li_24, li_13, li_97, li_64, li_1600, li_49, li_255, li_2147483647, li_12345, li_1103515245, li_59, li_57, li_122, li_1023, li_1000000, li_52, li_51, li_50, li_47, li_46, li_45, li_44, li_43, li_42, li_41, li_39, li_38, li_37, li_36, li_35, li_34, li_33, li_29, li_28, li_27, li_26, li_25, li_23, li_22, li_21, li_19, li_18, li_17, li_15, li_m8, li_m2, li_60, li_54, li_2907, li_151, li_127, oN, iI_add, iI_sub, iI_mul, iI_neg, Int.reduceAdd, Int.reduceSub, Int.reduceMul, Int.reduceNeg, Int.toNat_natCast, iI_lt, iI_le, iI_eq, iI_cl, true_or, or_true, false_or, or_false, true_and, and_true, not_true_eq_false, not_false_eq_true]; first | done | omega)) only [↓if_pos, ↓if_neg, Option.bind_some, Option.toList_some, Option.toList_none, List.cons_append, List.nil_append, l_0, l_1, l_m1, l_2, l_3, l_4, l_5, l_6, l_7, l_8, l_9, l_10, l_16, l_20, l_40, l_48, l_99, l_200, l_999, l_9999, li_73, li_78, li_m1000000, li_90, li_251, li_400, li_2400, li_91, li_153, li_173, li_96, li_32, li_92, li_12, li_93, li_80, li_14, li_1000000000, li_30, li_11, li_24, li_13, li_97, li_64, li_1600, li_49, li_255, li_2147483647, li_12345, li_1103515245, li_59, li_57, li_122, li_1023, li_1000000, li_52, li_51, li_50, li_47, li_46, li_45, li_44, li_43, li_42, li_41, li_39, li_38, li_37, li_36, li_35, li_34, li_33, li_29, li_28, li_27, li_26, li_25, li_23, li_22, li_21, li_19, li_18, li_17, li_15, li_m8, li_m2, li_60, li_54, li_2907, li_151, li_127, oN, iI_add, iI_sub, iI_mul, iI_neg, Int.reduceAdd, Int.reduceSub, Int.reduceMul, Int.reduceNeg, Int.toNat_natCast, iI_cl, cl_17, sg_17_e0, e1]
/-- those concerned are placed -/
def plc (K : Sk) (C : Nat → Prop) (t : Int) (I : Nat → Nat → Int32) : Prop := ∀ x, x < kn K → C x → I 92 x = iI (ps_x (kf K x) (ps_s (kf K x) t)) ∧ I 93 x = iI (ps_y (kf K x) (ps_s (kf K x) t)) ∧ I 94 x = iI (ps_z (kf K x) (ps_s (kf K x) t))
set_option maxHeartbeats 1000000 in
theorem k_22 {C : Nat → Prop} (h : CS K I) (h9 : I 89 9 = st C (kn K)) {t : Int} (t0 : 0 ≤ t) (t1 : t ≤ 100000) : ∃ I' : Nat → Nat → Int32, am_do X 22 [.ref 89, .int (iI t)] (am_sh I J) = some (none, am_sh I' J) ∧ (∀ c k, ¬ (92 ≤ c ∧ c ≤ 94) → I' c k = I c k) ∧ plc K C t I' := by
  have hn := K_n (CS_k h)
  have hF : ∀ I1 : Nat → Nat → Int32, (∀ c k, ¬ (92 ≤ c ∧ c ≤ 94) → I1 c k = I c k) → CS K I1 := fun I1 f => CS_fr h (fun c k q => f c k (fun z => by
    have e : ∀ c, c < 95 → 92 ≤ c → W_qb c = true ∧ Nat.beq c 96 = false ∧ Nat.beq c 128 = false ∧ Nat.beq c 3 = false := by decide
    obtain ⟨e1, e2, e3, e4⟩ := e c (by omega) z.1
    unfold W_q at q
    rw [e1, e2, e3, e4] at q
    cases q))
  have L := Lp1 (n := kn K) (G := fun k (s : (Nat → Nat → Int32) × Value × Value) => am_ev X amP_22 2 [.ref 89, .int (iI t), .int (iI k), s.2.1, s.2.2] [] (am_sh s.1 J)) (Iv := fun k s => (∀ c j, ¬ (92 ≤ c ∧ c ≤ 94) → s.1 c j = I c j) ∧ (∀ x, x < k → C x → s.1 92 x = iI (ps_x (kf K x) (ps_s (kf K x) t)) ∧ s.1 93 x = iI (ps_y (kf K x) (ps_s (kf K x) t)) ∧ s.1 94 x = iI (ps_z (kf K x) (ps_s (kf K x) t))) ∧ s.2.1.category = 1 ∧ s.2.2.category = 1) (P := fun r => ∃ I' : Nat → Nat → Int32, r = some (none, am_sh I' J) ∧ (∀ c k, ¬ (92 ≤ c ∧ c ≤ 94) → I' c k = I c k) ∧ plc K C t I') (by
    rintro k ⟨I1, w3, w4⟩ hk ⟨f1, v1, k3, k4⟩
    right
    try dsimp only at f1 v1 k3 k4
    have h1 := hF I1 f1
    have a9 : I1 89 9 = st C (kn K) := (f1 89 9 (by omega)).trans h9
    by_cases q : C k
    · have hr := K_rg (CS_k h) hk
      have hs := K_s (CS_k h) hk t
      have es : (kf K k 3 + t) % kf K k 2 = ps_s (kf K k) t := rfl
      have et := CS_tn h1 hk
      have e3 := CS_c h1 hk (k := 3) (by omega)
      have ecl : (iI (k : Int)).toNatClampNeg = k := by rw [iI_cl (by omega) (by omega), Int.toNat_natCast]
      have ex := CS_x h1 hk hs.1 hs.2
      have ey := CS_y h1 hk hs.1 hs.2
      have ez := CS_zz h1 hk hs.1 hs.2
      have hbd := bd_rg (b := k) (by omega)
      have eu : ∀ c j v, am_up I1 92 j v (am_bd k + c) = I1 (am_bd k + c) ∨ 92 = am_bd k + c := fun c j v => by
        by_cases z : am_bd k + c = 92
        · exact Or.inr z.symm
        · exact Or.inl (up_c z)
      have u1 : ∀ v, am_up I1 92 k v (am_bd k + 3) = I1 (am_bd k + 3) := fun v => up_c (by omega)
      have u2 : ∀ v w, am_up (am_up I1 92 k v) 93 k w (am_bd k + 4) = I1 (am_bd k + 4) := fun v w => by rw [up_c (by omega), up_c (by omega)]
      have u3 : ∀ v, am_up I1 92 k v (am_bd k) = I1 (am_bd k) := fun v => up_c (by omega)
      refine ⟨(am_up (am_up (am_up I1 92 k (iI (ps_x (kf K k) (ps_s (kf K k) t)))) 93 k (iI (ps_y (kf K k) (ps_s (kf K k) t)))) 94 k (iI (ps_z (kf K k) (ps_s (kf K k) t))), .ref (am_bd k), .int (iI (ps_s (kf K k) t))), ⟨fun c j hc => by try dsimp only; rw [up_c (by omega), up_c (by omega), up_c (by omega)]; exact f1 c j hc, fun x hx hc => ?_, rfl, rfl⟩, ?_⟩
      · try dsimp only
        by_cases e : x = k
        · subst e
          refine ⟨?_, ?_, up_at _ _ _ _⟩
          · rw [up_c (by omega), up_c (by omega), up_at]
          · rw [up_c (by omega), up_at]
        · rw [up_ck (by omega), up_ck (by omega), up_ck (by omega), up_ck (by omega), up_ck (by omega), up_ck (by omega), up_ck (by omega), up_ck (by omega), up_ck (by omega)]
          exact v1 x (by omega) hc
      · try dsimp only
        rw [cS, sg_22_2]
        · rw [a9, ecl, et, e3]
          simp (disch := first | omega | assumption | exact cat_n | exact cat_i _ | exact cat_r _ | (simp (disch := omega) only [l_0, l_1, l_m1, l_2, l_3, l_4, l_5, l_6, l_7, l_8, l_9, l_10, l_16, l_20, l_40, l_48, l_99, l_200, l_999, l_9999, li_73, li_78, li_m1000000, li_90, li_251, li_400, li_2400, li_91, li_153, li_173, li_96, li_32, li_92, li_12, li_93, li_80, li_14, li_1000000000, li_30, li_11, li_24, li_13, li_97, li_64, li_1600, li_49, li_255, li_2147483647, li_12345, li_1103515245, li_59, li_57, li_122, li_1023, li_1000000, li_52, li_51, li_50, li_47, li_46, li_45, li_44, li_43, li_42, li_41, li_39, li_38, li_37, li_36, li_35, li_34, li_33, li_29, li_28, li_27, li_26, li_25, li_23, li_22, li_21, li_19, li_18, li_17, li_15, li_m8, li_m2, li_60, li_54, li_2907, li_151, li_127, oN, iI_add, iI_sub, iI_mul, iI_neg, Int.reduceAdd, Int.reduceSub, Int.reduceMul, Int.reduceNeg, Int.toNat_natCast, iI_lt, iI_le, iI_eq, iI_cl, true_or, or_true, false_or, or_false, true_and, and_true, not_true_eq_false, not_false_eq_true]; first | done | omega)) only [↓if_pos, ↓if_neg, Option.bind_some, Option.toList_some, Option.toList_none, List.cons_append, List.nil_append, l_0, l_1, l_m1, l_2, l_3, l_4, l_5, l_6, l_7, l_8, l_9, l_10, l_16, l_20, l_40, l_48, l_99, l_200, l_999, l_9999, li_73, li_78, li_m1000000, li_90, li_251, li_400, li_2400, li_91, li_153, li_173, li_96, li_32, li_92, li_12, li_93, li_80, li_14, li_1000000000, li_30, li_11, li_24, li_13, li_97, li_64, li_1600, li_49, li_255, li_2147483647, li_12345, li_1103515245, li_59, li_57, li_122, li_1023, li_1000000, li_52, li_51, li_50, li_47, li_46, li_45, li_44, li_43, li_42, li_41, li_39, li_38, li_37, li_36, li_35, li_34, li_33, li_29, li_28, li_27, li_26, li_25, li_23, li_22, li_21, li_19, li_18, li_17, li_15, li_m8, li_m2, li_60, li_54, li_2907, li_151, li_127, oN, iI_add, iI_sub, iI_mul, iI_neg, Int.reduceAdd, Int.reduceSub, Int.reduceMul, Int.reduceNeg, Int.toNat_natCast, iI_cl, CS_n h1, st_at (p := C) (n := kn K) (k := k) (by omega) hk q, iI_div, em_, es, ex, ey, ez, u1, u2, u3]
        all_goals first | assumption | omega | exact cat_n | exact cat_i _ | exact cat_r _ | rfl
    · refine ⟨(I1, w3, w4), ⟨f1, fun x hx hc => ?_, k3, k4⟩, ?_⟩
      · by_cases e : x = k
        · subst e; exact absurd hc q
        · exact v1 x (by omega) hc
      · try dsimp only
        rw [cS, sg_22_2]
        · rw [a9]
          simp (disch := first | omega | assumption | exact cat_n | exact cat_i _ | exact cat_r _ | (simp (disch := omega) only [l_0, l_1, l_m1, l_2, l_3, l_4, l_5, l_6, l_7, l_8, l_9, l_10, l_16, l_20, l_40, l_48, l_99, l_200, l_999, l_9999, li_73, li_78, li_m1000000, li_90, li_251, li_400, li_2400, li_91, li_153, li_173, li_96, li_32, li_92, li_12, li_93, li_80, li_14, li_1000000000, li_30, li_11, li_24, li_13, li_97, li_64, li_1600, li_49, li_255, li_2147483647, li_12345, li_1103515245, li_59, li_57, li_122, li_1023, li_1000000, li_52, li_51, li_50, li_47, li_46, li_45, li_44, li_43, li_42, li_41, li_39, li_38, li_37, li_36, li_35, li_34, li_33, li_29, li_28, li_27, li_26, li_25, li_23, li_22, li_21, li_19, li_18, li_17, li_15, li_m8, li_m2, li_60, li_54, li_2907, li_151, li_127, oN, iI_add, iI_sub, iI_mul, iI_neg, Int.reduceAdd, Int.reduceSub, Int.reduceMul, Int.reduceNeg, Int.toNat_natCast, iI_lt, iI_le, iI_eq, iI_cl, true_or, or_true, false_or, or_false, true_and, and_true, not_true_eq_false, not_false_eq_true]; first | done | omega)) only [↓if_pos, ↓if_neg, Option.bind_some, Option.toList_some, Option.toList_none, List.cons_append, List.nil_append, l_0, l_1, l_m1, l_2, l_3, l_4, l_5, l_6, l_7, l_8, l_9, l_10, l_16, l_20, l_40, l_48, l_99, l_200, l_999, l_9999, li_73, li_78, li_m1000000, li_90, li_251, li_400, li_2400, li_91, li_153, li_173, li_96, li_32, li_92, li_12, li_93, li_80, li_14, li_1000000000, li_30, li_11, li_24, li_13, li_97, li_64, li_1600, li_49, li_255, li_2147483647, li_12345, li_1103515245, li_59, li_57, li_122, li_1023, li_1000000, li_52, li_51, li_50, li_47, li_46, li_45, li_44, li_43, li_42, li_41, li_39, li_38, li_37, li_36, li_35, li_34, li_33, li_29, li_28, li_27, li_26, li_25, li_23, li_22, li_21, li_19, li_18, li_17, li_15, li_m8, li_m2, li_60, li_54, li_2907, li_151, li_127, oN, iI_add, iI_sub, iI_mul, iI_neg, Int.reduceAdd, Int.reduceSub, Int.reduceMul, Int.reduceNeg, Int.toNat_natCast, iI_cl, CS_n h1, st_no (p := C) (n := kn K) (k := k) (by omega) (by omega) (fun z => q z.2)]
        all_goals first | assumption | omega | exact cat_n | exact cat_i _ | exact cat_r _ | rfl) (by
    rintro ⟨I1, w3, w4⟩ ⟨f1, v1, k3, k4⟩
    try dsimp only at f1 v1 k3 k4
    have h1 := hF I1 f1
    refine ⟨I1, ?_, f1, v1⟩
    try dsimp only
    rw [sg_22_2]
    · simp (disch := first | omega | assumption | exact cat_n | exact cat_i _ | exact cat_r _ | (simp (disch := omega) only [l_0, l_1, l_m1, l_2, l_3, l_4, l_5, l_6, l_7, l_8, l_9, l_10, l_16, l_20, l_40, l_48, l_99, l_200, l_999, l_9999, li_73, li_78, li_m1000000, li_90, li_251, li_400, li_2400, li_91, li_153, li_173, li_96, li_32, li_92, li_12, li_93, li_80, li_14, li_1000000000, li_30, li_11, li_24, li_13, li_97, li_64, li_1600, li_49, li_255, li_2147483647, li_12345, li_1103515245, li_59, li_57, li_122, li_1023, li_1000000, li_52, li_51, li_50, li_47, li_46, li_45, li_44, li_43, li_42, li_41, li_39, li_38, li_37, li_36, li_35, li_34, li_33, li_29, li_28, li_27, li_26, li_25, li_23, li_22, li_21, li_19, li_18, li_17, li_15, li_m8, li_m2, li_60, li_54, li_2907, li_151, li_127, oN, iI_add, iI_sub, iI_mul, iI_neg, Int.reduceAdd, Int.reduceSub, Int.reduceMul, Int.reduceNeg, Int.toNat_natCast, iI_lt, iI_le, iI_eq, iI_cl, true_or, or_true, false_or, or_false, true_and, and_true, not_true_eq_false, not_false_eq_true]; first | done | omega)) only [↓if_pos, ↓if_neg, Option.bind_some, Option.toList_some, Option.toList_none, List.cons_append, List.nil_append, l_0, l_1, l_m1, l_2, l_3, l_4, l_5, l_6, l_7, l_8, l_9, l_10, l_16, l_20, l_40, l_48, l_99, l_200, l_999, l_9999, li_73, li_78, li_m1000000, li_90, li_251, li_400, li_2400, li_91, li_153, li_173, li_96, li_32, li_92, li_12, li_93, li_80, li_14, li_1000000000, li_30, li_11, li_24, li_13, li_97, li_64, li_1600, li_49, li_255, li_2147483647, li_12345, li_1103515245, li_59, li_57, li_122, li_1023, li_1000000, li_52, li_51, li_50, li_47, li_46, li_45, li_44, li_43, li_42, li_41, li_39, li_38, li_37, li_36, li_35, li_34, li_33, li_29, li_28, li_27, li_26, li_25, li_23, li_22, li_21, li_19, li_18, li_17, li_15, li_m8, li_m2, li_60, li_54, li_2907, li_151, li_127, oN, iI_add, iI_sub, iI_mul, iI_neg, Int.reduceAdd, Int.reduceSub, Int.reduceMul, Int.reduceNeg, Int.toNat_natCast, iI_cl, CS_n h1]
    all_goals first | assumption | omega | exact cat_n | exact cat_i _ | exact cat_r _ | rfl) (I, .null, .null) ⟨fun _ _ _ => rfl, fun x hx => by omega, rfl, rfl⟩
  obtain ⟨I', e1, e2⟩ := L
  try dsimp only at e1
  rw [c0] at e1
  refine ⟨I', ?_, e2⟩
  simp (disch := first | omega | assumption | exact cat_n | exact cat_i _ | exact cat_r _ | (simp (disch := omega) only [l_0, l_1, l_m1, l_2, l_3, l_4, l_5, l_6, l_7, l_8, l_9, l_10, l_16, l_20, l_40, l_48, l_99, l_200, l_999, l_9999, li_73, li_78, li_m1000000, li_90, li_251, li_400, li_2400, li_91, li_153, li_173, li_96, li_32, li_92, li_12, li_93, li_80, li_14, li_1000000000, li_30, li_11, li_24, li_13, li_97, li_64, li_1600, li_49, li_255, li_2147483647, li_12345, li_1103515245, li_59, li_57, li_122, li_1023, li_1000000, li_52, li_51, li_50, li_47, li_46, li_45, li_44, li_43, li_42, li_41, li_39, li_38, li_37, li_36, li_35, li_34, li_33, li_29, li_28, li_27, li_26, li_25, li_23, li_22, li_21, li_19, li_18, li_17, li_15, li_m8, li_m2, li_60, li_54, li_2907, li_151, li_127, oN, iI_add, iI_sub, iI_mul, iI_neg, Int.reduceAdd, Int.reduceSub, Int.reduceMul, Int.reduceNeg, Int.toNat_natCast, iI_lt, iI_le, iI_eq, iI_cl, true_or, or_true, false_or, or_false, true_and, and_true, not_true_eq_false, not_false_eq_true]; first | done | omega)) only [↓if_pos, ↓if_neg, Option.bind_some, Option.toList_some, Option.toList_none, List.cons_append, List.nil_append, l_0, l_1, l_m1, l_2, l_3, l_4, l_5, l_6, l_7, l_8, l_9, l_10, l_16, l_20, l_40, l_48, l_99, l_200, l_999, l_9999, li_73, li_78, li_m1000000, li_90, li_251, li_400, li_2400, li_91, li_153, li_173, li_96, li_32, li_92, li_12, li_93, li_80, li_14, li_1000000000, li_30, li_11, li_24, li_13, li_97, li_64, li_1600, li_49, li_255, li_2147483647, li_12345, li_1103515245, li_59, li_57, li_122, li_1023, li_1000000, li_52, li_51, li_50, li_47, li_46, li_45, li_44, li_43, li_42, li_41, li_39, li_38, li_37, li_36, li_35, li_34, li_33, li_29, li_28, li_27, li_26, li_25, li_23, li_22, li_21, li_19, li_18, li_17, li_15, li_m8, li_m2, li_60, li_54, li_2907, li_151, li_127, oN, iI_add, iI_sub, iI_mul, iI_neg, Int.reduceAdd, Int.reduceSub, Int.reduceMul, Int.reduceNeg, Int.toNat_natCast, iI_cl, cl_22, sg_22_e0, e1]
theorem k_23 {C : Nat → Prop} {t : Int} (hk : Kok K) (hp : plc K C t I) (ha : a < kn K) (hb : b < kn K) (ca : C a) (cb : C b) : am_do X 23 [.ref 89, .int (iI a), .int (iI b)] (am_sh I J) = some (some (.int (iI (ps_far (kf K a) (kf K b) t))), am_sh I J) := by
  have hn := K_n hk
  obtain ⟨x1, x2, x3⟩ := hp a ha ca
  obtain ⟨y1, y2, y3⟩ := hp b hb cb
  simp (disch := first | omega | assumption | exact cat_n | exact cat_i _ | exact cat_r _ | (simp (disch := omega) only [l_0, l_1, l_m1, l_2, l_3, l_4, l_5, l_6, l_7, l_8, l_9, l_10, l_16, l_20, l_40, l_48, l_99, l_200, l_999, l_9999, li_73, li_78, li_m1000000, li_90, li_251, li_400, li_2400, li_91, li_153, li_173, li_96, li_32, li_92, li_12, li_93, li_80, li_14, li_1000000000, li_30, li_11, li_24, li_13, li_97, li_64, li_1600, li_49, li_255, li_2147483647, li_12345, li_1103515245, li_59, li_57, li_122, li_1023, li_1000000, li_52, li_51, li_50, li_47, li_46, li_45, li_44, li_43, li_42, li_41, li_39, li_38, li_37, li_36, li_35, li_34, li_33, li_29, li_28, li_27, li_26, li_25, li_23, li_22, li_21, li_19, li_18, li_17, li_15, li_m8, li_m2, li_60, li_54, li_2907, li_151, li_127, oN, iI_add, iI_sub, iI_mul, iI_neg, Int.reduceAdd, Int.reduceSub, Int.reduceMul, Int.reduceNeg, Int.toNat_natCast, iI_lt, iI_le, iI_eq, iI_cl, true_or, or_true, false_or, or_false, true_and, and_true, not_true_eq_false, not_false_eq_true]; first | done | omega)) only [↓if_pos, ↓if_neg, Option.bind_some, Option.toList_some, Option.toList_none, List.cons_append, List.nil_append, l_0, l_1, l_m1, l_2, l_3, l_4, l_5, l_6, l_7, l_8, l_9, l_10, l_16, l_20, l_40, l_48, l_99, l_200, l_999, l_9999, li_73, li_78, li_m1000000, li_90, li_251, li_400, li_2400, li_91, li_153, li_173, li_96, li_32, li_92, li_12, li_93, li_80, li_14, li_1000000000, li_30, li_11, li_24, li_13, li_97, li_64, li_1600, li_49, li_255, li_2147483647, li_12345, li_1103515245, li_59, li_57, li_122, li_1023, li_1000000, li_52, li_51, li_50, li_47, li_46, li_45, li_44, li_43, li_42, li_41, li_39, li_38, li_37, li_36, li_35, li_34, li_33, li_29, li_28, li_27, li_26, li_25, li_23, li_22, li_21, li_19, li_18, li_17, li_15, li_m8, li_m2, li_60, li_54, li_2907, li_151, li_127, oN, iI_add, iI_sub, iI_mul, iI_neg, Int.reduceAdd, Int.reduceSub, Int.reduceMul, Int.reduceNeg, Int.toNat_natCast, iI_cl, cl_23, sg_23_e0, x1, x2, x3, y1, y2, y3]
  rfl
end S61
