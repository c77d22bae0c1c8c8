/-! op clearing (36) -/
section CI3
variable {p q : Nat → Prop} {n a : Nat}
theorem ci_or (h : ∀ k, k < n → ¬ (p k ∧ q k)) : ci (fun k => p k ∨ q k) n = ci p n + ci q n := by
  induction n with
  | zero => rfl
  | succ n ih =>
    have ih := ih (fun k hk => h k (by omega))
    by_cases h1 : p n
    · have h2 : ¬ q n := fun z => h n (by omega) ⟨h1, z⟩
      rw [ci_t (p := fun k => p k ∨ q k) (Or.inl h1), ci_t h1, ci_f h2, ih]; omega
    · by_cases h2 : q n
      · rw [ci_t (p := fun k => p k ∨ q k) (Or.inr h2), ci_f h1, ci_t h2, ih]; omega
      · rw [ci_f (p := fun k => p k ∨ q k) (fun z => z.elim h1 h2), ci_f h1, ci_f h2, ih]
theorem ci_one (ha : a < n) : ci (fun k => k = a) n = 1 := by
  induction n with
  | zero => omega
  | succ n ih =>
    by_cases e : n = a
    · rw [ci_t (p := fun k => k = a) e]
      have : ci (fun k => k = a) n = 0 := ci_z.mpr (fun k hk z => by omega)
      omega
    · rw [ci_f (p := fun k => k = a) e]
      exact ih (by omega)
end CI3
theorem c2T_split {p : Nat → Nat → Prop} {n a : Nat} (ha : a < n) : c2T p n = ci (fun o => (o < a ∧ p o a) ∨ (a < o ∧ p a o)) n + c2T (fun x y => p x y ∧ x ≠ a ∧ y ≠ a) n := by
  have L : ∀ m, m ≤ n → fb_si (fun c => ci (fun d => c < d ∧ p c d) n) m = fb_si (fun c => ci (fun d => c < d ∧ p c d ∧ c ≠ a ∧ d ≠ a) n) m + ci (fun o => o < a ∧ p o a) m + (if a < m then ci (fun d => a < d ∧ p a d) n else 0) := by
    intro m
    induction m with
    | zero => intro _; rfl
    | succ m ih =>
      intro hm
      rw [fb_si_succ, fb_si_succ, ih (by omega)]
      by_cases e1 : m < a
      · rw [if_neg (by omega), if_neg (by omega)]
        by_cases e2 : p m a
        · rw [ci_t (p := fun o => o < a ∧ p o a) ⟨e1, e2⟩]
          have : ci (fun d => m < d ∧ p m d) n = ci (fun d => m < d ∧ p m d ∧ m ≠ a ∧ d ≠ a) n + 1 := by
            rw [← ci_one ha, ← ci_or (p := fun d => m < d ∧ p m d ∧ m ≠ a ∧ d ≠ a) (q := fun d => d = a) (fun k _ z => z.1.2.2.2 z.2)]
            refine ci_cg (fun d hd => ?_)
            constructor
            · rintro ⟨z1, z2⟩
              by_cases e : d = a
              · exact Or.inr e
              · exact Or.inl ⟨z1, z2, by omega, e⟩
            · rintro (⟨z1, z2, -⟩ | rfl)
              · exact ⟨z1, z2⟩
              · exact ⟨e1, e2⟩
          rw [this]; omega
        · rw [ci_f (p := fun o => o < a ∧ p o a) (fun z => e2 z.2)]
          have : ci (fun d => m < d ∧ p m d) n = ci (fun d => m < d ∧ p m d ∧ m ≠ a ∧ d ≠ a) n := ci_cg (fun d hd => by
            constructor
            · rintro ⟨z1, z2⟩
              exact ⟨z1, z2, by omega, fun e => e2 (by rw [← e]; exact z2)⟩
            · rintro ⟨z1, z2, -⟩
              exact ⟨z1, z2⟩)
          rw [this]; omega
      · by_cases e2 : m = a
        · subst e2
          rw [if_neg (by omega), if_pos (by omega), ci_f (p := fun o => o < m ∧ p o m) (fun z => by omega)]
          have : ci (fun d => m < d ∧ p m d ∧ m ≠ m ∧ d ≠ m) n = 0 := ci_z.mpr (fun d _ z => z.2.2.1 rfl)
          rw [this]; omega
        · rw [if_pos (by omega), if_pos (by omega), ci_f (p := fun o => o < a ∧ p o a) (fun z => by omega)]
          have : ci (fun d => m < d ∧ p m d) n = ci (fun d => m < d ∧ p m d ∧ m ≠ a ∧ d ≠ a) n := ci_cg (fun d hd => by
            constructor
            · rintro ⟨z1, z2⟩
              exact ⟨z1, z2, e2, by omega⟩
            · rintro ⟨z1, z2, -⟩
              exact ⟨z1, z2⟩)
          rw [this]; omega
  have := L n (Nat.le_refl _)
  rw [if_pos ha] at this
  rw [ci_or (p := fun o => o < a ∧ p o a) (q := fun o => a < o ∧ p a o) (fun k _ z => by omega)]
  show fb_si (fun c => ci (fun d => c < d ∧ p c d) n) n = _ + fb_si (fun c => ci (fun d => c < d ∧ (p c d ∧ c ≠ a ∧ d ≠ a)) n) n
  omega
section S9g
variable {X : am_X} {K : Sk} {I I' : Nat → Nat → Int32} {J : Nat → Nat → Int64} {a b : Nat} {f : Nat → Int}
/-- a body of every near pair -/
def Sall (K : Sk) (a : Nat) : Prop := ku K a ∧ 0 < c2T (nk K) (kn K) ∧ ci (nb K a) (kn K) = c2T (nk K) (kn K)
theorem nb_all (ha : ku K a) : ci (nb K a) (kn K) = c2T (nk K) (kn K) ↔ ∀ x y, x < y → y < kn K → x ≠ a → y ≠ a → ¬ nk K x y := by
  have e := c2T_split (p := nk K) ha.1
  have e2 : ci (fun o => (o < a ∧ nk K o a) ∨ (a < o ∧ nk K a o)) (kn K) = ci (nb K a) (kn K) := ci_cg (fun o ho => by
    unfold nb nk
    constructor
    · rintro (⟨z1, z2, z3, z4⟩ | ⟨z1, z2, z3, z4⟩)
      · exact ⟨by omega, z2, nr_com.mp z4⟩
      · exact ⟨by omega, z3, z4⟩
    · rintro ⟨z1, z2, z3⟩
      rcases Nat.lt_or_ge o a with w | w
      · exact Or.inl ⟨w, z2, ha, nr_com.mp z3⟩
      · exact Or.inr ⟨by omega, ha, z2, z3⟩)
  rw [e2] at e
  have z := c2T_z (p := fun x y => nk K x y ∧ x ≠ a ∧ y ≠ a) (n := kn K)
  constructor
  · intro h x y h1 h2 h3 h4 h5
    exact (z.mp (by omega)) x y h1 h2 ⟨h5, h3, h4⟩
  · intro h
    have := z.mpr (fun x y h1 h2 h5 => h x y h1 h2 h5.2.1 h5.2.2 h5.1)
    omega
theorem cl2_c : cl2 K ↔ c2T (nk K) (kn K) = 0 := by rw [c2T_z]; exact cl2_nk
theorem cl2_ks (ha : ku K a) (h8 : f 8 = 1) : cl2 (ks K a f) ↔ cl1 K a f ∧ ∀ x y, x < y → y < kn K → x ≠ a → y ≠ a → ¬ nk K x y := by
  constructor
  · intro h
    refine ⟨fun o ho h1 h2 h3 => ?_, fun x y h1 h2 h3 h4 h5 => ?_⟩
    · rcases Nat.lt_or_ge o a with w | w
      · have := h o a w ha.1
        rw [ks_b, ks_o h1, ks_e] at this
        exact this h2 h8 (nr_com.mp h3)
      · have := h a o (by omega) ho
        rw [ks_b, ks_o h1, ks_e] at this
        exact this h8 h2 h3
    · have := h x y h1 h2
      rw [ks_o h3, ks_o h4, ks_e] at this
      exact this h5.1.2 h5.2.1.2 h5.2.2
  · rintro ⟨h1, h2⟩ x y hxy hy
    have hy' : y < kn K := hy
    rw [ks_e]
    by_cases e1 : x = a
    · subst e1
      rw [ks_b, ks_o (by omega)]
      intro _ z2 z3
      exact h1 y hy' (by omega) z2 z3
    · by_cases e2 : y = a
      · subst e2
        rw [ks_b, ks_o e1]
        intro z1 _ z3
        exact h1 x (by omega) e1 z1 (nr_com.mp z3)
      · rw [ks_o e1, ks_o e2]
        intro z1 z2 z3
        exact h2 x y hxy hy' e1 e2 ⟨⟨by omega, z1⟩, ⟨hy', z2⟩, z3⟩
theorem gd2 {k d : Int} : gd_ K 2 (-1) a k d ↔ (a < kn K ∧ Sall K a ∧ (bn_k (kf K a) k d ∧ cl1 K a (bn_f (kf K a) k d))) := by
  have r : 0 ≤ c2T (nk K) (kn K) := (si_z (F := fun c => ci (fun d => c < d ∧ nk K c d) (kn K)) (fun k => (ci_rg (p := fun d => k < d ∧ nk K k d) (n := kn K)).1) (kn K)).1
  constructor
  · rintro ⟨z0, z1, ⟨z2, -⟩ | ⟨z2, -⟩ | ⟨-, z2, z3⟩⟩
    · omega
    · omega
    · have z4 := (cl2_ks (f := bn_f (kf K a) k d) z0 z0.2).mp z3
      refine ⟨z0.1, ⟨z0, ?_, (nb_all z0).mpr z4.2⟩, z1, z4.1⟩
      have : ¬ c2T (nk K) (kn K) = 0 := fun w => z2 (cl2_c.mpr w)
      omega
  · rintro ⟨z0, ⟨z1, z2, z3⟩, z4, z5⟩
    refine ⟨z1, z4, Or.inr (Or.inr ⟨rfl, fun w => ?_, (cl2_ks (f := bn_f (kf K a) k d) z1 z1.2).mpr ⟨z5, (nb_all z1).mp z3⟩⟩)⟩
    have := cl2_c.mp w
    omega
set_option maxHeartbeats 1000000 in
theorem k_147 (h : CS K I) (hC : rl_C I) : ∃ I' : Nat → Nat → Int32, am_do X 147 [.ref 96] (am_sh I J) = some (some (.int (st (Sall K) (kn K))), am_sh I' J) ∧ Fr W_q I I' ∧ rl_C I' := by
  have hn := K_n (CS_k h)
  have hs := ne_sum (K := K)
  have hl := ne_le (K := K) (kn K) (Nat.le_refl _) hn
  rw [hs] at hl
  -- the bodies of all
  have B : ∀ I1 : Nat → Nat → Int32, Fr W_q I I1 → rl_C I1 → ∃ I' : Nat → Nat → Int32, am_ev X amP_147 30 [.ref 96, .int (iI (2 * c2T (nk K) (kn K))), .int (iI 0), .int (iI (0 : Nat))] [] (am_sh I1 J) = some (some (.int (st (Sall K) (kn K))), am_sh I' J) ∧ Fr W_q I I' ∧ rl_C I' := by
    intro I1 f1 C1
    by_cases qz : c2T (nk K) (kn K) = 0
    · have es : st (Sall K) (kn K) = iI 0 := (st_zi (by omega)).mpr (fun x _ z => by have := z.2.1; omega)
      have h1 : CS K I1 := CS_fr h f1
      refine ⟨I1, ?_, f1, C1⟩
      rw [es, qz, sg_147_30, CS_n h1]
      by_cases y : kn K = 0
      · simp (disch := first | omega | assumption | exact cat_n | exact cat_i _ | exact cat_r _ | (simp (disch := omega) only [l_0, l_1, l_m1, l_2, l_3, l_4, l_5, l_6, l_7, l_8, l_9, l_10, l_16, l_20, l_40, l_48, l_99, l_200, l_999, l_9999, li_73, li_78, li_m1000000, li_90, li_251, li_400, li_2400, li_91, li_153, li_173, li_96, li_32, li_92, li_12, li_93, li_80, li_14, li_1000000000, li_30, li_11, li_24, li_13, li_97, li_64, li_1600, li_49, li_255, li_2147483647, li_12345, li_1103515245, li_59, li_57, li_122, li_1023, li_1000000, li_52, li_51, li_50, li_47, li_46, li_45, li_44, li_43, li_42, li_41, li_39, li_38, li_37, li_36, li_35, li_34, li_33, li_29, li_28, li_27, li_26, li_25, li_23, li_22, li_21, li_19, li_18, li_17, li_15, li_m8, li_m2, li_60, li_54, li_2907, li_151, li_127, oN, iI_add, iI_sub, iI_mul, iI_neg, Int.reduceAdd, Int.reduceSub, Int.reduceMul, Int.reduceNeg, Int.toNat_natCast, Int.reduceToNat, iI_lt, iI_le, iI_eq, iI_cl, true_or, or_true, false_or, or_false, true_and, and_true, not_true_eq_false, not_false_eq_true]; first | done | omega)) only [↓if_pos, ↓if_neg, Option.bind_some, Option.toList_some, Option.toList_none, List.cons_append, List.nil_append, l_0, l_1, l_m1, l_2, l_3, l_4, l_5, l_6, l_7, l_8, l_9, l_10, l_16, l_20, l_40, l_48, l_99, l_200, l_999, l_9999, li_73, li_78, li_m1000000, li_90, li_251, li_400, li_2400, li_91, li_153, li_173, li_96, li_32, li_92, li_12, li_93, li_80, li_14, li_1000000000, li_30, li_11, li_24, li_13, li_97, li_64, li_1600, li_49, li_255, li_2147483647, li_12345, li_1103515245, li_59, li_57, li_122, li_1023, li_1000000, li_52, li_51, li_50, li_47, li_46, li_45, li_44, li_43, li_42, li_41, li_39, li_38, li_37, li_36, li_35, li_34, li_33, li_29, li_28, li_27, li_26, li_25, li_23, li_22, li_21, li_19, li_18, li_17, li_15, li_m8, li_m2, li_60, li_54, li_2907, li_151, li_127, oN, iI_add, iI_sub, iI_mul, iI_neg, Int.reduceAdd, Int.reduceSub, Int.reduceMul, Int.reduceNeg, Int.toNat_natCast, Int.reduceToNat, iI_cl]
      · simp (disch := first | omega | assumption | exact cat_n | exact cat_i _ | exact cat_r _ | (simp (disch := omega) only [l_0, l_1, l_m1, l_2, l_3, l_4, l_5, l_6, l_7, l_8, l_9, l_10, l_16, l_20, l_40, l_48, l_99, l_200, l_999, l_9999, li_73, li_78, li_m1000000, li_90, li_251, li_400, li_2400, li_91, li_153, li_173, li_96, li_32, li_92, li_12, li_93, li_80, li_14, li_1000000000, li_30, li_11, li_24, li_13, li_97, li_64, li_1600, li_49, li_255, li_2147483647, li_12345, li_1103515245, li_59, li_57, li_122, li_1023, li_1000000, li_52, li_51, li_50, li_47, li_46, li_45, li_44, li_43, li_42, li_41, li_39, li_38, li_37, li_36, li_35, li_34, li_33, li_29, li_28, li_27, li_26, li_25, li_23, li_22, li_21, li_19, li_18, li_17, li_15, li_m8, li_m2, li_60, li_54, li_2907, li_151, li_127, oN, iI_add, iI_sub, iI_mul, iI_neg, Int.reduceAdd, Int.reduceSub, Int.reduceMul, Int.reduceNeg, Int.toNat_natCast, Int.reduceToNat, iI_lt, iI_le, iI_eq, iI_cl, true_or, or_true, false_or, or_false, true_and, and_true, not_true_eq_false, not_false_eq_true]; first | done | omega)) only [↓if_pos, ↓if_neg, Option.bind_some, Option.toList_some, Option.toList_none, List.cons_append, List.nil_append, l_0, l_1, l_m1, l_2, l_3, l_4, l_5, l_6, l_7, l_8, l_9, l_10, l_16, l_20, l_40, l_48, l_99, l_200, l_999, l_9999, li_73, li_78, li_m1000000, li_90, li_251, li_400, li_2400, li_91, li_153, li_173, li_96, li_32, li_92, li_12, li_93, li_80, li_14, li_1000000000, li_30, li_11, li_24, li_13, li_97, li_64, li_1600, li_49, li_255, li_2147483647, li_12345, li_1103515245, li_59, li_57, li_122, li_1023, li_1000000, li_52, li_51, li_50, li_47, li_46, li_45, li_44, li_43, li_42, li_41, li_39, li_38, li_37, li_36, li_35, li_34, li_33, li_29, li_28, li_27, li_26, li_25, li_23, li_22, li_21, li_19, li_18, li_17, li_15, li_m8, li_m2, li_60, li_54, li_2907, li_151, li_127, oN, iI_add, iI_sub, iI_mul, iI_neg, Int.reduceAdd, Int.reduceSub, Int.reduceMul, Int.reduceNeg, Int.toNat_natCast, Int.reduceToNat, iI_cl]
    · have L := Lp1 (n := kn K) (G := fun k (I2 : Nat → Nat → Int32) => am_ev X amP_147 30 [.ref 96, .int (iI (2 * c2T (nk K) (kn K))), .int (st (fun x => x < k ∧ Sall K x) (kn K)), .int (iI k)] [] (am_sh I2 J)) (Iv := fun k I2 => Fr W_q I I2 ∧ rl_C I2) (P := fun r => ∃ I' : Nat → Nat → Int32, r = some (some (.int (st (Sall K) (kn K))), am_sh I' J) ∧ Fr W_q I I' ∧ rl_C I') (by
        rintro k I2 hk ⟨f2, C2⟩
        right
        have h2 : CS K I2 := CS_fr h f2
        have en := CS_n h2
        by_cases q : ku K k
        · obtain ⟨I3, e3, f3, C3⟩ := k_58 (X := X) (J := J) h2 C2 (b := k) hk
          refine ⟨I3, ⟨Fr_tr f2 f3, C3⟩, ?_⟩
          have r := ci_rg (p := nb K k) (n := kn K)
          by_cases qs : ci (nb K k) (kn K) = c2T (nk K) (kn K)
          · have es : st (fun x => x < k + 1 ∧ Sall K x) (kn K) = st (fun x => x < k ∧ Sall K x) (kn K) ||| st (fun x => x = k) (kn K) := by
              rw [st_or (by omega)]
              refine st_cg (fun x hx => ?_)
              constructor
              · rintro ⟨z1, z2⟩
                by_cases e : x = k
                · exact Or.inr e
                · exact Or.inl ⟨by omega, z2⟩
              · rintro (⟨z1, z2⟩ | rfl)
                · exact ⟨by omega, z2⟩
                · exact ⟨by omega, q, by omega, qs⟩
            try dsimp only
            rw [cS, es, sg_147_30, en]
            simp (disch := first | omega | assumption | exact cat_n | exact cat_i _ | exact cat_r _ | (simp (disch := omega) only [l_0, l_1, l_m1, l_2, l_3, l_4, l_5, l_6, l_7, l_8, l_9, l_10, l_16, l_20, l_40, l_48, l_99, l_200, l_999, l_9999, li_73, li_78, li_m1000000, li_90, li_251, li_400, li_2400, li_91, li_153, li_173, li_96, li_32, li_92, li_12, li_93, li_80, li_14, li_1000000000, li_30, li_11, li_24, li_13, li_97, li_64, li_1600, li_49, li_255, li_2147483647, li_12345, li_1103515245, li_59, li_57, li_122, li_1023, li_1000000, li_52, li_51, li_50, li_47, li_46, li_45, li_44, li_43, li_42, li_41, li_39, li_38, li_37, li_36, li_35, li_34, li_33, li_29, li_28, li_27, li_26, li_25, li_23, li_22, li_21, li_19, li_18, li_17, li_15, li_m8, li_m2, li_60, li_54, li_2907, li_151, li_127, oN, iI_add, iI_sub, iI_mul, iI_neg, Int.reduceAdd, Int.reduceSub, Int.reduceMul, Int.reduceNeg, Int.toNat_natCast, Int.reduceToNat, iI_lt, iI_le, iI_eq, iI_cl, true_or, or_true, false_or, or_false, true_and, and_true, not_true_eq_false, not_false_eq_true]; first | done | omega)) only [↓if_pos, ↓if_neg, Option.bind_some, Option.toList_some, Option.toList_none, List.cons_append, List.nil_append, l_0, l_1, l_m1, l_2, l_3, l_4, l_5, l_6, l_7, l_8, l_9, l_10, l_16, l_20, l_40, l_48, l_99, l_200, l_999, l_9999, li_73, li_78, li_m1000000, li_90, li_251, li_400, li_2400, li_91, li_153, li_173, li_96, li_32, li_92, li_12, li_93, li_80, li_14, li_1000000000, li_30, li_11, li_24, li_13, li_97, li_64, li_1600, li_49, li_255, li_2147483647, li_12345, li_1103515245, li_59, li_57, li_122, li_1023, li_1000000, li_52, li_51, li_50, li_47, li_46, li_45, li_44, li_43, li_42, li_41, li_39, li_38, li_37, li_36, li_35, li_34, li_33, li_29, li_28, li_27, li_26, li_25, li_23, li_22, li_21, li_19, li_18, li_17, li_15, li_m8, li_m2, li_60, li_54, li_2907, li_151, li_127, oN, iI_add, iI_sub, iI_mul, iI_neg, Int.reduceAdd, Int.reduceSub, Int.reduceMul, Int.reduceNeg, Int.toNat_natCast, Int.reduceToNat, iI_cl, k_101t h2 q, sg_147_41, e3, sg_147_47, c_348s, sg_147_48, st_one (n := kn K) (k := k) (by omega) hk]
          · have es : st (fun x => x < k + 1 ∧ Sall K x) (kn K) = st (fun x => x < k ∧ Sall K x) (kn K) := by
              refine st_cg (fun x hx => ?_)
              constructor
              · rintro ⟨z1, z2⟩
                by_cases e : x = k
                · subst e; exact absurd z2.2.2 qs
                · exact ⟨by omega, z2⟩
              · rintro ⟨z1, z2⟩
                exact ⟨by omega, z2⟩
            try dsimp only
            rw [cS, es, sg_147_30, en]
            simp (disch := first | omega | assumption | exact cat_n | exact cat_i _ | exact cat_r _ | (simp (disch := omega) only [l_0, l_1, l_m1, l_2, l_3, l_4, l_5, l_6, l_7, l_8, l_9, l_10, l_16, l_20, l_40, l_48, l_99, l_200, l_999, l_9999, li_73, li_78, li_m1000000, li_90, li_251, li_400, li_2400, li_91, li_153, li_173, li_96, li_32, li_92, li_12, li_93, li_80, li_14, li_1000000000, li_30, li_11, li_24, li_13, li_97, li_64, li_1600, li_49, li_255, li_2147483647, li_12345, li_1103515245, li_59, li_57, li_122, li_1023, li_1000000, li_52, li_51, li_50, li_47, li_46, li_45, li_44, li_43, li_42, li_41, li_39, li_38, li_37, li_36, li_35, li_34, li_33, li_29, li_28, li_27, li_26, li_25, li_23, li_22, li_21, li_19, li_18, li_17, li_15, li_m8, li_m2, li_60, li_54, li_2907, li_151, li_127, oN, iI_add, iI_sub, iI_mul, iI_neg, Int.reduceAdd, Int.reduceSub, Int.reduceMul, Int.reduceNeg, Int.toNat_natCast, Int.reduceToNat, iI_lt, iI_le, iI_eq, iI_cl, true_or, or_true, false_or, or_false, true_and, and_true, not_true_eq_false, not_false_eq_true]; first | done | omega)) only [↓if_pos, ↓if_neg, Option.bind_some, Option.toList_some, Option.toList_none, List.cons_append, List.nil_append, l_0, l_1, l_m1, l_2, l_3, l_4, l_5, l_6, l_7, l_8, l_9, l_10, l_16, l_20, l_40, l_48, l_99, l_200, l_999, l_9999, li_73, li_78, li_m1000000, li_90, li_251, li_400, li_2400, li_91, li_153, li_173, li_96, li_32, li_92, li_12, li_93, li_80, li_14, li_1000000000, li_30, li_11, li_24, li_13, li_97, li_64, li_1600, li_49, li_255, li_2147483647, li_12345, li_1103515245, li_59, li_57, li_122, li_1023, li_1000000, li_52, li_51, li_50, li_47, li_46, li_45, li_44, li_43, li_42, li_41, li_39, li_38, li_37, li_36, li_35, li_34, li_33, li_29, li_28, li_27, li_26, li_25, li_23, li_22, li_21, li_19, li_18, li_17, li_15, li_m8, li_m2, li_60, li_54, li_2907, li_151, li_127, oN, iI_add, iI_sub, iI_mul, iI_neg, Int.reduceAdd, Int.reduceSub, Int.reduceMul, Int.reduceNeg, Int.toNat_natCast, Int.reduceToNat, iI_cl, k_101t h2 q, sg_147_41, e3, sg_147_47, c_348s, sg_147_48]
        · refine ⟨I2, ⟨f2, C2⟩, ?_⟩
          have es : st (fun x => x < k + 1 ∧ Sall K x) (kn K) = st (fun x => x < k ∧ Sall K x) (kn K) := by
            refine st_cg (fun x hx => ?_)
            constructor
            · rintro ⟨z1, z2⟩
              by_cases e : x = k
              · subst e; exact absurd z2.1 q
              · exact ⟨by omega, z2⟩
            · rintro ⟨z1, z2⟩
              exact ⟨by omega, z2⟩
          try dsimp only
          rw [cS, es, sg_147_30, en]
          simp (disch := first | omega | assumption | exact cat_n | exact cat_i _ | exact cat_r _ | (simp (disch := omega) only [l_0, l_1, l_m1, l_2, l_3, l_4, l_5, l_6, l_7, l_8, l_9, l_10, l_16, l_20, l_40, l_48, l_99, l_200, l_999, l_9999, li_73, li_78, li_m1000000, li_90, li_251, li_400, li_2400, li_91, li_153, li_173, li_96, li_32, li_92, li_12, li_93, li_80, li_14, li_1000000000, li_30, li_11, li_24, li_13, li_97, li_64, li_1600, li_49, li_255, li_2147483647, li_12345, li_1103515245, li_59, li_57, li_122, li_1023, li_1000000, li_52, li_51, li_50, li_47, li_46, li_45, li_44, li_43, li_42, li_41, li_39, li_38, li_37, li_36, li_35, li_34, li_33, li_29, li_28, li_27, li_26, li_25, li_23, li_22, li_21, li_19, li_18, li_17, li_15, li_m8, li_m2, li_60, li_54, li_2907, li_151, li_127, oN, iI_add, iI_sub, iI_mul, iI_neg, Int.reduceAdd, Int.reduceSub, Int.reduceMul, Int.reduceNeg, Int.toNat_natCast, Int.reduceToNat, iI_lt, iI_le, iI_eq, iI_cl, true_or, or_true, false_or, or_false, true_and, and_true, not_true_eq_false, not_false_eq_true]; first | done | omega)) only [↓if_pos, ↓if_neg, Option.bind_some, Option.toList_some, Option.toList_none, List.cons_append, List.nil_append, l_0, l_1, l_m1, l_2, l_3, l_4, l_5, l_6, l_7, l_8, l_9, l_10, l_16, l_20, l_40, l_48, l_99, l_200, l_999, l_9999, li_73, li_78, li_m1000000, li_90, li_251, li_400, li_2400, li_91, li_153, li_173, li_96, li_32, li_92, li_12, li_93, li_80, li_14, li_1000000000, li_30, li_11, li_24, li_13, li_97, li_64, li_1600, li_49, li_255, li_2147483647, li_12345, li_1103515245, li_59, li_57, li_122, li_1023, li_1000000, li_52, li_51, li_50, li_47, li_46, li_45, li_44, li_43, li_42, li_41, li_39, li_38, li_37, li_36, li_35, li_34, li_33, li_29, li_28, li_27, li_26, li_25, li_23, li_22, li_21, li_19, li_18, li_17, li_15, li_m8, li_m2, li_60, li_54, li_2907, li_151, li_127, oN, iI_add, iI_sub, iI_mul, iI_neg, Int.reduceAdd, Int.reduceSub, Int.reduceMul, Int.reduceNeg, Int.toNat_natCast, Int.reduceToNat, iI_cl, k_101d h2 hk q, sg_147_41]) (by
        rintro I2 ⟨f2, C2⟩
        have h2 : CS K I2 := CS_fr h f2
        have es : st (fun x => x < kn K ∧ Sall K x) (kn K) = st (Sall K) (kn K) := st_cg (fun x hx => ⟨fun z => z.2, fun z => ⟨hx, z⟩⟩)
        refine ⟨I2, ?_, f2, C2⟩
        try dsimp only
        rw [es, sg_147_30, CS_n h2]
        simp (disch := first | omega | assumption | exact cat_n | exact cat_i _ | exact cat_r _ | (simp (disch := omega) only [l_0, l_1, l_m1, l_2, l_3, l_4, l_5, l_6, l_7, l_8, l_9, l_10, l_16, l_20, l_40, l_48, l_99, l_200, l_999, l_9999, li_73, li_78, li_m1000000, li_90, li_251, li_400, li_2400, li_91, li_153, li_173, li_96, li_32, li_92, li_12, li_93, li_80, li_14, li_1000000000, li_30, li_11, li_24, li_13, li_97, li_64, li_1600, li_49, li_255, li_2147483647, li_12345, li_1103515245, li_59, li_57, li_122, li_1023, li_1000000, li_52, li_51, li_50, li_47, li_46, li_45, li_44, li_43, li_42, li_41, li_39, li_38, li_37, li_36, li_35, li_34, li_33, li_29, li_28, li_27, li_26, li_25, li_23, li_22, li_21, li_19, li_18, li_17, li_15, li_m8, li_m2, li_60, li_54, li_2907, li_151, li_127, oN, iI_add, iI_sub, iI_mul, iI_neg, Int.reduceAdd, Int.reduceSub, Int.reduceMul, Int.reduceNeg, Int.toNat_natCast, Int.reduceToNat, iI_lt, iI_le, iI_eq, iI_cl, true_or, or_true, false_or, or_false, true_and, and_true, not_true_eq_false, not_false_eq_true]; first | done | omega)) only [↓if_pos, ↓if_neg, Option.bind_some, Option.toList_some, Option.toList_none, List.cons_append, List.nil_append, l_0, l_1, l_m1, l_2, l_3, l_4, l_5, l_6, l_7, l_8, l_9, l_10, l_16, l_20, l_40, l_48, l_99, l_200, l_999, l_9999, li_73, li_78, li_m1000000, li_90, li_251, li_400, li_2400, li_91, li_153, li_173, li_96, li_32, li_92, li_12, li_93, li_80, li_14, li_1000000000, li_30, li_11, li_24, li_13, li_97, li_64, li_1600, li_49, li_255, li_2147483647, li_12345, li_1103515245, li_59, li_57, li_122, li_1023, li_1000000, li_52, li_51, li_50, li_47, li_46, li_45, li_44, li_43, li_42, li_41, li_39, li_38, li_37, li_36, li_35, li_34, li_33, li_29, li_28, li_27, li_26, li_25, li_23, li_22, li_21, li_19, li_18, li_17, li_15, li_m8, li_m2, li_60, li_54, li_2907, li_151, li_127, oN, iI_add, iI_sub, iI_mul, iI_neg, Int.reduceAdd, Int.reduceSub, Int.reduceMul, Int.reduceNeg, Int.toNat_natCast, Int.reduceToNat, iI_cl]) I1 ⟨f1, C1⟩
      have e0 : st (fun x => x < 0 ∧ Sall K x) (kn K) = iI 0 := (st_zi (by omega)).mpr (fun x _ z => by omega)
      try dsimp only at L
      rw [e0] at L
      exact L
  have L := Lp1 (n := kn K) (G := fun k (I1 : Nat → Nat → Int32) => am_ev X amP_147 4 [.ref 96, .int (iI (fb_si (ne_ K) k)), .int (iI k), .null] [] (am_sh I1 J)) (Iv := fun k I1 => Fr W_q I I1 ∧ rl_C I1) (P := fun r => ∃ I' : Nat → Nat → Int32, r = some (some (.int (st (Sall K) (kn K))), am_sh I' J) ∧ Fr W_q I I' ∧ rl_C I') (by
    rintro k I1 hk ⟨f1, c1⟩
    right
    have h1 : CS K I1 := CS_fr h f1
    by_cases q : ku K k
    · obtain ⟨I2, e2, f2, c2'⟩ := k_58 (X := X) (J := J) h1 c1 (b := k) hk
      refine ⟨I2, ⟨Fr_tr f1 f2, c2'⟩, ?_⟩
      try dsimp only
      rw [cS, fb_si_succ, ne_t q, sg_147_4 (hw3 := cat_n)]
      simp (disch := first | omega | assumption | exact cat_n | exact cat_i _ | exact cat_r _ | (simp (disch := omega) only [l_0, l_1, l_m1, l_2, l_3, l_4, l_5, l_6, l_7, l_8, l_9, l_10, l_16, l_20, l_40, l_48, l_99, l_200, l_999, l_9999, li_73, li_78, li_m1000000, li_90, li_251, li_400, li_2400, li_91, li_153, li_173, li_96, li_32, li_92, li_12, li_93, li_80, li_14, li_1000000000, li_30, li_11, li_24, li_13, li_97, li_64, li_1600, li_49, li_255, li_2147483647, li_12345, li_1103515245, li_59, li_57, li_122, li_1023, li_1000000, li_52, li_51, li_50, li_47, li_46, li_45, li_44, li_43, li_42, li_41, li_39, li_38, li_37, li_36, li_35, li_34, li_33, li_29, li_28, li_27, li_26, li_25, li_23, li_22, li_21, li_19, li_18, li_17, li_15, li_m8, li_m2, li_60, li_54, li_2907, li_151, li_127, oN, iI_add, iI_sub, iI_mul, iI_neg, Int.reduceAdd, Int.reduceSub, Int.reduceMul, Int.reduceNeg, Int.toNat_natCast, Int.reduceToNat, iI_lt, iI_le, iI_eq, iI_cl, true_or, or_true, false_or, or_false, true_and, and_true, not_true_eq_false, not_false_eq_true]; first | done | omega)) only [↓if_pos, ↓if_neg, Option.bind_some, Option.toList_some, Option.toList_none, List.cons_append, List.nil_append, l_0, l_1, l_m1, l_2, l_3, l_4, l_5, l_6, l_7, l_8, l_9, l_10, l_16, l_20, l_40, l_48, l_99, l_200, l_999, l_9999, li_73, li_78, li_m1000000, li_90, li_251, li_400, li_2400, li_91, li_153, li_173, li_96, li_32, li_92, li_12, li_93, li_80, li_14, li_1000000000, li_30, li_11, li_24, li_13, li_97, li_64, li_1600, li_49, li_255, li_2147483647, li_12345, li_1103515245, li_59, li_57, li_122, li_1023, li_1000000, li_52, li_51, li_50, li_47, li_46, li_45, li_44, li_43, li_42, li_41, li_39, li_38, li_37, li_36, li_35, li_34, li_33, li_29, li_28, li_27, li_26, li_25, li_23, li_22, li_21, li_19, li_18, li_17, li_15, li_m8, li_m2, li_60, li_54, li_2907, li_151, li_127, oN, iI_add, iI_sub, iI_mul, iI_neg, Int.reduceAdd, Int.reduceSub, Int.reduceMul, Int.reduceNeg, Int.toNat_natCast, Int.reduceToNat, iI_cl, sg_147_14, sg_147_19, sg_147_20, CS_n h1, k_101t h1 q, e2, c_348s]
    · refine ⟨I1, ⟨f1, c1⟩, ?_⟩
      try dsimp only
      rw [cS, fb_si_succ, ne_f q, sg_147_4 (hw3 := cat_n)]
      simp (disch := first | omega | assumption | exact cat_n | exact cat_i _ | exact cat_r _ | (simp (disch := omega) only [l_0, l_1, l_m1, l_2, l_3, l_4, l_5, l_6, l_7, l_8, l_9, l_10, l_16, l_20, l_40, l_48, l_99, l_200, l_999, l_9999, li_73, li_78, li_m1000000, li_90, li_251, li_400, li_2400, li_91, li_153, li_173, li_96, li_32, li_92, li_12, li_93, li_80, li_14, li_1000000000, li_30, li_11, li_24, li_13, li_97, li_64, li_1600, li_49, li_255, li_2147483647, li_12345, li_1103515245, li_59, li_57, li_122, li_1023, li_1000000, li_52, li_51, li_50, li_47, li_46, li_45, li_44, li_43, li_42, li_41, li_39, li_38, li_37, li_36, li_35, li_34, li_33, li_29, li_28, li_27, li_26, li_25, li_23, li_22, li_21, li_19, li_18, li_17, li_15, li_m8, li_m2, li_60, li_54, li_2907, li_151, li_127, oN, iI_add, iI_sub, iI_mul, iI_neg, Int.reduceAdd, Int.reduceSub, Int.reduceMul, Int.reduceNeg, Int.toNat_natCast, Int.reduceToNat, iI_lt, iI_le, iI_eq, iI_cl, true_or, or_true, false_or, or_false, true_and, and_true, not_true_eq_false, not_false_eq_true]; first | done | omega)) only [↓if_pos, ↓if_neg, Option.bind_some, Option.toList_some, Option.toList_none, List.cons_append, List.nil_append, l_0, l_1, l_m1, l_2, l_3, l_4, l_5, l_6, l_7, l_8, l_9, l_10, l_16, l_20, l_40, l_48, l_99, l_200, l_999, l_9999, li_73, li_78, li_m1000000, li_90, li_251, li_400, li_2400, li_91, li_153, li_173, li_96, li_32, li_92, li_12, li_93, li_80, li_14, li_1000000000, li_30, li_11, li_24, li_13, li_97, li_64, li_1600, li_49, li_255, li_2147483647, li_12345, li_1103515245, li_59, li_57, li_122, li_1023, li_1000000, li_52, li_51, li_50, li_47, li_46, li_45, li_44, li_43, li_42, li_41, li_39, li_38, li_37, li_36, li_35, li_34, li_33, li_29, li_28, li_27, li_26, li_25, li_23, li_22, li_21, li_19, li_18, li_17, li_15, li_m8, li_m2, li_60, li_54, li_2907, li_151, li_127, oN, iI_add, iI_sub, iI_mul, iI_neg, Int.reduceAdd, Int.reduceSub, Int.reduceMul, Int.reduceNeg, Int.toNat_natCast, Int.reduceToNat, iI_cl, sg_147_14, CS_n h1, k_101d h1 hk q]) (by
    rintro I1 ⟨f1, c1⟩
    have h1 : CS K I1 := CS_fr h f1
    obtain ⟨I', p1, p2⟩ := B I1 f1 c1
    rw [c0] at p1
    refine ⟨I', ?_, p2⟩
    try dsimp only
    rw [hs, sg_147_4 (hw3 := cat_n), CS_n h1]
    simp (disch := first | omega | assumption | exact cat_n | exact cat_i _ | exact cat_r _ | (simp (disch := omega) only [l_0, l_1, l_m1, l_2, l_3, l_4, l_5, l_6, l_7, l_8, l_9, l_10, l_16, l_20, l_40, l_48, l_99, l_200, l_999, l_9999, li_73, li_78, li_m1000000, li_90, li_251, li_400, li_2400, li_91, li_153, li_173, li_96, li_32, li_92, li_12, li_93, li_80, li_14, li_1000000000, li_30, li_11, li_24, li_13, li_97, li_64, li_1600, li_49, li_255, li_2147483647, li_12345, li_1103515245, li_59, li_57, li_122, li_1023, li_1000000, li_52, li_51, li_50, li_47, li_46, li_45, li_44, li_43, li_42, li_41, li_39, li_38, li_37, li_36, li_35, li_34, li_33, li_29, li_28, li_27, li_26, li_25, li_23, li_22, li_21, li_19, li_18, li_17, li_15, li_m8, li_m2, li_60, li_54, li_2907, li_151, li_127, oN, iI_add, iI_sub, iI_mul, iI_neg, Int.reduceAdd, Int.reduceSub, Int.reduceMul, Int.reduceNeg, Int.toNat_natCast, Int.reduceToNat, iI_lt, iI_le, iI_eq, iI_cl, true_or, or_true, false_or, or_false, true_and, and_true, not_true_eq_false, not_false_eq_true]; first | done | omega)) only [↓if_pos, ↓if_neg, Option.bind_some, Option.toList_some, Option.toList_none, List.cons_append, List.nil_append, l_0, l_1, l_m1, l_2, l_3, l_4, l_5, l_6, l_7, l_8, l_9, l_10, l_16, l_20, l_40, l_48, l_99, l_200, l_999, l_9999, li_73, li_78, li_m1000000, li_90, li_251, li_400, li_2400, li_91, li_153, li_173, li_96, li_32, li_92, li_12, li_93, li_80, li_14, li_1000000000, li_30, li_11, li_24, li_13, li_97, li_64, li_1600, li_49, li_255, li_2147483647, li_12345, li_1103515245, li_59, li_57, li_122, li_1023, li_1000000, li_52, li_51, li_50, li_47, li_46, li_45, li_44, li_43, li_42, li_41, li_39, li_38, li_37, li_36, li_35, li_34, li_33, li_29, li_28, li_27, li_26, li_25, li_23, li_22, li_21, li_19, li_18, li_17, li_15, li_m8, li_m2, li_60, li_54, li_2907, li_151, li_127, oN, iI_add, iI_sub, iI_mul, iI_neg, Int.reduceAdd, Int.reduceSub, Int.reduceMul, Int.reduceNeg, Int.toNat_natCast, Int.reduceToNat, iI_cl, p1]) I ⟨Fr_rfl, hC⟩
  obtain ⟨I', e1, e2⟩ := L
  refine ⟨I', ?_, e2⟩
  try dsimp only at e1
  have e0 : fb_si (ne_ K) 0 = 0 := rfl
  rw [e0, c0] at e1
  simp (disch := first | omega | assumption | exact cat_n | exact cat_i _ | exact cat_r _ | (simp (disch := omega) only [l_0, l_1, l_m1, l_2, l_3, l_4, l_5, l_6, l_7, l_8, l_9, l_10, l_16, l_20, l_40, l_48, l_99, l_200, l_999, l_9999, li_73, li_78, li_m1000000, li_90, li_251, li_400, li_2400, li_91, li_153, li_173, li_96, li_32, li_92, li_12, li_93, li_80, li_14, li_1000000000, li_30, li_11, li_24, li_13, li_97, li_64, li_1600, li_49, li_255, li_2147483647, li_12345, li_1103515245, li_59, li_57, li_122, li_1023, li_1000000, li_52, li_51, li_50, li_47, li_46, li_45, li_44, li_43, li_42, li_41, li_39, li_38, li_37, li_36, li_35, li_34, li_33, li_29, li_28, li_27, li_26, li_25, li_23, li_22, li_21, li_19, li_18, li_17, li_15, li_m8, li_m2, li_60, li_54, li_2907, li_151, li_127, oN, iI_add, iI_sub, iI_mul, iI_neg, Int.reduceAdd, Int.reduceSub, Int.reduceMul, Int.reduceNeg, Int.toNat_natCast, Int.reduceToNat, iI_lt, iI_le, iI_eq, iI_cl, true_or, or_true, false_or, or_false, true_and, and_true, not_true_eq_false, not_false_eq_true]; first | done | omega)) only [↓if_pos, ↓if_neg, Option.bind_some, Option.toList_some, Option.toList_none, List.cons_append, List.nil_append, l_0, l_1, l_m1, l_2, l_3, l_4, l_5, l_6, l_7, l_8, l_9, l_10, l_16, l_20, l_40, l_48, l_99, l_200, l_999, l_9999, li_73, li_78, li_m1000000, li_90, li_251, li_400, li_2400, li_91, li_153, li_173, li_96, li_32, li_92, li_12, li_93, li_80, li_14, li_1000000000, li_30, li_11, li_24, li_13, li_97, li_64, li_1600, li_49, li_255, li_2147483647, li_12345, li_1103515245, li_59, li_57, li_122, li_1023, li_1000000, li_52, li_51, li_50, li_47, li_46, li_45, li_44, li_43, li_42, li_41, li_39, li_38, li_37, li_36, li_35, li_34, li_33, li_29, li_28, li_27, li_26, li_25, li_23, li_22, li_21, li_19, li_18, li_17, li_15, li_m8, li_m2, li_60, li_54, li_2907, li_151, li_127, oN, iI_add, iI_sub, iI_mul, iI_neg, Int.reduceAdd, Int.reduceSub, Int.reduceMul, Int.reduceNeg, Int.toNat_natCast, Int.reduceToNat, iI_cl, cl_147, sg_147_e0, e1]
theorem k_144 (h : CS K I) (hC : rl_C I) (hL : LK K I) : ∃ (v : Int32) (I' : Nat → Nat → Int32), am_do X 144 [.ref 96] (am_sh I J) = some (some (.int v), am_sh I' J) ∧ SR K 2 (-1) I I' v := by
  have hn := K_n (CS_k h)
  have e146 := k_146 (X := X) (I := I) (J := J) (g := 2) (y := -1)
  by_cases q : kp I 2 (-1)
  · have s := SR_kept h hC hL (by omega) (by omega) (by omega) (by omega) q
    have v01 := LQ_01 s.2.2.2 (by omega) (by omega)
    refine ⟨I 96 5, nw I 2 (-1), ?_, s⟩
    rw [bI_f (fun z => z q)] at e146
    have e5 : nw I 2 (-1) 96 5 = I 96 5 := nw_fr _ _ (by omega)
    simp (disch := first | omega | assumption | exact cat_n | exact cat_i _ | exact cat_r _ | (simp (disch := omega) only [l_0, l_1, l_m1, l_2, l_3, l_4, l_5, l_6, l_7, l_8, l_9, l_10, l_16, l_20, l_40, l_48, l_99, l_200, l_999, l_9999, li_73, li_78, li_m1000000, li_90, li_251, li_400, li_2400, li_91, li_153, li_173, li_96, li_32, li_92, li_12, li_93, li_80, li_14, li_1000000000, li_30, li_11, li_24, li_13, li_97, li_64, li_1600, li_49, li_255, li_2147483647, li_12345, li_1103515245, li_59, li_57, li_122, li_1023, li_1000000, li_52, li_51, li_50, li_47, li_46, li_45, li_44, li_43, li_42, li_41, li_39, li_38, li_37, li_36, li_35, li_34, li_33, li_29, li_28, li_27, li_26, li_25, li_23, li_22, li_21, li_19, li_18, li_17, li_15, li_m8, li_m2, li_60, li_54, li_2907, li_151, li_127, oN, iI_add, iI_sub, iI_mul, iI_neg, Int.reduceAdd, Int.reduceSub, Int.reduceMul, Int.reduceNeg, Int.toNat_natCast, Int.reduceToNat, iI_lt, iI_le, iI_eq, iI_cl, true_or, or_true, false_or, or_false, true_and, and_true, not_true_eq_false, not_false_eq_true]; first | done | omega)) only [↓if_pos, ↓if_neg, Option.bind_some, Option.toList_some, Option.toList_none, List.cons_append, List.nil_append, l_0, l_1, l_m1, l_2, l_3, l_4, l_5, l_6, l_7, l_8, l_9, l_10, l_16, l_20, l_40, l_48, l_99, l_200, l_999, l_9999, li_73, li_78, li_m1000000, li_90, li_251, li_400, li_2400, li_91, li_153, li_173, li_96, li_32, li_92, li_12, li_93, li_80, li_14, li_1000000000, li_30, li_11, li_24, li_13, li_97, li_64, li_1600, li_49, li_255, li_2147483647, li_12345, li_1103515245, li_59, li_57, li_122, li_1023, li_1000000, li_52, li_51, li_50, li_47, li_46, li_45, li_44, li_43, li_42, li_41, li_39, li_38, li_37, li_36, li_35, li_34, li_33, li_29, li_28, li_27, li_26, li_25, li_23, li_22, li_21, li_19, li_18, li_17, li_15, li_m8, li_m2, li_60, li_54, li_2907, li_151, li_127, oN, iI_add, iI_sub, iI_mul, iI_neg, Int.reduceAdd, Int.reduceSub, Int.reduceMul, Int.reduceNeg, Int.toNat_natCast, Int.reduceToNat, iI_cl, cl_144, sg_144_e0, e146]
    rw [sg_144_4 (z0 := by rw [e5]; exact v01), e5]
    simp (disch := first | omega | assumption | exact cat_n | exact cat_i _ | exact cat_r _ | (simp (disch := omega) only [l_0, l_1, l_m1, l_2, l_3, l_4, l_5, l_6, l_7, l_8, l_9, l_10, l_16, l_20, l_40, l_48, l_99, l_200, l_999, l_9999, li_73, li_78, li_m1000000, li_90, li_251, li_400, li_2400, li_91, li_153, li_173, li_96, li_32, li_92, li_12, li_93, li_80, li_14, li_1000000000, li_30, li_11, li_24, li_13, li_97, li_64, li_1600, li_49, li_255, li_2147483647, li_12345, li_1103515245, li_59, li_57, li_122, li_1023, li_1000000, li_52, li_51, li_50, li_47, li_46, li_45, li_44, li_43, li_42, li_41, li_39, li_38, li_37, li_36, li_35, li_34, li_33, li_29, li_28, li_27, li_26, li_25, li_23, li_22, li_21, li_19, li_18, li_17, li_15, li_m8, li_m2, li_60, li_54, li_2907, li_151, li_127, oN, iI_add, iI_sub, iI_mul, iI_neg, Int.reduceAdd, Int.reduceSub, Int.reduceMul, Int.reduceNeg, Int.toNat_natCast, Int.reduceToNat, iI_lt, iI_le, iI_eq, iI_cl, true_or, or_true, false_or, or_false, true_and, and_true, not_true_eq_false, not_false_eq_true]; first | done | omega)) only [↓if_pos, ↓if_neg, Option.bind_some, Option.toList_some, Option.toList_none, List.cons_append, List.nil_append, l_0, l_1, l_m1, l_2, l_3, l_4, l_5, l_6, l_7, l_8, l_9, l_10, l_16, l_20, l_40, l_48, l_99, l_200, l_999, l_9999, li_73, li_78, li_m1000000, li_90, li_251, li_400, li_2400, li_91, li_153, li_173, li_96, li_32, li_92, li_12, li_93, li_80, li_14, li_1000000000, li_30, li_11, li_24, li_13, li_97, li_64, li_1600, li_49, li_255, li_2147483647, li_12345, li_1103515245, li_59, li_57, li_122, li_1023, li_1000000, li_52, li_51, li_50, li_47, li_46, li_45, li_44, li_43, li_42, li_41, li_39, li_38, li_37, li_36, li_35, li_34, li_33, li_29, li_28, li_27, li_26, li_25, li_23, li_22, li_21, li_19, li_18, li_17, li_15, li_m8, li_m2, li_60, li_54, li_2907, li_151, li_127, oN, iI_add, iI_sub, iI_mul, iI_neg, Int.reduceAdd, Int.reduceSub, Int.reduceMul, Int.reduceNeg, Int.toNat_natCast, Int.reduceToNat, iI_cl]
  · rw [bI_t q] at e146
    have h0 : CS K (nw I 2 (-1)) := CS_cg h (fun c k z => nw_fr c k (by omega))
    have C0 : rl_C (nw I 2 (-1)) := C_cg h hC h0 (fun c k z => nw_fr c k (by omega))
    obtain ⟨I1, p1, f1, C1⟩ := k_147 (X := X) (J := J) h0 C0
    have h1 : CS K I1 := CS_fr h0 f1
    have e0 : ∀ c k, ¬ (c = 96 ∧ 6 ≤ k ∧ k ≤ 8) → W_q c k = false → I1 c k = I c k := fun c k z1 z2 => (f1 c k z2).trans (nw_fr c k z1)
    have n6 : I1 96 6 = iI 2 := (f1 _ _ rfl).trans nw_6
    have n7 : I1 96 7 = iI (-1) := (f1 _ _ rfl).trans nw_7
    have n8 : I1 96 8 = I 16 8 := (f1 _ _ rfl).trans nw_8
    have S := k_148 (X := X) (K := K) (J := J) (I := I1) (S := Sall K) (ok := fun b k d => bn_k (kf K b) k d ∧ cl1 K b (bn_f (kf K b) k d)) (Inv := TV K I1) (g := 1) (fun I t => t.1) (fun b k d z => z.1) (fun I b k d t hb _ k0 k1 d0 d1 => k_150c t hb k0 k1 d0 d1) (TV_rfl h1 C1)
    obtain ⟨v, I2, I3, p3, v01, t2, e3, l3⟩ := SE_LQ (g := 2) (y := -1) S (by omega) (fun a k d => gd2)
    refine ⟨v, am_up I3 96 5 v, ?_, SR_of h e0 n6 n7 n8 t2 (fun c k z => e3 c k (by omega)) rfl l3⟩
    simp (disch := first | omega | assumption | exact cat_n | exact cat_i _ | exact cat_r _ | (simp (disch := omega) only [l_0, l_1, l_m1, l_2, l_3, l_4, l_5, l_6, l_7, l_8, l_9, l_10, l_16, l_20, l_40, l_48, l_99, l_200, l_999, l_9999, li_73, li_78, li_m1000000, li_90, li_251, li_400, li_2400, li_91, li_153, li_173, li_96, li_32, li_92, li_12, li_93, li_80, li_14, li_1000000000, li_30, li_11, li_24, li_13, li_97, li_64, li_1600, li_49, li_255, li_2147483647, li_12345, li_1103515245, li_59, li_57, li_122, li_1023, li_1000000, li_52, li_51, li_50, li_47, li_46, li_45, li_44, li_43, li_42, li_41, li_39, li_38, li_37, li_36, li_35, li_34, li_33, li_29, li_28, li_27, li_26, li_25, li_23, li_22, li_21, li_19, li_18, li_17, li_15, li_m8, li_m2, li_60, li_54, li_2907, li_151, li_127, oN, iI_add, iI_sub, iI_mul, iI_neg, Int.reduceAdd, Int.reduceSub, Int.reduceMul, Int.reduceNeg, Int.toNat_natCast, Int.reduceToNat, iI_lt, iI_le, iI_eq, iI_cl, true_or, or_true, false_or, or_false, true_and, and_true, not_true_eq_false, not_false_eq_true]; first | done | omega)) only [↓if_pos, ↓if_neg, Option.bind_some, Option.toList_some, Option.toList_none, List.cons_append, List.nil_append, l_0, l_1, l_m1, l_2, l_3, l_4, l_5, l_6, l_7, l_8, l_9, l_10, l_16, l_20, l_40, l_48, l_99, l_200, l_999, l_9999, li_73, li_78, li_m1000000, li_90, li_251, li_400, li_2400, li_91, li_153, li_173, li_96, li_32, li_92, li_12, li_93, li_80, li_14, li_1000000000, li_30, li_11, li_24, li_13, li_97, li_64, li_1600, li_49, li_255, li_2147483647, li_12345, li_1103515245, li_59, li_57, li_122, li_1023, li_1000000, li_52, li_51, li_50, li_47, li_46, li_45, li_44, li_43, li_42, li_41, li_39, li_38, li_37, li_36, li_35, li_34, li_33, li_29, li_28, li_27, li_26, li_25, li_23, li_22, li_21, li_19, li_18, li_17, li_15, li_m8, li_m2, li_60, li_54, li_2907, li_151, li_127, oN, iI_add, iI_sub, iI_mul, iI_neg, Int.reduceAdd, Int.reduceSub, Int.reduceMul, Int.reduceNeg, Int.toNat_natCast, Int.reduceToNat, iI_cl, cl_144, sg_144_e0, e146]
    rw [sn_144_4 (hx := by decide)]
    simp (disch := first | omega | assumption | exact cat_n | exact cat_i _ | exact cat_r _ | (simp (disch := omega) only [l_0, l_1, l_m1, l_2, l_3, l_4, l_5, l_6, l_7, l_8, l_9, l_10, l_16, l_20, l_40, l_48, l_99, l_200, l_999, l_9999, li_73, li_78, li_m1000000, li_90, li_251, li_400, li_2400, li_91, li_153, li_173, li_96, li_32, li_92, li_12, li_93, li_80, li_14, li_1000000000, li_30, li_11, li_24, li_13, li_97, li_64, li_1600, li_49, li_255, li_2147483647, li_12345, li_1103515245, li_59, li_57, li_122, li_1023, li_1000000, li_52, li_51, li_50, li_47, li_46, li_45, li_44, li_43, li_42, li_41, li_39, li_38, li_37, li_36, li_35, li_34, li_33, li_29, li_28, li_27, li_26, li_25, li_23, li_22, li_21, li_19, li_18, li_17, li_15, li_m8, li_m2, li_60, li_54, li_2907, li_151, li_127, oN, iI_add, iI_sub, iI_mul, iI_neg, Int.reduceAdd, Int.reduceSub, Int.reduceMul, Int.reduceNeg, Int.toNat_natCast, Int.reduceToNat, iI_lt, iI_le, iI_eq, iI_cl, true_or, or_true, false_or, or_false, true_and, and_true, not_true_eq_false, not_false_eq_true]; first | done | omega)) only [↓if_pos, ↓if_neg, Option.bind_some, Option.toList_some, Option.toList_none, List.cons_append, List.nil_append, l_0, l_1, l_m1, l_2, l_3, l_4, l_5, l_6, l_7, l_8, l_9, l_10, l_16, l_20, l_40, l_48, l_99, l_200, l_999, l_9999, li_73, li_78, li_m1000000, li_90, li_251, li_400, li_2400, li_91, li_153, li_173, li_96, li_32, li_92, li_12, li_93, li_80, li_14, li_1000000000, li_30, li_11, li_24, li_13, li_97, li_64, li_1600, li_49, li_255, li_2147483647, li_12345, li_1103515245, li_59, li_57, li_122, li_1023, li_1000000, li_52, li_51, li_50, li_47, li_46, li_45, li_44, li_43, li_42, li_41, li_39, li_38, li_37, li_36, li_35, li_34, li_33, li_29, li_28, li_27, li_26, li_25, li_23, li_22, li_21, li_19, li_18, li_17, li_15, li_m8, li_m2, li_60, li_54, li_2907, li_151, li_127, oN, iI_add, iI_sub, iI_mul, iI_neg, Int.reduceAdd, Int.reduceSub, Int.reduceMul, Int.reduceNeg, Int.toNat_natCast, Int.reduceToNat, iI_cl, p1, sg_144_9, p3]
    rw [sg_144_11 (z0 := v01) (z1 := by rw [up_at]; exact v01), up_at]
/-- the cheapest of all bodies ahead of b, in locals -/
def CB4 (K : Sk) (b : Nat) (x2 x3 x4 x5 : Int32) : Prop := (x2 = iI (-1) ∧ x5 = iI 1000000000 ∧ ∀ (a : Nat) (k d : Int), a < b → ¬ gd_ K 2 (-1) a k d) ∨ (∃ (a : Nat) (k d : Int), a < b ∧ gd_ K 2 (-1) a k d ∧ x2 = iI a ∧ x3 = iI k ∧ x4 = iI d ∧ x5 = iI (bn_c (kf K a) k d) ∧ ∀ (a' : Nat) (k' d' : Int), a' < b → gd_ K 2 (-1) a' k' d' → lx4 (bn_c (kf K a) k d) a k d (bn_c (kf K a') k' d') a' k' d')
end S9g
