/-! SEE: op 39 -/
theorem Rl_see {n : Nat} {I I' : Nat → Nat → Int32} {J J' : Nat → Nat → Int64} (h0 : ∀ c k, (c = 1 ∧ k = 1) ∨ (c = 139 ∧ (k = 12 ∨ k = 36 ∨ k = 37)) ∨ (c = 128 ∧ k ≤ 1) ∨ c = 129 ∨ c = 130 ∨ c = 158 ∨ c = 159 ∨ I' c k = I c k) (t0 : I 16 1 ≠ 0) (kT : rl_T I') (kE : rl_E I') (g : Rl_ n I J) : Rl_ (n + 1) I' J' := by
  refine Rl_mono ?_
  have h : ∀ c k, ¬ ((c = 1 ∧ k = 1) ∨ (c = 139 ∧ (k = 12 ∨ k = 36 ∨ k = 37)) ∨ (c = 128 ∧ k ≤ 1) ∨ c = 129 ∨ c = 130 ∨ c = 158 ∨ c = 159) → I' c k = I c k := fun c k q => by
    rcases h0 c k with z | z | z | z | z | z | z | z
    · exact absurd (Or.inl z) q
    · exact absurd (Or.inr (Or.inl z)) q
    · exact absurd (Or.inr (Or.inr (Or.inl z))) q
    · exact absurd (Or.inr (Or.inr (Or.inr (Or.inl z)))) q
    · exact absurd (Or.inr (Or.inr (Or.inr (Or.inr (Or.inl z))))) q
    · exact absurd (Or.inr (Or.inr (Or.inr (Or.inr (Or.inr (Or.inl z)))))) q
    · exact absurd (Or.inr (Or.inr (Or.inr (Or.inr (Or.inr (Or.inr z)))))) q
    · exact z
  clear h0
  obtain ⟨g1, g2, g3, g4, g5, g6, g7, g8, g9, g10, g11, g12, g13, g14⟩ := g
  have hb : ∀ c, 16 ≤ c → c ≤ 80 → ∀ k, I' c k = I c k := fun c h1 h2 k => h c k (by omega)
  have e16 : ∀ k, I' 16 k = I 16 k := hb 16 (by omega) (by omega)
  have e148 : ∀ k, I' 148 k = I 148 k := fun k => h 148 k (by omega)
  have e140 : ∀ k, I' 140 k = I 140 k := fun k => h 140 k (by omega)
  have e141 : ∀ k, I' 141 k = I 141 k := fun k => h 141 k (by omega)
  have ec : cn I' = cn I := by unfold cn; rw [e16]
  have ecr : ∀ b, b < cn I → cr I' b = cr I b := fun b hb' => cr_congr (fun k => by
    have := g7.1.2
    have := bd_rg (b := b) (by omega)
    exact hb _ (by omega) (by omega) k)
  refine ⟨kT, F_congr (h 3 0 (by omega)) (h 3 1 (by omega)) (h 139 14 (by omega)) (h 139 15 (by omega)) g2, R_congr (fun k => h 138 k (by omega)) (fun k => h 146 k (by omega)) g3, D_congr (h 106 7 (by omega)) (h 139 41 (by omega)) g4, M_congr (h 133 1 (by omega)) (fun k => h 134 k (by omega)) (h 139 43 (by omega)) (fun k => h 161 k (by omega)) g5, ?_, ?_, ?_, ?_, ?_, ?_, kE, ?_, ?_⟩
  · intro k hk
    rw [h 147 k (by omega)]
    exact g6 k hk
  · exact CW_congr (fun k _ => e16 k) (fun c h1 h2 => hb c (by omega) (by omega)) g7
  · exact MW_congr (h 139 1 (by omega)) e140 e141 e148 (fun k => h 150 k (by omega)) g8
  · unfold rl_S at g9 ⊢
    rw [ec]
    simp only [e16, e148, h 139 0 (by omega), h 139 1 (by omega), h 139 2 (by omega), h 106 6 (by omega), hb 18 (by omega) (by omega)]
    refine ⟨g9.1, g9.2.1, g9.2.2.1, g9.2.2.2.1, g9.2.2.2.2.1, g9.2.2.2.2.2.1, g9.2.2.2.2.2.2.1, g9.2.2.2.2.2.2.2.1, fun z => absurd z t0, fun b hb' => ?_⟩
    rw [mr_congr e148 e140 e141, ecr b hb']
    exact g9.2.2.2.2.2.2.2.2.2 b hb'
  · intro b hb'
    rw [ec] at hb'
    have := g7.1.2
    have := bd_rg (b := b) (by omega)
    rw [hb (am_bd b) (by omega) (by omega) 0]
    refine ⟨(g10 b hb').1, fun i hi => ?_⟩
    rw [h 142 _ (by omega)]
    exact (g10 b hb').2 i hi
  · have eu : un I' = un I := by unfold un; rw [h 106 6 (by omega)]
    have eo : uo I' = uo I := by unfold uo; rw [h 106 5 (by omega)]
    have f140 : I' 140 = I 140 := funext e140
    have f141 : I' 141 = I 141 := funext e141
    have f149 : I' 149 = I 149 := funext fun k => h 149 k (by omega)
    unfold rl_U at g11 ⊢
    rw [eu, eo, ec, h 139 24 (by omega), h 106 6 (by omega), h 106 5 (by omega), f140, f141, f149]
    refine ⟨g11.1, g11.2.1, g11.2.2.1, fun v hv => ?_⟩
    have er : I' (108 + (uo I + v) % 20) = I (108 + (uo I + v) % 20) := funext fun k => h _ k (by omega)
    rw [er]
    exact g11.2.2.2 v hv
  · unfold rl_C at g13 ⊢
    rw [ec, e16]
    refine ⟨fun a b hab hb' => ?_, fun a b hab hb' => ?_, fun k hk => ?_⟩
    · rw [ecr a (by omega), ecr b hb', h 84 _ (by omega), h 85 _ (by omega)]
      exact g13.1 a b hab hb'
    · rw [ecr a (by omega), ecr b hb', hb 80 (by omega) (by omega)]
      exact g13.2.1 a b hab hb'
    · rw [h 104 k (by omega)]
      exact g13.2.2 k hk
  · have f103 : I' 103 = I 103 := funext fun k => h 103 k (by omega)
    have eK : kI I' = kI I := by
      unfold kI
      rw [ec, e16, e16, e16]
      congr 2
      funext b
      split
      · rename_i hb'
        exact ecr b hb'
      · rfl
    unfold rl_V rl_L at g14 ⊢
    rw [e16, h 96 8 (by omega), h 96 5 (by omega), h 96 6 (by omega), h 96 7 (by omega), f103, eK]
    exact g14
section S73
variable {X : am_X} {K : Sk} {I I0 : Nat → Nat → Int32} {J : Nat → Nat → Int64} {L : Nat}
theorem c_125 {y : Int} (e : I 1 1 = iI L) (hL : L ≤ 1600) (h0 : 0 ≤ y) (h1 : y < L) : am_do X 125 [.ref 1, .int (iI y)] (am_sh I J) = some (some (.int (I 2 y.toNat)), am_sh I J) := by
  simp (disch := first | omega | assumption | exact cat_n | exact cat_i _ | exact cat_r _ | (simp (disch := omega) only [l_0, l_1, l_m1, l_2, l_3, l_4, l_5, l_6, l_7, l_8, l_9, l_10, l_16, l_20, l_40, l_48, l_99, l_200, l_999, l_9999, li_73, li_78, li_m1000000, li_90, li_251, li_400, li_2400, li_91, li_153, li_173, li_96, li_32, li_92, li_12, li_93, li_80, li_14, li_1000000000, li_30, li_11, li_24, li_13, li_97, li_64, li_1600, li_49, li_255, li_2147483647, li_12345, li_1103515245, li_59, li_57, li_122, li_1023, li_1000000, li_52, li_51, li_50, li_47, li_46, li_45, li_44, li_43, li_42, li_41, li_39, li_38, li_37, li_36, li_35, li_34, li_33, li_29, li_28, li_27, li_26, li_25, li_23, li_22, li_21, li_19, li_18, li_17, li_15, li_m8, li_m2, li_60, li_54, li_2907, li_151, li_127, oN, iI_add, iI_sub, iI_mul, iI_neg, Int.reduceAdd, Int.reduceSub, Int.reduceMul, Int.reduceNeg, Int.toNat_natCast, iI_lt, iI_le, iI_eq, iI_cl, true_or, or_true, false_or, or_false, true_and, and_true, not_true_eq_false, not_false_eq_true]; first | done | omega)) only [↓if_pos, ↓if_neg, Option.bind_some, Option.toList_some, Option.toList_none, List.cons_append, List.nil_append, l_0, l_1, l_m1, l_2, l_3, l_4, l_5, l_6, l_7, l_8, l_9, l_10, l_16, l_20, l_40, l_48, l_99, l_200, l_999, l_9999, li_73, li_78, li_m1000000, li_90, li_251, li_400, li_2400, li_91, li_153, li_173, li_96, li_32, li_92, li_12, li_93, li_80, li_14, li_1000000000, li_30, li_11, li_24, li_13, li_97, li_64, li_1600, li_49, li_255, li_2147483647, li_12345, li_1103515245, li_59, li_57, li_122, li_1023, li_1000000, li_52, li_51, li_50, li_47, li_46, li_45, li_44, li_43, li_42, li_41, li_39, li_38, li_37, li_36, li_35, li_34, li_33, li_29, li_28, li_27, li_26, li_25, li_23, li_22, li_21, li_19, li_18, li_17, li_15, li_m8, li_m2, li_60, li_54, li_2907, li_151, li_127, oN, iI_add, iI_sub, iI_mul, iI_neg, Int.reduceAdd, Int.reduceSub, Int.reduceMul, Int.reduceNeg, Int.toNat_natCast, iI_cl, cl_125, sg_125_e0, e]
/-- the tape has H pairs, the second of each below 4 -/
def VS (u : Nat → Int32) (H : Nat) : Prop := ∀ k, k < H → (u (2 * k + 1)).toInt ≤ 3
/-- what the class, the model has seen behind j pairs -/
def SE (I0 I : Nat → Nat → Int32) (j : Nat) : Prop := (∀ k, k < j → I 129 k = I0 2 (2 * k) ∧ I 130 k = I0 2 (2 * k + 1)) ∧ ∀ c k, c ≠ 129 → c ≠ 130 → I c k = I0 c k
def SF (I0 I : Nat → Nat → Int32) (j : Nat) : Prop := (∀ k, k < j → I 158 k = I0 145 (2 * k) ∧ I 159 k = I0 145 (2 * k + 1)) ∧ ∀ c k, c ≠ 158 → c ≠ 159 → I c k = I0 c k
theorem k_91l {H : Nat} {x : Int32} (e : I0 1 1 = iI (2 * H : Nat)) (e1 : I0 128 1 = iI H) (hH : H ≤ 16) : ∃ I' : Nat → Nat → Int32, am_ev X amP_91 43 [.ref 128, .ref 1, .int x, .int (iI (0 : Nat))] [] (am_sh I0 J) = some (some (.int (iI 1)), am_sh I' J) ∧ SE I0 I' H := by
  refine Lp1 (n := H) (G := fun i (I1 : Nat → Nat → Int32) => am_ev X amP_91 43 [.ref 128, .ref 1, .int x, .int (iI i)] [] (am_sh I1 J)) (Iv := fun i I1 => SE I0 I1 i) (P := fun r => ∃ I' : Nat → Nat → Int32, r = some (some (.int (iI 1)), am_sh I' J) ∧ SE I0 I' H) (by
    rintro i I1 hi ⟨g1, g2⟩
    right
    refine ⟨am_up (am_up I1 129 i (I0 2 (2 * i))) 130 i (I0 2 (2 * i + 1)), ⟨fun k hk => ?_, fun c k q1 q2 => ?_⟩, ?_⟩
    · by_cases y : k = i
      · subst y
        rw [up_ck (by omega), up_at, up_at]
        exact ⟨rfl, rfl⟩
      · rw [up_ck (by omega), up_k (by omega), up_k (by omega), up_ck (by omega)]
        exact g1 k (by omega)
    · rw [up_ck (by omega), up_ck (by omega)]
      exact g2 c k q1 q2
    · have h1 : I1 128 1 = iI H := (g2 128 1 (by omega) (by omega)).trans e1
      have h2 : I1 1 1 = iI (2 * H : Nat) := (g2 1 1 (by omega) (by omega)).trans e
      have h3 : ∀ v, am_up I1 129 i v 1 1 = iI (2 * H : Nat) := fun v => (up_ck (by omega)).trans h2
      have a1 := c_125 (X := X) (J := J) (y := 2 * (i : Int)) h2 (by omega) (by omega) (by omega)
      have a2 := c_125 (X := X) (J := J) (y := 2 * (i : Int) + 1) (h3 (I0 2 (2 * i))) (by omega) (by omega) (by omega)
      have t1 : (2 * (i : Int)).toNat = 2 * i := by omega
      have t2 : (2 * (i : Int) + 1).toNat = 2 * i + 1 := by omega
      rw [t1, g2 2 (2 * i) (by omega) (by omega)] at a1
      rw [t2, up_ck (by omega), g2 2 (2 * i + 1) (by omega) (by omega)] at a2
      try dsimp only
      rw [cS, sg_91_43, h1]
      simp (disch := first | omega | assumption | exact cat_n | exact cat_i _ | exact cat_r _ | (simp (disch := omega) only [l_0, l_1, l_m1, l_2, l_3, l_4, l_5, l_6, l_7, l_8, l_9, l_10, l_16, l_20, l_40, l_48, l_99, l_200, l_999, l_9999, li_73, li_78, li_m1000000, li_90, li_251, li_400, li_2400, li_91, li_153, li_173, li_96, li_32, li_92, li_12, li_93, li_80, li_14, li_1000000000, li_30, li_11, li_24, li_13, li_97, li_64, li_1600, li_49, li_255, li_2147483647, li_12345, li_1103515245, li_59, li_57, li_122, li_1023, li_1000000, li_52, li_51, li_50, li_47, li_46, li_45, li_44, li_43, li_42, li_41, li_39, li_38, li_37, li_36, li_35, li_34, li_33, li_29, li_28, li_27, li_26, li_25, li_23, li_22, li_21, li_19, li_18, li_17, li_15, li_m8, li_m2, li_60, li_54, li_2907, li_151, li_127, oN, iI_add, iI_sub, iI_mul, iI_neg, Int.reduceAdd, Int.reduceSub, Int.reduceMul, Int.reduceNeg, Int.toNat_natCast, iI_lt, iI_le, iI_eq, iI_cl, true_or, or_true, false_or, or_false, true_and, and_true, not_true_eq_false, not_false_eq_true]; first | done | omega)) only [↓if_pos, ↓if_neg, Option.bind_some, Option.toList_some, Option.toList_none, List.cons_append, List.nil_append, l_0, l_1, l_m1, l_2, l_3, l_4, l_5, l_6, l_7, l_8, l_9, l_10, l_16, l_20, l_40, l_48, l_99, l_200, l_999, l_9999, li_73, li_78, li_m1000000, li_90, li_251, li_400, li_2400, li_91, li_153, li_173, li_96, li_32, li_92, li_12, li_93, li_80, li_14, li_1000000000, li_30, li_11, li_24, li_13, li_97, li_64, li_1600, li_49, li_255, li_2147483647, li_12345, li_1103515245, li_59, li_57, li_122, li_1023, li_1000000, li_52, li_51, li_50, li_47, li_46, li_45, li_44, li_43, li_42, li_41, li_39, li_38, li_37, li_36, li_35, li_34, li_33, li_29, li_28, li_27, li_26, li_25, li_23, li_22, li_21, li_19, li_18, li_17, li_15, li_m8, li_m2, li_60, li_54, li_2907, li_151, li_127, oN, iI_add, iI_sub, iI_mul, iI_neg, Int.reduceAdd, Int.reduceSub, Int.reduceMul, Int.reduceNeg, Int.toNat_natCast, iI_cl, a1, a2, sg_91_55, sg_91_66]) (by
    intro I1 g
    refine ⟨I1, ?_, g⟩
    have h1 : I1 128 1 = iI H := (g.2 128 1 (by omega) (by omega)).trans e1
    try dsimp only
    rw [sg_91_43, h1]
    simp (disch := first | omega | assumption | exact cat_n | exact cat_i _ | exact cat_r _ | (simp (disch := omega) only [l_0, l_1, l_m1, l_2, l_3, l_4, l_5, l_6, l_7, l_8, l_9, l_10, l_16, l_20, l_40, l_48, l_99, l_200, l_999, l_9999, li_73, li_78, li_m1000000, li_90, li_251, li_400, li_2400, li_91, li_153, li_173, li_96, li_32, li_92, li_12, li_93, li_80, li_14, li_1000000000, li_30, li_11, li_24, li_13, li_97, li_64, li_1600, li_49, li_255, li_2147483647, li_12345, li_1103515245, li_59, li_57, li_122, li_1023, li_1000000, li_52, li_51, li_50, li_47, li_46, li_45, li_44, li_43, li_42, li_41, li_39, li_38, li_37, li_36, li_35, li_34, li_33, li_29, li_28, li_27, li_26, li_25, li_23, li_22, li_21, li_19, li_18, li_17, li_15, li_m8, li_m2, li_60, li_54, li_2907, li_151, li_127, oN, iI_add, iI_sub, iI_mul, iI_neg, Int.reduceAdd, Int.reduceSub, Int.reduceMul, Int.reduceNeg, Int.toNat_natCast, iI_lt, iI_le, iI_eq, iI_cl, true_or, or_true, false_or, or_false, true_and, and_true, not_true_eq_false, not_false_eq_true]; first | done | omega)) only [↓if_pos, ↓if_neg, Option.bind_some, Option.toList_some, Option.toList_none, List.cons_append, List.nil_append, l_0, l_1, l_m1, l_2, l_3, l_4, l_5, l_6, l_7, l_8, l_9, l_10, l_16, l_20, l_40, l_48, l_99, l_200, l_999, l_9999, li_73, li_78, li_m1000000, li_90, li_251, li_400, li_2400, li_91, li_153, li_173, li_96, li_32, li_92, li_12, li_93, li_80, li_14, li_1000000000, li_30, li_11, li_24, li_13, li_97, li_64, li_1600, li_49, li_255, li_2147483647, li_12345, li_1103515245, li_59, li_57, li_122, li_1023, li_1000000, li_52, li_51, li_50, li_47, li_46, li_45, li_44, li_43, li_42, li_41, li_39, li_38, li_37, li_36, li_35, li_34, li_33, li_29, li_28, li_27, li_26, li_25, li_23, li_22, li_21, li_19, li_18, li_17, li_15, li_m8, li_m2, li_60, li_54, li_2907, li_151, li_127, oN, iI_add, iI_sub, iI_mul, iI_neg, Int.reduceAdd, Int.reduceSub, Int.reduceMul, Int.reduceNeg, Int.toNat_natCast, iI_cl]) I0 ⟨fun k hk => by omega, fun _ _ _ _ => rfl⟩
theorem k_91t {H : Nat} {x : Int32} (e : I 1 1 = iI (2 * H : Nat)) (h0 : 1 ≤ H) (hH : H ≤ 16) (hb : ∀ k, k < 2 * H → 0 ≤ (I 2 k).toInt ∧ (I 2 k).toInt ≤ 255) (hv : VS (I 2) H) : ∃ I' : Nat → Nat → Int32, am_do X 91 [.ref 128, .ref 1, .int x] (am_sh I J) = some (some (.int (iI 1)), am_sh I' J) ∧ SE (am_up (am_up I 128 0 x) 128 1 (iI H)) I' H := by
  have ed : ((2 * H : Nat) : Int) / 2 = H := by omega
  have A := Lp1 (n := H) (G := fun i (_ : Unit) => am_ev X amP_91 17 [.ref 128, .ref 1, .int x, .int (iI (2 * (i : Int) + 1))] [] (am_sh I J)) (Iv := fun i _ => True) (P := fun r => ∃ I' : Nat → Nat → Int32, r = some (some (.int (iI 1)), am_sh I' J) ∧ SE (am_up (am_up I 128 0 x) 128 1 (iI H)) I' H) (by
    intro i _ hi _
    right
    refine ⟨(), trivial, ?_⟩
    have a2 := c_125 (X := X) (J := J) (y := 2 * (i : Int) + 1) e (by omega) (by omega) (by omega)
    have t2 : (2 * (i : Int) + 1).toNat = 2 * i + 1 := by omega
    obtain ⟨v, ev⟩ : ∃ v : Int, (I 2 (2 * i + 1)).toInt = v := ⟨_, rfl⟩
    have w1 := hb (2 * i + 1) (by omega)
    have w2 := hv i hi
    rw [ev] at w1 w2
    rw [t2, iI_of ev] at a2
    have t3 : 2 * (i : Int) + 1 + 2 = 2 * ((i : Int) + 1) + 1 := by omega
    try dsimp only
    rw [cS, sg_91_17, e]
    simp (disch := first | omega | assumption | exact cat_n | exact cat_i _ | exact cat_r _ | (simp (disch := omega) only [l_0, l_1, l_m1, l_2, l_3, l_4, l_5, l_6, l_7, l_8, l_9, l_10, l_16, l_20, l_40, l_48, l_99, l_200, l_999, l_9999, li_73, li_78, li_m1000000, li_90, li_251, li_400, li_2400, li_91, li_153, li_173, li_96, li_32, li_92, li_12, li_93, li_80, li_14, li_1000000000, li_30, li_11, li_24, li_13, li_97, li_64, li_1600, li_49, li_255, li_2147483647, li_12345, li_1103515245, li_59, li_57, li_122, li_1023, li_1000000, li_52, li_51, li_50, li_47, li_46, li_45, li_44, li_43, li_42, li_41, li_39, li_38, li_37, li_36, li_35, li_34, li_33, li_29, li_28, li_27, li_26, li_25, li_23, li_22, li_21, li_19, li_18, li_17, li_15, li_m8, li_m2, li_60, li_54, li_2907, li_151, li_127, oN, iI_add, iI_sub, iI_mul, iI_neg, Int.reduceAdd, Int.reduceSub, Int.reduceMul, Int.reduceNeg, Int.toNat_natCast, iI_lt, iI_le, iI_eq, iI_cl, true_or, or_true, false_or, or_false, true_and, and_true, not_true_eq_false, not_false_eq_true]; first | done | omega)) only [↓if_pos, ↓if_neg, Option.bind_some, Option.toList_some, Option.toList_none, List.cons_append, List.nil_append, l_0, l_1, l_m1, l_2, l_3, l_4, l_5, l_6, l_7, l_8, l_9, l_10, l_16, l_20, l_40, l_48, l_99, l_200, l_999, l_9999, li_73, li_78, li_m1000000, li_90, li_251, li_400, li_2400, li_91, li_153, li_173, li_96, li_32, li_92, li_12, li_93, li_80, li_14, li_1000000000, li_30, li_11, li_24, li_13, li_97, li_64, li_1600, li_49, li_255, li_2147483647, li_12345, li_1103515245, li_59, li_57, li_122, li_1023, li_1000000, li_52, li_51, li_50, li_47, li_46, li_45, li_44, li_43, li_42, li_41, li_39, li_38, li_37, li_36, li_35, li_34, li_33, li_29, li_28, li_27, li_26, li_25, li_23, li_22, li_21, li_19, li_18, li_17, li_15, li_m8, li_m2, li_60, li_54, li_2907, li_151, li_127, oN, iI_add, iI_sub, iI_mul, iI_neg, Int.reduceAdd, Int.reduceSub, Int.reduceMul, Int.reduceNeg, Int.toNat_natCast, iI_cl, a2, sg_91_24, t3]) (by
    intro _ _
    have z1 : am_up I 128 0 x 1 1 = iI (2 * H : Nat) := (up_ck (by omega)).trans e
    obtain ⟨I', p1, p2⟩ := k_91l (X := X) (J := J) (I0 := am_up (am_up I 128 0 x) 128 1 (iI H)) (x := x) (H := H) ((up_ck (by omega)).trans z1) (up_at _ _ _ _) hH
    rw [c0] at p1
    refine ⟨I', ?_, p2⟩
    try dsimp only
    rw [sg_91_17, e, z1]
    simp (disch := first | omega | assumption | exact cat_n | exact cat_i _ | exact cat_r _ | (simp (disch := omega) only [l_0, l_1, l_m1, l_2, l_3, l_4, l_5, l_6, l_7, l_8, l_9, l_10, l_16, l_20, l_40, l_48, l_99, l_200, l_999, l_9999, li_73, li_78, li_m1000000, li_90, li_251, li_400, li_2400, li_91, li_153, li_173, li_96, li_32, li_92, li_12, li_93, li_80, li_14, li_1000000000, li_30, li_11, li_24, li_13, li_97, li_64, li_1600, li_49, li_255, li_2147483647, li_12345, li_1103515245, li_59, li_57, li_122, li_1023, li_1000000, li_52, li_51, li_50, li_47, li_46, li_45, li_44, li_43, li_42, li_41, li_39, li_38, li_37, li_36, li_35, li_34, li_33, li_29, li_28, li_27, li_26, li_25, li_23, li_22, li_21, li_19, li_18, li_17, li_15, li_m8, li_m2, li_60, li_54, li_2907, li_151, li_127, oN, iI_add, iI_sub, iI_mul, iI_neg, Int.reduceAdd, Int.reduceSub, Int.reduceMul, Int.reduceNeg, Int.toNat_natCast, iI_lt, iI_le, iI_eq, iI_cl, true_or, or_true, false_or, or_false, true_and, and_true, not_true_eq_false, not_false_eq_true]; first | done | omega)) only [↓if_pos, ↓if_neg, Option.bind_some, Option.toList_some, Option.toList_none, List.cons_append, List.nil_append, l_0, l_1, l_m1, l_2, l_3, l_4, l_5, l_6, l_7, l_8, l_9, l_10, l_16, l_20, l_40, l_48, l_99, l_200, l_999, l_9999, li_73, li_78, li_m1000000, li_90, li_251, li_400, li_2400, li_91, li_153, li_173, li_96, li_32, li_92, li_12, li_93, li_80, li_14, li_1000000000, li_30, li_11, li_24, li_13, li_97, li_64, li_1600, li_49, li_255, li_2147483647, li_12345, li_1103515245, li_59, li_57, li_122, li_1023, li_1000000, li_52, li_51, li_50, li_47, li_46, li_45, li_44, li_43, li_42, li_41, li_39, li_38, li_37, li_36, li_35, li_34, li_33, li_29, li_28, li_27, li_26, li_25, li_23, li_22, li_21, li_19, li_18, li_17, li_15, li_m8, li_m2, li_60, li_54, li_2907, li_151, li_127, oN, iI_add, iI_sub, iI_mul, iI_neg, Int.reduceAdd, Int.reduceSub, Int.reduceMul, Int.reduceNeg, Int.toNat_natCast, iI_cl, iI_div, ed, p1]) () trivial
  obtain ⟨I', p1, p2⟩ := A
  refine ⟨I', ?_, p2⟩
  try dsimp only at p1
  have z0 : 2 * ((0 : Nat) : Int) + 1 = 1 := rfl
  rw [z0] at p1
  have z2 : ((2 * H : Nat) : Int) - (H : Int) * 2 = 0 := by omega
  simp (disch := first | omega | assumption | exact cat_n | exact cat_i _ | exact cat_r _ | (simp (disch := omega) only [l_0, l_1, l_m1, l_2, l_3, l_4, l_5, l_6, l_7, l_8, l_9, l_10, l_16, l_20, l_40, l_48, l_99, l_200, l_999, l_9999, li_73, li_78, li_m1000000, li_90, li_251, li_400, li_2400, li_91, li_153, li_173, li_96, li_32, li_92, li_12, li_93, li_80, li_14, li_1000000000, li_30, li_11, li_24, li_13, li_97, li_64, li_1600, li_49, li_255, li_2147483647, li_12345, li_1103515245, li_59, li_57, li_122, li_1023, li_1000000, li_52, li_51, li_50, li_47, li_46, li_45, li_44, li_43, li_42, li_41, li_39, li_38, li_37, li_36, li_35, li_34, li_33, li_29, li_28, li_27, li_26, li_25, li_23, li_22, li_21, li_19, li_18, li_17, li_15, li_m8, li_m2, li_60, li_54, li_2907, li_151, li_127, oN, iI_add, iI_sub, iI_mul, iI_neg, Int.reduceAdd, Int.reduceSub, Int.reduceMul, Int.reduceNeg, Int.toNat_natCast, iI_lt, iI_le, iI_eq, iI_cl, true_or, or_true, false_or, or_false, true_and, and_true, not_true_eq_false, not_false_eq_true]; first | done | omega)) only [↓if_pos, ↓if_neg, Option.bind_some, Option.toList_some, Option.toList_none, List.cons_append, List.nil_append, l_0, l_1, l_m1, l_2, l_3, l_4, l_5, l_6, l_7, l_8, l_9, l_10, l_16, l_20, l_40, l_48, l_99, l_200, l_999, l_9999, li_73, li_78, li_m1000000, li_90, li_251, li_400, li_2400, li_91, li_153, li_173, li_96, li_32, li_92, li_12, li_93, li_80, li_14, li_1000000000, li_30, li_11, li_24, li_13, li_97, li_64, li_1600, li_49, li_255, li_2147483647, li_12345, li_1103515245, li_59, li_57, li_122, li_1023, li_1000000, li_52, li_51, li_50, li_47, li_46, li_45, li_44, li_43, li_42, li_41, li_39, li_38, li_37, li_36, li_35, li_34, li_33, li_29, li_28, li_27, li_26, li_25, li_23, li_22, li_21, li_19, li_18, li_17, li_15, li_m8, li_m2, li_60, li_54, li_2907, li_151, li_127, oN, iI_add, iI_sub, iI_mul, iI_neg, Int.reduceAdd, Int.reduceSub, Int.reduceMul, Int.reduceNeg, Int.toNat_natCast, iI_cl, cl_91, sg_91_e0, e, iI_div, ed, z2, p1]
theorem k_91f {x : Int32} (e : I 1 1 = iI L) (hL : L ≤ 1600) (hb : ∀ k, k < L → 0 ≤ (I 2 k).toInt ∧ (I 2 k).toInt ≤ 255) (hv : ¬ ∃ H, L = 2 * H ∧ 1 ≤ H ∧ H ≤ 16 ∧ VS (I 2) H) : am_do X 91 [.ref 128, .ref 1, .int x] (am_sh I J) = some (some (.int (iI 0)), am_sh I J) := by
  by_cases q1 : L < 2
  · simp (disch := first | omega | assumption | exact cat_n | exact cat_i _ | exact cat_r _ | (simp (disch := omega) only [l_0, l_1, l_m1, l_2, l_3, l_4, l_5, l_6, l_7, l_8, l_9, l_10, l_16, l_20, l_40, l_48, l_99, l_200, l_999, l_9999, li_73, li_78, li_m1000000, li_90, li_251, li_400, li_2400, li_91, li_153, li_173, li_96, li_32, li_92, li_12, li_93, li_80, li_14, li_1000000000, li_30, li_11, li_24, li_13, li_97, li_64, li_1600, li_49, li_255, li_2147483647, li_12345, li_1103515245, li_59, li_57, li_122, li_1023, li_1000000, li_52, li_51, li_50, li_47, li_46, li_45, li_44, li_43, li_42, li_41, li_39, li_38, li_37, li_36, li_35, li_34, li_33, li_29, li_28, li_27, li_26, li_25, li_23, li_22, li_21, li_19, li_18, li_17, li_15, li_m8, li_m2, li_60, li_54, li_2907, li_151, li_127, oN, iI_add, iI_sub, iI_mul, iI_neg, Int.reduceAdd, Int.reduceSub, Int.reduceMul, Int.reduceNeg, Int.toNat_natCast, iI_lt, iI_le, iI_eq, iI_cl, true_or, or_true, false_or, or_false, true_and, and_true, not_true_eq_false, not_false_eq_true]; first | done | omega)) only [↓if_pos, ↓if_neg, Option.bind_some, Option.toList_some, Option.toList_none, List.cons_append, List.nil_append, l_0, l_1, l_m1, l_2, l_3, l_4, l_5, l_6, l_7, l_8, l_9, l_10, l_16, l_20, l_40, l_48, l_99, l_200, l_999, l_9999, li_73, li_78, li_m1000000, li_90, li_251, li_400, li_2400, li_91, li_153, li_173, li_96, li_32, li_92, li_12, li_93, li_80, li_14, li_1000000000, li_30, li_11, li_24, li_13, li_97, li_64, li_1600, li_49, li_255, li_2147483647, li_12345, li_1103515245, li_59, li_57, li_122, li_1023, li_1000000, li_52, li_51, li_50, li_47, li_46, li_45, li_44, li_43, li_42, li_41, li_39, li_38, li_37, li_36, li_35, li_34, li_33, li_29, li_28, li_27, li_26, li_25, li_23, li_22, li_21, li_19, li_18, li_17, li_15, li_m8, li_m2, li_60, li_54, li_2907, li_151, li_127, oN, iI_add, iI_sub, iI_mul, iI_neg, Int.reduceAdd, Int.reduceSub, Int.reduceMul, Int.reduceNeg, Int.toNat_natCast, iI_cl, cl_91, sg_91_e0, e]
  by_cases q2 : 32 < L
  · simp (disch := first | omega | assumption | exact cat_n | exact cat_i _ | exact cat_r _ | (simp (disch := omega) only [l_0, l_1, l_m1, l_2, l_3, l_4, l_5, l_6, l_7, l_8, l_9, l_10, l_16, l_20, l_40, l_48, l_99, l_200, l_999, l_9999, li_73, li_78, li_m1000000, li_90, li_251, li_400, li_2400, li_91, li_153, li_173, li_96, li_32, li_92, li_12, li_93, li_80, li_14, li_1000000000, li_30, li_11, li_24, li_13, li_97, li_64, li_1600, li_49, li_255, li_2147483647, li_12345, li_1103515245, li_59, li_57, li_122, li_1023, li_1000000, li_52, li_51, li_50, li_47, li_46, li_45, li_44, li_43, li_42, li_41, li_39, li_38, li_37, li_36, li_35, li_34, li_33, li_29, li_28, li_27, li_26, li_25, li_23, li_22, li_21, li_19, li_18, li_17, li_15, li_m8, li_m2, li_60, li_54, li_2907, li_151, li_127, oN, iI_add, iI_sub, iI_mul, iI_neg, Int.reduceAdd, Int.reduceSub, Int.reduceMul, Int.reduceNeg, Int.toNat_natCast, iI_lt, iI_le, iI_eq, iI_cl, true_or, or_true, false_or, or_false, true_and, and_true, not_true_eq_false, not_false_eq_true]; first | done | omega)) only [↓if_pos, ↓if_neg, Option.bind_some, Option.toList_some, Option.toList_none, List.cons_append, List.nil_append, l_0, l_1, l_m1, l_2, l_3, l_4, l_5, l_6, l_7, l_8, l_9, l_10, l_16, l_20, l_40, l_48, l_99, l_200, l_999, l_9999, li_73, li_78, li_m1000000, li_90, li_251, li_400, li_2400, li_91, li_153, li_173, li_96, li_32, li_92, li_12, li_93, li_80, li_14, li_1000000000, li_30, li_11, li_24, li_13, li_97, li_64, li_1600, li_49, li_255, li_2147483647, li_12345, li_1103515245, li_59, li_57, li_122, li_1023, li_1000000, li_52, li_51, li_50, li_47, li_46, li_45, li_44, li_43, li_42, li_41, li_39, li_38, li_37, li_36, li_35, li_34, li_33, li_29, li_28, li_27, li_26, li_25, li_23, li_22, li_21, li_19, li_18, li_17, li_15, li_m8, li_m2, li_60, li_54, li_2907, li_151, li_127, oN, iI_add, iI_sub, iI_mul, iI_neg, Int.reduceAdd, Int.reduceSub, Int.reduceMul, Int.reduceNeg, Int.toNat_natCast, iI_cl, cl_91, sg_91_e0, e]
  by_cases q3 : ¬ L % 2 = 0
  · simp (disch := first | omega | assumption | exact cat_n | exact cat_i _ | exact cat_r _ | (simp (disch := omega) only [l_0, l_1, l_m1, l_2, l_3, l_4, l_5, l_6, l_7, l_8, l_9, l_10, l_16, l_20, l_40, l_48, l_99, l_200, l_999, l_9999, li_73, li_78, li_m1000000, li_90, li_251, li_400, li_2400, li_91, li_153, li_173, li_96, li_32, li_92, li_12, li_93, li_80, li_14, li_1000000000, li_30, li_11, li_24, li_13, li_97, li_64, li_1600, li_49, li_255, li_2147483647, li_12345, li_1103515245, li_59, li_57, li_122, li_1023, li_1000000, li_52, li_51, li_50, li_47, li_46, li_45, li_44, li_43, li_42, li_41, li_39, li_38, li_37, li_36, li_35, li_34, li_33, li_29, li_28, li_27, li_26, li_25, li_23, li_22, li_21, li_19, li_18, li_17, li_15, li_m8, li_m2, li_60, li_54, li_2907, li_151, li_127, oN, iI_add, iI_sub, iI_mul, iI_neg, Int.reduceAdd, Int.reduceSub, Int.reduceMul, Int.reduceNeg, Int.toNat_natCast, iI_lt, iI_le, iI_eq, iI_cl, true_or, or_true, false_or, or_false, true_and, and_true, not_true_eq_false, not_false_eq_true]; first | done | omega)) only [↓if_pos, ↓if_neg, Option.bind_some, Option.toList_some, Option.toList_none, List.cons_append, List.nil_append, l_0, l_1, l_m1, l_2, l_3, l_4, l_5, l_6, l_7, l_8, l_9, l_10, l_16, l_20, l_40, l_48, l_99, l_200, l_999, l_9999, li_73, li_78, li_m1000000, li_90, li_251, li_400, li_2400, li_91, li_153, li_173, li_96, li_32, li_92, li_12, li_93, li_80, li_14, li_1000000000, li_30, li_11, li_24, li_13, li_97, li_64, li_1600, li_49, li_255, li_2147483647, li_12345, li_1103515245, li_59, li_57, li_122, li_1023, li_1000000, li_52, li_51, li_50, li_47, li_46, li_45, li_44, li_43, li_42, li_41, li_39, li_38, li_37, li_36, li_35, li_34, li_33, li_29, li_28, li_27, li_26, li_25, li_23, li_22, li_21, li_19, li_18, li_17, li_15, li_m8, li_m2, li_60, li_54, li_2907, li_151, li_127, oN, iI_add, iI_sub, iI_mul, iI_neg, Int.reduceAdd, Int.reduceSub, Int.reduceMul, Int.reduceNeg, Int.toNat_natCast, iI_cl, cl_91, sg_91_e0, e, iI_div]
  obtain ⟨H, rfl⟩ : ∃ H, L = 2 * H := ⟨L / 2, by omega⟩
  have hv' : ¬ VS (I 2) H := fun z => hv ⟨H, rfl, by omega, by omega, z⟩
  have ed : ((2 * H : Nat) : Int) / 2 = H := by omega
  have A := Lp1 (n := H) (G := fun i (_ : Unit) => am_ev X amP_91 17 [.ref 128, .ref 1, .int x, .int (iI (2 * (i : Int) + 1))] [] (am_sh I J)) (Iv := fun i _ => ∀ k, k < i → (I 2 (2 * k + 1)).toInt ≤ 3) (P := fun r => r = some (some (.int (iI 0)), am_sh I J)) (by
    intro i _ hi hv
    have a2 := c_125 (X := X) (J := J) (y := 2 * (i : Int) + 1) e (by omega) (by omega) (by omega)
    have t2 : (2 * (i : Int) + 1).toNat = 2 * i + 1 := by omega
    obtain ⟨v, ev⟩ : ∃ v : Int, (I 2 (2 * i + 1)).toInt = v := ⟨_, rfl⟩
    have w1 := hb (2 * i + 1) (by omega)
    rw [ev] at w1
    rw [t2, iI_of ev] at a2
    have t3 : 2 * (i : Int) + 1 + 2 = 2 * ((i : Int) + 1) + 1 := by omega
    by_cases w2 : v ≤ 3
    · right
      refine ⟨(), fun k hk => ?_, ?_⟩
      · by_cases y : k = i
        · subst y; omega
        · exact hv k (by omega)
      · try dsimp only
        rw [cS, sg_91_17, e]
        simp (disch := first | omega | assumption | exact cat_n | exact cat_i _ | exact cat_r _ | (simp (disch := omega) only [l_0, l_1, l_m1, l_2, l_3, l_4, l_5, l_6, l_7, l_8, l_9, l_10, l_16, l_20, l_40, l_48, l_99, l_200, l_999, l_9999, li_73, li_78, li_m1000000, li_90, li_251, li_400, li_2400, li_91, li_153, li_173, li_96, li_32, li_92, li_12, li_93, li_80, li_14, li_1000000000, li_30, li_11, li_24, li_13, li_97, li_64, li_1600, li_49, li_255, li_2147483647, li_12345, li_1103515245, li_59, li_57, li_122, li_1023, li_1000000, li_52, li_51, li_50, li_47, li_46, li_45, li_44, li_43, li_42, li_41, li_39, li_38, li_37, li_36, li_35, li_34, li_33, li_29, li_28, li_27, li_26, li_25, li_23, li_22, li_21, li_19, li_18, li_17, li_15, li_m8, li_m2, li_60, li_54, li_2907, li_151, li_127, oN, iI_add, iI_sub, iI_mul, iI_neg, Int.reduceAdd, Int.reduceSub, Int.reduceMul, Int.reduceNeg, Int.toNat_natCast, iI_lt, iI_le, iI_eq, iI_cl, true_or, or_true, false_or, or_false, true_and, and_true, not_true_eq_false, not_false_eq_true]; first | done | omega)) only [↓if_pos, ↓if_neg, Option.bind_some, Option.toList_some, Option.toList_none, List.cons_append, List.nil_append, l_0, l_1, l_m1, l_2, l_3, l_4, l_5, l_6, l_7, l_8, l_9, l_10, l_16, l_20, l_40, l_48, l_99, l_200, l_999, l_9999, li_73, li_78, li_m1000000, li_90, li_251, li_400, li_2400, li_91, li_153, li_173, li_96, li_32, li_92, li_12, li_93, li_80, li_14, li_1000000000, li_30, li_11, li_24, li_13, li_97, li_64, li_1600, li_49, li_255, li_2147483647, li_12345, li_1103515245, li_59, li_57, li_122, li_1023, li_1000000, li_52, li_51, li_50, li_47, li_46, li_45, li_44, li_43, li_42, li_41, li_39, li_38, li_37, li_36, li_35, li_34, li_33, li_29, li_28, li_27, li_26, li_25, li_23, li_22, li_21, li_19, li_18, li_17, li_15, li_m8, li_m2, li_60, li_54, li_2907, li_151, li_127, oN, iI_add, iI_sub, iI_mul, iI_neg, Int.reduceAdd, Int.reduceSub, Int.reduceMul, Int.reduceNeg, Int.toNat_natCast, iI_cl, a2, sg_91_24, t3]
    · left
      try dsimp only
      rw [sg_91_17, e]
      simp (disch := first | omega | assumption | exact cat_n | exact cat_i _ | exact cat_r _ | (simp (disch := omega) only [l_0, l_1, l_m1, l_2, l_3, l_4, l_5, l_6, l_7, l_8, l_9, l_10, l_16, l_20, l_40, l_48, l_99, l_200, l_999, l_9999, li_73, li_78, li_m1000000, li_90, li_251, li_400, li_2400, li_91, li_153, li_173, li_96, li_32, li_92, li_12, li_93, li_80, li_14, li_1000000000, li_30, li_11, li_24, li_13, li_97, li_64, li_1600, li_49, li_255, li_2147483647, li_12345, li_1103515245, li_59, li_57, li_122, li_1023, li_1000000, li_52, li_51, li_50, li_47, li_46, li_45, li_44, li_43, li_42, li_41, li_39, li_38, li_37, li_36, li_35, li_34, li_33, li_29, li_28, li_27, li_26, li_25, li_23, li_22, li_21, li_19, li_18, li_17, li_15, li_m8, li_m2, li_60, li_54, li_2907, li_151, li_127, oN, iI_add, iI_sub, iI_mul, iI_neg, Int.reduceAdd, Int.reduceSub, Int.reduceMul, Int.reduceNeg, Int.toNat_natCast, iI_lt, iI_le, iI_eq, iI_cl, true_or, or_true, false_or, or_false, true_and, and_true, not_true_eq_false, not_false_eq_true]; first | done | omega)) only [↓if_pos, ↓if_neg, Option.bind_some, Option.toList_some, Option.toList_none, List.cons_append, List.nil_append, l_0, l_1, l_m1, l_2, l_3, l_4, l_5, l_6, l_7, l_8, l_9, l_10, l_16, l_20, l_40, l_48, l_99, l_200, l_999, l_9999, li_73, li_78, li_m1000000, li_90, li_251, li_400, li_2400, li_91, li_153, li_173, li_96, li_32, li_92, li_12, li_93, li_80, li_14, li_1000000000, li_30, li_11, li_24, li_13, li_97, li_64, li_1600, li_49, li_255, li_2147483647, li_12345, li_1103515245, li_59, li_57, li_122, li_1023, li_1000000, li_52, li_51, li_50, li_47, li_46, li_45, li_44, li_43, li_42, li_41, li_39, li_38, li_37, li_36, li_35, li_34, li_33, li_29, li_28, li_27, li_26, li_25, li_23, li_22, li_21, li_19, li_18, li_17, li_15, li_m8, li_m2, li_60, li_54, li_2907, li_151, li_127, oN, iI_add, iI_sub, iI_mul, iI_neg, Int.reduceAdd, Int.reduceSub, Int.reduceMul, Int.reduceNeg, Int.toNat_natCast, iI_cl, a2, sg_91_24]) (by
    intro _ z
    exact absurd z hv') () (fun k hk => by omega)
  try dsimp only at A
  have z0 : 2 * ((0 : Nat) : Int) + 1 = 1 := rfl
  rw [z0] at A
  have z2 : ((2 * H : Nat) : Int) - (H : Int) * 2 = 0 := by omega
  simp (disch := first | omega | assumption | exact cat_n | exact cat_i _ | exact cat_r _ | (simp (disch := omega) only [l_0, l_1, l_m1, l_2, l_3, l_4, l_5, l_6, l_7, l_8, l_9, l_10, l_16, l_20, l_40, l_48, l_99, l_200, l_999, l_9999, li_73, li_78, li_m1000000, li_90, li_251, li_400, li_2400, li_91, li_153, li_173, li_96, li_32, li_92, li_12, li_93, li_80, li_14, li_1000000000, li_30, li_11, li_24, li_13, li_97, li_64, li_1600, li_49, li_255, li_2147483647, li_12345, li_1103515245, li_59, li_57, li_122, li_1023, li_1000000, li_52, li_51, li_50, li_47, li_46, li_45, li_44, li_43, li_42, li_41, li_39, li_38, li_37, li_36, li_35, li_34, li_33, li_29, li_28, li_27, li_26, li_25, li_23, li_22, li_21, li_19, li_18, li_17, li_15, li_m8, li_m2, li_60, li_54, li_2907, li_151, li_127, oN, iI_add, iI_sub, iI_mul, iI_neg, Int.reduceAdd, Int.reduceSub, Int.reduceMul, Int.reduceNeg, Int.toNat_natCast, iI_lt, iI_le, iI_eq, iI_cl, true_or, or_true, false_or, or_false, true_and, and_true, not_true_eq_false, not_false_eq_true]; first | done | omega)) only [↓if_pos, ↓if_neg, Option.bind_some, Option.toList_some, Option.toList_none, List.cons_append, List.nil_append, l_0, l_1, l_m1, l_2, l_3, l_4, l_5, l_6, l_7, l_8, l_9, l_10, l_16, l_20, l_40, l_48, l_99, l_200, l_999, l_9999, li_73, li_78, li_m1000000, li_90, li_251, li_400, li_2400, li_91, li_153, li_173, li_96, li_32, li_92, li_12, li_93, li_80, li_14, li_1000000000, li_30, li_11, li_24, li_13, li_97, li_64, li_1600, li_49, li_255, li_2147483647, li_12345, li_1103515245, li_59, li_57, li_122, li_1023, li_1000000, li_52, li_51, li_50, li_47, li_46, li_45, li_44, li_43, li_42, li_41, li_39, li_38, li_37, li_36, li_35, li_34, li_33, li_29, li_28, li_27, li_26, li_25, li_23, li_22, li_21, li_19, li_18, li_17, li_15, li_m8, li_m2, li_60, li_54, li_2907, li_151, li_127, oN, iI_add, iI_sub, iI_mul, iI_neg, Int.reduceAdd, Int.reduceSub, Int.reduceMul, Int.reduceNeg, Int.toNat_natCast, iI_cl, cl_91, sg_91_e0, e, iI_div, ed, z2, A]
theorem m_326l {H : Nat} {b x2 x3 : Int32} (e1 : I0 139 36 = iI H) (hH : H ≤ 16) : ∃ I' : Nat → Nat → Int32, am_ev X amP_326 57 [.ref 139, .int b, .int x2, .int x3, .int (iI (0 : Nat))] [] (am_sh I0 J) = some (some (.int (iI H)), am_sh I' J) ∧ SF I0 I' H := by
  refine Lp1 (n := H) (G := fun i (I1 : Nat → Nat → Int32) => am_ev X amP_326 57 [.ref 139, .int b, .int x2, .int x3, .int (iI i)] [] (am_sh I1 J)) (Iv := fun i I1 => SF I0 I1 i) (P := fun r => ∃ I' : Nat → Nat → Int32, r = some (some (.int (iI H)), am_sh I' J) ∧ SF I0 I' H) (by
    rintro i I1 hi ⟨g1, g2⟩
    right
    refine ⟨am_up (am_up I1 158 i (I0 145 (2 * i))) 159 i (I0 145 (2 * i + 1)), ⟨fun k hk => ?_, fun c k q1 q2 => ?_⟩, ?_⟩
    · by_cases y : k = i
      · subst y
        rw [up_ck (by omega), up_at, up_at]
        exact ⟨rfl, rfl⟩
      · rw [up_ck (by omega), up_k (by omega), up_k (by omega), up_ck (by omega)]
        exact g1 k (by omega)
    · rw [up_ck (by omega), up_ck (by omega)]
      exact g2 c k q1 q2
    · have h1 : I1 139 36 = iI H := (g2 139 36 (by omega) (by omega)).trans e1
      have t1 : (2 * (i : Int)).toNat = 2 * i := by omega
      have t2 : (2 * (i : Int) + 1).toNat = 2 * i + 1 := by omega
      have a1 := g2 145 (2 * i) (by omega) (by omega)
      have a2 : ∀ v, am_up I1 158 i v 145 (2 * i + 1) = I0 145 (2 * i + 1) := fun v => (up_ck (by omega)).trans (g2 145 (2 * i + 1) (by omega) (by omega))
      try dsimp only
      rw [cS, sg_326_57, h1]
      simp (disch := first | omega | assumption | exact cat_n | exact cat_i _ | exact cat_r _ | (simp (disch := omega) only [l_0, l_1, l_m1, l_2, l_3, l_4, l_5, l_6, l_7, l_8, l_9, l_10, l_16, l_20, l_40, l_48, l_99, l_200, l_999, l_9999, li_73, li_78, li_m1000000, li_90, li_251, li_400, li_2400, li_91, li_153, li_173, li_96, li_32, li_92, li_12, li_93, li_80, li_14, li_1000000000, li_30, li_11, li_24, li_13, li_97, li_64, li_1600, li_49, li_255, li_2147483647, li_12345, li_1103515245, li_59, li_57, li_122, li_1023, li_1000000, li_52, li_51, li_50, li_47, li_46, li_45, li_44, li_43, li_42, li_41, li_39, li_38, li_37, li_36, li_35, li_34, li_33, li_29, li_28, li_27, li_26, li_25, li_23, li_22, li_21, li_19, li_18, li_17, li_15, li_m8, li_m2, li_60, li_54, li_2907, li_151, li_127, oN, iI_add, iI_sub, iI_mul, iI_neg, Int.reduceAdd, Int.reduceSub, Int.reduceMul, Int.reduceNeg, Int.toNat_natCast, iI_lt, iI_le, iI_eq, iI_cl, true_or, or_true, false_or, or_false, true_and, and_true, not_true_eq_false, not_false_eq_true]; first | done | omega)) only [↓if_pos, ↓if_neg, Option.bind_some, Option.toList_some, Option.toList_none, List.cons_append, List.nil_append, l_0, l_1, l_m1, l_2, l_3, l_4, l_5, l_6, l_7, l_8, l_9, l_10, l_16, l_20, l_40, l_48, l_99, l_200, l_999, l_9999, li_73, li_78, li_m1000000, li_90, li_251, li_400, li_2400, li_91, li_153, li_173, li_96, li_32, li_92, li_12, li_93, li_80, li_14, li_1000000000, li_30, li_11, li_24, li_13, li_97, li_64, li_1600, li_49, li_255, li_2147483647, li_12345, li_1103515245, li_59, li_57, li_122, li_1023, li_1000000, li_52, li_51, li_50, li_47, li_46, li_45, li_44, li_43, li_42, li_41, li_39, li_38, li_37, li_36, li_35, li_34, li_33, li_29, li_28, li_27, li_26, li_25, li_23, li_22, li_21, li_19, li_18, li_17, li_15, li_m8, li_m2, li_60, li_54, li_2907, li_151, li_127, oN, iI_add, iI_sub, iI_mul, iI_neg, Int.reduceAdd, Int.reduceSub, Int.reduceMul, Int.reduceNeg, Int.toNat_natCast, iI_cl, t1, t2, a1, a2]) (by
    intro I1 g
    refine ⟨I1, ?_, g⟩
    have h1 : I1 139 36 = iI H := (g.2 139 36 (by omega) (by omega)).trans e1
    try dsimp only
    rw [sg_326_57, h1]
    simp (disch := first | omega | assumption | exact cat_n | exact cat_i _ | exact cat_r _ | (simp (disch := omega) only [l_0, l_1, l_m1, l_2, l_3, l_4, l_5, l_6, l_7, l_8, l_9, l_10, l_16, l_20, l_40, l_48, l_99, l_200, l_999, l_9999, li_73, li_78, li_m1000000, li_90, li_251, li_400, li_2400, li_91, li_153, li_173, li_96, li_32, li_92, li_12, li_93, li_80, li_14, li_1000000000, li_30, li_11, li_24, li_13, li_97, li_64, li_1600, li_49, li_255, li_2147483647, li_12345, li_1103515245, li_59, li_57, li_122, li_1023, li_1000000, li_52, li_51, li_50, li_47, li_46, li_45, li_44, li_43, li_42, li_41, li_39, li_38, li_37, li_36, li_35, li_34, li_33, li_29, li_28, li_27, li_26, li_25, li_23, li_22, li_21, li_19, li_18, li_17, li_15, li_m8, li_m2, li_60, li_54, li_2907, li_151, li_127, oN, iI_add, iI_sub, iI_mul, iI_neg, Int.reduceAdd, Int.reduceSub, Int.reduceMul, Int.reduceNeg, Int.toNat_natCast, iI_lt, iI_le, iI_eq, iI_cl, true_or, or_true, false_or, or_false, true_and, and_true, not_true_eq_false, not_false_eq_true]; first | done | omega)) only [↓if_pos, ↓if_neg, Option.bind_some, Option.toList_some, Option.toList_none, List.cons_append, List.nil_append, l_0, l_1, l_m1, l_2, l_3, l_4, l_5, l_6, l_7, l_8, l_9, l_10, l_16, l_20, l_40, l_48, l_99, l_200, l_999, l_9999, li_73, li_78, li_m1000000, li_90, li_251, li_400, li_2400, li_91, li_153, li_173, li_96, li_32, li_92, li_12, li_93, li_80, li_14, li_1000000000, li_30, li_11, li_24, li_13, li_97, li_64, li_1600, li_49, li_255, li_2147483647, li_12345, li_1103515245, li_59, li_57, li_122, li_1023, li_1000000, li_52, li_51, li_50, li_47, li_46, li_45, li_44, li_43, li_42, li_41, li_39, li_38, li_37, li_36, li_35, li_34, li_33, li_29, li_28, li_27, li_26, li_25, li_23, li_22, li_21, li_19, li_18, li_17, li_15, li_m8, li_m2, li_60, li_54, li_2907, li_151, li_127, oN, iI_add, iI_sub, iI_mul, iI_neg, Int.reduceAdd, Int.reduceSub, Int.reduceMul, Int.reduceNeg, Int.toNat_natCast, iI_cl]) I0 ⟨fun k hk => by omega, fun _ _ _ _ => rfl⟩
theorem m_326t {H : Nat} {y : Int} (h : MS K I) (y0 : 0 ≤ y) (y1 : y < kn K) (e : I 139 12 = iI (2 * H : Nat)) (h0 : 1 ≤ H) (hH : H ≤ 16) (hb : ∀ k, k < 2 * H → 0 ≤ (I 145 k).toInt ∧ (I 145 k).toInt ≤ 255) (hv : VS (I 145) H) : ∃ I' : Nat → Nat → Int32, am_do X 326 [.ref 139, .int (iI y)] (am_sh I J) = some (some (.int (iI H)), am_sh I' J) ∧ SF (am_up (am_up (am_up I 139 12 (iI 0)) 139 37 (iI y)) 139 36 (iI H)) I' H := by
  have hk := K_n (MS_k h)
  have ed : ((2 * H : Nat) : Int) / 2 = H := by omega
  have f1 : ∀ k, am_up I 139 12 (iI 0) 145 k = I 145 k := fun k => up_ck (by omega)
  have f2 : am_up I 139 12 (iI 0) 139 1 = iI (kn K) := (up_k (by omega)).trans (MS_n h)
  have A := Lp1 (n := H) (G := fun i (_ : Unit) => am_ev X amP_326 22 [.ref 139, .int (iI y), .int (iI (2 * H : Nat)), .int (iI 1), .int (iI (2 * (i : Int)))] [] (am_sh (am_up I 139 12 (iI 0)) J)) (Iv := fun i _ => True) (P := fun r => ∃ I' : Nat → Nat → Int32, r = some (some (.int (iI H)), am_sh I' J) ∧ SF (am_up (am_up (am_up I 139 12 (iI 0)) 139 37 (iI y)) 139 36 (iI H)) I' H) (by
    intro i _ hi _
    right
    refine ⟨(), trivial, ?_⟩
    have t2 : (2 * (i : Int) + 1).toNat = 2 * i + 1 := by omega
    obtain ⟨v, ev⟩ : ∃ v : Int, (I 145 (2 * i + 1)).toInt = v := ⟨_, rfl⟩
    have w1 := hb (2 * i + 1) (by omega)
    have w2 := hv i hi
    rw [ev] at w1 w2
    have ev' := iI_of ev
    have t3 : 2 * (i : Int) + 2 = 2 * ((i : Int) + 1) := by omega
    try dsimp only
    rw [cS, sg_326_22]
    simp (disch := first | omega | assumption | exact cat_n | exact cat_i _ | exact cat_r _ | (simp (disch := omega) only [l_0, l_1, l_m1, l_2, l_3, l_4, l_5, l_6, l_7, l_8, l_9, l_10, l_16, l_20, l_40, l_48, l_99, l_200, l_999, l_9999, li_73, li_78, li_m1000000, li_90, li_251, li_400, li_2400, li_91, li_153, li_173, li_96, li_32, li_92, li_12, li_93, li_80, li_14, li_1000000000, li_30, li_11, li_24, li_13, li_97, li_64, li_1600, li_49, li_255, li_2147483647, li_12345, li_1103515245, li_59, li_57, li_122, li_1023, li_1000000, li_52, li_51, li_50, li_47, li_46, li_45, li_44, li_43, li_42, li_41, li_39, li_38, li_37, li_36, li_35, li_34, li_33, li_29, li_28, li_27, li_26, li_25, li_23, li_22, li_21, li_19, li_18, li_17, li_15, li_m8, li_m2, li_60, li_54, li_2907, li_151, li_127, oN, iI_add, iI_sub, iI_mul, iI_neg, Int.reduceAdd, Int.reduceSub, Int.reduceMul, Int.reduceNeg, Int.toNat_natCast, iI_lt, iI_le, iI_eq, iI_cl, true_or, or_true, false_or, or_false, true_and, and_true, not_true_eq_false, not_false_eq_true]; first | done | omega)) only [↓if_pos, ↓if_neg, Option.bind_some, Option.toList_some, Option.toList_none, List.cons_append, List.nil_append, l_0, l_1, l_m1, l_2, l_3, l_4, l_5, l_6, l_7, l_8, l_9, l_10, l_16, l_20, l_40, l_48, l_99, l_200, l_999, l_9999, li_73, li_78, li_m1000000, li_90, li_251, li_400, li_2400, li_91, li_153, li_173, li_96, li_32, li_92, li_12, li_93, li_80, li_14, li_1000000000, li_30, li_11, li_24, li_13, li_97, li_64, li_1600, li_49, li_255, li_2147483647, li_12345, li_1103515245, li_59, li_57, li_122, li_1023, li_1000000, li_52, li_51, li_50, li_47, li_46, li_45, li_44, li_43, li_42, li_41, li_39, li_38, li_37, li_36, li_35, li_34, li_33, li_29, li_28, li_27, li_26, li_25, li_23, li_22, li_21, li_19, li_18, li_17, li_15, li_m8, li_m2, li_60, li_54, li_2907, li_151, li_127, oN, iI_add, iI_sub, iI_mul, iI_neg, Int.reduceAdd, Int.reduceSub, Int.reduceMul, Int.reduceNeg, Int.toNat_natCast, iI_cl, t2, f1, ev', t3]) (by
    intro _ _
    obtain ⟨I', p1, p2⟩ := m_326l (X := X) (J := J) (I0 := am_up (am_up (am_up I 139 12 (iI 0)) 139 37 (iI y)) 139 36 (iI H)) (b := iI y) (x2 := iI (2 * H : Nat)) (x3 := iI 1) (H := H) (up_at _ _ _ _) hH
    rw [c0] at p1
    refine ⟨I', ?_, p2⟩
    try dsimp only
    rw [sg_326_22]
    simp (disch := first | omega | assumption | exact cat_n | exact cat_i _ | exact cat_r _ | (simp (disch := omega) only [l_0, l_1, l_m1, l_2, l_3, l_4, l_5, l_6, l_7, l_8, l_9, l_10, l_16, l_20, l_40, l_48, l_99, l_200, l_999, l_9999, li_73, li_78, li_m1000000, li_90, li_251, li_400, li_2400, li_91, li_153, li_173, li_96, li_32, li_92, li_12, li_93, li_80, li_14, li_1000000000, li_30, li_11, li_24, li_13, li_97, li_64, li_1600, li_49, li_255, li_2147483647, li_12345, li_1103515245, li_59, li_57, li_122, li_1023, li_1000000, li_52, li_51, li_50, li_47, li_46, li_45, li_44, li_43, li_42, li_41, li_39, li_38, li_37, li_36, li_35, li_34, li_33, li_29, li_28, li_27, li_26, li_25, li_23, li_22, li_21, li_19, li_18, li_17, li_15, li_m8, li_m2, li_60, li_54, li_2907, li_151, li_127, oN, iI_add, iI_sub, iI_mul, iI_neg, Int.reduceAdd, Int.reduceSub, Int.reduceMul, Int.reduceNeg, Int.toNat_natCast, iI_lt, iI_le, iI_eq, iI_cl, true_or, or_true, false_or, or_false, true_and, and_true, not_true_eq_false, not_false_eq_true]; first | done | omega)) only [↓if_pos, ↓if_neg, Option.bind_some, Option.toList_some, Option.toList_none, List.cons_append, List.nil_append, l_0, l_1, l_m1, l_2, l_3, l_4, l_5, l_6, l_7, l_8, l_9, l_10, l_16, l_20, l_40, l_48, l_99, l_200, l_999, l_9999, li_73, li_78, li_m1000000, li_90, li_251, li_400, li_2400, li_91, li_153, li_173, li_96, li_32, li_92, li_12, li_93, li_80, li_14, li_1000000000, li_30, li_11, li_24, li_13, li_97, li_64, li_1600, li_49, li_255, li_2147483647, li_12345, li_1103515245, li_59, li_57, li_122, li_1023, li_1000000, li_52, li_51, li_50, li_47, li_46, li_45, li_44, li_43, li_42, li_41, li_39, li_38, li_37, li_36, li_35, li_34, li_33, li_29, li_28, li_27, li_26, li_25, li_23, li_22, li_21, li_19, li_18, li_17, li_15, li_m8, li_m2, li_60, li_54, li_2907, li_151, li_127, oN, iI_add, iI_sub, iI_mul, iI_neg, Int.reduceAdd, Int.reduceSub, Int.reduceMul, Int.reduceNeg, Int.toNat_natCast, iI_cl, iI_div, ed, p1]) () trivial
  obtain ⟨I', p1, p2⟩ := A
  refine ⟨I', ?_, p2⟩
  try dsimp only at p1
  have z0 : 2 * ((0 : Nat) : Int) = 0 := rfl
  rw [z0] at p1
  have z2 : ((2 * H : Nat) : Int) - (H : Int) * 2 = 0 := by omega
  have c256 := c_256t (X := X) (J := J) (I := am_up I 139 12 (iI 0)) (b := y) (n := kn K) f2 hk y0 y1
  simp (disch := first | omega | assumption | exact cat_n | exact cat_i _ | exact cat_r _ | (simp (disch := omega) only [l_0, l_1, l_m1, l_2, l_3, l_4, l_5, l_6, l_7, l_8, l_9, l_10, l_16, l_20, l_40, l_48, l_99, l_200, l_999, l_9999, li_73, li_78, li_m1000000, li_90, li_251, li_400, li_2400, li_91, li_153, li_173, li_96, li_32, li_92, li_12, li_93, li_80, li_14, li_1000000000, li_30, li_11, li_24, li_13, li_97, li_64, li_1600, li_49, li_255, li_2147483647, li_12345, li_1103515245, li_59, li_57, li_122, li_1023, li_1000000, li_52, li_51, li_50, li_47, li_46, li_45, li_44, li_43, li_42, li_41, li_39, li_38, li_37, li_36, li_35, li_34, li_33, li_29, li_28, li_27, li_26, li_25, li_23, li_22, li_21, li_19, li_18, li_17, li_15, li_m8, li_m2, li_60, li_54, li_2907, li_151, li_127, oN, iI_add, iI_sub, iI_mul, iI_neg, Int.reduceAdd, Int.reduceSub, Int.reduceMul, Int.reduceNeg, Int.toNat_natCast, iI_lt, iI_le, iI_eq, iI_cl, true_or, or_true, false_or, or_false, true_and, and_true, not_true_eq_false, not_false_eq_true]; first | done | omega)) only [↓if_pos, ↓if_neg, Option.bind_some, Option.toList_some, Option.toList_none, List.cons_append, List.nil_append, l_0, l_1, l_m1, l_2, l_3, l_4, l_5, l_6, l_7, l_8, l_9, l_10, l_16, l_20, l_40, l_48, l_99, l_200, l_999, l_9999, li_73, li_78, li_m1000000, li_90, li_251, li_400, li_2400, li_91, li_153, li_173, li_96, li_32, li_92, li_12, li_93, li_80, li_14, li_1000000000, li_30, li_11, li_24, li_13, li_97, li_64, li_1600, li_49, li_255, li_2147483647, li_12345, li_1103515245, li_59, li_57, li_122, li_1023, li_1000000, li_52, li_51, li_50, li_47, li_46, li_45, li_44, li_43, li_42, li_41, li_39, li_38, li_37, li_36, li_35, li_34, li_33, li_29, li_28, li_27, li_26, li_25, li_23, li_22, li_21, li_19, li_18, li_17, li_15, li_m8, li_m2, li_60, li_54, li_2907, li_151, li_127, oN, iI_add, iI_sub, iI_mul, iI_neg, Int.reduceAdd, Int.reduceSub, Int.reduceMul, Int.reduceNeg, Int.toNat_natCast, iI_cl, cl_326, sg_326_e0, sg_326_2, sg_326_6, cl_223, sg_223_e0, e, c256, iI_div, ed, z2, p1]
theorem m_326f {y : Int} (h : MS K I) (y0 : -2147483648 ≤ y) (y1 : y < 2147483648) (e : I 139 12 = iI L) (hL : L ≤ 1600) (hb : ∀ k, k < L → 0 ≤ (I 145 k).toInt ∧ (I 145 k).toInt ≤ 255) (hv : ¬ ((0 ≤ y ∧ y < kn K) ∧ ∃ H, L = 2 * H ∧ 1 ≤ H ∧ H ≤ 16 ∧ VS (I 145) H)) : am_do X 326 [.ref 139, .int (iI y)] (am_sh I J) = some (some (.int (iI (-1))), am_sh (rf2 (am_up I 139 12 (iI 0)) 5) J) := by
  have hk := K_n (MS_k h)
  have f1 : ∀ k, am_up I 139 12 (iI 0) 145 k = I 145 k := fun k => up_ck (by omega)
  have f2 : am_up I 139 12 (iI 0) 139 1 = iI (kn K) := (up_k (by omega)).trans (MS_n h)
  have c218 := c_218 X (am_up I 139 12 (iI 0)) J (k := 5) (by omega)
  rw [show ((5 : Nat) : Int) = 5 from rfl, l_m1] at c218
  have R : ∀ x4 : Int32, am_ev X amP_326 22 [.ref 139, .int (iI y), .int (iI L), .int (iI 0), .int x4] [] (am_sh (am_up I 139 12 (iI 0)) J) = some (some (.int (iI (-1))), am_sh (rf2 (am_up I 139 12 (iI 0)) 5) J) := by
    intro x4
    rw [sg_326_22]
    simp (disch := first | omega | assumption | exact cat_n | exact cat_i _ | exact cat_r _ | (simp (disch := omega) only [l_0, l_1, l_m1, l_2, l_3, l_4, l_5, l_6, l_7, l_8, l_9, l_10, l_16, l_20, l_40, l_48, l_99, l_200, l_999, l_9999, li_73, li_78, li_m1000000, li_90, li_251, li_400, li_2400, li_91, li_153, li_173, li_96, li_32, li_92, li_12, li_93, li_80, li_14, li_1000000000, li_30, li_11, li_24, li_13, li_97, li_64, li_1600, li_49, li_255, li_2147483647, li_12345, li_1103515245, li_59, li_57, li_122, li_1023, li_1000000, li_52, li_51, li_50, li_47, li_46, li_45, li_44, li_43, li_42, li_41, li_39, li_38, li_37, li_36, li_35, li_34, li_33, li_29, li_28, li_27, li_26, li_25, li_23, li_22, li_21, li_19, li_18, li_17, li_15, li_m8, li_m2, li_60, li_54, li_2907, li_151, li_127, oN, iI_add, iI_sub, iI_mul, iI_neg, Int.reduceAdd, Int.reduceSub, Int.reduceMul, Int.reduceNeg, Int.toNat_natCast, iI_lt, iI_le, iI_eq, iI_cl, true_or, or_true, false_or, or_false, true_and, and_true, not_true_eq_false, not_false_eq_true]; first | done | omega)) only [↓if_pos, ↓if_neg, Option.bind_some, Option.toList_some, Option.toList_none, List.cons_append, List.nil_append, l_0, l_1, l_m1, l_2, l_3, l_4, l_5, l_6, l_7, l_8, l_9, l_10, l_16, l_20, l_40, l_48, l_99, l_200, l_999, l_9999, li_73, li_78, li_m1000000, li_90, li_251, li_400, li_2400, li_91, li_153, li_173, li_96, li_32, li_92, li_12, li_93, li_80, li_14, li_1000000000, li_30, li_11, li_24, li_13, li_97, li_64, li_1600, li_49, li_255, li_2147483647, li_12345, li_1103515245, li_59, li_57, li_122, li_1023, li_1000000, li_52, li_51, li_50, li_47, li_46, li_45, li_44, li_43, li_42, li_41, li_39, li_38, li_37, li_36, li_35, li_34, li_33, li_29, li_28, li_27, li_26, li_25, li_23, li_22, li_21, li_19, li_18, li_17, li_15, li_m8, li_m2, li_60, li_54, li_2907, li_151, li_127, oN, iI_add, iI_sub, iI_mul, iI_neg, Int.reduceAdd, Int.reduceSub, Int.reduceMul, Int.reduceNeg, Int.toNat_natCast, iI_cl, c218, sg_326_46]
  by_cases q' : ¬ (0 ≤ y ∧ y < kn K)
  · have q := q'
    have c256 := c_256f (X := X) (J := J) (I := am_up I 139 12 (iI 0)) (b := y) (n := kn K) f2 hk y0 y1 q
    simp (disch := first | omega | assumption | exact cat_n | exact cat_i _ | exact cat_r _ | (simp (disch := omega) only [l_0, l_1, l_m1, l_2, l_3, l_4, l_5, l_6, l_7, l_8, l_9, l_10, l_16, l_20, l_40, l_48, l_99, l_200, l_999, l_9999, li_73, li_78, li_m1000000, li_90, li_251, li_400, li_2400, li_91, li_153, li_173, li_96, li_32, li_92, li_12, li_93, li_80, li_14, li_1000000000, li_30, li_11, li_24, li_13, li_97, li_64, li_1600, li_49, li_255, li_2147483647, li_12345, li_1103515245, li_59, li_57, li_122, li_1023, li_1000000, li_52, li_51, li_50, li_47, li_46, li_45, li_44, li_43, li_42, li_41, li_39, li_38, li_37, li_36, li_35, li_34, li_33, li_29, li_28, li_27, li_26, li_25, li_23, li_22, li_21, li_19, li_18, li_17, li_15, li_m8, li_m2, li_60, li_54, li_2907, li_151, li_127, oN, iI_add, iI_sub, iI_mul, iI_neg, Int.reduceAdd, Int.reduceSub, Int.reduceMul, Int.reduceNeg, Int.toNat_natCast, iI_lt, iI_le, iI_eq, iI_cl, true_or, or_true, false_or, or_false, true_and, and_true, not_true_eq_false, not_false_eq_true]; first | done | omega)) only [↓if_pos, ↓if_neg, Option.bind_some, Option.toList_some, Option.toList_none, List.cons_append, List.nil_append, l_0, l_1, l_m1, l_2, l_3, l_4, l_5, l_6, l_7, l_8, l_9, l_10, l_16, l_20, l_40, l_48, l_99, l_200, l_999, l_9999, li_73, li_78, li_m1000000, li_90, li_251, li_400, li_2400, li_91, li_153, li_173, li_96, li_32, li_92, li_12, li_93, li_80, li_14, li_1000000000, li_30, li_11, li_24, li_13, li_97, li_64, li_1600, li_49, li_255, li_2147483647, li_12345, li_1103515245, li_59, li_57, li_122, li_1023, li_1000000, li_52, li_51, li_50, li_47, li_46, li_45, li_44, li_43, li_42, li_41, li_39, li_38, li_37, li_36, li_35, li_34, li_33, li_29, li_28, li_27, li_26, li_25, li_23, li_22, li_21, li_19, li_18, li_17, li_15, li_m8, li_m2, li_60, li_54, li_2907, li_151, li_127, oN, iI_add, iI_sub, iI_mul, iI_neg, Int.reduceAdd, Int.reduceSub, Int.reduceMul, Int.reduceNeg, Int.toNat_natCast, iI_cl, cl_326, sg_326_e0, sg_326_2, sg_326_6, cl_223, sg_223_e0, e, c256, R]
  have q := Classical.not_not.mp q'
  have c256 := c_256t (X := X) (J := J) (I := am_up I 139 12 (iI 0)) (b := y) (n := kn K) f2 hk q.1 q.2
  by_cases q1 : L ≤ 0
  · simp (disch := first | omega | assumption | exact cat_n | exact cat_i _ | exact cat_r _ | (simp (disch := omega) only [l_0, l_1, l_m1, l_2, l_3, l_4, l_5, l_6, l_7, l_8, l_9, l_10, l_16, l_20, l_40, l_48, l_99, l_200, l_999, l_9999, li_73, li_78, li_m1000000, li_90, li_251, li_400, li_2400, li_91, li_153, li_173, li_96, li_32, li_92, li_12, li_93, li_80, li_14, li_1000000000, li_30, li_11, li_24, li_13, li_97, li_64, li_1600, li_49, li_255, li_2147483647, li_12345, li_1103515245, li_59, li_57, li_122, li_1023, li_1000000, li_52, li_51, li_50, li_47, li_46, li_45, li_44, li_43, li_42, li_41, li_39, li_38, li_37, li_36, li_35, li_34, li_33, li_29, li_28, li_27, li_26, li_25, li_23, li_22, li_21, li_19, li_18, li_17, li_15, li_m8, li_m2, li_60, li_54, li_2907, li_151, li_127, oN, iI_add, iI_sub, iI_mul, iI_neg, Int.reduceAdd, Int.reduceSub, Int.reduceMul, Int.reduceNeg, Int.toNat_natCast, iI_lt, iI_le, iI_eq, iI_cl, true_or, or_true, false_or, or_false, true_and, and_true, not_true_eq_false, not_false_eq_true]; first | done | omega)) only [↓if_pos, ↓if_neg, Option.bind_some, Option.toList_some, Option.toList_none, List.cons_append, List.nil_append, l_0, l_1, l_m1, l_2, l_3, l_4, l_5, l_6, l_7, l_8, l_9, l_10, l_16, l_20, l_40, l_48, l_99, l_200, l_999, l_9999, li_73, li_78, li_m1000000, li_90, li_251, li_400, li_2400, li_91, li_153, li_173, li_96, li_32, li_92, li_12, li_93, li_80, li_14, li_1000000000, li_30, li_11, li_24, li_13, li_97, li_64, li_1600, li_49, li_255, li_2147483647, li_12345, li_1103515245, li_59, li_57, li_122, li_1023, li_1000000, li_52, li_51, li_50, li_47, li_46, li_45, li_44, li_43, li_42, li_41, li_39, li_38, li_37, li_36, li_35, li_34, li_33, li_29, li_28, li_27, li_26, li_25, li_23, li_22, li_21, li_19, li_18, li_17, li_15, li_m8, li_m2, li_60, li_54, li_2907, li_151, li_127, oN, iI_add, iI_sub, iI_mul, iI_neg, Int.reduceAdd, Int.reduceSub, Int.reduceMul, Int.reduceNeg, Int.toNat_natCast, iI_cl, cl_326, sg_326_e0, sg_326_2, sg_326_6, cl_223, sg_223_e0, e, c256, R]
  by_cases q3 : ¬ L % 2 = 0
  · simp (disch := first | omega | assumption | exact cat_n | exact cat_i _ | exact cat_r _ | (simp (disch := omega) only [l_0, l_1, l_m1, l_2, l_3, l_4, l_5, l_6, l_7, l_8, l_9, l_10, l_16, l_20, l_40, l_48, l_99, l_200, l_999, l_9999, li_73, li_78, li_m1000000, li_90, li_251, li_400, li_2400, li_91, li_153, li_173, li_96, li_32, li_92, li_12, li_93, li_80, li_14, li_1000000000, li_30, li_11, li_24, li_13, li_97, li_64, li_1600, li_49, li_255, li_2147483647, li_12345, li_1103515245, li_59, li_57, li_122, li_1023, li_1000000, li_52, li_51, li_50, li_47, li_46, li_45, li_44, li_43, li_42, li_41, li_39, li_38, li_37, li_36, li_35, li_34, li_33, li_29, li_28, li_27, li_26, li_25, li_23, li_22, li_21, li_19, li_18, li_17, li_15, li_m8, li_m2, li_60, li_54, li_2907, li_151, li_127, oN, iI_add, iI_sub, iI_mul, iI_neg, Int.reduceAdd, Int.reduceSub, Int.reduceMul, Int.reduceNeg, Int.toNat_natCast, iI_lt, iI_le, iI_eq, iI_cl, true_or, or_true, false_or, or_false, true_and, and_true, not_true_eq_false, not_false_eq_true]; first | done | omega)) only [↓if_pos, ↓if_neg, Option.bind_some, Option.toList_some, Option.toList_none, List.cons_append, List.nil_append, l_0, l_1, l_m1, l_2, l_3, l_4, l_5, l_6, l_7, l_8, l_9, l_10, l_16, l_20, l_40, l_48, l_99, l_200, l_999, l_9999, li_73, li_78, li_m1000000, li_90, li_251, li_400, li_2400, li_91, li_153, li_173, li_96, li_32, li_92, li_12, li_93, li_80, li_14, li_1000000000, li_30, li_11, li_24, li_13, li_97, li_64, li_1600, li_49, li_255, li_2147483647, li_12345, li_1103515245, li_59, li_57, li_122, li_1023, li_1000000, li_52, li_51, li_50, li_47, li_46, li_45, li_44, li_43, li_42, li_41, li_39, li_38, li_37, li_36, li_35, li_34, li_33, li_29, li_28, li_27, li_26, li_25, li_23, li_22, li_21, li_19, li_18, li_17, li_15, li_m8, li_m2, li_60, li_54, li_2907, li_151, li_127, oN, iI_add, iI_sub, iI_mul, iI_neg, Int.reduceAdd, Int.reduceSub, Int.reduceMul, Int.reduceNeg, Int.toNat_natCast, iI_cl, cl_326, sg_326_e0, sg_326_2, sg_326_6, cl_223, sg_223_e0, e, c256, R, iI_div]
  obtain ⟨H, rfl⟩ : ∃ H, L = 2 * H := ⟨L / 2, by omega⟩
  have ed : ((2 * H : Nat) : Int) / 2 = H := by omega
  have z2 : ((2 * H : Nat) : Int) - (H : Int) * 2 = 0 := by omega
  by_cases q2 : 16 < H
  · simp (disch := first | omega | assumption | exact cat_n | exact cat_i _ | exact cat_r _ | (simp (disch := omega) only [l_0, l_1, l_m1, l_2, l_3, l_4, l_5, l_6, l_7, l_8, l_9, l_10, l_16, l_20, l_40, l_48, l_99, l_200, l_999, l_9999, li_73, li_78, li_m1000000, li_90, li_251, li_400, li_2400, li_91, li_153, li_173, li_96, li_32, li_92, li_12, li_93, li_80, li_14, li_1000000000, li_30, li_11, li_24, li_13, li_97, li_64, li_1600, li_49, li_255, li_2147483647, li_12345, li_1103515245, li_59, li_57, li_122, li_1023, li_1000000, li_52, li_51, li_50, li_47, li_46, li_45, li_44, li_43, li_42, li_41, li_39, li_38, li_37, li_36, li_35, li_34, li_33, li_29, li_28, li_27, li_26, li_25, li_23, li_22, li_21, li_19, li_18, li_17, li_15, li_m8, li_m2, li_60, li_54, li_2907, li_151, li_127, oN, iI_add, iI_sub, iI_mul, iI_neg, Int.reduceAdd, Int.reduceSub, Int.reduceMul, Int.reduceNeg, Int.toNat_natCast, iI_lt, iI_le, iI_eq, iI_cl, true_or, or_true, false_or, or_false, true_and, and_true, not_true_eq_false, not_false_eq_true]; first | done | omega)) only [↓if_pos, ↓if_neg, Option.bind_some, Option.toList_some, Option.toList_none, List.cons_append, List.nil_append, l_0, l_1, l_m1, l_2, l_3, l_4, l_5, l_6, l_7, l_8, l_9, l_10, l_16, l_20, l_40, l_48, l_99, l_200, l_999, l_9999, li_73, li_78, li_m1000000, li_90, li_251, li_400, li_2400, li_91, li_153, li_173, li_96, li_32, li_92, li_12, li_93, li_80, li_14, li_1000000000, li_30, li_11, li_24, li_13, li_97, li_64, li_1600, li_49, li_255, li_2147483647, li_12345, li_1103515245, li_59, li_57, li_122, li_1023, li_1000000, li_52, li_51, li_50, li_47, li_46, li_45, li_44, li_43, li_42, li_41, li_39, li_38, li_37, li_36, li_35, li_34, li_33, li_29, li_28, li_27, li_26, li_25, li_23, li_22, li_21, li_19, li_18, li_17, li_15, li_m8, li_m2, li_60, li_54, li_2907, li_151, li_127, oN, iI_add, iI_sub, iI_mul, iI_neg, Int.reduceAdd, Int.reduceSub, Int.reduceMul, Int.reduceNeg, Int.toNat_natCast, iI_cl, cl_326, sg_326_e0, sg_326_2, sg_326_6, cl_223, sg_223_e0, e, c256, R, iI_div, ed, z2]
  have hv' : ¬ VS (I 145) H := fun z => hv ⟨q, H, rfl, by omega, by omega, z⟩
  have A := Lp1 (n := H) (G := fun i (_ : Unit) => am_ev X amP_326 22 [.ref 139, .int (iI y), .int (iI (2 * H : Nat)), .int (iI 1), .int (iI (2 * (i : Int)))] [] (am_sh (am_up I 139 12 (iI 0)) J)) (Iv := fun i _ => ∀ k, k < i → (I 145 (2 * k + 1)).toInt ≤ 3) (P := fun r => r = some (some (.int (iI (-1))), am_sh (rf2 (am_up I 139 12 (iI 0)) 5) J)) (by
    intro i _ hi hv
    have t2 : (2 * (i : Int) + 1).toNat = 2 * i + 1 := by omega
    obtain ⟨v, ev⟩ : ∃ v : Int, (I 145 (2 * i + 1)).toInt = v := ⟨_, rfl⟩
    have w1 := hb (2 * i + 1) (by omega)
    rw [ev] at w1
    have ev' := iI_of ev
    have t3 : 2 * (i : Int) + 2 = 2 * ((i : Int) + 1) := by omega
    by_cases w2 : v ≤ 3
    · right
      refine ⟨(), fun k hk => ?_, ?_⟩
      · by_cases y : k = i
        · subst y; omega
        · exact hv k (by omega)
      · try dsimp only
        rw [cS, sg_326_22]
        simp (disch := first | omega | assumption | exact cat_n | exact cat_i _ | exact cat_r _ | (simp (disch := omega) only [l_0, l_1, l_m1, l_2, l_3, l_4, l_5, l_6, l_7, l_8, l_9, l_10, l_16, l_20, l_40, l_48, l_99, l_200, l_999, l_9999, li_73, li_78, li_m1000000, li_90, li_251, li_400, li_2400, li_91, li_153, li_173, li_96, li_32, li_92, li_12, li_93, li_80, li_14, li_1000000000, li_30, li_11, li_24, li_13, li_97, li_64, li_1600, li_49, li_255, li_2147483647, li_12345, li_1103515245, li_59, li_57, li_122, li_1023, li_1000000, li_52, li_51, li_50, li_47, li_46, li_45, li_44, li_43, li_42, li_41, li_39, li_38, li_37, li_36, li_35, li_34, li_33, li_29, li_28, li_27, li_26, li_25, li_23, li_22, li_21, li_19, li_18, li_17, li_15, li_m8, li_m2, li_60, li_54, li_2907, li_151, li_127, oN, iI_add, iI_sub, iI_mul, iI_neg, Int.reduceAdd, Int.reduceSub, Int.reduceMul, Int.reduceNeg, Int.toNat_natCast, iI_lt, iI_le, iI_eq, iI_cl, true_or, or_true, false_or, or_false, true_and, and_true, not_true_eq_false, not_false_eq_true]; first | done | omega)) only [↓if_pos, ↓if_neg, Option.bind_some, Option.toList_some, Option.toList_none, List.cons_append, List.nil_append, l_0, l_1, l_m1, l_2, l_3, l_4, l_5, l_6, l_7, l_8, l_9, l_10, l_16, l_20, l_40, l_48, l_99, l_200, l_999, l_9999, li_73, li_78, li_m1000000, li_90, li_251, li_400, li_2400, li_91, li_153, li_173, li_96, li_32, li_92, li_12, li_93, li_80, li_14, li_1000000000, li_30, li_11, li_24, li_13, li_97, li_64, li_1600, li_49, li_255, li_2147483647, li_12345, li_1103515245, li_59, li_57, li_122, li_1023, li_1000000, li_52, li_51, li_50, li_47, li_46, li_45, li_44, li_43, li_42, li_41, li_39, li_38, li_37, li_36, li_35, li_34, li_33, li_29, li_28, li_27, li_26, li_25, li_23, li_22, li_21, li_19, li_18, li_17, li_15, li_m8, li_m2, li_60, li_54, li_2907, li_151, li_127, oN, iI_add, iI_sub, iI_mul, iI_neg, Int.reduceAdd, Int.reduceSub, Int.reduceMul, Int.reduceNeg, Int.toNat_natCast, iI_cl, t2, f1, ev', t3]
    · left
      try dsimp only
      rw [sg_326_22]
      simp (disch := first | omega | assumption | exact cat_n | exact cat_i _ | exact cat_r _ | (simp (disch := omega) only [l_0, l_1, l_m1, l_2, l_3, l_4, l_5, l_6, l_7, l_8, l_9, l_10, l_16, l_20, l_40, l_48, l_99, l_200, l_999, l_9999, li_73, li_78, li_m1000000, li_90, li_251, li_400, li_2400, li_91, li_153, li_173, li_96, li_32, li_92, li_12, li_93, li_80, li_14, li_1000000000, li_30, li_11, li_24, li_13, li_97, li_64, li_1600, li_49, li_255, li_2147483647, li_12345, li_1103515245, li_59, li_57, li_122, li_1023, li_1000000, li_52, li_51, li_50, li_47, li_46, li_45, li_44, li_43, li_42, li_41, li_39, li_38, li_37, li_36, li_35, li_34, li_33, li_29, li_28, li_27, li_26, li_25, li_23, li_22, li_21, li_19, li_18, li_17, li_15, li_m8, li_m2, li_60, li_54, li_2907, li_151, li_127, oN, iI_add, iI_sub, iI_mul, iI_neg, Int.reduceAdd, Int.reduceSub, Int.reduceMul, Int.reduceNeg, Int.toNat_natCast, iI_lt, iI_le, iI_eq, iI_cl, true_or, or_true, false_or, or_false, true_and, and_true, not_true_eq_false, not_false_eq_true]; first | done | omega)) only [↓if_pos, ↓if_neg, Option.bind_some, Option.toList_some, Option.toList_none, List.cons_append, List.nil_append, l_0, l_1, l_m1, l_2, l_3, l_4, l_5, l_6, l_7, l_8, l_9, l_10, l_16, l_20, l_40, l_48, l_99, l_200, l_999, l_9999, li_73, li_78, li_m1000000, li_90, li_251, li_400, li_2400, li_91, li_153, li_173, li_96, li_32, li_92, li_12, li_93, li_80, li_14, li_1000000000, li_30, li_11, li_24, li_13, li_97, li_64, li_1600, li_49, li_255, li_2147483647, li_12345, li_1103515245, li_59, li_57, li_122, li_1023, li_1000000, li_52, li_51, li_50, li_47, li_46, li_45, li_44, li_43, li_42, li_41, li_39, li_38, li_37, li_36, li_35, li_34, li_33, li_29, li_28, li_27, li_26, li_25, li_23, li_22, li_21, li_19, li_18, li_17, li_15, li_m8, li_m2, li_60, li_54, li_2907, li_151, li_127, oN, iI_add, iI_sub, iI_mul, iI_neg, Int.reduceAdd, Int.reduceSub, Int.reduceMul, Int.reduceNeg, Int.toNat_natCast, iI_cl, t2, f1, ev', R]) (by
    intro _ z
    exact absurd z hv') () (fun k hk => by omega)
  try dsimp only at A
  have z0 : 2 * ((0 : Nat) : Int) = 0 := rfl
  rw [z0] at A
  simp (disch := first | omega | assumption | exact cat_n | exact cat_i _ | exact cat_r _ | (simp (disch := omega) only [l_0, l_1, l_m1, l_2, l_3, l_4, l_5, l_6, l_7, l_8, l_9, l_10, l_16, l_20, l_40, l_48, l_99, l_200, l_999, l_9999, li_73, li_78, li_m1000000, li_90, li_251, li_400, li_2400, li_91, li_153, li_173, li_96, li_32, li_92, li_12, li_93, li_80, li_14, li_1000000000, li_30, li_11, li_24, li_13, li_97, li_64, li_1600, li_49, li_255, li_2147483647, li_12345, li_1103515245, li_59, li_57, li_122, li_1023, li_1000000, li_52, li_51, li_50, li_47, li_46, li_45, li_44, li_43, li_42, li_41, li_39, li_38, li_37, li_36, li_35, li_34, li_33, li_29, li_28, li_27, li_26, li_25, li_23, li_22, li_21, li_19, li_18, li_17, li_15, li_m8, li_m2, li_60, li_54, li_2907, li_151, li_127, oN, iI_add, iI_sub, iI_mul, iI_neg, Int.reduceAdd, Int.reduceSub, Int.reduceMul, Int.reduceNeg, Int.toNat_natCast, iI_lt, iI_le, iI_eq, iI_cl, true_or, or_true, false_or, or_false, true_and, and_true, not_true_eq_false, not_false_eq_true]; first | done | omega)) only [↓if_pos, ↓if_neg, Option.bind_some, Option.toList_some, Option.toList_none, List.cons_append, List.nil_append, l_0, l_1, l_m1, l_2, l_3, l_4, l_5, l_6, l_7, l_8, l_9, l_10, l_16, l_20, l_40, l_48, l_99, l_200, l_999, l_9999, li_73, li_78, li_m1000000, li_90, li_251, li_400, li_2400, li_91, li_153, li_173, li_96, li_32, li_92, li_12, li_93, li_80, li_14, li_1000000000, li_30, li_11, li_24, li_13, li_97, li_64, li_1600, li_49, li_255, li_2147483647, li_12345, li_1103515245, li_59, li_57, li_122, li_1023, li_1000000, li_52, li_51, li_50, li_47, li_46, li_45, li_44, li_43, li_42, li_41, li_39, li_38, li_37, li_36, li_35, li_34, li_33, li_29, li_28, li_27, li_26, li_25, li_23, li_22, li_21, li_19, li_18, li_17, li_15, li_m8, li_m2, li_60, li_54, li_2907, li_151, li_127, oN, iI_add, iI_sub, iI_mul, iI_neg, Int.reduceAdd, Int.reduceSub, Int.reduceMul, Int.reduceNeg, Int.toNat_natCast, iI_cl, cl_326, sg_326_e0, sg_326_2, sg_326_6, cl_223, sg_223_e0, e, c256, iI_div, ed, z2, A]
end S73
theorem MS_cg {K : Sk} {I I' : Nat → Nat → Int32} (h : MS K I) (e : ∀ c k, (c = 139 ∧ k ≤ 2) ∨ c = 140 ∨ c = 141 ∨ c = 148 ∨ c = 150 → I' c k = I c k) : MS K I' := by
  refine ⟨MS_k h, ?_, fun b hb => ?_⟩
  · rw [e _ _ (by omega), e _ _ (by omega), e _ _ (by omega), e _ _ (by omega)]
    exact h.2.1
  · have er : mr I' b = mr I b := mr_congr (fun k => e _ _ (by omega)) (fun k => e _ _ (by omega)) (fun k => e _ _ (by omega))
    refine ⟨er.trans (MS_r h hb), ?_⟩
    have g := MS_g h hb
    unfold mg at g ⊢
    rw [er]
    have e150 : ∀ k, I' 150 k = I 150 k := fun k => e 150 k (by omega)
    simp only [e150]
    exact g
/-- 39 see -/
theorem op_39 (X : am_X) (a1 : Int32) : am_Same X Rl_ 194 326 [.int a1] := by
  obtain ⟨y, y1, y2, rfl⟩ := iI_ex a1
  intro n I J hn h
  obtain ⟨hc, hm⟩ := Rl_K h
  have hk := K_n (CS_k hc)
  obtain ⟨t1, t2, t3, t4⟩ := R_T h
  obtain ⟨L, eL⟩ : ∃ L : Nat, (I 1 1).toInt = L := ⟨(I 1 1).toInt.toNat, by omega⟩
  have e11 : I 1 1 = iI L := iI_of eL
  have e12 : I 139 12 = iI L := t1.trans e11
  have hb : ∀ k, k < L → 0 ≤ (I 2 k).toInt ∧ (I 2 k).toInt ≤ 255 := fun k hk => (t4 k (by omega)).2
  have hT : ∀ I' : Nat → Nat → Int32, I' 1 1 = iI 0 → I' 139 12 = iI 0 → rl_T I' := fun I' q1 q2 => by
    have q3 : (iI 0).toInt = 0 := rfl
    refine ⟨by rw [q1, q2], ?_, ?_, fun k hk => ?_⟩
    · rw [q1, q3]; omega
    · rw [q1, q3]; omega
    · rw [q1, q3] at hk; omega
  by_cases q : (0 ≤ y ∧ y < kn (kI I)) ∧ ∃ H, L = 2 * H ∧ 1 ≤ H ∧ H ≤ 16 ∧ VS (I 2) H
  · obtain ⟨⟨q1, q2⟩, H, rfl, h1, h2, hv⟩ := q
    obtain ⟨I1, p1, g1, g2⟩ := k_91t (X := X) (J := J) (x := iI y) e11 h1 h2 hb hv
    have g3 : ∀ c k, c ≠ 129 → c ≠ 130 → c ≠ 128 → I1 c k = I c k := fun c k z1 z2 z3 => by rw [g2 c k z1 z2, up_ck (by omega), up_ck (by omega)]
    have g4 : I1 128 1 = iI H := by rw [g2 128 1 (by omega) (by omega), up_at]
    have g5 : I1 128 0 = iI y := by rw [g2 128 0 (by omega) (by omega), up_k (by omega), up_at]
    have g6 : ∀ k, 2 ≤ k → I1 128 k = I 128 k := fun k hk => by rw [g2 128 k (by omega) (by omega), up_k (by omega), up_k (by omega)]
    generalize hI2 : am_up I1 1 1 (iI 0) = I2
    have f1 : ∀ c k, ¬ (c = 1 ∧ k = 1) → I2 c k = I1 c k := fun c k z => by rw [← hI2, up_ck (by omega)]
    have f2 : I2 1 1 = iI 0 := by rw [← hI2, up_at]
    have m2 : MS (kI I) I2 := MS_cg hm (fun c k z => by rw [f1 c k (by omega), g3 c k (by omega) (by omega) (by omega)])
    have vb : ∀ k, k < 2 * H → I2 145 k = I 2 k := fun k hk => by
      rw [f1 145 k (by omega), g3 145 k (by omega) (by omega) (by omega)]
      exact (t4 k (by omega)).1
    obtain ⟨I3, p3, r1, r2⟩ := m_326t (X := X) (J := J) (H := H) m2 q1 q2 (by rw [f1 139 12 (by omega), g3 139 12 (by omega) (by omega) (by omega)]; exact e12) h1 h2 (fun k hk => by rw [vb k hk]; exact hb k hk) (fun k hk => by rw [vb _ (by omega)]; exact hv k hk)
    have r3 : ∀ c k, c ≠ 158 → c ≠ 159 → c ≠ 139 → I3 c k = I2 c k := fun c k z1 z2 z3 => by rw [r2 c k z1 z2, up_ck (by omega), up_ck (by omega), up_ck (by omega)]
    have r36 : I3 139 36 = iI H := by rw [r2 139 36 (by omega) (by omega), up_at]
    have r37 : I3 139 37 = iI y := by rw [r2 139 37 (by omega) (by omega), up_k (by omega), up_at]
    have r12 : I3 139 12 = iI 0 := by rw [r2 139 12 (by omega) (by omega), up_k (by omega), up_k (by omega), up_at]
    have r4 : ∀ k, k ≠ 12 → k ≠ 36 → k ≠ 37 → I3 139 k = I2 139 k := fun k z1 z2 z3 => by rw [r2 139 k (by omega) (by omega), up_k (by omega), up_k (by omega), up_k (by omega)]
    have hs9 := (R_S h).2.2.2.2.2.2.2.2.1
    refine ⟨iI H, I2, J, I3, J, ?_, p3, Rl_see (I := I) (J := J) (fun c k => ?_) (fun z => ?_) (hT I3 ?_ r12) ?_ h⟩
    · simp (disch := first | omega | assumption | exact cat_n | exact cat_i _ | exact cat_r _ | (simp (disch := omega) only [l_0, l_1, l_m1, l_2, l_3, l_4, l_5, l_6, l_7, l_8, l_9, l_10, l_16, l_20, l_40, l_48, l_99, l_200, l_999, l_9999, li_73, li_78, li_m1000000, li_90, li_251, li_400, li_2400, li_91, li_153, li_173, li_96, li_32, li_92, li_12, li_93, li_80, li_14, li_1000000000, li_30, li_11, li_24, li_13, li_97, li_64, li_1600, li_49, li_255, li_2147483647, li_12345, li_1103515245, li_59, li_57, li_122, li_1023, li_1000000, li_52, li_51, li_50, li_47, li_46, li_45, li_44, li_43, li_42, li_41, li_39, li_38, li_37, li_36, li_35, li_34, li_33, li_29, li_28, li_27, li_26, li_25, li_23, li_22, li_21, li_19, li_18, li_17, li_15, li_m8, li_m2, li_60, li_54, li_2907, li_151, li_127, oN, iI_add, iI_sub, iI_mul, iI_neg, Int.reduceAdd, Int.reduceSub, Int.reduceMul, Int.reduceNeg, Int.toNat_natCast, iI_lt, iI_le, iI_eq, iI_cl, true_or, or_true, false_or, or_false, true_and, and_true, not_true_eq_false, not_false_eq_true]; first | done | omega)) only [↓if_pos, ↓if_neg, Option.bind_some, Option.toList_some, Option.toList_none, List.cons_append, List.nil_append, l_0, l_1, l_m1, l_2, l_3, l_4, l_5, l_6, l_7, l_8, l_9, l_10, l_16, l_20, l_40, l_48, l_99, l_200, l_999, l_9999, li_73, li_78, li_m1000000, li_90, li_251, li_400, li_2400, li_91, li_153, li_173, li_96, li_32, li_92, li_12, li_93, li_80, li_14, li_1000000000, li_30, li_11, li_24, li_13, li_97, li_64, li_1600, li_49, li_255, li_2147483647, li_12345, li_1103515245, li_59, li_57, li_122, li_1023, li_1000000, li_52, li_51, li_50, li_47, li_46, li_45, li_44, li_43, li_42, li_41, li_39, li_38, li_37, li_36, li_35, li_34, li_33, li_29, li_28, li_27, li_26, li_25, li_23, li_22, li_21, li_19, li_18, li_17, li_15, li_m8, li_m2, li_60, li_54, li_2907, li_151, li_127, oN, iI_add, iI_sub, iI_mul, iI_neg, Int.reduceAdd, Int.reduceSub, Int.reduceMul, Int.reduceNeg, Int.toNat_natCast, iI_cl, cl_194, sg_194_e0, sg_194_4, sg_194_11, sg_194_19, k_99t hc, p1, g4]
      rw [hI2]
    · by_cases z : (c = 1 ∧ k = 1) ∨ (c = 139 ∧ (k = 12 ∨ k = 36 ∨ k = 37)) ∨ (c = 128 ∧ k ≤ 1) ∨ c = 129 ∨ c = 130 ∨ c = 158 ∨ c = 159
      · omega
      · have : I3 c k = I c k := by
          by_cases z1 : c = 139
          · subst z1
            rw [r4 k (by omega) (by omega) (by omega), f1 139 k (by omega), g3 139 k (by omega) (by omega) (by omega)]
          · rw [r3 c k (by omega) (by omega) z1, f1 c k (by omega)]
            by_cases z2 : c = 128
            · subst z2
              exact g6 k (by omega)
            · exact g3 c k (by omega) (by omega) z2
        simp only [this, or_true]
    · have := (hs9 z).1
      rw [CS_n hc] at this
      have k0 : (iI (kn (kI I) : Int)).toInt = 0 := by rw [this]; rfl
      rw [to_iI (by omega) (by omega)] at k0
      omega
    · rw [r3 1 1 (by omega) (by omega) (by omega), f2]
    · have a1 : I3 128 1 = iI H := by rw [r3 128 1 (by omega) (by omega) (by omega), f1 128 1 (by omega), g4]
      have a0 : I3 128 0 = iI y := by rw [r3 128 0 (by omega) (by omega) (by omega), f1 128 0 (by omega), g5]
      have a2 : I3 16 2 = iI (kn (kI I)) := by rw [r3 16 2 (by omega) (by omega) (by omega), f1 16 2 (by omega), g3 16 2 (by omega) (by omega) (by omega), CS_n hc]
      unfold rl_E
      rw [r36, a1, r37, a0, a2, to_iI (by omega) (by omega), to_iI (by omega) (by omega), to_iI (by omega) (by omega)]
      refine ⟨rfl, by omega, fun _ => ⟨rfl, by omega, by omega⟩, fun k hk => ?_⟩
      have b1 := r1 k (by omega)
      have b2 := g1 k (by omega)
      rw [up_ck (by omega), up_ck (by omega), up_ck (by omega), up_ck (by omega), up_ck (by omega), up_ck (by omega), vb _ (by omega), vb _ (by omega)] at b1
      rw [up_ck (by omega), up_ck (by omega), up_ck (by omega), up_ck (by omega)] at b2
      rw [r3 129 k (by omega) (by omega) (by omega), r3 130 k (by omega) (by omega) (by omega), f1 129 k (by omega), f1 130 k (by omega), b1.1, b1.2, b2.1, b2.2]
      exact ⟨rfl, rfl, hb _ (by omega), (hb _ (by omega)).1, hv k (by omega)⟩
  · generalize hI2 : am_up (rf1 I 5) 1 1 (iI 0) = I2
    have f1 : ∀ c k, ¬ (c = 1 ∧ k = 1) → c ≠ 138 → I2 c k = I c k := fun c k z z2 => by rw [← hI2, up_ck (by omega), rf1_ne z2]
    have m2 : MS (kI I) I2 := MS_cg hm (fun c k z => f1 c k (by omega) (by omega))
    have vb : ∀ k, k < L → I2 145 k = I 2 k := fun k hk => by
      rw [f1 145 k (by omega) (by omega)]
      exact (t4 k (by omega)).1
    have c208 := c_208 X I J (k := 5) (by omega)
    rw [show ((5 : Nat) : Int) = 5 from rfl, l_m1] at c208
    have p3 := m_326f (X := X) (J := J) (L := L) m2 y1 y2 (by rw [f1 139 12 (by omega) (by omega)]; exact e12) (by omega) (fun k hk => by rw [vb k hk]; exact hb k hk) (fun ⟨z1, H, z2, z3, z4, z5⟩ => q ⟨z1, H, z2, z3, z4, fun k hk => by
      have := z5 k hk
      rw [vb _ (by omega)] at this
      exact this⟩)
    refine ⟨iI (-1), I2, J, _, J, ?_, p3, ?_⟩
    · by_cases z : 0 ≤ y ∧ y < kn (kI I)
      · have p1 := k_91f (X := X) (J := J) (x := iI y) e11 (by omega) hb (fun w => q ⟨z, w⟩)
        have z1 := z.1
        have z2 := z.2
        simp (disch := first | omega | assumption | exact cat_n | exact cat_i _ | exact cat_r _ | (simp (disch := omega) only [l_0, l_1, l_m1, l_2, l_3, l_4, l_5, l_6, l_7, l_8, l_9, l_10, l_16, l_20, l_40, l_48, l_99, l_200, l_999, l_9999, li_73, li_78, li_m1000000, li_90, li_251, li_400, li_2400, li_91, li_153, li_173, li_96, li_32, li_92, li_12, li_93, li_80, li_14, li_1000000000, li_30, li_11, li_24, li_13, li_97, li_64, li_1600, li_49, li_255, li_2147483647, li_12345, li_1103515245, li_59, li_57, li_122, li_1023, li_1000000, li_52, li_51, li_50, li_47, li_46, li_45, li_44, li_43, li_42, li_41, li_39, li_38, li_37, li_36, li_35, li_34, li_33, li_29, li_28, li_27, li_26, li_25, li_23, li_22, li_21, li_19, li_18, li_17, li_15, li_m8, li_m2, li_60, li_54, li_2907, li_151, li_127, oN, iI_add, iI_sub, iI_mul, iI_neg, Int.reduceAdd, Int.reduceSub, Int.reduceMul, Int.reduceNeg, Int.toNat_natCast, iI_lt, iI_le, iI_eq, iI_cl, true_or, or_true, false_or, or_false, true_and, and_true, not_true_eq_false, not_false_eq_true]; first | done | omega)) only [↓if_pos, ↓if_neg, Option.bind_some, Option.toList_some, Option.toList_none, List.cons_append, List.nil_append, l_0, l_1, l_m1, l_2, l_3, l_4, l_5, l_6, l_7, l_8, l_9, l_10, l_16, l_20, l_40, l_48, l_99, l_200, l_999, l_9999, li_73, li_78, li_m1000000, li_90, li_251, li_400, li_2400, li_91, li_153, li_173, li_96, li_32, li_92, li_12, li_93, li_80, li_14, li_1000000000, li_30, li_11, li_24, li_13, li_97, li_64, li_1600, li_49, li_255, li_2147483647, li_12345, li_1103515245, li_59, li_57, li_122, li_1023, li_1000000, li_52, li_51, li_50, li_47, li_46, li_45, li_44, li_43, li_42, li_41, li_39, li_38, li_37, li_36, li_35, li_34, li_33, li_29, li_28, li_27, li_26, li_25, li_23, li_22, li_21, li_19, li_18, li_17, li_15, li_m8, li_m2, li_60, li_54, li_2907, li_151, li_127, oN, iI_add, iI_sub, iI_mul, iI_neg, Int.reduceAdd, Int.reduceSub, Int.reduceMul, Int.reduceNeg, Int.toNat_natCast, iI_cl, cl_194, sg_194_e0, sg_194_4, sg_194_11, sg_194_19, k_99t hc, p1, c208]
        rw [hI2]
      · simp (disch := first | omega | assumption | exact cat_n | exact cat_i _ | exact cat_r _ | (simp (disch := omega) only [l_0, l_1, l_m1, l_2, l_3, l_4, l_5, l_6, l_7, l_8, l_9, l_10, l_16, l_20, l_40, l_48, l_99, l_200, l_999, l_9999, li_73, li_78, li_m1000000, li_90, li_251, li_400, li_2400, li_91, li_153, li_173, li_96, li_32, li_92, li_12, li_93, li_80, li_14, li_1000000000, li_30, li_11, li_24, li_13, li_97, li_64, li_1600, li_49, li_255, li_2147483647, li_12345, li_1103515245, li_59, li_57, li_122, li_1023, li_1000000, li_52, li_51, li_50, li_47, li_46, li_45, li_44, li_43, li_42, li_41, li_39, li_38, li_37, li_36, li_35, li_34, li_33, li_29, li_28, li_27, li_26, li_25, li_23, li_22, li_21, li_19, li_18, li_17, li_15, li_m8, li_m2, li_60, li_54, li_2907, li_151, li_127, oN, iI_add, iI_sub, iI_mul, iI_neg, Int.reduceAdd, Int.reduceSub, Int.reduceMul, Int.reduceNeg, Int.toNat_natCast, iI_lt, iI_le, iI_eq, iI_cl, true_or, or_true, false_or, or_false, true_and, and_true, not_true_eq_false, not_false_eq_true]; first | done | omega)) only [↓if_pos, ↓if_neg, Option.bind_some, Option.toList_some, Option.toList_none, List.cons_append, List.nil_append, l_0, l_1, l_m1, l_2, l_3, l_4, l_5, l_6, l_7, l_8, l_9, l_10, l_16, l_20, l_40, l_48, l_99, l_200, l_999, l_9999, li_73, li_78, li_m1000000, li_90, li_251, li_400, li_2400, li_91, li_153, li_173, li_96, li_32, li_92, li_12, li_93, li_80, li_14, li_1000000000, li_30, li_11, li_24, li_13, li_97, li_64, li_1600, li_49, li_255, li_2147483647, li_12345, li_1103515245, li_59, li_57, li_122, li_1023, li_1000000, li_52, li_51, li_50, li_47, li_46, li_45, li_44, li_43, li_42, li_41, li_39, li_38, li_37, li_36, li_35, li_34, li_33, li_29, li_28, li_27, li_26, li_25, li_23, li_22, li_21, li_19, li_18, li_17, li_15, li_m8, li_m2, li_60, li_54, li_2907, li_151, li_127, oN, iI_add, iI_sub, iI_mul, iI_neg, Int.reduceAdd, Int.reduceSub, Int.reduceMul, Int.reduceNeg, Int.toNat_natCast, iI_cl, cl_194, sg_194_e0, sg_194_4, sg_194_11, sg_194_19, k_99f hc, c208]
        rw [hI2]
    · have hr := Rl_ref (k := 5) (by omega) h
      generalize hI3 : rf2 (am_up I2 139 12 (iI 0)) 5 = I3
      have e3 : ∀ c j, ¬ (c = 1 ∧ j = 1) → ¬ (c = 139 ∧ j = 12) → I3 c j = rf2 (rf1 I 5) 5 c j := fun c j w1 w2 => by
        rw [← hI3, ← hI2]
        unfold rf2
        by_cases w3 : c = 146 ∧ j = 5
        · obtain ⟨rfl, rfl⟩ := w3
          rw [up_at, up_at, up_ck (by omega), up_ck (by omega)]
        · rw [up_ck (by omega), up_ck (by omega), up_ck (by omega), up_ck (by omega)]
      have k1 : I3 1 1 = iI 0 := by
        rw [← hI3, ← hI2]
        unfold rf2
        rw [up_ck (by omega), up_ck (by omega), up_at]
      have k2 : I3 139 12 = iI 0 := by
        rw [← hI3]
        unfold rf2
        rw [up_ck (by omega), up_at]
      have hr' := hr
      obtain ⟨d1, d2, d3, d4, d5, _⟩ := hr
      refine Rl_small (fun c j w => e3 c j (fun z => ?_) (fun z => ?_)) hr' (hT I3 k1 k2) (F_congr (e3 3 0 (by omega) (by omega)) (e3 3 1 (by omega) (by omega)) (e3 139 14 (by omega) (by omega)) (e3 139 15 (by omega) (by omega)) d2) (R_congr (fun k => e3 138 k (by omega) (by omega)) (fun k => e3 146 k (by omega) (by omega)) d3) (D_congr (e3 106 7 (by omega) (by omega)) (e3 139 41 (by omega) (by omega)) d4) (M_congr (e3 133 1 (by omega) (by omega)) (fun k => e3 134 k (by omega) (by omega)) (e3 139 43 (by omega) (by omega)) (fun k => e3 161 k (by omega) (by omega)) d5)
      · obtain ⟨rfl, rfl⟩ := z; cases w
      · obtain ⟨rfl, rfl⟩ := z; cases w
