/-! a sky that was read is taken: the class -/
def kR (n : Nat) (r : Nat → Nat → Int) (g z : Int) : Sk := (n, fun b => if b < n then (fun k => if k < 9 then r b k else 0) else fun _ => 0, g, z, 0)
section S9zd
variable {X : am_X} {I I' Im : Nat → Nat → Int32} {J Jm : Nat → Nat → Int64} {n : Nat} {f : Nat → Int} {r : Nat → Nat → Int} {g z : Int}
theorem kR_f {b : Nat} (hb : b < n) : kf (kR n r g z) b = fun k => if k < 9 then r b k else 0 := by
  show (if b < n then (fun k => if k < 9 then r b k else 0) else fun _ => 0) = _
  rw [if_pos hb]
theorem kR_ok (R : RDN n f r g z I Im) : Kok (kR n r g z) := by
  obtain ⟨⟨-, -, R3, R4⟩, R5, R6, -⟩ := R
  refine ⟨R3, fun b hb => ?_, R5, R6, ?_⟩
  · have hb' : b < n := hb
    rw [kR_f hb']
    exact (R4 b hb').2.2.1.1
  · show 0 ≤ (0 : Int) ∧ (0 : Int) ≤ 9999
    omega
set_option maxHeartbeats 1000000 in
theorem k_106 (R : RDN n f r g z I Im) : ∃ I' : Nat → Nat → Int32, am_do X 106 [.ref 16, .ref 3] (am_sh I J) = some (none, am_sh I' J) ∧ CS (kR n r g z) I' ∧ I' 16 1 = iI 1 ∧ (∀ b, b < n → I' (am_bd b) 0 = iI (f b)) ∧ ∀ c k, ¬ (c = 16 ∧ 1 ≤ k ∧ k ≤ 5) → ¬ (19 ≤ c ∧ c ≤ 78) → I' c k = I c k := by
  have hK := kR_ok R
  obtain ⟨⟨R1, R2, R3, R4⟩, R5, R6, y7, y8, -, -⟩ := R
  obtain ⟨I0, hI0⟩ : ∃ I0, am_up (am_up (am_up (am_up (am_up I 16 1 (iI 1)) 16 2 (iI n)) 16 3 (iI g)) 16 4 (iI z)) 16 5 (iI 0) = I0 := ⟨_, rfl⟩
  have f0 : ∀ c k, ¬ (c = 16 ∧ 1 ≤ k ∧ k ≤ 5) → I0 c k = I c k := fun c k w => by rw [← hI0, up_ck (by omega), up_ck (by omega), up_ck (by omega), up_ck (by omega), up_ck (by omega)]
  have a1 : I0 16 1 = iI 1 := by rw [← hI0, up_k (by omega), up_k (by omega), up_k (by omega), up_k (by omega), up_at]
  have a2 : I0 16 2 = iI n := by rw [← hI0, up_k (by omega), up_k (by omega), up_k (by omega), up_at]
  have a3 : I0 16 3 = iI g := by rw [← hI0, up_k (by omega), up_k (by omega), up_at]
  have a4 : I0 16 4 = iI z := by rw [← hI0, up_k (by omega), up_at]
  have a5 : I0 16 5 = iI 0 := by rw [← hI0, up_at]
  have B := Lp1 (n := n) (G := fun b (I1 : Nat → Nat → Int32) => am_ev X amP_106 20 [.ref 16, .ref 3, .int (iI b)] [] (am_sh I1 J)) (Iv := fun b I1 => (∀ o, o < b → CB I1 o ∧ cr I1 o = kf (kR n r g z) o ∧ I1 (am_bd o) 0 = iI (f o)) ∧ ∀ c k, ¬ (19 ≤ c ∧ c ≤ 78) → I1 c k = I0 c k) (P := fun q => ∃ I' : Nat → Nat → Int32, q = some (none, am_sh I' J) ∧ (∀ o, o < n → CB I' o ∧ cr I' o = kf (kR n r g z) o ∧ I' (am_bd o) 0 = iI (f o)) ∧ ∀ c k, ¬ (19 ≤ c ∧ c ≤ 78) → I' c k = I0 c k) (by
    rintro b I1 hb ⟨g1, g2⟩
    right
    have hbd := bd_eq (b := b) (by omega)
    have ecl : (iI (b : Int)).toNatClampNeg = b := by rw [iI_cl (by omega) (by omega), Int.toNat_natCast]
    have n2 : I1 16 2 = iI n := (g2 _ _ (by omega)).trans a2
    obtain ⟨⟨o1, -⟩, -, ⟨o4, -⟩, o5, -⟩ := R4 b hb
    have n4 : I1 4 b = iI (f b) := by rw [g2 _ _ (by omega), f0 _ _ (by omega), o1]
    obtain ⟨U, hU⟩ : ∃ U, am_up I1 (am_bd b) 0 (iI (f b)) = U := ⟨_, rfl⟩
    have u1 : ∀ c k, ¬ (c = am_bd b ∧ k = 0) → U c k = I1 c k := fun c k w => by rw [← hU, up_ck (by omega)]
    obtain ⟨I2, hI2⟩ : ∃ I2 : Nat → Nat → Int32, I2 = fun c k => if c = am_bd b + 1 then (if 0 ≤ k ∧ k < 9 then U (6 + b) (k - 0) else U c k) else U c k := ⟨_, rfl⟩
    have f2 : ∀ c k, c ≠ am_bd b + 1 → I2 c k = U c k := fun c k w => by rw [hI2]; show (if c = am_bd b + 1 then _ else _) = _; rw [if_neg w]
    have v2 : ∀ k, k < 9 → I2 (am_bd b + 1) k = iI (r b k) := fun k hk => by
      rw [hI2]
      show (if am_bd b + 1 = am_bd b + 1 then (if 0 ≤ k ∧ k < 9 then U (6 + b) (k - 0) else _) else _) = _
      rw [if_pos rfl, if_pos (by omega), show k - 0 = k by omega, u1 _ _ (by omega), g2 _ _ (by omega), f0 _ _ (by omega), o5 k hk]
    have rr : ∀ k, k < 9 → -1000 ≤ r b k ∧ r b k ≤ 1000 := fun k hk => by
      obtain ⟨⟨q1, q2, q3⟩, ⟨q4, q5⟩, ⟨q6, q7⟩, ⟨q8, q9⟩, ⟨q10, q11⟩, ⟨q12, q13⟩, ⟨q14, q15⟩, q16, q17⟩ := o4
      rcases (by omega : k = 0 ∨ k = 1 ∨ k = 2 ∨ k = 3 ∨ k = 4 ∨ k = 5 ∨ k = 6 ∨ k = 7 ∨ k = 8) with rfl | rfl | rfl | rfl | rfl | rfl | rfl | rfl | rfl <;> omega
    have c2 : cr I2 b = kf (kR n r g z) b := by
      rw [kR_f hb]
      funext k
      show (if k < 9 then (I2 (am_bd b + 1) k).toInt else 0) = if k < 9 then r b k else 0
      by_cases q : k < 9
      · have := rr k q
        rw [if_pos q, if_pos q, v2 k q, to_iI (by omega) (by omega)]
      · rw [if_neg q, if_neg q]
    obtain ⟨I3, p3, x1, x2, x3⟩ := k_31 (X := X) (J := J) c2 (hK.2.1 b hb) (by omega)
    refine ⟨I3, ⟨fun o ho => ?_, fun c k w => ?_⟩, ?_⟩
    · by_cases y : o = b
      · subst y
        exact ⟨x1, x2, by rw [x3 _ _ (by omega) (by omega), f2 _ _ (by omega), ← hU, up_at]⟩
      · have hod := bd_eq (b := o) (by omega)
        have e' : ∀ j, j ≤ 5 → ∀ k, I3 (am_bd o + j) k = I1 (am_bd o + j) k := fun j hj k => by rw [x3 _ _ (by omega) (by omega), f2 _ _ (by omega), u1 _ _ (by omega)]
        obtain ⟨y1, y2, y3⟩ := g1 o (by omega)
        exact ⟨CB_congr e' y1, (cr_congr (e' 1 (by omega))).trans y2, (e' 0 (by omega) 0).trans y3⟩
    · rw [x3 c k (by omega) (by omega), f2 c k (by omega), u1 c k (by omega)]; exact g2 c k w
    · try dsimp only
      rw [cS, sg_106_20, n2, ecl, n4, hU]
      simp (disch := first | omega | assumption | exact cat_n | exact cat_i _ | exact cat_r _ | (simp (disch := omega) only [l_0, l_1, l_m1, l_2, l_3, l_4, l_5, l_6, l_7, l_8, l_9, l_10, l_16, l_20, l_40, l_48, l_99, l_200, l_999, l_9999, li_73, li_78, li_m1000000, li_90, li_251, li_400, li_2400, li_91, li_153, li_173, li_96, li_32, li_92, li_12, li_93, li_80, li_14, li_1000000000, li_30, li_11, li_24, li_13, li_97, li_64, li_1600, li_49, li_255, li_2147483647, li_12345, li_1103515245, li_59, li_57, li_122, li_1023, li_1000000, li_52, li_51, li_50, li_47, li_46, li_45, li_44, li_43, li_42, li_41, li_39, li_38, li_37, li_36, li_35, li_34, li_33, li_29, li_28, li_27, li_26, li_25, li_23, li_22, li_21, li_19, li_18, li_17, li_15, li_m8, li_m2, li_60, li_54, li_2907, li_151, li_127, oN, iI_add, iI_sub, iI_mul, iI_neg, Int.reduceAdd, Int.reduceSub, Int.reduceMul, Int.reduceNeg, Int.toNat_natCast, Int.reduceToNat, iI_lt, iI_le, iI_eq, iI_cl, true_or, or_true, false_or, or_false, true_and, and_true, not_true_eq_false, not_false_eq_true]; first | done | omega)) only [↓if_pos, ↓if_neg, Option.bind_some, Option.toList_some, Option.toList_none, List.cons_append, List.nil_append, l_0, l_1, l_m1, l_2, l_3, l_4, l_5, l_6, l_7, l_8, l_9, l_10, l_16, l_20, l_40, l_48, l_99, l_200, l_999, l_9999, li_73, li_78, li_m1000000, li_90, li_251, li_400, li_2400, li_91, li_153, li_173, li_96, li_32, li_92, li_12, li_93, li_80, li_14, li_1000000000, li_30, li_11, li_24, li_13, li_97, li_64, li_1600, li_49, li_255, li_2147483647, li_12345, li_1103515245, li_59, li_57, li_122, li_1023, li_1000000, li_52, li_51, li_50, li_47, li_46, li_45, li_44, li_43, li_42, li_41, li_39, li_38, li_37, li_36, li_35, li_34, li_33, li_29, li_28, li_27, li_26, li_25, li_23, li_22, li_21, li_19, li_18, li_17, li_15, li_m8, li_m2, li_60, li_54, li_2907, li_151, li_127, oN, iI_add, iI_sub, iI_mul, iI_neg, Int.reduceAdd, Int.reduceSub, Int.reduceMul, Int.reduceNeg, Int.toNat_natCast, Int.reduceToNat, iI_cl]
      simp only [Int.toNat_zero, Nat.zero_add, Int.reduceToNat, ← hI2]
      rw [p3]
      show am_ev X amP_106 51 _ [] (am_sh I3 J) = _
      rw [sg_106_51]
      simp (disch := first | omega | assumption | exact cat_n | exact cat_i _ | exact cat_r _ | (simp (disch := omega) only [l_0, l_1, l_m1, l_2, l_3, l_4, l_5, l_6, l_7, l_8, l_9, l_10, l_16, l_20, l_40, l_48, l_99, l_200, l_999, l_9999, li_73, li_78, li_m1000000, li_90, li_251, li_400, li_2400, li_91, li_153, li_173, li_96, li_32, li_92, li_12, li_93, li_80, li_14, li_1000000000, li_30, li_11, li_24, li_13, li_97, li_64, li_1600, li_49, li_255, li_2147483647, li_12345, li_1103515245, li_59, li_57, li_122, li_1023, li_1000000, li_52, li_51, li_50, li_47, li_46, li_45, li_44, li_43, li_42, li_41, li_39, li_38, li_37, li_36, li_35, li_34, li_33, li_29, li_28, li_27, li_26, li_25, li_23, li_22, li_21, li_19, li_18, li_17, li_15, li_m8, li_m2, li_60, li_54, li_2907, li_151, li_127, oN, iI_add, iI_sub, iI_mul, iI_neg, Int.reduceAdd, Int.reduceSub, Int.reduceMul, Int.reduceNeg, Int.toNat_natCast, Int.reduceToNat, iI_lt, iI_le, iI_eq, iI_cl, true_or, or_true, false_or, or_false, true_and, and_true, not_true_eq_false, not_false_eq_true]; first | done | omega)) only [↓if_pos, ↓if_neg, Option.bind_some, Option.toList_some, Option.toList_none, List.cons_append, List.nil_append, l_0, l_1, l_m1, l_2, l_3, l_4, l_5, l_6, l_7, l_8, l_9, l_10, l_16, l_20, l_40, l_48, l_99, l_200, l_999, l_9999, li_73, li_78, li_m1000000, li_90, li_251, li_400, li_2400, li_91, li_153, li_173, li_96, li_32, li_92, li_12, li_93, li_80, li_14, li_1000000000, li_30, li_11, li_24, li_13, li_97, li_64, li_1600, li_49, li_255, li_2147483647, li_12345, li_1103515245, li_59, li_57, li_122, li_1023, li_1000000, li_52, li_51, li_50, li_47, li_46, li_45, li_44, li_43, li_42, li_41, li_39, li_38, li_37, li_36, li_35, li_34, li_33, li_29, li_28, li_27, li_26, li_25, li_23, li_22, li_21, li_19, li_18, li_17, li_15, li_m8, li_m2, li_60, li_54, li_2907, li_151, li_127, oN, iI_add, iI_sub, iI_mul, iI_neg, Int.reduceAdd, Int.reduceSub, Int.reduceMul, Int.reduceNeg, Int.toNat_natCast, Int.reduceToNat, iI_cl]) (by
    rintro I1 ⟨g1, g2⟩
    have n2 : I1 16 2 = iI n := (g2 _ _ (by omega)).trans a2
    refine ⟨I1, ?_, g1, g2⟩
    try dsimp only
    rw [sg_106_20, n2]
    simp (disch := first | omega | assumption | exact cat_n | exact cat_i _ | exact cat_r _ | (simp (disch := omega) only [l_0, l_1, l_m1, l_2, l_3, l_4, l_5, l_6, l_7, l_8, l_9, l_10, l_16, l_20, l_40, l_48, l_99, l_200, l_999, l_9999, li_73, li_78, li_m1000000, li_90, li_251, li_400, li_2400, li_91, li_153, li_173, li_96, li_32, li_92, li_12, li_93, li_80, li_14, li_1000000000, li_30, li_11, li_24, li_13, li_97, li_64, li_1600, li_49, li_255, li_2147483647, li_12345, li_1103515245, li_59, li_57, li_122, li_1023, li_1000000, li_52, li_51, li_50, li_47, li_46, li_45, li_44, li_43, li_42, li_41, li_39, li_38, li_37, li_36, li_35, li_34, li_33, li_29, li_28, li_27, li_26, li_25, li_23, li_22, li_21, li_19, li_18, li_17, li_15, li_m8, li_m2, li_60, li_54, li_2907, li_151, li_127, oN, iI_add, iI_sub, iI_mul, iI_neg, Int.reduceAdd, Int.reduceSub, Int.reduceMul, Int.reduceNeg, Int.toNat_natCast, Int.reduceToNat, iI_lt, iI_le, iI_eq, iI_cl, true_or, or_true, false_or, or_false, true_and, and_true, not_true_eq_false, not_false_eq_true]; first | done | omega)) only [↓if_pos, ↓if_neg, Option.bind_some, Option.toList_some, Option.toList_none, List.cons_append, List.nil_append, l_0, l_1, l_m1, l_2, l_3, l_4, l_5, l_6, l_7, l_8, l_9, l_10, l_16, l_20, l_40, l_48, l_99, l_200, l_999, l_9999, li_73, li_78, li_m1000000, li_90, li_251, li_400, li_2400, li_91, li_153, li_173, li_96, li_32, li_92, li_12, li_93, li_80, li_14, li_1000000000, li_30, li_11, li_24, li_13, li_97, li_64, li_1600, li_49, li_255, li_2147483647, li_12345, li_1103515245, li_59, li_57, li_122, li_1023, li_1000000, li_52, li_51, li_50, li_47, li_46, li_45, li_44, li_43, li_42, li_41, li_39, li_38, li_37, li_36, li_35, li_34, li_33, li_29, li_28, li_27, li_26, li_25, li_23, li_22, li_21, li_19, li_18, li_17, li_15, li_m8, li_m2, li_60, li_54, li_2907, li_151, li_127, oN, iI_add, iI_sub, iI_mul, iI_neg, Int.reduceAdd, Int.reduceSub, Int.reduceMul, Int.reduceNeg, Int.toNat_natCast, Int.reduceToNat, iI_cl]) I0 ⟨fun o ho => by omega, fun _ _ _ => rfl⟩
  obtain ⟨I', p1, g1, g2⟩ := B
  try dsimp only at p1
  rw [c0] at p1
  refine ⟨I', ?_, ⟨hK, ⟨(g2 _ _ (by omega)).trans a2, (g2 _ _ (by omega)).trans a3, (g2 _ _ (by omega)).trans a4, (g2 _ _ (by omega)).trans a5⟩, fun b hb => ⟨(g1 b hb).1, (g1 b hb).2.1⟩⟩, (g2 _ _ (by omega)).trans a1, fun b hb => (g1 b hb).2.2, fun c k w1 w2 => by rw [g2 c k w2, f0 c k w1]⟩
  rw [cl_106]
  · have b1 : am_up I 16 1 (iI 1) 3 4 = iI n := (up_ck (by omega)).trans R1
    have b2 : am_up (am_up I 16 1 (iI 1)) 16 2 (iI n) 3 2 = iI g := by rw [up_ck (by omega), up_ck (by omega), y7]
    have b3 : am_up (am_up (am_up I 16 1 (iI 1)) 16 2 (iI n)) 16 3 (iI g) 3 3 = iI z := by rw [up_ck (by omega), up_ck (by omega), up_ck (by omega), y8]
    rw [sg_106_e0, l_1, b1, b2, b3, l_0, hI0]
    exact p1
  all_goals first | assumption | omega | exact cat_n | exact cat_i _ | exact cat_r _ | rfl
end S9zd
