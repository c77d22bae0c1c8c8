/-! the model behind its reader -/
section S9zf
variable {X : am_X} {I I' Ic : Nat → Nat → Int32} {J Jm : Nat → Nat → Int64} {n : Nat} {f : Nat → Int} {r : Nat → Nat → Int} {g z : Int}
theorem mr_of {b : Nat} (rr : ∀ k, k < 9 → -1000 ≤ r b k ∧ r b k ≤ 1000) (h2 : I 140 b = iI (r b 2)) (h6 : I 141 b = iI (r b 6)) (h : ∀ i, i < 7 → I 148 (7 * b + 3 + i) = iI (r b (w7 i))) : mr I b = fun k => if k < 9 then r b k else 0 := by
  have t : ∀ (x : Int32) (k : Nat), k < 9 → x = iI (r b k) → x.toInt = r b k := fun x k hk e => by have := rr k hk; rw [e, to_iI (by omega) (by omega)]
  funext k
  by_cases q : k < 9
  · rw [if_pos q]
    rcases (by omega : k = 0 ∨ k = 1 ∨ k = 2 ∨ k = 3 ∨ k = 4 ∨ k = 5 ∨ k = 6 ∨ k = 7 ∨ k = 8) with rfl | rfl | rfl | rfl | rfl | rfl | rfl | rfl | rfl
    · exact t _ 0 q (h 0 (by omega))
    · exact t _ 1 q (h 1 (by omega))
    · exact t _ 2 q h2
    · exact t _ 3 q (h 2 (by omega))
    · exact t _ 4 q (h 3 (by omega))
    · exact t _ 5 q (h 4 (by omega))
    · exact t _ 6 q h6
    · exact t _ 7 q (h 5 (by omega))
    · exact t _ 8 q (h 6 (by omega))
  · rw [if_neg q]
    unfold mr mrw
    rw [if_neg (by omega), if_neg (by omega), if_neg (by omega), if_neg (by omega), if_neg (by omega), if_neg (by omega), if_neg (by omega), if_neg (by omega), if_neg (by omega)]
theorem ok_rg {f : Nat → Int} (o4 : ps_ok f) : ∀ k, k < 9 → -1000 ≤ f k ∧ f k ≤ 1000 := fun k hk => by
  obtain ⟨⟨q1, q2, q3⟩, ⟨q4, q5⟩, ⟨q6, q7⟩, ⟨q8, q9⟩, ⟨q10, q11⟩, ⟨q12, q13⟩, ⟨q14, q15⟩, q16, q17⟩ := o4
  rcases (by omega : k = 0 ∨ k = 1 ∨ k = 2 ∨ k = 3 ∨ k = 4 ∨ k = 5 ∨ k = 6 ∨ k = 7 ∨ k = 8) with rfl | rfl | rfl | rfl | rfl | rfl | rfl | rfl | rfl <;> omega
theorem m_239g (R : RDN n f r g z Ic I) (h19 : I 139 19 = iI 0) (h20 : I 139 20 = iI (-1)) : ∃ I' : Nat → Nat → Int32, am_ev X amP_239 15 [.ref 139, .null, .null] [.int (iI (n + 1 : Nat))] (am_sh I J) = some (some (.int (iI (n + 1 : Nat))), am_sh I' J) ∧ MS (kR n r g z) I' ∧ I' 139 0 = iI 1 ∧ I' 139 14 = iI 0 ∧ I' 139 15 = iI (-1) ∧ I' 139 24 = iI 0 ∧ I' 139 36 = iI 0 ∧ I' 148 2 = iI 0 ∧ (∀ j, j < n → ∀ i, i < 6 → I' 142 (6 * j + i) = iI (f j / 2 ^ (5 * i) % 32)) ∧ ∀ c k, ¬ (c = 139 ∧ (k ≤ 2 ∨ k = 14 ∨ k = 15 ∨ k = 24 ∨ k = 36)) → c ≠ 140 → c ≠ 141 → c ≠ 142 → c ≠ 148 → c ≠ 150 → I' c k = I c k := by
  have hK := kR_ok R
  obtain ⟨⟨-, R2, R3, R4⟩, -, -, -, -, y9, y10⟩ := R
  obtain ⟨I1, hI1⟩ : ∃ I1, am_up (am_up (am_up (am_up (am_up I 139 14 (iI 0)) 139 15 (iI (-1))) 139 0 (iI 1)) 139 1 (iI n)) 139 2 (iI z) = I1 := ⟨_, rfl⟩
  have f1 : ∀ c k, ¬ (c = 139 ∧ (k ≤ 2 ∨ k = 14 ∨ k = 15)) → I1 c k = I c k := fun c k w => by rw [← hI1, up_ck (by omega), up_ck (by omega), up_ck (by omega), up_ck (by omega), up_ck (by omega)]
  have a0 : I1 139 0 = iI 1 := by rw [← hI1, up_k (by omega), up_k (by omega), up_at]
  have a1 : I1 139 1 = iI n := by rw [← hI1, up_k (by omega), up_at]
  have a2 : I1 139 2 = iI z := by rw [← hI1, up_at]
  have a14 : I1 139 14 = iI 0 := by rw [← hI1, up_k (by omega), up_k (by omega), up_k (by omega), up_k (by omega), up_at]
  have a15 : I1 139 15 = iI (-1) := by rw [← hI1, up_k (by omega), up_k (by omega), up_k (by omega), up_at]
  obtain ⟨I2, p2, v2, w2, f2⟩ := m_239c (X := X) (J := J) (I := I1) (x1 := iI (n + 1 : Nat)) (v := iI g) ((f1 _ _ (by omega)).trans y9)
  obtain ⟨I3, p3, v3, f3⟩ := m_239r (X := X) (J := J) (I := I2) (n := n) (r := r) (x1 := iI (n + 1 : Nat)) R3 ((f2 _ _ (by omega)).trans a1) (fun j hj => ⟨(R4 j hj).2.2.1.2, fun k hk => by rw [f2 _ _ (by omega), f1 _ _ (by omega)]; exact (R4 j hj).2.2.2.2 k hk⟩)
  obtain ⟨I4, p4, v4, f4⟩ := m_239n (X := X) (J := J) (I := I3) (x1 := iI (n + 1 : Nat))
  obtain ⟨I5, hI5⟩ : ∃ I5, am_up (am_up I4 139 24 (iI 0)) 139 36 (iI 0) = I5 := ⟨_, rfl⟩
  have f5 : ∀ c k, ¬ (c = 139 ∧ (k = 24 ∨ k = 36)) → I5 c k = I4 c k := fun c k w => by rw [← hI5, up_ck (by omega), up_ck (by omega)]
  have F5 : ∀ k, k ≠ 24 → k ≠ 36 → I5 139 k = I1 139 k := fun k k1 k2 => by rw [f5 _ _ (by omega), f4 _ _ (by omega), f3 _ _ (by omega) (by omega) (by omega), f2 _ _ (by omega)]
  have G5 : ∀ k, k < 3 → I5 148 k = I2 148 k := fun k hk => by rw [f5 _ _ (by omega), f4 _ _ (by omega), f3 _ _ (by omega) (by omega) (by omega)]
  have ma : MA (kR n r g z) I5 := by
    refine ⟨hK, ⟨(F5 1 (by omega) (by omega)).trans a1, (F5 2 (by omega) (by omega)).trans a2, (G5 0 (by omega)).trans v2, (G5 1 (by omega)).trans (w2 1 (by omega) (by omega))⟩, fun b hb => ?_⟩
    have hb' : b < n := hb
    obtain ⟨x1, x2, x3⟩ := v3 b hb'
    rw [kR_f hb']
    exact mr_of (ok_rg (R4 b hb').2.2.1.1) (by rw [f5 _ _ (by omega), f4 _ _ (by omega), x1]) (by rw [f5 _ _ (by omega), f4 _ _ (by omega), x2]) (fun i hi => by rw [f5 _ _ (by omega), f4 _ _ (by omega), x3 i hi])
  obtain ⟨I6, p6, m6, f6⟩ := m_248 (X := X) (J := J) ma
  refine ⟨I6, ?_, m6, ?_, ?_, ?_, ?_, ?_, ?_, fun j hj i hi => ?_, fun c k w1 w2 w3 w4 w5 w6 => ?_⟩
  · have b1 : am_up (am_up I 139 14 (iI 0)) 139 15 (iI (-1)) 139 19 = iI 0 := by rw [up_k (by omega), up_k (by omega), h19]
    have b0 : am_up I 139 14 (iI 0) 139 20 = iI (-1) := by rw [up_k (by omega), h20]
    have b2 : am_up (am_up (am_up I 139 14 (iI 0)) 139 15 (iI (-1))) 139 0 (iI 1) 139 6 = iI n := by rw [up_k (by omega), up_k (by omega), up_k (by omega), R2]
    have b3 : am_up (am_up (am_up (am_up I 139 14 (iI 0)) 139 15 (iI (-1))) 139 0 (iI 1)) 139 1 (iI n) 139 8 = iI z := by rw [up_k (by omega), up_k (by omega), up_k (by omega), up_k (by omega), y10]
    rw [sg_239_15 (hw1 := cat_n) (hw2 := cat_n), h19, b0, b1, l_0, l_1, b2, b3, hI1, if_pos rfl]
    rw [c0] at p2 p3 p4
    rw [p2, p3, p4, sg_239_169]
    simp (disch := first | omega | assumption | exact cat_n | exact cat_i _ | exact cat_r _ | (simp (disch := omega) only [l_0, l_1, l_m1, l_2, l_3, l_4, l_5, l_6, l_7, l_8, l_9, l_10, l_16, l_20, l_40, l_48, l_99, l_200, l_999, l_9999, li_73, li_78, li_m1000000, li_90, li_251, li_400, li_2400, li_91, li_153, li_173, li_96, li_32, li_92, li_12, li_93, li_80, li_14, li_1000000000, li_30, li_11, li_24, li_13, li_97, li_64, li_1600, li_49, li_255, li_2147483647, li_12345, li_1103515245, li_59, li_57, li_122, li_1023, li_1000000, li_52, li_51, li_50, li_47, li_46, li_45, li_44, li_43, li_42, li_41, li_39, li_38, li_37, li_36, li_35, li_34, li_33, li_29, li_28, li_27, li_26, li_25, li_23, li_22, li_21, li_19, li_18, li_17, li_15, li_m8, li_m2, li_60, li_54, li_2907, li_151, li_127, oN, iI_add, iI_sub, iI_mul, iI_neg, Int.reduceAdd, Int.reduceSub, Int.reduceMul, Int.reduceNeg, Int.toNat_natCast, Int.reduceToNat, iI_lt, iI_le, iI_eq, iI_cl, true_or, or_true, false_or, or_false, true_and, and_true, not_true_eq_false, not_false_eq_true]; first | done | omega)) only [↓if_pos, ↓if_neg, Option.bind_some, Option.toList_some, Option.toList_none, List.cons_append, List.nil_append, l_0, l_1, l_m1, l_2, l_3, l_4, l_5, l_6, l_7, l_8, l_9, l_10, l_16, l_20, l_40, l_48, l_99, l_200, l_999, l_9999, li_73, li_78, li_m1000000, li_90, li_251, li_400, li_2400, li_91, li_153, li_173, li_96, li_32, li_92, li_12, li_93, li_80, li_14, li_1000000000, li_30, li_11, li_24, li_13, li_97, li_64, li_1600, li_49, li_255, li_2147483647, li_12345, li_1103515245, li_59, li_57, li_122, li_1023, li_1000000, li_52, li_51, li_50, li_47, li_46, li_45, li_44, li_43, li_42, li_41, li_39, li_38, li_37, li_36, li_35, li_34, li_33, li_29, li_28, li_27, li_26, li_25, li_23, li_22, li_21, li_19, li_18, li_17, li_15, li_m8, li_m2, li_60, li_54, li_2907, li_151, li_127, oN, iI_add, iI_sub, iI_mul, iI_neg, Int.reduceAdd, Int.reduceSub, Int.reduceMul, Int.reduceNeg, Int.toNat_natCast, Int.reduceToNat, iI_cl, hI5, p6, sg_239_190]
  · rw [f6 _ _ (by omega), F5 _ (by omega) (by omega), a0]
  · rw [f6 _ _ (by omega), F5 _ (by omega) (by omega), a14]
  · rw [f6 _ _ (by omega), F5 _ (by omega) (by omega), a15]
  · rw [f6 _ _ (by omega), ← hI5, up_k (by omega), up_at]
  · rw [f6 _ _ (by omega), ← hI5, up_at]
  · rw [f6 _ _ (by omega), G5 2 (by omega)]; exact w2 2 (by omega) (by omega)
  · rw [f6 _ _ (by omega), f5 _ _ (by omega), v4 _ (by omega), f3 _ _ (by omega) (by omega) (by omega), f2 _ _ (by omega), f1 _ _ (by omega)]
    exact (R4 j hj).2.1 i hi
  · rw [f6 c k w6, f5 c k (by omega), f4 c k w4, f3 c k w2 w3 (by omega), f2 c k w5, f1 c k (by omega)]
end S9zf
