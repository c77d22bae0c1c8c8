/-! THE CLASS'S BODIES: steps, places, how far, leaning, shells, what goes into turns -/
theorem em_ (a b : Int) : a - a / b * b = a % b := by rw [Int.emod_def, Int.mul_comm]
theorem cat_n : Value.null.category = 1 := rfl
theorem cat_i (x : Int32) : (Value.int x).category = 1 := rfl
theorem cat_r (x : Nat) : (Value.ref x).category = 1 := rfl
section S30
variable {X : am_X} {I : Nat → Nat → Int32} {J : Nat → Nat → Int64} {b o : Nat}
theorem cr_cell {k : Nat} (h : k < 9) : I (am_bd b + 1) k = iI (cr I b k) := by
  unfold cr
  rw [if_pos h, iI_to]
theorem CB_ok (h : CB I b) : ps_ok (cr I b) := h.1
theorem CB_t (h : CB I b) : I (am_bd b) 1 = iI (cr I b 2) := h.2.1
theorem CB_x (h : CB I b) {s : Int} (h0 : 0 ≤ s) (h1 : s < cr I b 2) : I (am_bd b + 2) s.toNat = iI (ps_x (cr I b) s) := by
  obtain ⟨k, rfl⟩ := Int.eq_ofNat_of_zero_le h0
  exact (h.2.2 k h1).1
theorem CB_y (h : CB I b) {s : Int} (h0 : 0 ≤ s) (h1 : s < cr I b 2) : I (am_bd b + 3) s.toNat = iI (ps_y (cr I b) s) := by
  obtain ⟨k, rfl⟩ := Int.eq_ofNat_of_zero_le h0
  exact (h.2.2 k h1).2.1
theorem CB_z (h : CB I b) {s : Int} (h0 : 0 ≤ s) (h1 : s < cr I b 2) : I (am_bd b + 4) s.toNat = iI (ps_z (cr I b) s) := by
  obtain ⟨k, rfl⟩ := Int.eq_ofNat_of_zero_le h0
  exact (h.2.2 k h1).2.2.1
theorem CB_h (h : CB I b) {s : Int} (h0 : 0 ≤ s) (h1 : s < cr I b 2) : I (am_bd b + 5) s.toNat = iI (ps_h (cr I b) s) := by
  obtain ⟨k, rfl⟩ := Int.eq_ofNat_of_zero_le h0
  exact (h.2.2 k h1).2.2.2
theorem c_30 (hb : b < 11) (h : CB I b) {t : Int} (h0 : 0 ≤ t) (h1 : t ≤ 1000000) : am_do X 30 [.ref (am_bd b), .int (iI t)] (am_sh I J) = some (some (.int (iI (ps_s (cr I b) t))), am_sh I J) := by
  have ok := CB_ok h
  unfold ps_ok at ok
  simp (disch := first | omega | assumption | exact cat_n | exact cat_i _ | exact cat_r _ | (simp (disch := omega) only [l_0, l_1, l_m1, l_2, l_3, l_4, l_5, l_6, l_7, l_8, l_9, l_10, l_16, l_20, l_40, l_48, l_99, l_200, l_999, l_9999, oN, iI_add, iI_sub, iI_mul, iI_neg, Int.reduceAdd, Int.reduceSub, Int.reduceMul, Int.reduceNeg, iI_lt, iI_le, iI_eq, iI_cl, true_or, or_true, false_or, or_false, true_and, and_true, not_true_eq_false, not_false_eq_true]; first | done | omega)) only [↓if_pos, ↓if_neg, Option.bind_some, Option.toList_some, Option.toList_none, List.cons_append, List.nil_append, l_0, l_1, l_m1, l_2, l_3, l_4, l_5, l_6, l_7, l_8, l_9, l_10, l_16, l_20, l_40, l_48, l_99, l_200, l_999, l_9999, oN, iI_add, iI_sub, iI_mul, iI_neg, Int.reduceAdd, Int.reduceSub, Int.reduceMul, Int.reduceNeg, iI_cl, cl_30, sg_30_e0, CB_t h, cr_cell (I := I) (b := b), iI_div, em_]
  rfl
theorem c_34 (hb : b < 11) (h : CB I b) {t w : Int} (h0 : 0 ≤ t) (h1 : t ≤ 1000000) (hw : w = 0 ∨ w = 1 ∨ w = 2 ∨ w = 3) : am_do X 34 [.ref (am_bd b), .int (iI t), .int (iI w)] (am_sh I J) = some (some (.int (iI (if w = 0 then ps_x (cr I b) (ps_s (cr I b) t) else if w = 1 then ps_y (cr I b) (ps_s (cr I b) t) else if w = 2 then ps_z (cr I b) (ps_s (cr I b) t) else ps_h (cr I b) (ps_s (cr I b) t)))), am_sh I J) := by
  have ok := CB_ok h
  have hs := ps_s_rg ok t
  unfold ps_ok at ok
  rcases hw with rfl | rfl | rfl | rfl
  · simp (disch := first | omega | assumption | exact cat_n | exact cat_i _ | exact cat_r _ | (simp (disch := omega) only [l_0, l_1, l_m1, l_2, l_3, l_4, l_5, l_6, l_7, l_8, l_9, l_10, l_16, l_20, l_40, l_48, l_99, l_200, l_999, l_9999, oN, iI_add, iI_sub, iI_mul, iI_neg, Int.reduceAdd, Int.reduceSub, Int.reduceMul, Int.reduceNeg, iI_lt, iI_le, iI_eq, iI_cl, true_or, or_true, false_or, or_false, true_and, and_true, not_true_eq_false, not_false_eq_true]; first | done | omega)) only [↓if_pos, ↓if_neg, Option.bind_some, Option.toList_some, Option.toList_none, List.cons_append, List.nil_append, l_0, l_1, l_m1, l_2, l_3, l_4, l_5, l_6, l_7, l_8, l_9, l_10, l_16, l_20, l_40, l_48, l_99, l_200, l_999, l_9999, oN, iI_add, iI_sub, iI_mul, iI_neg, Int.reduceAdd, Int.reduceSub, Int.reduceMul, Int.reduceNeg, iI_cl, cl_34, sg_34_e0, c_30 hb h, sg_34_3, CB_x h]
  · simp (disch := first | omega | assumption | exact cat_n | exact cat_i _ | exact cat_r _ | (simp (disch := omega) only [l_0, l_1, l_m1, l_2, l_3, l_4, l_5, l_6, l_7, l_8, l_9, l_10, l_16, l_20, l_40, l_48, l_99, l_200, l_999, l_9999, oN, iI_add, iI_sub, iI_mul, iI_neg, Int.reduceAdd, Int.reduceSub, Int.reduceMul, Int.reduceNeg, iI_lt, iI_le, iI_eq, iI_cl, true_or, or_true, false_or, or_false, true_and, and_true, not_true_eq_false, not_false_eq_true]; first | done | omega)) only [↓if_pos, ↓if_neg, Option.bind_some, Option.toList_some, Option.toList_none, List.cons_append, List.nil_append, l_0, l_1, l_m1, l_2, l_3, l_4, l_5, l_6, l_7, l_8, l_9, l_10, l_16, l_20, l_40, l_48, l_99, l_200, l_999, l_9999, oN, iI_add, iI_sub, iI_mul, iI_neg, Int.reduceAdd, Int.reduceSub, Int.reduceMul, Int.reduceNeg, iI_cl, cl_34, sg_34_e0, c_30 hb h, sg_34_3, CB_y h]
  · simp (disch := first | omega | assumption | exact cat_n | exact cat_i _ | exact cat_r _ | (simp (disch := omega) only [l_0, l_1, l_m1, l_2, l_3, l_4, l_5, l_6, l_7, l_8, l_9, l_10, l_16, l_20, l_40, l_48, l_99, l_200, l_999, l_9999, oN, iI_add, iI_sub, iI_mul, iI_neg, Int.reduceAdd, Int.reduceSub, Int.reduceMul, Int.reduceNeg, iI_lt, iI_le, iI_eq, iI_cl, true_or, or_true, false_or, or_false, true_and, and_true, not_true_eq_false, not_false_eq_true]; first | done | omega)) only [↓if_pos, ↓if_neg, Option.bind_some, Option.toList_some, Option.toList_none, List.cons_append, List.nil_append, l_0, l_1, l_m1, l_2, l_3, l_4, l_5, l_6, l_7, l_8, l_9, l_10, l_16, l_20, l_40, l_48, l_99, l_200, l_999, l_9999, oN, iI_add, iI_sub, iI_mul, iI_neg, Int.reduceAdd, Int.reduceSub, Int.reduceMul, Int.reduceNeg, iI_cl, cl_34, sg_34_e0, c_30 hb h, sg_34_3, CB_z h]
  · simp (disch := first | omega | assumption | exact cat_n | exact cat_i _ | exact cat_r _ | (simp (disch := omega) only [l_0, l_1, l_m1, l_2, l_3, l_4, l_5, l_6, l_7, l_8, l_9, l_10, l_16, l_20, l_40, l_48, l_99, l_200, l_999, l_9999, oN, iI_add, iI_sub, iI_mul, iI_neg, Int.reduceAdd, Int.reduceSub, Int.reduceMul, Int.reduceNeg, iI_lt, iI_le, iI_eq, iI_cl, true_or, or_true, false_or, or_false, true_and, and_true, not_true_eq_false, not_false_eq_true]; first | done | omega)) only [↓if_pos, ↓if_neg, Option.bind_some, Option.toList_some, Option.toList_none, List.cons_append, List.nil_append, l_0, l_1, l_m1, l_2, l_3, l_4, l_5, l_6, l_7, l_8, l_9, l_10, l_16, l_20, l_40, l_48, l_99, l_200, l_999, l_9999, oN, iI_add, iI_sub, iI_mul, iI_neg, Int.reduceAdd, Int.reduceSub, Int.reduceMul, Int.reduceNeg, iI_cl, cl_34, sg_34_e0, c_30 hb h, sg_34_3, CB_h h]
theorem c_34n (hb : b < 11) (h : CB I b) {t w : Int} (h0 : 0 ≤ t) (h1 : t ≤ 1000000) (z1 : -2147483648 ≤ w) (z2 : w < 2147483648) (hw : ¬ (0 ≤ w ∧ w ≤ 3)) : am_do X 34 [.ref (am_bd b), .int (iI t), .int (iI w)] (am_sh I J) = some (some (.int (iI (-1000000))), am_sh I J) := by
  have ok := CB_ok h
  have hs := ps_s_rg ok t
  unfold ps_ok at ok
  have l : (-1000000 : Int32) = iI (-1000000) := rfl
  simp (disch := first | omega | assumption | exact cat_n | exact cat_i _ | exact cat_r _ | (simp (disch := omega) only [l_0, l_1, l_m1, l_2, l_3, l_4, l_5, l_6, l_7, l_8, l_9, l_10, l_16, l_20, l_40, l_48, l_99, l_200, l_999, l_9999, oN, iI_add, iI_sub, iI_mul, iI_neg, Int.reduceAdd, Int.reduceSub, Int.reduceMul, Int.reduceNeg, iI_lt, iI_le, iI_eq, iI_cl, true_or, or_true, false_or, or_false, true_and, and_true, not_true_eq_false, not_false_eq_true]; first | done | omega)) only [↓if_pos, ↓if_neg, Option.bind_some, Option.toList_some, Option.toList_none, List.cons_append, List.nil_append, l_0, l_1, l_m1, l_2, l_3, l_4, l_5, l_6, l_7, l_8, l_9, l_10, l_16, l_20, l_40, l_48, l_99, l_200, l_999, l_9999, oN, iI_add, iI_sub, iI_mul, iI_neg, Int.reduceAdd, Int.reduceSub, Int.reduceMul, Int.reduceNeg, iI_cl, cl_34, sg_34_e0, c_30 hb h, sg_34_3, l]
theorem c_35 (hb : b < 11) (ho : o < 11) (h : CB I b) (g : CB I o) {s u : Int} (h0 : 0 ≤ s) (h1 : s < cr I b 2) (h2 : 0 ≤ u) (h3 : u < cr I o 2) : am_do X 35 [.ref (am_bd b), .int (iI s), .ref (am_bd o), .int (iI u)] (am_sh I J) = some (some (.int (iI (ps_d (cr I b) (cr I o) s u))), am_sh I J) := by
  have ok := CB_ok h
  have ok2 := CB_ok g
  unfold ps_ok at ok ok2
  simp (disch := first | omega | assumption | exact cat_n | exact cat_i _ | exact cat_r _ | (simp (disch := omega) only [l_0, l_1, l_m1, l_2, l_3, l_4, l_5, l_6, l_7, l_8, l_9, l_10, l_16, l_20, l_40, l_48, l_99, l_200, l_999, l_9999, oN, iI_add, iI_sub, iI_mul, iI_neg, Int.reduceAdd, Int.reduceSub, Int.reduceMul, Int.reduceNeg, iI_lt, iI_le, iI_eq, iI_cl, true_or, or_true, false_or, or_false, true_and, and_true, not_true_eq_false, not_false_eq_true]; first | done | omega)) only [↓if_pos, ↓if_neg, Option.bind_some, Option.toList_some, Option.toList_none, List.cons_append, List.nil_append, l_0, l_1, l_m1, l_2, l_3, l_4, l_5, l_6, l_7, l_8, l_9, l_10, l_16, l_20, l_40, l_48, l_99, l_200, l_999, l_9999, oN, iI_add, iI_sub, iI_mul, iI_neg, Int.reduceAdd, Int.reduceSub, Int.reduceMul, Int.reduceNeg, iI_cl, cl_35, sg_35_e0, CB_x h, CB_y h, CB_z h, CB_x g, CB_y g, CB_z g]
  rfl
theorem sq_gt {x y z e : Int} (he : 0 ≤ e) (h : e < x ∨ x < -e) : e * e < sq_ x y z := by
  have h1 := sq_nn y
  have h2 := sq_nn z
  have h3 : (e + 1) * (e + 1) ≤ x * x := by
    rcases h with h | h
    · exact sq_mono (by omega) (by omega)
    · have := sq_mono (a := e + 1) (b := -x) (by omega) (by omega)
      rw [Int.neg_mul_neg] at this
      exact this
  have h4 : (e + 1) * (e + 1) = e * e + 2 * e + 1 := by grind
  unfold sq_
  omega
theorem c_36t (hb : b < 11) (ho : o < 11) (h : CB I b) (g : CB I o) {e s u : Int} (e0 : 0 ≤ e) (e1 : e ≤ 99) (h0 : 0 ≤ s) (h1 : s < cr I b 2) (h2 : 0 ≤ u) (h3 : u < cr I o 2) (hd : ps_d (cr I b) (cr I o) s u ≤ e * e) : am_do X 36 [.ref (am_bd b), .int (iI e), .int (iI s), .ref (am_bd o), .int (iI u)] (am_sh I J) = some (some (.int (iI 1)), am_sh I J) := by
  have ok := CB_ok h
  have ok2 := CB_ok g
  have r1 := ps_d_rg ok ok2 h0 h1 h2 h3
  have r2 := ps_rg ok h0 h1
  have r3 := ps_rg ok2 h2 h3
  have hx : ¬ (e < ps_x (cr I b) s - ps_x (cr I o) u ∨ ps_x (cr I b) s - ps_x (cr I o) u < -e) := fun q => by
    have : e * e < ps_d (cr I b) (cr I o) s u := sq_gt e0 q
    omega
  have r4 := sq_nn e
  have r5 := sq_rg (a := e) (by omega)
  unfold ps_d sq_ at hd r1
  unfold ps_ok at ok ok2
  simp (disch := first | omega | assumption | exact cat_n | exact cat_i _ | exact cat_r _ | (simp (disch := omega) only [l_0, l_1, l_m1, l_2, l_3, l_4, l_5, l_6, l_7, l_8, l_9, l_10, l_16, l_20, l_40, l_48, l_99, l_200, l_999, l_9999, oN, iI_add, iI_sub, iI_mul, iI_neg, Int.reduceAdd, Int.reduceSub, Int.reduceMul, Int.reduceNeg, iI_lt, iI_le, iI_eq, iI_cl, true_or, or_true, false_or, or_false, true_and, and_true, not_true_eq_false, not_false_eq_true]; first | done | omega)) only [↓if_pos, ↓if_neg, Option.bind_some, Option.toList_some, Option.toList_none, List.cons_append, List.nil_append, l_0, l_1, l_m1, l_2, l_3, l_4, l_5, l_6, l_7, l_8, l_9, l_10, l_16, l_20, l_40, l_48, l_99, l_200, l_999, l_9999, oN, iI_add, iI_sub, iI_mul, iI_neg, Int.reduceAdd, Int.reduceSub, Int.reduceMul, Int.reduceNeg, iI_cl, cl_36, sg_36_e0, CB_x h, CB_y h, CB_z h, CB_x g, CB_y g, CB_z g]
theorem c_36f (hb : b < 11) (ho : o < 11) (h : CB I b) (g : CB I o) {e s u : Int} (e0 : 0 ≤ e) (e1 : e ≤ 99) (h0 : 0 ≤ s) (h1 : s < cr I b 2) (h2 : 0 ≤ u) (h3 : u < cr I o 2) (hd : e * e < ps_d (cr I b) (cr I o) s u) : am_do X 36 [.ref (am_bd b), .int (iI e), .int (iI s), .ref (am_bd o), .int (iI u)] (am_sh I J) = some (some (.int (iI 0)), am_sh I J) := by
  have ok := CB_ok h
  have ok2 := CB_ok g
  have r1 := ps_d_rg ok ok2 h0 h1 h2 h3
  have r2 := ps_rg ok h0 h1
  have r3 := ps_rg ok2 h2 h3
  have r4 := sq_nn e
  have r5 := sq_rg (a := e) (by omega)
  unfold ps_d sq_ at hd r1
  unfold ps_ok at ok ok2
  by_cases q1 : e < ps_x (cr I b) s - ps_x (cr I o) u
  · simp (disch := first | omega | assumption | exact cat_n | exact cat_i _ | exact cat_r _ | (simp (disch := omega) only [l_0, l_1, l_m1, l_2, l_3, l_4, l_5, l_6, l_7, l_8, l_9, l_10, l_16, l_20, l_40, l_48, l_99, l_200, l_999, l_9999, oN, iI_add, iI_sub, iI_mul, iI_neg, Int.reduceAdd, Int.reduceSub, Int.reduceMul, Int.reduceNeg, iI_lt, iI_le, iI_eq, iI_cl, true_or, or_true, false_or, or_false, true_and, and_true, not_true_eq_false, not_false_eq_true]; first | done | omega)) only [↓if_pos, ↓if_neg, Option.bind_some, Option.toList_some, Option.toList_none, List.cons_append, List.nil_append, l_0, l_1, l_m1, l_2, l_3, l_4, l_5, l_6, l_7, l_8, l_9, l_10, l_16, l_20, l_40, l_48, l_99, l_200, l_999, l_9999, oN, iI_add, iI_sub, iI_mul, iI_neg, Int.reduceAdd, Int.reduceSub, Int.reduceMul, Int.reduceNeg, iI_cl, cl_36, sg_36_e0, CB_x h, CB_y h, CB_z h, CB_x g, CB_y g, CB_z g]
  · by_cases q2 : ps_x (cr I b) s - ps_x (cr I o) u < -e
    · simp (disch := first | omega | assumption | exact cat_n | exact cat_i _ | exact cat_r _ | (simp (disch := omega) only [l_0, l_1, l_m1, l_2, l_3, l_4, l_5, l_6, l_7, l_8, l_9, l_10, l_16, l_20, l_40, l_48, l_99, l_200, l_999, l_9999, oN, iI_add, iI_sub, iI_mul, iI_neg, Int.reduceAdd, Int.reduceSub, Int.reduceMul, Int.reduceNeg, iI_lt, iI_le, iI_eq, iI_cl, true_or, or_true, false_or, or_false, true_and, and_true, not_true_eq_false, not_false_eq_true]; first | done | omega)) only [↓if_pos, ↓if_neg, Option.bind_some, Option.toList_some, Option.toList_none, List.cons_append, List.nil_append, l_0, l_1, l_m1, l_2, l_3, l_4, l_5, l_6, l_7, l_8, l_9, l_10, l_16, l_20, l_40, l_48, l_99, l_200, l_999, l_9999, oN, iI_add, iI_sub, iI_mul, iI_neg, Int.reduceAdd, Int.reduceSub, Int.reduceMul, Int.reduceNeg, iI_cl, cl_36, sg_36_e0, CB_x h, CB_y h, CB_z h, CB_x g, CB_y g, CB_z g]
    · simp (disch := first | omega | assumption | exact cat_n | exact cat_i _ | exact cat_r _ | (simp (disch := omega) only [l_0, l_1, l_m1, l_2, l_3, l_4, l_5, l_6, l_7, l_8, l_9, l_10, l_16, l_20, l_40, l_48, l_99, l_200, l_999, l_9999, oN, iI_add, iI_sub, iI_mul, iI_neg, Int.reduceAdd, Int.reduceSub, Int.reduceMul, Int.reduceNeg, iI_lt, iI_le, iI_eq, iI_cl, true_or, or_true, false_or, or_false, true_and, and_true, not_true_eq_false, not_false_eq_true]; first | done | omega)) only [↓if_pos, ↓if_neg, Option.bind_some, Option.toList_some, Option.toList_none, List.cons_append, List.nil_append, l_0, l_1, l_m1, l_2, l_3, l_4, l_5, l_6, l_7, l_8, l_9, l_10, l_16, l_20, l_40, l_48, l_99, l_200, l_999, l_9999, oN, iI_add, iI_sub, iI_mul, iI_neg, Int.reduceAdd, Int.reduceSub, Int.reduceMul, Int.reduceNeg, iI_cl, cl_36, sg_36_e0, CB_x h, CB_y h, CB_z h, CB_x g, CB_y g, CB_z g]
theorem c_37 (hb : b < 11) (ho : o < 11) (h : CB I b) (g : CB I o) {s : Int} (h0 : 0 ≤ s) (h1 : s < cr I b 2) : am_do X 37 [.ref (am_bd b), .ref (am_bd o), .int (iI s)] (am_sh I J) = some (some (.int (iI (ps_ln (cr I b) (cr I o) s))), am_sh I J) := by
  have ok := CB_ok h
  have ok2 := CB_ok g
  unfold ps_ok at ok ok2
  unfold ps_ln
  by_cases q0 : cr I o 6 = 0
  · simp (disch := first | omega | assumption | exact cat_n | exact cat_i _ | exact cat_r _ | (simp (disch := omega) only [l_0, l_1, l_m1, l_2, l_3, l_4, l_5, l_6, l_7, l_8, l_9, l_10, l_16, l_20, l_40, l_48, l_99, l_200, l_999, l_9999, oN, iI_add, iI_sub, iI_mul, iI_neg, Int.reduceAdd, Int.reduceSub, Int.reduceMul, Int.reduceNeg, iI_lt, iI_le, iI_eq, iI_cl, true_or, or_true, false_or, or_false, true_and, and_true, not_true_eq_false, not_false_eq_true]; first | done | omega)) only [↓if_pos, ↓if_neg, Option.bind_some, Option.toList_some, Option.toList_none, List.cons_append, List.nil_append, l_0, l_1, l_m1, l_2, l_3, l_4, l_5, l_6, l_7, l_8, l_9, l_10, l_16, l_20, l_40, l_48, l_99, l_200, l_999, l_9999, oN, iI_add, iI_sub, iI_mul, iI_neg, Int.reduceAdd, Int.reduceSub, Int.reduceMul, Int.reduceNeg, iI_cl, cl_37, sg_37_e0, CB_x h, CB_y h, CB_z h, cr_cell (I := I) (b := o)]
  · by_cases q1 : cr I o 6 = 1
    · simp (disch := first | omega | assumption | exact cat_n | exact cat_i _ | exact cat_r _ | (simp (disch := omega) only [l_0, l_1, l_m1, l_2, l_3, l_4, l_5, l_6, l_7, l_8, l_9, l_10, l_16, l_20, l_40, l_48, l_99, l_200, l_999, l_9999, oN, iI_add, iI_sub, iI_mul, iI_neg, Int.reduceAdd, Int.reduceSub, Int.reduceMul, Int.reduceNeg, iI_lt, iI_le, iI_eq, iI_cl, true_or, or_true, false_or, or_false, true_and, and_true, not_true_eq_false, not_false_eq_true]; first | done | omega)) only [↓if_pos, ↓if_neg, Option.bind_some, Option.toList_some, Option.toList_none, List.cons_append, List.nil_append, l_0, l_1, l_m1, l_2, l_3, l_4, l_5, l_6, l_7, l_8, l_9, l_10, l_16, l_20, l_40, l_48, l_99, l_200, l_999, l_9999, oN, iI_add, iI_sub, iI_mul, iI_neg, Int.reduceAdd, Int.reduceSub, Int.reduceMul, Int.reduceNeg, iI_cl, cl_37, sg_37_e0, CB_x h, CB_y h, CB_z h, cr_cell (I := I) (b := o)]
    · by_cases q2 : cr I o 6 = 2
      · simp (disch := first | omega | assumption | exact cat_n | exact cat_i _ | exact cat_r _ | (simp (disch := omega) only [l_0, l_1, l_m1, l_2, l_3, l_4, l_5, l_6, l_7, l_8, l_9, l_10, l_16, l_20, l_40, l_48, l_99, l_200, l_999, l_9999, oN, iI_add, iI_sub, iI_mul, iI_neg, Int.reduceAdd, Int.reduceSub, Int.reduceMul, Int.reduceNeg, iI_lt, iI_le, iI_eq, iI_cl, true_or, or_true, false_or, or_false, true_and, and_true, not_true_eq_false, not_false_eq_true]; first | done | omega)) only [↓if_pos, ↓if_neg, Option.bind_some, Option.toList_some, Option.toList_none, List.cons_append, List.nil_append, l_0, l_1, l_m1, l_2, l_3, l_4, l_5, l_6, l_7, l_8, l_9, l_10, l_16, l_20, l_40, l_48, l_99, l_200, l_999, l_9999, oN, iI_add, iI_sub, iI_mul, iI_neg, Int.reduceAdd, Int.reduceSub, Int.reduceMul, Int.reduceNeg, iI_cl, cl_37, sg_37_e0, CB_x h, CB_y h, CB_z h, cr_cell (I := I) (b := o)]
      · simp (disch := first | omega | assumption | exact cat_n | exact cat_i _ | exact cat_r _ | (simp (disch := omega) only [l_0, l_1, l_m1, l_2, l_3, l_4, l_5, l_6, l_7, l_8, l_9, l_10, l_16, l_20, l_40, l_48, l_99, l_200, l_999, l_9999, oN, iI_add, iI_sub, iI_mul, iI_neg, Int.reduceAdd, Int.reduceSub, Int.reduceMul, Int.reduceNeg, iI_lt, iI_le, iI_eq, iI_cl, true_or, or_true, false_or, or_false, true_and, and_true, not_true_eq_false, not_false_eq_true]; first | done | omega)) only [↓if_pos, ↓if_neg, Option.bind_some, Option.toList_some, Option.toList_none, List.cons_append, List.nil_append, l_0, l_1, l_m1, l_2, l_3, l_4, l_5, l_6, l_7, l_8, l_9, l_10, l_16, l_20, l_40, l_48, l_99, l_200, l_999, l_9999, oN, iI_add, iI_sub, iI_mul, iI_neg, Int.reduceAdd, Int.reduceSub, Int.reduceMul, Int.reduceNeg, iI_cl, cl_37, sg_37_e0, CB_x h, CB_y h, CB_z h, cr_cell (I := I) (b := o)]
theorem c_38t (hb : b < 11) (ho : o < 11) (h : ps_ok (cr I b)) (g : ps_ok (cr I o)) {e : Int} (e0 : 0 ≤ e) (e1 : e ≤ 99) (hd : ps_off e (cr I b) (cr I o)) : am_do X 38 [.ref (am_bd b), .ref (am_bd o), .int (iI e)] (am_sh I J) = some (some (.int (iI 1)), am_sh I J) := by
  unfold ps_ok at h g
  unfold ps_off at hd
  have e3 : 3 * e * e = 3 * (e * e) := Int.mul_assoc 3 e e
  have r4 := sq_nn e
  have r5 := sq_rg (a := e) (by omega)
  have r6 := sq_nn (cr I b 0 - cr I o 1 - 1)
  have r7 := sq_rg (a := cr I b 0 - cr I o 1 - 1) (by omega)
  have r8 := sq_nn (cr I o 0 - cr I b 1 - 1)
  have r9 := sq_rg (a := cr I o 0 - cr I b 1 - 1) (by omega)
  by_cases q : cr I b 0 - cr I o 1 ≤ cr I o 0 - cr I b 1
  · simp (disch := first | omega | assumption | exact cat_n | exact cat_i _ | exact cat_r _ | (simp (disch := omega) only [l_0, l_1, l_m1, l_2, l_3, l_4, l_5, l_6, l_7, l_8, l_9, l_10, l_16, l_20, l_40, l_48, l_99, l_200, l_999, l_9999, oN, iI_add, iI_sub, iI_mul, iI_neg, Int.reduceAdd, Int.reduceSub, Int.reduceMul, Int.reduceNeg, iI_lt, iI_le, iI_eq, iI_cl, true_or, or_true, false_or, or_false, true_and, and_true, not_true_eq_false, not_false_eq_true]; first | done | omega)) only [↓if_pos, ↓if_neg, Option.bind_some, Option.toList_some, Option.toList_none, List.cons_append, List.nil_append, l_0, l_1, l_m1, l_2, l_3, l_4, l_5, l_6, l_7, l_8, l_9, l_10, l_16, l_20, l_40, l_48, l_99, l_200, l_999, l_9999, oN, iI_add, iI_sub, iI_mul, iI_neg, Int.reduceAdd, Int.reduceSub, Int.reduceMul, Int.reduceNeg, iI_cl, cl_38, sg_38_e0, cr_cell (I := I) (b := o), cr_cell (I := I) (b := b), e3]
  · simp (disch := first | omega | assumption | exact cat_n | exact cat_i _ | exact cat_r _ | (simp (disch := omega) only [l_0, l_1, l_m1, l_2, l_3, l_4, l_5, l_6, l_7, l_8, l_9, l_10, l_16, l_20, l_40, l_48, l_99, l_200, l_999, l_9999, oN, iI_add, iI_sub, iI_mul, iI_neg, Int.reduceAdd, Int.reduceSub, Int.reduceMul, Int.reduceNeg, iI_lt, iI_le, iI_eq, iI_cl, true_or, or_true, false_or, or_false, true_and, and_true, not_true_eq_false, not_false_eq_true]; first | done | omega)) only [↓if_pos, ↓if_neg, Option.bind_some, Option.toList_some, Option.toList_none, List.cons_append, List.nil_append, l_0, l_1, l_m1, l_2, l_3, l_4, l_5, l_6, l_7, l_8, l_9, l_10, l_16, l_20, l_40, l_48, l_99, l_200, l_999, l_9999, oN, iI_add, iI_sub, iI_mul, iI_neg, Int.reduceAdd, Int.reduceSub, Int.reduceMul, Int.reduceNeg, iI_cl, cl_38, sg_38_e0, cr_cell (I := I) (b := o), cr_cell (I := I) (b := b), e3]
theorem c_38f (hb : b < 11) (ho : o < 11) (h : ps_ok (cr I b)) (g : ps_ok (cr I o)) {e : Int} (e0 : 0 ≤ e) (e1 : e ≤ 99) (hd : ¬ ps_off e (cr I b) (cr I o)) : am_do X 38 [.ref (am_bd b), .ref (am_bd o), .int (iI e)] (am_sh I J) = some (some (.int (iI 0)), am_sh I J) := by
  unfold ps_ok at h g
  unfold ps_off at hd
  have e3 : 3 * e * e = 3 * (e * e) := Int.mul_assoc 3 e e
  have r4 := sq_nn e
  have r5 := sq_rg (a := e) (by omega)
  have r6 := sq_nn (cr I b 0 - cr I o 1 - 1)
  have r7 := sq_rg (a := cr I b 0 - cr I o 1 - 1) (by omega)
  have r8 := sq_nn (cr I o 0 - cr I b 1 - 1)
  have r9 := sq_rg (a := cr I o 0 - cr I b 1 - 1) (by omega)
  by_cases q : cr I b 0 - cr I o 1 ≤ cr I o 0 - cr I b 1
  · by_cases q2 : cr I o 0 - cr I b 1 ≤ 0
    · simp (disch := first | omega | assumption | exact cat_n | exact cat_i _ | exact cat_r _ | (simp (disch := omega) only [l_0, l_1, l_m1, l_2, l_3, l_4, l_5, l_6, l_7, l_8, l_9, l_10, l_16, l_20, l_40, l_48, l_99, l_200, l_999, l_9999, oN, iI_add, iI_sub, iI_mul, iI_neg, Int.reduceAdd, Int.reduceSub, Int.reduceMul, Int.reduceNeg, iI_lt, iI_le, iI_eq, iI_cl, true_or, or_true, false_or, or_false, true_and, and_true, not_true_eq_false, not_false_eq_true]; first | done | omega)) only [↓if_pos, ↓if_neg, Option.bind_some, Option.toList_some, Option.toList_none, List.cons_append, List.nil_append, l_0, l_1, l_m1, l_2, l_3, l_4, l_5, l_6, l_7, l_8, l_9, l_10, l_16, l_20, l_40, l_48, l_99, l_200, l_999, l_9999, oN, iI_add, iI_sub, iI_mul, iI_neg, Int.reduceAdd, Int.reduceSub, Int.reduceMul, Int.reduceNeg, iI_cl, cl_38, sg_38_e0, cr_cell (I := I) (b := o), cr_cell (I := I) (b := b), e3]
    · simp (disch := first | omega | assumption | exact cat_n | exact cat_i _ | exact cat_r _ | (simp (disch := omega) only [l_0, l_1, l_m1, l_2, l_3, l_4, l_5, l_6, l_7, l_8, l_9, l_10, l_16, l_20, l_40, l_48, l_99, l_200, l_999, l_9999, oN, iI_add, iI_sub, iI_mul, iI_neg, Int.reduceAdd, Int.reduceSub, Int.reduceMul, Int.reduceNeg, iI_lt, iI_le, iI_eq, iI_cl, true_or, or_true, false_or, or_false, true_and, and_true, not_true_eq_false, not_false_eq_true]; first | done | omega)) only [↓if_pos, ↓if_neg, Option.bind_some, Option.toList_some, Option.toList_none, List.cons_append, List.nil_append, l_0, l_1, l_m1, l_2, l_3, l_4, l_5, l_6, l_7, l_8, l_9, l_10, l_16, l_20, l_40, l_48, l_99, l_200, l_999, l_9999, oN, iI_add, iI_sub, iI_mul, iI_neg, Int.reduceAdd, Int.reduceSub, Int.reduceMul, Int.reduceNeg, iI_cl, cl_38, sg_38_e0, cr_cell (I := I) (b := o), cr_cell (I := I) (b := b), e3]
  · by_cases q2 : cr I b 0 - cr I o 1 ≤ 0
    · simp (disch := first | omega | assumption | exact cat_n | exact cat_i _ | exact cat_r _ | (simp (disch := omega) only [l_0, l_1, l_m1, l_2, l_3, l_4, l_5, l_6, l_7, l_8, l_9, l_10, l_16, l_20, l_40, l_48, l_99, l_200, l_999, l_9999, oN, iI_add, iI_sub, iI_mul, iI_neg, Int.reduceAdd, Int.reduceSub, Int.reduceMul, Int.reduceNeg, iI_lt, iI_le, iI_eq, iI_cl, true_or, or_true, false_or, or_false, true_and, and_true, not_true_eq_false, not_false_eq_true]; first | done | omega)) only [↓if_pos, ↓if_neg, Option.bind_some, Option.toList_some, Option.toList_none, List.cons_append, List.nil_append, l_0, l_1, l_m1, l_2, l_3, l_4, l_5, l_6, l_7, l_8, l_9, l_10, l_16, l_20, l_40, l_48, l_99, l_200, l_999, l_9999, oN, iI_add, iI_sub, iI_mul, iI_neg, Int.reduceAdd, Int.reduceSub, Int.reduceMul, Int.reduceNeg, iI_cl, cl_38, sg_38_e0, cr_cell (I := I) (b := o), cr_cell (I := I) (b := b), e3]
    · simp (disch := first | omega | assumption | exact cat_n | exact cat_i _ | exact cat_r _ | (simp (disch := omega) only [l_0, l_1, l_m1, l_2, l_3, l_4, l_5, l_6, l_7, l_8, l_9, l_10, l_16, l_20, l_40, l_48, l_99, l_200, l_999, l_9999, oN, iI_add, iI_sub, iI_mul, iI_neg, Int.reduceAdd, Int.reduceSub, Int.reduceMul, Int.reduceNeg, iI_lt, iI_le, iI_eq, iI_cl, true_or, or_true, false_or, or_false, true_and, and_true, not_true_eq_false, not_false_eq_true]; first | done | omega)) only [↓if_pos, ↓if_neg, Option.bind_some, Option.toList_some, Option.toList_none, List.cons_append, List.nil_append, l_0, l_1, l_m1, l_2, l_3, l_4, l_5, l_6, l_7, l_8, l_9, l_10, l_16, l_20, l_40, l_48, l_99, l_200, l_999, l_9999, oN, iI_add, iI_sub, iI_mul, iI_neg, Int.reduceAdd, Int.reduceSub, Int.reduceMul, Int.reduceNeg, iI_cl, cl_38, sg_38_e0, cr_cell (I := I) (b := o), cr_cell (I := I) (b := b), e3]
/-- what goes into both turns -/
theorem l_39 (hb : b < 11) (ho : o < 11) : ∀ (y x r : Nat) (w : Value), w.category = 1 → y + r ≤ 48 → 0 < x → x ≤ 48 → am_ev X amP_39 8 [.ref (am_bd b), .ref (am_bd o), .int (iI x), .int (iI y), .int (iI r), w] [] (am_sh I J) = some (some (.int (iI (Nat.gcd x y : Nat))), am_sh I J) := by
  intro y
  induction y using Nat.strongRecOn with
  | _ y ih =>
    intro x r w hw h1 h2 h3
    by_cases q : y = 0
    · subst q
      rw [Nat.gcd_zero_right, c0]
      by_cases q1 : r = 48
      · simp (disch := first | omega | assumption | exact cat_n | exact cat_i _ | exact cat_r _ | (simp (disch := omega) only [l_0, l_1, l_m1, l_2, l_3, l_4, l_5, l_6, l_7, l_8, l_9, l_10, l_16, l_20, l_40, l_48, l_99, l_200, l_999, l_9999, oN, iI_add, iI_sub, iI_mul, iI_neg, Int.reduceAdd, Int.reduceSub, Int.reduceMul, Int.reduceNeg, iI_lt, iI_le, iI_eq, iI_cl, true_or, or_true, false_or, or_false, true_and, and_true, not_true_eq_false, not_false_eq_true]; first | done | omega)) only [↓if_pos, ↓if_neg, Option.bind_some, Option.toList_some, Option.toList_none, List.cons_append, List.nil_append, l_0, l_1, l_m1, l_2, l_3, l_4, l_5, l_6, l_7, l_8, l_9, l_10, l_16, l_20, l_40, l_48, l_99, l_200, l_999, l_9999, oN, iI_add, iI_sub, iI_mul, iI_neg, Int.reduceAdd, Int.reduceSub, Int.reduceMul, Int.reduceNeg, iI_cl, sg_39_8]
      · simp (disch := first | omega | assumption | exact cat_n | exact cat_i _ | exact cat_r _ | (simp (disch := omega) only [l_0, l_1, l_m1, l_2, l_3, l_4, l_5, l_6, l_7, l_8, l_9, l_10, l_16, l_20, l_40, l_48, l_99, l_200, l_999, l_9999, oN, iI_add, iI_sub, iI_mul, iI_neg, Int.reduceAdd, Int.reduceSub, Int.reduceMul, Int.reduceNeg, iI_lt, iI_le, iI_eq, iI_cl, true_or, or_true, false_or, or_false, true_and, and_true, not_true_eq_false, not_false_eq_true]; first | done | omega)) only [↓if_pos, ↓if_neg, Option.bind_some, Option.toList_some, Option.toList_none, List.cons_append, List.nil_append, l_0, l_1, l_m1, l_2, l_3, l_4, l_5, l_6, l_7, l_8, l_9, l_10, l_16, l_20, l_40, l_48, l_99, l_200, l_999, l_9999, oN, iI_add, iI_sub, iI_mul, iI_neg, Int.reduceAdd, Int.reduceSub, Int.reduceMul, Int.reduceNeg, iI_cl, sg_39_8]
    · have e : Nat.gcd x y = Nat.gcd y (x % y) := by rw [Nat.gcd_comm, Nat.gcd_rec, Nat.gcd_comm]
      have hm := Nat.mod_lt x (show y > 0 by omega)
      have e2 : ((x % y : Nat) : Int) = (x : Int) % (y : Int) := Int.natCast_emod x y
      rw [e]
      have := ih (x % y) hm y (r + 1) (.int (iI (x % y : Nat))) rfl (by omega) (by omega) (by omega)
      rw [← this, e2, cS, sg_39_8 (hb1 := hb) (hb2 := ho) (hw6 := hw)]
      simp (disch := first | omega | assumption | exact cat_n | exact cat_i _ | exact cat_r _ | (simp (disch := omega) only [l_0, l_1, l_m1, l_2, l_3, l_4, l_5, l_6, l_7, l_8, l_9, l_10, l_16, l_20, l_40, l_48, l_99, l_200, l_999, l_9999, oN, iI_add, iI_sub, iI_mul, iI_neg, Int.reduceAdd, Int.reduceSub, Int.reduceMul, Int.reduceNeg, iI_lt, iI_le, iI_eq, iI_cl, true_or, or_true, false_or, or_false, true_and, and_true, not_true_eq_false, not_false_eq_true]; first | done | omega)) only [↓if_pos, ↓if_neg, Option.bind_some, Option.toList_some, Option.toList_none, List.cons_append, List.nil_append, l_0, l_1, l_m1, l_2, l_3, l_4, l_5, l_6, l_7, l_8, l_9, l_10, l_16, l_20, l_40, l_48, l_99, l_200, l_999, l_9999, oN, iI_add, iI_sub, iI_mul, iI_neg, Int.reduceAdd, Int.reduceSub, Int.reduceMul, Int.reduceNeg, iI_cl, iI_div, em_]
theorem c_39 (hb : b < 11) (ho : o < 11) (h : ps_ok (cr I b)) (g : ps_ok (cr I o)) (hi : I (am_bd b) 1 = iI (cr I b 2)) (hj : I (am_bd o) 1 = iI (cr I o 2)) : am_do X 39 [.ref (am_bd b), .ref (am_bd o)] (am_sh I J) = some (some (.int (iI (Nat.gcd (cr I b 2).toNat (cr I o 2).toNat : Nat))), am_sh I J) := by
  unfold ps_ok at h g
  have e1 : cr I b 2 = ((cr I b 2).toNat : Int) := by omega
  have e2 : cr I o 2 = ((cr I o 2).toNat : Int) := by omega
  have := l_39 (X := X) (I := I) (J := J) hb ho (cr I o 2).toNat (cr I b 2).toNat 0 .null rfl (by omega) (by omega) (by omega)
  rw [← this, cl_39, sg_39_e0 (hb1 := hb) (hb2 := ho), hi, hj, ← e1, ← e2]
  rfl
/-- the cycle of two -/
theorem lcm_first {a c : Nat} (ha : 0 < a) (hc : 0 < c) : ∃ m, 0 < m ∧ m ≤ c ∧ a * m = Nat.lcm a c ∧ ∀ j, 0 < j → j < m → a * j % c ≠ 0 := by
  have hd : a ∣ Nat.lcm a c := Nat.dvd_lcm_left a c
  obtain ⟨m, hm⟩ := hd
  have hp : 0 < Nat.lcm a c := Nat.lcm_pos ha hc
  have hm0 : 0 < m := by
    rcases Nat.eq_zero_or_pos m with z | z
    · rw [z, Nat.mul_zero] at hm; omega
    · exact z
  refine ⟨m, hm0, ?_, hm.symm, ?_⟩
  · have h1 : Nat.lcm a c ∣ a * c := Nat.lcm_dvd (Nat.dvd_mul_right a c) (Nat.dvd_mul_left c a)
    have h2 := Nat.le_of_dvd (Nat.mul_pos ha hc) h1
    rw [hm] at h2
    exact Nat.le_of_mul_le_mul_left h2 ha
  · intro j hj hjm hz
    have h1 : Nat.lcm a c ∣ a * j := Nat.lcm_dvd (Nat.dvd_mul_right a j) (Nat.dvd_of_mod_eq_zero hz)
    have h2 := Nat.le_of_dvd (Nat.mul_pos ha hj) h1
    rw [hm] at h2
    have := Nat.le_of_mul_le_mul_left h2 ha
    omega
theorem c_40 (hb : b < 11) (ho : o < 11) (h : ps_ok (cr I b)) (g : ps_ok (cr I o)) (hi : I (am_bd b) 1 = iI (cr I b 2)) (hj : I (am_bd o) 1 = iI (cr I o 2)) : am_do X 40 [.ref (am_bd b), .ref (am_bd o)] (am_sh I J) = some (some (.int (iI (ps_cy (cr I b) (cr I o)))), am_sh I J) := by
  unfold ps_ok at h g
  unfold ps_cy
  obtain ⟨a, ea⟩ : ∃ a : Nat, cr I b 2 = a := ⟨(cr I b 2).toNat, by omega⟩
  obtain ⟨c, ec⟩ : ∃ c : Nat, cr I o 2 = c := ⟨(cr I o 2).toNat, by omega⟩
  rw [ea] at h hi
  rw [ec] at g hj
  rw [ea, ec]
  show _ = some (some (Value.int (iI (Nat.lcm a c : Nat))), am_sh I J)
  obtain ⟨m, m1, m2, m3, m4⟩ := lcm_first (a := a) (c := c) (by omega) (by omega)
  have hst : ∀ k, k < m - 1 → am_ev X amP_40 5 [.ref (am_bd b), .ref (am_bd o), .int (iI (a * (k + 1) : Nat)), .int (iI (k + 1 : Nat))] [] (am_sh I J) = am_ev X amP_40 5 [.ref (am_bd b), .ref (am_bd o), .int (iI (a * (k + 1 + 1) : Nat)), .int (iI (k + 1 + 1 : Nat))] [] (am_sh I J) := by
    intro k hk
    have hz := m4 (k + 1) (by omega) (by omega)
    have e1 : ((a * (k + 1) % c : Nat) : Int) = ((a * (k + 1) : Nat) : Int) % (c : Int) := Int.natCast_emod _ _
    have e2 : ((a * (k + 1 + 1) : Nat) : Int) = ((a * (k + 1) : Nat) : Int) + (a : Int) := by rw [Nat.mul_succ]; rfl
    have hle : a * (k + 1) ≤ 48 * 48 := Nat.mul_le_mul (by omega) (by omega)
    generalize a * (k + 1) = A at *
    have e4 := Int.emod_nonneg (A : Int) (show (c : Int) ≠ 0 by omega)
    have e5 := Int.emod_lt_of_pos (A : Int) (show 0 < (c : Int) by omega)
    have e6 : ¬ ((A : Int) % (c : Int) = 0) := by rw [← e1]; omega
    rw [e2, cS (k + 1), sg_40_5 (hb1 := hb) (hb2 := ho)]
    simp (disch := first | omega | assumption | exact cat_n | exact cat_i _ | exact cat_r _ | (simp (disch := omega) only [l_0, l_1, l_m1, l_2, l_3, l_4, l_5, l_6, l_7, l_8, l_9, l_10, l_16, l_20, l_40, l_48, l_99, l_200, l_999, l_9999, oN, iI_add, iI_sub, iI_mul, iI_neg, Int.reduceAdd, Int.reduceSub, Int.reduceMul, Int.reduceNeg, iI_lt, iI_le, iI_eq, iI_cl, true_or, or_true, false_or, or_false, true_and, and_true, not_true_eq_false, not_false_eq_true]; first | done | omega)) only [↓if_pos, ↓if_neg, Option.bind_some, Option.toList_some, Option.toList_none, List.cons_append, List.nil_append, l_0, l_1, l_m1, l_2, l_3, l_4, l_5, l_6, l_7, l_8, l_9, l_10, l_16, l_20, l_40, l_48, l_99, l_200, l_999, l_9999, oN, iI_add, iI_sub, iI_mul, iI_neg, Int.reduceAdd, Int.reduceSub, Int.reduceMul, Int.reduceNeg, iI_cl, hi, hj, iI_div, em_]
  have hl := lp (n := m - 1) (fun k => am_ev X amP_40 5 [.ref (am_bd b), .ref (am_bd o), .int (iI (a * (k + 1) : Nat)), .int (iI (k + 1 : Nat))] [] (am_sh I J)) hst (m - 1) (Nat.le_refl _)
  have em : m - 1 + 1 = m := by omega
  simp only [Nat.zero_add, Nat.mul_one, em, m3] at hl
  rw [cl_40, sg_40_e0 (hb1 := hb) (hb2 := ho), hi]
  refine hl.trans ?_
  have hle : Nat.lcm a c ≤ 48 * 48 := by rw [← m3]; exact Nat.mul_le_mul (by omega) (by omega)
  have hz : ((Nat.lcm a c : Nat) : Int) % (c : Int) = 0 := by
    have : Nat.lcm a c % c = 0 := Nat.mod_eq_zero_of_dvd (Nat.dvd_lcm_right a c)
    rw [← Int.natCast_emod, this]
    rfl
  generalize Nat.lcm a c = A at *
  by_cases q : m = c
  · rw [sg_40_5 (hb1 := hb) (hb2 := ho)]
    simp (disch := first | omega | assumption | exact cat_n | exact cat_i _ | exact cat_r _ | (simp (disch := omega) only [l_0, l_1, l_m1, l_2, l_3, l_4, l_5, l_6, l_7, l_8, l_9, l_10, l_16, l_20, l_40, l_48, l_99, l_200, l_999, l_9999, oN, iI_add, iI_sub, iI_mul, iI_neg, Int.reduceAdd, Int.reduceSub, Int.reduceMul, Int.reduceNeg, iI_lt, iI_le, iI_eq, iI_cl, true_or, or_true, false_or, or_false, true_and, and_true, not_true_eq_false, not_false_eq_true]; first | done | omega)) only [↓if_pos, ↓if_neg, Option.bind_some, Option.toList_some, Option.toList_none, List.cons_append, List.nil_append, l_0, l_1, l_m1, l_2, l_3, l_4, l_5, l_6, l_7, l_8, l_9, l_10, l_16, l_20, l_40, l_48, l_99, l_200, l_999, l_9999, oN, iI_add, iI_sub, iI_mul, iI_neg, Int.reduceAdd, Int.reduceSub, Int.reduceMul, Int.reduceNeg, iI_cl, hi, hj, iI_div, em_]
  · rw [sg_40_5 (hb1 := hb) (hb2 := ho)]
    simp (disch := first | omega | assumption | exact cat_n | exact cat_i _ | exact cat_r _ | (simp (disch := omega) only [l_0, l_1, l_m1, l_2, l_3, l_4, l_5, l_6, l_7, l_8, l_9, l_10, l_16, l_20, l_40, l_48, l_99, l_200, l_999, l_9999, oN, iI_add, iI_sub, iI_mul, iI_neg, Int.reduceAdd, Int.reduceSub, Int.reduceMul, Int.reduceNeg, iI_lt, iI_le, iI_eq, iI_cl, true_or, or_true, false_or, or_false, true_and, and_true, not_true_eq_false, not_false_eq_true]; first | done | omega)) only [↓if_pos, ↓if_neg, Option.bind_some, Option.toList_some, Option.toList_none, List.cons_append, List.nil_append, l_0, l_1, l_m1, l_2, l_3, l_4, l_5, l_6, l_7, l_8, l_9, l_10, l_16, l_20, l_40, l_48, l_99, l_200, l_999, l_9999, oN, iI_add, iI_sub, iI_mul, iI_neg, Int.reduceAdd, Int.reduceSub, Int.reduceMul, Int.reduceNeg, iI_cl, hi, hj, iI_div, em_]
end S30
