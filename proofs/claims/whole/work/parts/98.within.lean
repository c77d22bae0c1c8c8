/-! TRIALS: the first of some steps at which the tried one is within a gap -/
section S98
variable {X : am_X} {I : Nat → Nat → Int32} {J : Nat → Nat → Int64} {b o : Nat}
theorem c_36b (hb : b < 11) (ho : o < 11) (h : CB I b) (g : CB I o) {e s u : Int} (e0 : 0 ≤ e) (e1 : e ≤ 99) (h0 : 0 ≤ s) (h1 : s < cr I b 2) (h2 : 0 ≤ u) (h3 : u < cr I o 2) : am_do X 36 [.ref (am_bd b), .int (iI e), .int (iI s), .ref (am_bd o), .int (iI u)] (am_sh I J) = some (some (.int (bI (ps_d (cr I b) (cr I o) s u ≤ e * e))), am_sh I J) := by
  by_cases q : ps_d (cr I b) (cr I o) s u ≤ e * e
  · rw [bI_t q]; exact c_36t hb ho h g e0 e1 h0 h1 h2 h3 q
  · rw [bI_f q]; exact c_36f hb ho h g e0 e1 h0 h1 h2 h3 (by omega)
/-- off by x alone -/
theorem off_x {f g : Nat → Int} {e s u : Int} (e0 : 0 ≤ e) (h : e < ps_x f s - ps_x g u ∨ ps_x f s - ps_x g u < -e) : e * e < ps_d f g s u := by
  unfold ps_d sq_
  have h1 : e * e < (ps_x f s - ps_x g u) * (ps_x f s - ps_x g u) := by
    generalize ps_x f s - ps_x g u = x at *
    have e2 : (e + 1) * (e + 1) = e * e + 2 * e + 1 := by
      rw [Int.add_mul, Int.mul_add, Int.mul_one, Int.one_mul]
      omega
    rcases h with h | h
    · have := Int.mul_le_mul (a := e + 1) (b := e + 1) (c := x) (d := x) (by omega) (by omega) (by omega) (by omega)
      omega
    · have := Int.mul_le_mul (a := e + 1) (b := e + 1) (c := -x) (d := -x) (by omega) (by omega) (by omega) (by omega)
      rw [Int.neg_mul_neg] at this
      omega
  have h2 := sq_nn (ps_y f s - ps_y g u)
  have h3 := sq_nn (ps_z f s - ps_z g u)
  omega
set_option maxHeartbeats 1000000 in
theorem c_41 (hb : b < 11) (ho : o < 11) (h : CB I b) (g : CB I o) {e fr n : Int} (e0 : 0 ≤ e) (e1 : e ≤ 99) (f0 : 0 ≤ fr) (f1 : fr < 48) (n0 : 0 ≤ n) (n1 : n ≤ 48) : ∃ v : Int, am_do X 41 [.ref (am_bd b), .int (iI e), .ref (am_bd o), .int (iI fr), .int (iI n)] (am_sh I J) = some (some (.int (iI v)), am_sh I J) ∧ ((v = -1 ∧ (48 ≤ n → ¬ nr_ e (cr I b) (cr I o))) ∨ (0 ≤ v ∧ v < 48 ∧ nr_ e (cr I b) (cr I o))) := by
  have okf := h.1
  have okg := g.1
  have tf := h.2.1
  have tg := g.2.1
  have p3f : I (am_bd b + 1) 3 = iI (cr I b 3) := cr_c rfl (by omega)
  have p3g : I (am_bd o + 1) 3 = iI (cr I o 3) := cr_c rfl (by omega)
  have e39 : am_do X 39 [.ref (am_bd b), .ref (am_bd o)] (am_sh I J) = some (some (.int (iI (gc (cr I b) (cr I o)))), am_sh I J) := c_39 hb ho okf okg tf tg
  have hof := nr_OF (e := e) okf okg
  have hg := gc_pos (g := cr I o) okf
  obtain ⟨q1, hq1⟩ := gc_d1 (g := cr I o) okf
  obtain ⟨q2, hq2⟩ := gc_d2 (f := cr I b) okg
  have cx : ∀ s : Int, 0 ≤ s → s < cr I b 2 → I (am_bd b + 2) s.toNat = iI (ps_x (cr I b) s) := fun s h0 h1 => CB_x h h0 h1
  have cx2 : ∀ s : Int, 0 ≤ s → s < cr I o 2 → I (am_bd o + 2) s.toNat = iI (ps_x (cr I o) s) := fun s h0 h1 => CB_x g h0 h1
  have c36 : ∀ s u : Int, 0 ≤ s → s < cr I b 2 → 0 ≤ u → u < cr I o 2 → am_do X 36 [.ref (am_bd b), .int (iI e), .int (iI s), .ref (am_bd o), .int (iI u)] (am_sh I J) = some (some (.int (bI (ps_d (cr I b) (cr I o) s u ≤ e * e))), am_sh I J) := fun s u h0 h1 h2 h3 => c_36b hb ho h g e0 e1 h0 h1 h2 h3
  have xb : ∀ s : Int, 0 ≤ s → s < cr I b 2 → (ps_x (cr I b) s).natAbs ≤ 200 := fun s h0 h1 => (ps_rg okf h0 h1).1
  have xo : ∀ s : Int, 0 ≤ s → s < cr I o 2 → (ps_x (cr I o) s).natAbs ≤ 200 := fun s h0 h1 => (ps_rg okg h0 h1).1
  have e38t := fun hd => c_38t (X := X) (J := J) hb ho okf okg e0 e1 hd
  have e38f := fun hd => c_38f (X := X) (J := J) hb ho okf okg e0 e1 hd
  obtain ⟨⟨-, -, -⟩, ⟨o4, o5⟩, ⟨o6, o7⟩, -⟩ := okf
  obtain ⟨⟨-, -, -⟩, ⟨r4, r5⟩, ⟨r6, r7⟩, -⟩ := okg
  by_cases qo : ps_off e (cr I b) (cr I o)
  · refine ⟨-1, ?_, Or.inl ⟨rfl, fun _ => nr_off h.1 g.1 qo⟩⟩
    rw [cl_41, sg_41_e0 (hb1 := hb) (hb3 := ho), e39]
    show am_ev X amP_41 3 _ [.int (iI (gc (cr I b) (cr I o)))] (am_sh I J) = _
    rw [sg_41_3 (hb1 := hb) (hb3 := ho) (hw6 := cat_n) (hw7 := cat_n) (hw8 := cat_n) (hw9 := cat_n) (hw10 := cat_n) (hw11 := cat_n) (hw12 := cat_n), e38t qo]
    show am_ev X amP_41 18 _ [.int (iI 1)] (am_sh I J) = _
    rw [sg_41_18 (hb1 := hb) (hb3 := ho) (hw8 := cat_n) (hw9 := cat_n) (hw10 := cat_n) (hw11 := cat_n) (hw12 := cat_n)]
    simp (disch := first | omega | assumption | exact cat_n | exact cat_i _ | exact cat_r _ | (simp (disch := omega) only [l_0, l_1, l_m1, l_2, l_3, l_4, l_5, l_6, l_7, l_8, l_9, l_10, l_16, l_20, l_40, l_48, l_99, l_200, l_999, l_9999, li_73, li_78, li_m1000000, li_90, li_251, li_400, li_2400, li_91, li_153, li_173, li_96, li_32, li_92, li_12, li_93, li_80, li_14, li_1000000000, li_30, li_11, li_24, li_13, li_97, li_64, li_1600, li_49, li_255, li_2147483647, li_12345, li_1103515245, li_59, li_57, li_122, li_1023, li_1000000, li_52, li_51, li_50, li_47, li_46, li_45, li_44, li_43, li_42, li_41, li_39, li_38, li_37, li_36, li_35, li_34, li_33, li_29, li_28, li_27, li_26, li_25, li_23, li_22, li_21, li_19, li_18, li_17, li_15, li_m8, li_m2, li_60, li_54, li_2907, li_151, li_127, oN, iI_add, iI_sub, iI_mul, iI_neg, Int.reduceAdd, Int.reduceSub, Int.reduceMul, Int.reduceNeg, Int.toNat_natCast, Int.reduceToNat, iI_lt, iI_le, iI_eq, iI_cl, true_or, or_true, false_or, or_false, true_and, and_true, not_true_eq_false, not_false_eq_true]; first | done | omega)) only [↓if_pos, ↓if_neg, Option.bind_some, Option.toList_some, Option.toList_none, List.cons_append, List.nil_append, l_0, l_1, l_m1, l_2, l_3, l_4, l_5, l_6, l_7, l_8, l_9, l_10, l_16, l_20, l_40, l_48, l_99, l_200, l_999, l_9999, li_73, li_78, li_m1000000, li_90, li_251, li_400, li_2400, li_91, li_153, li_173, li_96, li_32, li_92, li_12, li_93, li_80, li_14, li_1000000000, li_30, li_11, li_24, li_13, li_97, li_64, li_1600, li_49, li_255, li_2147483647, li_12345, li_1103515245, li_59, li_57, li_122, li_1023, li_1000000, li_52, li_51, li_50, li_47, li_46, li_45, li_44, li_43, li_42, li_41, li_39, li_38, li_37, li_36, li_35, li_34, li_33, li_29, li_28, li_27, li_26, li_25, li_23, li_22, li_21, li_19, li_18, li_17, li_15, li_m8, li_m2, li_60, li_54, li_2907, li_151, li_127, oN, iI_add, iI_sub, iI_mul, iI_neg, Int.reduceAdd, Int.reduceSub, Int.reduceMul, Int.reduceNeg, Int.toNat_natCast, Int.reduceToNat, iI_cl]
    rw [sg_41_28 (hb1 := hb) (hb3 := ho) (hw10 := cat_n) (hw11 := cat_n) (hw12 := cat_n)]
    simp (disch := first | omega | assumption | exact cat_n | exact cat_i _ | exact cat_r _ | (simp (disch := omega) only [l_0, l_1, l_m1, l_2, l_3, l_4, l_5, l_6, l_7, l_8, l_9, l_10, l_16, l_20, l_40, l_48, l_99, l_200, l_999, l_9999, li_73, li_78, li_m1000000, li_90, li_251, li_400, li_2400, li_91, li_153, li_173, li_96, li_32, li_92, li_12, li_93, li_80, li_14, li_1000000000, li_30, li_11, li_24, li_13, li_97, li_64, li_1600, li_49, li_255, li_2147483647, li_12345, li_1103515245, li_59, li_57, li_122, li_1023, li_1000000, li_52, li_51, li_50, li_47, li_46, li_45, li_44, li_43, li_42, li_41, li_39, li_38, li_37, li_36, li_35, li_34, li_33, li_29, li_28, li_27, li_26, li_25, li_23, li_22, li_21, li_19, li_18, li_17, li_15, li_m8, li_m2, li_60, li_54, li_2907, li_151, li_127, oN, iI_add, iI_sub, iI_mul, iI_neg, Int.reduceAdd, Int.reduceSub, Int.reduceMul, Int.reduceNeg, Int.toNat_natCast, Int.reduceToNat, iI_lt, iI_le, iI_eq, iI_cl, true_or, or_true, false_or, or_false, true_and, and_true, not_true_eq_false, not_false_eq_true]; first | done | omega)) only [↓if_pos, ↓if_neg, Option.bind_some, Option.toList_some, Option.toList_none, List.cons_append, List.nil_append, l_0, l_1, l_m1, l_2, l_3, l_4, l_5, l_6, l_7, l_8, l_9, l_10, l_16, l_20, l_40, l_48, l_99, l_200, l_999, l_9999, li_73, li_78, li_m1000000, li_90, li_251, li_400, li_2400, li_91, li_153, li_173, li_96, li_32, li_92, li_12, li_93, li_80, li_14, li_1000000000, li_30, li_11, li_24, li_13, li_97, li_64, li_1600, li_49, li_255, li_2147483647, li_12345, li_1103515245, li_59, li_57, li_122, li_1023, li_1000000, li_52, li_51, li_50, li_47, li_46, li_45, li_44, li_43, li_42, li_41, li_39, li_38, li_37, li_36, li_35, li_34, li_33, li_29, li_28, li_27, li_26, li_25, li_23, li_22, li_21, li_19, li_18, li_17, li_15, li_m8, li_m2, li_60, li_54, li_2907, li_151, li_127, oN, iI_add, iI_sub, iI_mul, iI_neg, Int.reduceAdd, Int.reduceSub, Int.reduceMul, Int.reduceNeg, Int.toNat_natCast, Int.reduceToNat, iI_cl]
  · have e38 := e38f qo
    generalize hF : cr I b = f at *
    generalize hG' : cr I o = g' at *
    generalize hGC : gc f g' = G at *
    obtain ⟨M, hM⟩ : ∃ M : Nat, min n (f 2) = M := ⟨(min n (f 2)).toNat, by omega⟩
    obtain ⟨Q, hQ⟩ : ∃ Q : Nat, q2 = Q := ⟨q2.toNat, by
      have : 0 < q2 := by
        apply Classical.byContradiction
        intro z
        have : (G : Int) * q2 ≤ 0 := Int.mul_nonpos_of_nonneg_of_nonpos (by omega) (by omega)
        omega
      omega⟩
    subst hQ
    -- the other's steps at a step
    have IN : ∀ (k : Nat) (s u0 : Int) (w12 : Value), w12.category = 1 → 0 ≤ s → s < f 2 → 0 ≤ u0 → u0 < G → ∃ w' : Value, w'.category = 1 ∧ ((∃ i : Nat, i < Q ∧ ps_d f g' s (u0 + G * i) ≤ e * e ∧ am_ev X amP_41 44 [.ref (am_bd b), .int (iI e), .ref (am_bd o), .int (iI fr), .int (iI n), .int (iI G), .int (iI (f 3 - g' 3)), .int (iI M), .int (iI k), .int (iI s), .int (iI u0), w12] [] (am_sh I J) = some (some (.int (iI s)), am_sh I J)) ∨ ((∀ i : Nat, i < Q → e * e < ps_d f g' s (u0 + G * i)) ∧ am_ev X amP_41 44 [.ref (am_bd b), .int (iI e), .ref (am_bd o), .int (iI fr), .int (iI n), .int (iI G), .int (iI (f 3 - g' 3)), .int (iI M), .int (iI k), .int (iI s), .int (iI u0), w12] [] (am_sh I J) = am_ev X amP_41 28 [.ref (am_bd b), .int (iI e), .ref (am_bd o), .int (iI fr), .int (iI n), .int (iI G), .int (iI (f 3 - g' 3)), .int (iI M), .int (iI ((k : Int) + 1)), .int (iI s), .int (iI (u0 + G * Q)), w'] [] (am_sh I J))) := by
      intro k s u0 w12 hw12 s0 s1 u1 u2
      have L := Lp1 (n := Q) (G := fun i (w : Value) => am_ev X amP_41 44 [.ref (am_bd b), .int (iI e), .ref (am_bd o), .int (iI fr), .int (iI n), .int (iI G), .int (iI (f 3 - g' 3)), .int (iI M), .int (iI k), .int (iI s), .int (iI (u0 + G * i)), w] [] (am_sh I J)) (Iv := fun i w => w.category = 1 ∧ ∀ j : Nat, j < i → e * e < ps_d f g' s (u0 + G * j)) (P := fun r => ∃ w' : Value, w'.category = 1 ∧ ((∃ i : Nat, i < Q ∧ ps_d f g' s (u0 + G * i) ≤ e * e ∧ r = some (some (.int (iI s)), am_sh I J)) ∨ ((∀ i : Nat, i < Q → e * e < ps_d f g' s (u0 + G * i)) ∧ r = am_ev X amP_41 28 [.ref (am_bd b), .int (iI e), .ref (am_bd o), .int (iI fr), .int (iI n), .int (iI G), .int (iI (f 3 - g' 3)), .int (iI M), .int (iI ((k : Int) + 1)), .int (iI s), .int (iI (u0 + G * Q)), w'] [] (am_sh I J)))) (by
        intro i w hi ⟨hw, hv⟩
        have hm : (G : Int) * i + G ≤ G * Q := by
          have : (G : Int) * ((i : Int) + 1) ≤ G * Q := Int.mul_le_mul_of_nonneg_left (by omega) (by omega)
          rw [Int.mul_add, Int.mul_one] at this
          exact this
        have hm0 : 0 ≤ (G : Int) * i := Int.mul_nonneg (by omega) (by omega)
        have ei : u0 + (G : Int) * ((i + 1 : Nat) : Int) = u0 + G * i + G := by rw [cS, Int.mul_add, Int.mul_one]; omega
        generalize hu : u0 + (G : Int) * i = u at *
        have ux : 0 ≤ u ∧ u < g' 2 := by omega
        have a1 := cx s s0 s1
        have a2 := cx2 u ux.1 ux.2
        have a3 := c36 s u s0 s1 ux.1 ux.2
        have b1 := xb s s0 s1
        have b2 := xo u ux.1 ux.2
        have ox := off_x (f := f) (g := g') (e := e) (s := s) (u := u) e0
        have scl : (iI s).toNatClampNeg = s.toNat := iI_cl (by omega) (by omega)
        have ucl : (iI u).toNatClampNeg = u.toNat := iI_cl (by omega) (by omega)
        by_cases q : ps_d f g' s u ≤ e * e
        · left
          refine ⟨.null, cat_n, Or.inl ⟨i, hi, by rw [hu]; exact q, ?_⟩⟩
          rw [bI_t q] at a3
          have nx : ¬ (e < ps_x f s - ps_x g' u ∨ ps_x f s - ps_x g' u < -e) := fun z => by have := ox z; omega
          try dsimp only
          rw [sg_41_44 (hb1 := hb) (hb3 := ho) (hw12 := hw), tg, scl, ucl, a1, a2]
          generalize ps_x f s = PX at *
          generalize ps_x g' u = PY at *
          simp (disch := first | omega | assumption | exact cat_n | exact cat_i _ | exact cat_r _ | (simp (disch := omega) only [l_0, l_1, l_m1, l_2, l_3, l_4, l_5, l_6, l_7, l_8, l_9, l_10, l_16, l_20, l_40, l_48, l_99, l_200, l_999, l_9999, li_73, li_78, li_m1000000, li_90, li_251, li_400, li_2400, li_91, li_153, li_173, li_96, li_32, li_92, li_12, li_93, li_80, li_14, li_1000000000, li_30, li_11, li_24, li_13, li_97, li_64, li_1600, li_49, li_255, li_2147483647, li_12345, li_1103515245, li_59, li_57, li_122, li_1023, li_1000000, li_52, li_51, li_50, li_47, li_46, li_45, li_44, li_43, li_42, li_41, li_39, li_38, li_37, li_36, li_35, li_34, li_33, li_29, li_28, li_27, li_26, li_25, li_23, li_22, li_21, li_19, li_18, li_17, li_15, li_m8, li_m2, li_60, li_54, li_2907, li_151, li_127, oN, iI_add, iI_sub, iI_mul, iI_neg, Int.reduceAdd, Int.reduceSub, Int.reduceMul, Int.reduceNeg, Int.toNat_natCast, Int.reduceToNat, iI_lt, iI_le, iI_eq, iI_cl, true_or, or_true, false_or, or_false, true_and, and_true, not_true_eq_false, not_false_eq_true]; first | done | omega)) only [↓if_pos, ↓if_neg, Option.bind_some, Option.toList_some, Option.toList_none, List.cons_append, List.nil_append, l_0, l_1, l_m1, l_2, l_3, l_4, l_5, l_6, l_7, l_8, l_9, l_10, l_16, l_20, l_40, l_48, l_99, l_200, l_999, l_9999, li_73, li_78, li_m1000000, li_90, li_251, li_400, li_2400, li_91, li_153, li_173, li_96, li_32, li_92, li_12, li_93, li_80, li_14, li_1000000000, li_30, li_11, li_24, li_13, li_97, li_64, li_1600, li_49, li_255, li_2147483647, li_12345, li_1103515245, li_59, li_57, li_122, li_1023, li_1000000, li_52, li_51, li_50, li_47, li_46, li_45, li_44, li_43, li_42, li_41, li_39, li_38, li_37, li_36, li_35, li_34, li_33, li_29, li_28, li_27, li_26, li_25, li_23, li_22, li_21, li_19, li_18, li_17, li_15, li_m8, li_m2, li_60, li_54, li_2907, li_151, li_127, oN, iI_add, iI_sub, iI_mul, iI_neg, Int.reduceAdd, Int.reduceSub, Int.reduceMul, Int.reduceNeg, Int.toNat_natCast, Int.reduceToNat, iI_cl, a3]
          rw [sg_41_73 (hb1 := hb) (hb3 := ho)]
          simp (disch := first | omega | assumption | exact cat_n | exact cat_i _ | exact cat_r _ | (simp (disch := omega) only [l_0, l_1, l_m1, l_2, l_3, l_4, l_5, l_6, l_7, l_8, l_9, l_10, l_16, l_20, l_40, l_48, l_99, l_200, l_999, l_9999, li_73, li_78, li_m1000000, li_90, li_251, li_400, li_2400, li_91, li_153, li_173, li_96, li_32, li_92, li_12, li_93, li_80, li_14, li_1000000000, li_30, li_11, li_24, li_13, li_97, li_64, li_1600, li_49, li_255, li_2147483647, li_12345, li_1103515245, li_59, li_57, li_122, li_1023, li_1000000, li_52, li_51, li_50, li_47, li_46, li_45, li_44, li_43, li_42, li_41, li_39, li_38, li_37, li_36, li_35, li_34, li_33, li_29, li_28, li_27, li_26, li_25, li_23, li_22, li_21, li_19, li_18, li_17, li_15, li_m8, li_m2, li_60, li_54, li_2907, li_151, li_127, oN, iI_add, iI_sub, iI_mul, iI_neg, Int.reduceAdd, Int.reduceSub, Int.reduceMul, Int.reduceNeg, Int.toNat_natCast, Int.reduceToNat, iI_lt, iI_le, iI_eq, iI_cl, true_or, or_true, false_or, or_false, true_and, and_true, not_true_eq_false, not_false_eq_true]; first | done | omega)) only [↓if_pos, ↓if_neg, Option.bind_some, Option.toList_some, Option.toList_none, List.cons_append, List.nil_append, l_0, l_1, l_m1, l_2, l_3, l_4, l_5, l_6, l_7, l_8, l_9, l_10, l_16, l_20, l_40, l_48, l_99, l_200, l_999, l_9999, li_73, li_78, li_m1000000, li_90, li_251, li_400, li_2400, li_91, li_153, li_173, li_96, li_32, li_92, li_12, li_93, li_80, li_14, li_1000000000, li_30, li_11, li_24, li_13, li_97, li_64, li_1600, li_49, li_255, li_2147483647, li_12345, li_1103515245, li_59, li_57, li_122, li_1023, li_1000000, li_52, li_51, li_50, li_47, li_46, li_45, li_44, li_43, li_42, li_41, li_39, li_38, li_37, li_36, li_35, li_34, li_33, li_29, li_28, li_27, li_26, li_25, li_23, li_22, li_21, li_19, li_18, li_17, li_15, li_m8, li_m2, li_60, li_54, li_2907, li_151, li_127, oN, iI_add, iI_sub, iI_mul, iI_neg, Int.reduceAdd, Int.reduceSub, Int.reduceMul, Int.reduceNeg, Int.toNat_natCast, Int.reduceToNat, iI_cl]
        · right
          rw [bI_f q] at a3
          have nd : e * e < ps_d f g' s u := by omega
          refine ⟨.int (iI (ps_x f s - ps_x g' u)), ⟨rfl, fun j hj => ?_⟩, ?_⟩
          · by_cases y : j = i
            · subst y; rw [hu]; exact nd
            · exact hv j (by omega)
          · try dsimp only
            rw [ei, sg_41_44 (hb1 := hb) (hb3 := ho) (hw12 := hw), tg, scl, ucl, a1, a2]
            generalize ps_x f s = PX at *
            generalize ps_x g' u = PY at *
            by_cases z1 : e < PX - PY
            · simp (disch := first | omega | assumption | exact cat_n | exact cat_i _ | exact cat_r _ | (simp (disch := omega) only [l_0, l_1, l_m1, l_2, l_3, l_4, l_5, l_6, l_7, l_8, l_9, l_10, l_16, l_20, l_40, l_48, l_99, l_200, l_999, l_9999, li_73, li_78, li_m1000000, li_90, li_251, li_400, li_2400, li_91, li_153, li_173, li_96, li_32, li_92, li_12, li_93, li_80, li_14, li_1000000000, li_30, li_11, li_24, li_13, li_97, li_64, li_1600, li_49, li_255, li_2147483647, li_12345, li_1103515245, li_59, li_57, li_122, li_1023, li_1000000, li_52, li_51, li_50, li_47, li_46, li_45, li_44, li_43, li_42, li_41, li_39, li_38, li_37, li_36, li_35, li_34, li_33, li_29, li_28, li_27, li_26, li_25, li_23, li_22, li_21, li_19, li_18, li_17, li_15, li_m8, li_m2, li_60, li_54, li_2907, li_151, li_127, oN, iI_add, iI_sub, iI_mul, iI_neg, Int.reduceAdd, Int.reduceSub, Int.reduceMul, Int.reduceNeg, Int.toNat_natCast, Int.reduceToNat, iI_lt, iI_le, iI_eq, iI_cl, true_or, or_true, false_or, or_false, true_and, and_true, not_true_eq_false, not_false_eq_true]; first | done | omega)) only [↓if_pos, ↓if_neg, Option.bind_some, Option.toList_some, Option.toList_none, List.cons_append, List.nil_append, l_0, l_1, l_m1, l_2, l_3, l_4, l_5, l_6, l_7, l_8, l_9, l_10, l_16, l_20, l_40, l_48, l_99, l_200, l_999, l_9999, li_73, li_78, li_m1000000, li_90, li_251, li_400, li_2400, li_91, li_153, li_173, li_96, li_32, li_92, li_12, li_93, li_80, li_14, li_1000000000, li_30, li_11, li_24, li_13, li_97, li_64, li_1600, li_49, li_255, li_2147483647, li_12345, li_1103515245, li_59, li_57, li_122, li_1023, li_1000000, li_52, li_51, li_50, li_47, li_46, li_45, li_44, li_43, li_42, li_41, li_39, li_38, li_37, li_36, li_35, li_34, li_33, li_29, li_28, li_27, li_26, li_25, li_23, li_22, li_21, li_19, li_18, li_17, li_15, li_m8, li_m2, li_60, li_54, li_2907, li_151, li_127, oN, iI_add, iI_sub, iI_mul, iI_neg, Int.reduceAdd, Int.reduceSub, Int.reduceMul, Int.reduceNeg, Int.toNat_natCast, Int.reduceToNat, iI_cl]
            · by_cases z2 : PX - PY < -e
              · simp (disch := first | omega | assumption | exact cat_n | exact cat_i _ | exact cat_r _ | (simp (disch := omega) only [l_0, l_1, l_m1, l_2, l_3, l_4, l_5, l_6, l_7, l_8, l_9, l_10, l_16, l_20, l_40, l_48, l_99, l_200, l_999, l_9999, li_73, li_78, li_m1000000, li_90, li_251, li_400, li_2400, li_91, li_153, li_173, li_96, li_32, li_92, li_12, li_93, li_80, li_14, li_1000000000, li_30, li_11, li_24, li_13, li_97, li_64, li_1600, li_49, li_255, li_2147483647, li_12345, li_1103515245, li_59, li_57, li_122, li_1023, li_1000000, li_52, li_51, li_50, li_47, li_46, li_45, li_44, li_43, li_42, li_41, li_39, li_38, li_37, li_36, li_35, li_34, li_33, li_29, li_28, li_27, li_26, li_25, li_23, li_22, li_21, li_19, li_18, li_17, li_15, li_m8, li_m2, li_60, li_54, li_2907, li_151, li_127, oN, iI_add, iI_sub, iI_mul, iI_neg, Int.reduceAdd, Int.reduceSub, Int.reduceMul, Int.reduceNeg, Int.toNat_natCast, Int.reduceToNat, iI_lt, iI_le, iI_eq, iI_cl, true_or, or_true, false_or, or_false, true_and, and_true, not_true_eq_false, not_false_eq_true]; first | done | omega)) only [↓if_pos, ↓if_neg, Option.bind_some, Option.toList_some, Option.toList_none, List.cons_append, List.nil_append, l_0, l_1, l_m1, l_2, l_3, l_4, l_5, l_6, l_7, l_8, l_9, l_10, l_16, l_20, l_40, l_48, l_99, l_200, l_999, l_9999, li_73, li_78, li_m1000000, li_90, li_251, li_400, li_2400, li_91, li_153, li_173, li_96, li_32, li_92, li_12, li_93, li_80, li_14, li_1000000000, li_30, li_11, li_24, li_13, li_97, li_64, li_1600, li_49, li_255, li_2147483647, li_12345, li_1103515245, li_59, li_57, li_122, li_1023, li_1000000, li_52, li_51, li_50, li_47, li_46, li_45, li_44, li_43, li_42, li_41, li_39, li_38, li_37, li_36, li_35, li_34, li_33, li_29, li_28, li_27, li_26, li_25, li_23, li_22, li_21, li_19, li_18, li_17, li_15, li_m8, li_m2, li_60, li_54, li_2907, li_151, li_127, oN, iI_add, iI_sub, iI_mul, iI_neg, Int.reduceAdd, Int.reduceSub, Int.reduceMul, Int.reduceNeg, Int.toNat_natCast, Int.reduceToNat, iI_cl]
              · simp (disch := first | omega | assumption | exact cat_n | exact cat_i _ | exact cat_r _ | (simp (disch := omega) only [l_0, l_1, l_m1, l_2, l_3, l_4, l_5, l_6, l_7, l_8, l_9, l_10, l_16, l_20, l_40, l_48, l_99, l_200, l_999, l_9999, li_73, li_78, li_m1000000, li_90, li_251, li_400, li_2400, li_91, li_153, li_173, li_96, li_32, li_92, li_12, li_93, li_80, li_14, li_1000000000, li_30, li_11, li_24, li_13, li_97, li_64, li_1600, li_49, li_255, li_2147483647, li_12345, li_1103515245, li_59, li_57, li_122, li_1023, li_1000000, li_52, li_51, li_50, li_47, li_46, li_45, li_44, li_43, li_42, li_41, li_39, li_38, li_37, li_36, li_35, li_34, li_33, li_29, li_28, li_27, li_26, li_25, li_23, li_22, li_21, li_19, li_18, li_17, li_15, li_m8, li_m2, li_60, li_54, li_2907, li_151, li_127, oN, iI_add, iI_sub, iI_mul, iI_neg, Int.reduceAdd, Int.reduceSub, Int.reduceMul, Int.reduceNeg, Int.toNat_natCast, Int.reduceToNat, iI_lt, iI_le, iI_eq, iI_cl, true_or, or_true, false_or, or_false, true_and, and_true, not_true_eq_false, not_false_eq_true]; first | done | omega)) only [↓if_pos, ↓if_neg, Option.bind_some, Option.toList_some, Option.toList_none, List.cons_append, List.nil_append, l_0, l_1, l_m1, l_2, l_3, l_4, l_5, l_6, l_7, l_8, l_9, l_10, l_16, l_20, l_40, l_48, l_99, l_200, l_999, l_9999, li_73, li_78, li_m1000000, li_90, li_251, li_400, li_2400, li_91, li_153, li_173, li_96, li_32, li_92, li_12, li_93, li_80, li_14, li_1000000000, li_30, li_11, li_24, li_13, li_97, li_64, li_1600, li_49, li_255, li_2147483647, li_12345, li_1103515245, li_59, li_57, li_122, li_1023, li_1000000, li_52, li_51, li_50, li_47, li_46, li_45, li_44, li_43, li_42, li_41, li_39, li_38, li_37, li_36, li_35, li_34, li_33, li_29, li_28, li_27, li_26, li_25, li_23, li_22, li_21, li_19, li_18, li_17, li_15, li_m8, li_m2, li_60, li_54, li_2907, li_151, li_127, oN, iI_add, iI_sub, iI_mul, iI_neg, Int.reduceAdd, Int.reduceSub, Int.reduceMul, Int.reduceNeg, Int.toNat_natCast, Int.reduceToNat, iI_cl, a3]
                rw [sg_41_73 (hb1 := hb) (hb3 := ho)]
                simp (disch := first | omega | assumption | exact cat_n | exact cat_i _ | exact cat_r _ | (simp (disch := omega) only [l_0, l_1, l_m1, l_2, l_3, l_4, l_5, l_6, l_7, l_8, l_9, l_10, l_16, l_20, l_40, l_48, l_99, l_200, l_999, l_9999, li_73, li_78, li_m1000000, li_90, li_251, li_400, li_2400, li_91, li_153, li_173, li_96, li_32, li_92, li_12, li_93, li_80, li_14, li_1000000000, li_30, li_11, li_24, li_13, li_97, li_64, li_1600, li_49, li_255, li_2147483647, li_12345, li_1103515245, li_59, li_57, li_122, li_1023, li_1000000, li_52, li_51, li_50, li_47, li_46, li_45, li_44, li_43, li_42, li_41, li_39, li_38, li_37, li_36, li_35, li_34, li_33, li_29, li_28, li_27, li_26, li_25, li_23, li_22, li_21, li_19, li_18, li_17, li_15, li_m8, li_m2, li_60, li_54, li_2907, li_151, li_127, oN, iI_add, iI_sub, iI_mul, iI_neg, Int.reduceAdd, Int.reduceSub, Int.reduceMul, Int.reduceNeg, Int.toNat_natCast, Int.reduceToNat, iI_lt, iI_le, iI_eq, iI_cl, true_or, or_true, false_or, or_false, true_and, and_true, not_true_eq_false, not_false_eq_true]; first | done | omega)) only [↓if_pos, ↓if_neg, Option.bind_some, Option.toList_some, Option.toList_none, List.cons_append, List.nil_append, l_0, l_1, l_m1, l_2, l_3, l_4, l_5, l_6, l_7, l_8, l_9, l_10, l_16, l_20, l_40, l_48, l_99, l_200, l_999, l_9999, li_73, li_78, li_m1000000, li_90, li_251, li_400, li_2400, li_91, li_153, li_173, li_96, li_32, li_92, li_12, li_93, li_80, li_14, li_1000000000, li_30, li_11, li_24, li_13, li_97, li_64, li_1600, li_49, li_255, li_2147483647, li_12345, li_1103515245, li_59, li_57, li_122, li_1023, li_1000000, li_52, li_51, li_50, li_47, li_46, li_45, li_44, li_43, li_42, li_41, li_39, li_38, li_37, li_36, li_35, li_34, li_33, li_29, li_28, li_27, li_26, li_25, li_23, li_22, li_21, li_19, li_18, li_17, li_15, li_m8, li_m2, li_60, li_54, li_2907, li_151, li_127, oN, iI_add, iI_sub, iI_mul, iI_neg, Int.reduceAdd, Int.reduceSub, Int.reduceMul, Int.reduceNeg, Int.toNat_natCast, Int.reduceToNat, iI_cl]) (by
        intro w ⟨hw, hv⟩
        refine ⟨w, hw, Or.inr ⟨hv, ?_⟩⟩
        try dsimp only
        rw [sg_41_44 (hb1 := hb) (hb3 := ho) (hw12 := hw), tg]
        simp (disch := first | omega | assumption | exact cat_n | exact cat_i _ | exact cat_r _ | (simp (disch := omega) only [l_0, l_1, l_m1, l_2, l_3, l_4, l_5, l_6, l_7, l_8, l_9, l_10, l_16, l_20, l_40, l_48, l_99, l_200, l_999, l_9999, li_73, li_78, li_m1000000, li_90, li_251, li_400, li_2400, li_91, li_153, li_173, li_96, li_32, li_92, li_12, li_93, li_80, li_14, li_1000000000, li_30, li_11, li_24, li_13, li_97, li_64, li_1600, li_49, li_255, li_2147483647, li_12345, li_1103515245, li_59, li_57, li_122, li_1023, li_1000000, li_52, li_51, li_50, li_47, li_46, li_45, li_44, li_43, li_42, li_41, li_39, li_38, li_37, li_36, li_35, li_34, li_33, li_29, li_28, li_27, li_26, li_25, li_23, li_22, li_21, li_19, li_18, li_17, li_15, li_m8, li_m2, li_60, li_54, li_2907, li_151, li_127, oN, iI_add, iI_sub, iI_mul, iI_neg, Int.reduceAdd, Int.reduceSub, Int.reduceMul, Int.reduceNeg, Int.toNat_natCast, Int.reduceToNat, iI_lt, iI_le, iI_eq, iI_cl, true_or, or_true, false_or, or_false, true_and, and_true, not_true_eq_false, not_false_eq_true]; first | done | omega)) only [↓if_pos, ↓if_neg, Option.bind_some, Option.toList_some, Option.toList_none, List.cons_append, List.nil_append, l_0, l_1, l_m1, l_2, l_3, l_4, l_5, l_6, l_7, l_8, l_9, l_10, l_16, l_20, l_40, l_48, l_99, l_200, l_999, l_9999, li_73, li_78, li_m1000000, li_90, li_251, li_400, li_2400, li_91, li_153, li_173, li_96, li_32, li_92, li_12, li_93, li_80, li_14, li_1000000000, li_30, li_11, li_24, li_13, li_97, li_64, li_1600, li_49, li_255, li_2147483647, li_12345, li_1103515245, li_59, li_57, li_122, li_1023, li_1000000, li_52, li_51, li_50, li_47, li_46, li_45, li_44, li_43, li_42, li_41, li_39, li_38, li_37, li_36, li_35, li_34, li_33, li_29, li_28, li_27, li_26, li_25, li_23, li_22, li_21, li_19, li_18, li_17, li_15, li_m8, li_m2, li_60, li_54, li_2907, li_151, li_127, oN, iI_add, iI_sub, iI_mul, iI_neg, Int.reduceAdd, Int.reduceSub, Int.reduceMul, Int.reduceNeg, Int.toNat_natCast, Int.reduceToNat, iI_cl]) w12 ⟨hw12, fun j hj => by omega⟩
      try dsimp only at L
      rw [c0, Int.mul_zero, Int.add_zero] at L
      exact L
    -- the steps
    have hgn : ∀ s u : Int, (s - u) % (G : Int) = (f 3 - g' 3) % (G : Int) ↔ (s - (f 3 - g' 3)) % (G : Int) = u % (G : Int) := by
      intro s u
      constructor
      · intro z
        have : (G : Int) ∣ (s - u) - (f 3 - g' 3) := Int.dvd_of_emod_eq_zero (by rw [Int.sub_emod, z, Int.sub_self, Int.zero_emod])
        obtain ⟨c, hc⟩ := this
        have e2 : s - (f 3 - g' 3) = u + G * c := by omega
        rw [e2, Int.add_mul_emod_self_left]
      · intro z
        have : (G : Int) ∣ (s - (f 3 - g' 3)) - u := Int.dvd_of_emod_eq_zero (by rw [Int.sub_emod, z, Int.sub_self, Int.zero_emod])
        obtain ⟨c, hc⟩ := this
        have e2 : s - u = (f 3 - g' 3) + G * c := by omega
        rw [e2, Int.add_mul_emod_self_left]
    have OUT := Lp1 (n := M) (G := fun k (w : Value × Value × Value) => am_ev X amP_41 28 [.ref (am_bd b), .int (iI e), .ref (am_bd o), .int (iI fr), .int (iI n), .int (iI G), .int (iI (f 3 - g' 3)), .int (iI M), .int (iI k), w.1, w.2.1, w.2.2] [] (am_sh I J)) (Iv := fun k w => (w.1.category = 1 ∧ w.2.1.category = 1 ∧ w.2.2.category = 1) ∧ ∀ j : Nat, j < k → ∀ u : Int, 0 ≤ u → u < g' 2 → ((fr + j) % f 2 - u) % (G : Int) = (f 3 - g' 3) % (G : Int) → e * e < ps_d f g' ((fr + j) % f 2) u) (P := fun r => ∃ v : Int, r = some (some (.int (iI v)), am_sh I J) ∧ ((v = -1 ∧ (48 ≤ n → ¬ nr_ e f g')) ∨ (0 ≤ v ∧ v < 48 ∧ nr_ e f g'))) (by
      rintro k ⟨w10, w11, w12⟩ hk ⟨⟨hw10, hw11, hw12⟩, hv⟩
      try dsimp only at hw10 hw11 hw12
      have s0 := Int.emod_nonneg (fr + k) (show f 2 ≠ 0 by omega)
      have s1 := Int.emod_lt_of_pos (fr + k) (show 0 < f 2 by omega)
      have u1 := Int.emod_nonneg ((fr + k) % f 2 - (f 3 - g' 3)) (show (G : Int) ≠ 0 by omega)
      have u2 := Int.emod_lt_of_pos ((fr + k) % f 2 - (f 3 - g' 3)) (show 0 < (G : Int) by omega)
      obtain ⟨w', hw', D⟩ := IN k ((fr + k) % f 2) (((fr + k) % f 2 - (f 3 - g' 3)) % G) w12 hw12 s0 s1 u1 u2
      have st1 : am_ev X amP_41 28 [.ref (am_bd b), .int (iI e), .ref (am_bd o), .int (iI fr), .int (iI n), .int (iI G), .int (iI (f 3 - g' 3)), .int (iI M), .int (iI k), w10, w11, w12] [] (am_sh I J) = am_ev X amP_41 44 [.ref (am_bd b), .int (iI e), .ref (am_bd o), .int (iI fr), .int (iI n), .int (iI G), .int (iI (f 3 - g' 3)), .int (iI M), .int (iI k), .int (iI ((fr + k) % f 2)), .int (iI (((fr + k) % f 2 - (f 3 - g' 3)) % G)), w12] [] (am_sh I J) := by
        rw [sg_41_28 (hb1 := hb) (hb3 := ho) (hw10 := hw10) (hw11 := hw11) (hw12 := hw12), tf]
        simp (disch := first | omega | assumption | exact cat_n | exact cat_i _ | exact cat_r _ | (simp (disch := omega) only [l_0, l_1, l_m1, l_2, l_3, l_4, l_5, l_6, l_7, l_8, l_9, l_10, l_16, l_20, l_40, l_48, l_99, l_200, l_999, l_9999, li_73, li_78, li_m1000000, li_90, li_251, li_400, li_2400, li_91, li_153, li_173, li_96, li_32, li_92, li_12, li_93, li_80, li_14, li_1000000000, li_30, li_11, li_24, li_13, li_97, li_64, li_1600, li_49, li_255, li_2147483647, li_12345, li_1103515245, li_59, li_57, li_122, li_1023, li_1000000, li_52, li_51, li_50, li_47, li_46, li_45, li_44, li_43, li_42, li_41, li_39, li_38, li_37, li_36, li_35, li_34, li_33, li_29, li_28, li_27, li_26, li_25, li_23, li_22, li_21, li_19, li_18, li_17, li_15, li_m8, li_m2, li_60, li_54, li_2907, li_151, li_127, oN, iI_add, iI_sub, iI_mul, iI_neg, Int.reduceAdd, Int.reduceSub, Int.reduceMul, Int.reduceNeg, Int.toNat_natCast, Int.reduceToNat, iI_lt, iI_le, iI_eq, iI_cl, true_or, or_true, false_or, or_false, true_and, and_true, not_true_eq_false, not_false_eq_true]; first | done | omega)) only [↓if_pos, ↓if_neg, Option.bind_some, Option.toList_some, Option.toList_none, List.cons_append, List.nil_append, l_0, l_1, l_m1, l_2, l_3, l_4, l_5, l_6, l_7, l_8, l_9, l_10, l_16, l_20, l_40, l_48, l_99, l_200, l_999, l_9999, li_73, li_78, li_m1000000, li_90, li_251, li_400, li_2400, li_91, li_153, li_173, li_96, li_32, li_92, li_12, li_93, li_80, li_14, li_1000000000, li_30, li_11, li_24, li_13, li_97, li_64, li_1600, li_49, li_255, li_2147483647, li_12345, li_1103515245, li_59, li_57, li_122, li_1023, li_1000000, li_52, li_51, li_50, li_47, li_46, li_45, li_44, li_43, li_42, li_41, li_39, li_38, li_37, li_36, li_35, li_34, li_33, li_29, li_28, li_27, li_26, li_25, li_23, li_22, li_21, li_19, li_18, li_17, li_15, li_m8, li_m2, li_60, li_54, li_2907, li_151, li_127, oN, iI_add, iI_sub, iI_mul, iI_neg, Int.reduceAdd, Int.reduceSub, Int.reduceMul, Int.reduceNeg, Int.toNat_natCast, Int.reduceToNat, iI_cl, iI_div, em_, c_350]
        rw [sg_41_43 (hb1 := hb) (hb3 := ho) (hw11 := hw11) (hw12 := hw12)]
      have hval : ∀ i : Nat, (((fr + k) % f 2) - (((fr + k) % f 2 - (f 3 - g' 3)) % (G : Int) + G * i)) % (G : Int) = (f 3 - g' 3) % (G : Int) := fun i => by
        rw [hgn, Int.add_mul_emod_self_left, Int.emod_emod_of_dvd _ (Int.dvd_refl _)]
      generalize hsd : (fr + k) % f 2 = s at *
      rcases D with ⟨i, hi, hd, D⟩ | ⟨hd, D⟩
      · left
        refine ⟨s, by try dsimp only
                      rw [st1, D], Or.inr ⟨s0, by omega, ?_⟩⟩
        rw [hof]
        have hm : (G : Int) * i + G ≤ G * Q := by
          have : (G : Int) * ((i : Int) + 1) ≤ G * Q := Int.mul_le_mul_of_nonneg_left (by omega) (by omega)
          rw [Int.mul_add, Int.mul_one] at this
          exact this
        have hm0 : 0 ≤ (G : Int) * i := Int.mul_nonneg (by omega) (by omega)
        have hv2 := hval i
        generalize hud : (s - (f 3 - g' 3)) % (G : Int) + G * i = u at *
        refine ⟨s.toNat, u.toNat, by omega, by omega, ?_, ?_⟩
        · rw [hGC, show ((s.toNat : Nat) : Int) = s by omega, show ((u.toNat : Nat) : Int) = u by omega]; exact hv2
        · rw [show ((s.toNat : Nat) : Int) = s by omega, show ((u.toNat : Nat) : Int) = u by omega]; exact hd
      · right
        refine ⟨(.int (iI s), .int (iI ((s - (f 3 - g' 3)) % G + G * Q)), w'), ⟨⟨rfl, rfl, hw'⟩, fun j hj u u3 u4 u5 => ?_⟩, ?_⟩
        · by_cases y : j = k
          · subst y
            rw [hsd] at u5 ⊢
            rw [hgn] at u5
            have q0 : 0 ≤ u / (G : Int) := Int.ediv_nonneg u3 (by omega)
            have q3 : u / (G : Int) < Q := by
              apply Int.ediv_lt_of_lt_mul (by omega)
              rw [Int.mul_comm]; omega
            have := hd (u / (G : Int)).toNat (by omega)
            rw [show (((u / (G : Int)).toNat : Nat) : Int) = u / (G : Int) by omega, u5] at this
            have e3 := Int.emod_add_mul_ediv u G
            rw [e3] at this
            exact this
          · exact hv j (by omega) u u3 u4 u5
        · try dsimp only
          rw [cS, st1, D]) (by
      rintro ⟨w10, w11, w12⟩ ⟨⟨hw10, hw11, hw12⟩, hv⟩
      try dsimp only at hw10 hw11 hw12
      refine ⟨-1, ?_, Or.inl ⟨rfl, fun hn48 hnr => ?_⟩⟩
      · try dsimp only
        rw [sg_41_28 (hb1 := hb) (hb3 := ho) (hw10 := hw10) (hw11 := hw11) (hw12 := hw12)]
        simp (disch := first | omega | assumption | exact cat_n | exact cat_i _ | exact cat_r _ | (simp (disch := omega) only [l_0, l_1, l_m1, l_2, l_3, l_4, l_5, l_6, l_7, l_8, l_9, l_10, l_16, l_20, l_40, l_48, l_99, l_200, l_999, l_9999, li_73, li_78, li_m1000000, li_90, li_251, li_400, li_2400, li_91, li_153, li_173, li_96, li_32, li_92, li_12, li_93, li_80, li_14, li_1000000000, li_30, li_11, li_24, li_13, li_97, li_64, li_1600, li_49, li_255, li_2147483647, li_12345, li_1103515245, li_59, li_57, li_122, li_1023, li_1000000, li_52, li_51, li_50, li_47, li_46, li_45, li_44, li_43, li_42, li_41, li_39, li_38, li_37, li_36, li_35, li_34, li_33, li_29, li_28, li_27, li_26, li_25, li_23, li_22, li_21, li_19, li_18, li_17, li_15, li_m8, li_m2, li_60, li_54, li_2907, li_151, li_127, oN, iI_add, iI_sub, iI_mul, iI_neg, Int.reduceAdd, Int.reduceSub, Int.reduceMul, Int.reduceNeg, Int.toNat_natCast, Int.reduceToNat, iI_lt, iI_le, iI_eq, iI_cl, true_or, or_true, false_or, or_false, true_and, and_true, not_true_eq_false, not_false_eq_true]; first | done | omega)) only [↓if_pos, ↓if_neg, Option.bind_some, Option.toList_some, Option.toList_none, List.cons_append, List.nil_append, l_0, l_1, l_m1, l_2, l_3, l_4, l_5, l_6, l_7, l_8, l_9, l_10, l_16, l_20, l_40, l_48, l_99, l_200, l_999, l_9999, li_73, li_78, li_m1000000, li_90, li_251, li_400, li_2400, li_91, li_153, li_173, li_96, li_32, li_92, li_12, li_93, li_80, li_14, li_1000000000, li_30, li_11, li_24, li_13, li_97, li_64, li_1600, li_49, li_255, li_2147483647, li_12345, li_1103515245, li_59, li_57, li_122, li_1023, li_1000000, li_52, li_51, li_50, li_47, li_46, li_45, li_44, li_43, li_42, li_41, li_39, li_38, li_37, li_36, li_35, li_34, li_33, li_29, li_28, li_27, li_26, li_25, li_23, li_22, li_21, li_19, li_18, li_17, li_15, li_m8, li_m2, li_60, li_54, li_2907, li_151, li_127, oN, iI_add, iI_sub, iI_mul, iI_neg, Int.reduceAdd, Int.reduceSub, Int.reduceMul, Int.reduceNeg, Int.toNat_natCast, Int.reduceToNat, iI_cl]
      · rw [hof] at hnr
        obtain ⟨s, u, h1, h2, h3, h4⟩ := hnr
        rw [hGC] at h3
        have hMf : (M : Int) = f 2 := by omega
        -- the turn at which s is looked at
        have j0 := Int.emod_nonneg ((s : Int) - fr) (show f 2 ≠ 0 by omega)
        have j1 := Int.emod_lt_of_pos ((s : Int) - fr) (show 0 < f 2 by omega)
        have ej : (fr + ((s : Int) - fr) % f 2) % f 2 = s := by
          rw [Int.add_emod_emod, show fr + ((s : Int) - fr) = s by omega]
          exact Int.emod_eq_of_lt (by omega) h1
        have := hv (((s : Int) - fr) % f 2).toNat (by omega) u (by omega) h2 (by rw [show ((((s : Int) - fr) % f 2).toNat : Int) = ((s : Int) - fr) % f 2 by omega, ej]; exact h3)
        rw [show ((((s : Int) - fr) % f 2).toNat : Int) = ((s : Int) - fr) % f 2 by omega, ej] at this
        omega) (.null, .null, .null) ⟨⟨rfl, rfl, rfl⟩, fun j hj => by omega⟩
    obtain ⟨v, p1, p2⟩ := OUT
    try dsimp only at p1
    rw [c0] at p1
    refine ⟨v, ?_, p2⟩
    rw [cl_41, sg_41_e0 (hb1 := hb) (hb3 := ho), e39]
    show am_ev X amP_41 3 _ [.int (iI G)] (am_sh I J) = _
    rw [sg_41_3 (hb1 := hb) (hb3 := ho) (hw6 := cat_n) (hw7 := cat_n) (hw8 := cat_n) (hw9 := cat_n) (hw10 := cat_n) (hw11 := cat_n) (hw12 := cat_n), e38, p3f, p3g]
    show am_ev X amP_41 18 _ [.int (iI 0)] (am_sh I J) = _
    rw [sg_41_18 (hb1 := hb) (hb3 := ho) (hw8 := cat_n) (hw9 := cat_n) (hw10 := cat_n) (hw11 := cat_n) (hw12 := cat_n), tf]
    simp (disch := first | omega | assumption | exact cat_n | exact cat_i _ | exact cat_r _ | (simp (disch := omega) only [l_0, l_1, l_m1, l_2, l_3, l_4, l_5, l_6, l_7, l_8, l_9, l_10, l_16, l_20, l_40, l_48, l_99, l_200, l_999, l_9999, li_73, li_78, li_m1000000, li_90, li_251, li_400, li_2400, li_91, li_153, li_173, li_96, li_32, li_92, li_12, li_93, li_80, li_14, li_1000000000, li_30, li_11, li_24, li_13, li_97, li_64, li_1600, li_49, li_255, li_2147483647, li_12345, li_1103515245, li_59, li_57, li_122, li_1023, li_1000000, li_52, li_51, li_50, li_47, li_46, li_45, li_44, li_43, li_42, li_41, li_39, li_38, li_37, li_36, li_35, li_34, li_33, li_29, li_28, li_27, li_26, li_25, li_23, li_22, li_21, li_19, li_18, li_17, li_15, li_m8, li_m2, li_60, li_54, li_2907, li_151, li_127, oN, iI_add, iI_sub, iI_mul, iI_neg, Int.reduceAdd, Int.reduceSub, Int.reduceMul, Int.reduceNeg, Int.toNat_natCast, Int.reduceToNat, iI_lt, iI_le, iI_eq, iI_cl, true_or, or_true, false_or, or_false, true_and, and_true, not_true_eq_false, not_false_eq_true]; first | done | omega)) only [↓if_pos, ↓if_neg, Option.bind_some, Option.toList_some, Option.toList_none, List.cons_append, List.nil_append, l_0, l_1, l_m1, l_2, l_3, l_4, l_5, l_6, l_7, l_8, l_9, l_10, l_16, l_20, l_40, l_48, l_99, l_200, l_999, l_9999, li_73, li_78, li_m1000000, li_90, li_251, li_400, li_2400, li_91, li_153, li_173, li_96, li_32, li_92, li_12, li_93, li_80, li_14, li_1000000000, li_30, li_11, li_24, li_13, li_97, li_64, li_1600, li_49, li_255, li_2147483647, li_12345, li_1103515245, li_59, li_57, li_122, li_1023, li_1000000, li_52, li_51, li_50, li_47, li_46, li_45, li_44, li_43, li_42, li_41, li_39, li_38, li_37, li_36, li_35, li_34, li_33, li_29, li_28, li_27, li_26, li_25, li_23, li_22, li_21, li_19, li_18, li_17, li_15, li_m8, li_m2, li_60, li_54, li_2907, li_151, li_127, oN, iI_add, iI_sub, iI_mul, iI_neg, Int.reduceAdd, Int.reduceSub, Int.reduceMul, Int.reduceNeg, Int.toNat_natCast, Int.reduceToNat, iI_cl, c_353, hM]
    rw [sg_41_25 (hb1 := hb) (hb3 := ho) (hw8 := cat_n) (hw9 := cat_n) (hw10 := cat_n) (hw11 := cat_n) (hw12 := cat_n)]
    simp (disch := first | omega | assumption | exact cat_n | exact cat_i _ | exact cat_r _ | (simp (disch := omega) only [l_0, l_1, l_m1, l_2, l_3, l_4, l_5, l_6, l_7, l_8, l_9, l_10, l_16, l_20, l_40, l_48, l_99, l_200, l_999, l_9999, li_73, li_78, li_m1000000, li_90, li_251, li_400, li_2400, li_91, li_153, li_173, li_96, li_32, li_92, li_12, li_93, li_80, li_14, li_1000000000, li_30, li_11, li_24, li_13, li_97, li_64, li_1600, li_49, li_255, li_2147483647, li_12345, li_1103515245, li_59, li_57, li_122, li_1023, li_1000000, li_52, li_51, li_50, li_47, li_46, li_45, li_44, li_43, li_42, li_41, li_39, li_38, li_37, li_36, li_35, li_34, li_33, li_29, li_28, li_27, li_26, li_25, li_23, li_22, li_21, li_19, li_18, li_17, li_15, li_m8, li_m2, li_60, li_54, li_2907, li_151, li_127, oN, iI_add, iI_sub, iI_mul, iI_neg, Int.reduceAdd, Int.reduceSub, Int.reduceMul, Int.reduceNeg, Int.toNat_natCast, Int.reduceToNat, iI_lt, iI_le, iI_eq, iI_cl, true_or, or_true, false_or, or_false, true_and, and_true, not_true_eq_false, not_false_eq_true]; first | done | omega)) only [↓if_pos, ↓if_neg, Option.bind_some, Option.toList_some, Option.toList_none, List.cons_append, List.nil_append, l_0, l_1, l_m1, l_2, l_3, l_4, l_5, l_6, l_7, l_8, l_9, l_10, l_16, l_20, l_40, l_48, l_99, l_200, l_999, l_9999, li_73, li_78, li_m1000000, li_90, li_251, li_400, li_2400, li_91, li_153, li_173, li_96, li_32, li_92, li_12, li_93, li_80, li_14, li_1000000000, li_30, li_11, li_24, li_13, li_97, li_64, li_1600, li_49, li_255, li_2147483647, li_12345, li_1103515245, li_59, li_57, li_122, li_1023, li_1000000, li_52, li_51, li_50, li_47, li_46, li_45, li_44, li_43, li_42, li_41, li_39, li_38, li_37, li_36, li_35, li_34, li_33, li_29, li_28, li_27, li_26, li_25, li_23, li_22, li_21, li_19, li_18, li_17, li_15, li_m8, li_m2, li_60, li_54, li_2907, li_151, li_127, oN, iI_add, iI_sub, iI_mul, iI_neg, Int.reduceAdd, Int.reduceSub, Int.reduceMul, Int.reduceNeg, Int.toNat_natCast, Int.reduceToNat, iI_cl, p1]
end S98
