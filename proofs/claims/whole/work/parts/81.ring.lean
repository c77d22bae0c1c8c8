/-! THE CLASS LAYS A RING -/
section S81
variable {X : am_X} {I : Nat → Nat → Int32} {J : Nat → Nat → Int64} {b : Nat} {f : Nat → Int}
theorem k_31s (hf : cr I b = f) (ok : ps_ok f) (hb : b < 11) (e1 : I (am_bd b) 1 = iI (f 2)) {s : Nat} (hs : (s : Int) < f 2) {w3 w4 : Value} (hw3 : w3.category = 1) (hw4 : w4.category = 1) : ∃ v3 v4 : Value, v3.category = 1 ∧ v4.category = 1 ∧ am_ev X amP_31 12 [.ref (am_bd b), .int (iI s), w3, w4] [] (am_sh I J) = am_ev X amP_31 12 [.ref (am_bd b), .int (iI ((s : Int) + 1)), v3, v4] [] (am_sh (pl3 (am_up I (am_bd b + 5) s (iI (ps_h f s))) b s (ps_x f s) (ps_y f s) (ps_z f s)) J) := by
  have hr := ps_r_rg ok (s : Int)
  have hh := ps_h_rg ok (s : Int)
  have hw := ps_w_rg ok (s := (s : Int)) (by omega) hs
  have ok' := ok
  obtain ⟨⟨o1, o2, o3⟩, ⟨o4, o5⟩, ⟨o6, o7⟩, ⟨o8, o9⟩, ⟨o10, o11⟩, ⟨o12, o13⟩, -, -⟩ := ok'
  have g2 : ((s : Int) + f 4) % f 2 = ps_r f s := rfl
  have g3 : f 0 + 2 * (f 1 - f 0) * min (ps_r f s) (f 2 - ps_r f s) / f 2 = ps_h f s := rfl
  have g4 : 4 * (s : Int) * ps_h f s / f 2 = ps_w f s := rfl
  have m3 : 0 ≤ 2 * (f 1 - f 0) * min (ps_r f s) (f 2 - ps_r f s) ∧ 2 * (f 1 - f 0) * min (ps_r f s) (f 2 - ps_r f s) ≤ 19200 := by
    constructor
    · exact Int.mul_nonneg (by omega) (by omega)
    · have := mul_ab (u := 2 * (f 1 - f 0)) (v := min (ps_r f s) (f 2 - ps_r f s)) (a := 400) (b := 48) (by omega) (by omega)
      omega
  have m4 : 0 ≤ 4 * (s : Int) * ps_h f s ∧ 4 * (s : Int) * ps_h f s ≤ 40000 := by
    constructor
    · exact Int.mul_nonneg (by omega) (by omega)
    · have := mul_ab (u := 4 * (s : Int)) (v := ps_h f s) (a := 192) (b := 200) (by omega) (by omega)
      omega
  have c0' := cr_c hf (k := 0) (by omega)
  have c1' := cr_c hf (k := 1) (by omega)
  have c4' := cr_c hf (k := 4) (by omega)
  have u1 : ∀ v, am_up I (am_bd b + 5) s v (am_bd b) 1 = iI (f 2) := fun v => (up_ck (by omega)).trans e1
  have hf' : cr (am_up I (am_bd b + 5) s (iI (ps_h f s))) b = f := (cr_congr (fun k => up_ck (by omega))).trans hf
  have A := k_32 (X := X) (J := J) hf' ok hb (s := s) (by omega) hw.1 hw.2 (by omega)
  have A2 : plq (am_up I (am_bd b + 5) s (iI (ps_h f s))) b s f (rg_p (ps_w f s) (ps_h f s)) (rg_q (ps_w f s) (ps_h f s)) = pl3 (am_up I (am_bd b + 5) s (iI (ps_h f s))) b s (ps_x f s) (ps_y f s) (ps_z f s) := rfl
  rw [A2] at A
  have ecl : (iI (s : Int)).toNatClampNeg = s := by rw [iI_cl (by omega) (by omega), Int.toNat_natCast]
  generalize ps_x f s = PX at *
  generalize ps_y f s = PY at *
  generalize ps_z f s = PZ at *
  generalize ps_w f s = PW at *
  generalize ps_h f s = PH at *
  generalize ps_r f s = PR at *
  refine ⟨.int (iI PR), .int (iI (2 * (f 1 - f 0) * min PR (f 2 - PR))), rfl, rfl, ?_⟩
  rw [sg_31_12, e1, c0', c1', c4']
  · simp (disch := first | omega | assumption | exact cat_n | exact cat_i _ | exact cat_r _ | (simp (disch := omega) only [l_0, l_1, l_m1, l_2, l_3, l_4, l_5, l_6, l_7, l_8, l_9, l_10, l_16, l_20, l_40, l_48, l_99, l_200, l_999, l_9999, li_73, li_78, li_m1000000, li_90, li_251, li_400, li_2400, li_91, li_153, li_173, li_96, li_32, li_92, li_12, li_93, li_80, li_14, li_1000000000, li_30, li_11, li_24, li_13, li_97, li_64, li_1600, li_49, li_255, li_2147483647, li_12345, li_1103515245, li_59, li_57, li_122, li_1023, li_1000000, li_52, li_51, li_50, li_47, li_46, li_45, li_44, li_43, li_42, li_41, li_39, li_38, li_37, li_36, li_35, li_34, li_33, li_29, li_28, li_27, li_26, li_25, li_23, li_22, li_21, li_19, li_18, li_17, li_15, li_m8, li_m2, li_60, li_54, li_2907, li_151, li_127, oN, iI_add, iI_sub, iI_mul, iI_neg, Int.reduceAdd, Int.reduceSub, Int.reduceMul, Int.reduceNeg, Int.toNat_natCast, iI_lt, iI_le, iI_eq, iI_cl, true_or, or_true, false_or, or_false, true_and, and_true, not_true_eq_false, not_false_eq_true]; first | done | omega)) only [↓if_pos, ↓if_neg, Option.bind_some, Option.toList_some, Option.toList_none, List.cons_append, List.nil_append, l_0, l_1, l_m1, l_2, l_3, l_4, l_5, l_6, l_7, l_8, l_9, l_10, l_16, l_20, l_40, l_48, l_99, l_200, l_999, l_9999, li_73, li_78, li_m1000000, li_90, li_251, li_400, li_2400, li_91, li_153, li_173, li_96, li_32, li_92, li_12, li_93, li_80, li_14, li_1000000000, li_30, li_11, li_24, li_13, li_97, li_64, li_1600, li_49, li_255, li_2147483647, li_12345, li_1103515245, li_59, li_57, li_122, li_1023, li_1000000, li_52, li_51, li_50, li_47, li_46, li_45, li_44, li_43, li_42, li_41, li_39, li_38, li_37, li_36, li_35, li_34, li_33, li_29, li_28, li_27, li_26, li_25, li_23, li_22, li_21, li_19, li_18, li_17, li_15, li_m8, li_m2, li_60, li_54, li_2907, li_151, li_127, oN, iI_add, iI_sub, iI_mul, iI_neg, Int.reduceAdd, Int.reduceSub, Int.reduceMul, Int.reduceNeg, Int.toNat_natCast, iI_cl, iI_div, em_, g2, c_353, sg_31_43, sg_31_76, e1, c0', g3, u1, up_at, ecl, g4, A]
  all_goals assumption
end S81
