/-! DRAWS by the seed -/
def dr (s : Int) : Int := (1103515245 * s + 12345) % 2147483648
theorem dr_rg (s : Int) : 0 ≤ dr s ∧ dr s < 2147483648 := by unfold dr; omega
theorem iI_mask (z : Int) : iI z &&& iI 2147483647 = iI (z % 2147483648) := by
  refine Int32.toBitVec_inj.mp ?_
  show BitVec.ofInt 32 z &&& BitVec.ofInt 32 2147483647 = BitVec.ofInt 32 (z % 2147483648)
  refine BitVec.eq_of_toNat_eq ?_
  rw [BitVec.toNat_and, BitVec.toNat_ofInt, BitVec.toNat_ofInt, BitVec.toNat_ofInt]
  have e : ((2147483647 : Int) % ((2 ^ 32 : Nat) : Int)).toNat = 2 ^ 31 - 1 := by decide
  rw [e, Nat.and_two_pow_sub_one_eq_mod]
  have h : ((2 ^ 32 : Nat) : Int) = 4294967296 := by decide
  have h2 : (2 ^ 31 : Nat) = 2147483648 := by decide
  rw [h, h2]
  omega
theorem jj_of {s : Int} (h0 : 0 ≤ s) (h1 : s < 2147483648) : Int32.toInt64 (iI s) = Int64.ofInt s := by
  refine Int64.toInt_inj.mp ?_
  rw [Int32.toInt_toInt64, to_iI (by omega) h1, Int64.toInt_ofInt_of_le (by omega) (by omega)]
theorem jj_dr {s : Int} (h0 : 0 ≤ s) (h1 : s < 2147483648) : Int64.toInt32 ((((Int64.ofInt 1103515245) * (Int32.toInt64 (iI s))) + (Int64.ofInt 12345)) - (((Int64.ofInt 1103515245) * (Int32.toInt64 (iI s))) + (Int64.ofInt 12345)) / (Int64.ofInt 2147483648) * (Int64.ofInt 2147483648)) = iI (dr s) := by
  rw [jj_of h0 h1, ← Int64.ofInt_mul, ← Int64.ofInt_add]
  have hz : 0 ≤ 1103515245 * s + 12345 ∧ 1103515245 * s + 12345 < 9000000000000000000 := by omega
  have ed : (1103515245 * s + 12345) % 2147483648 = dr s := rfl
  generalize 1103515245 * s + 12345 = z at *
  have e1 : Int64.ofInt z / Int64.ofInt 2147483648 = Int64.ofInt (z.tdiv 2147483648) := (Int64.ofInt_tdiv (by rw [Int64.toInt_minValue]; omega) (by rw [Int64.toInt_maxValue]; omega) (by decide) (by decide)).symm
  rw [e1, ← Int64.ofInt_mul, ← Int64.ofInt_sub, Int64.toInt32_ofInt, Int.tdiv_eq_ediv_of_nonneg hz.1, em_, ed]
  rfl
section S90
variable {X : am_X} {K : Sk} {I I' : Nat → Nat → Int32} {J : Nat → Nat → Int64} {b : Nat} {s : Int}
theorem k_13 (e : I 106 7 = iI s) {m : Int} (m0 : 1 ≤ m) (m1 : m ≤ 1000) : am_do X 13 [.ref 106, .int (iI m)] (am_sh I J) = some (some (.int (iI (dr s / 64 % m))), am_sh (am_up I 106 7 (iI (dr s))) J) := by
  have r := dr_rg s
  have ed : (1103515245 * s + 12345) % 2147483648 = dr s := rfl
  have r2 : 0 ≤ dr s / 64 ∧ dr s / 64 < 2147483648 := by omega
  rw [cl_13, sg_13_e0, e]
  simp (disch := first | omega | assumption | exact cat_n | exact cat_i _ | exact cat_r _ | (simp (disch := omega) only [l_0, l_1, l_m1, l_2, l_3, l_4, l_5, l_6, l_7, l_8, l_9, l_10, l_16, l_20, l_40, l_48, l_99, l_200, l_999, l_9999, li_73, li_78, li_m1000000, li_90, li_251, li_400, li_2400, li_91, li_153, li_173, li_96, li_32, li_92, li_12, li_93, li_80, li_14, li_1000000000, li_30, li_11, li_24, li_13, li_97, li_64, li_1600, li_49, li_255, li_2147483647, li_12345, li_1103515245, li_59, li_57, li_122, li_1023, li_1000000, li_52, li_51, li_50, li_47, li_46, li_45, li_44, li_43, li_42, li_41, li_39, li_38, li_37, li_36, li_35, li_34, li_33, li_29, li_28, li_27, li_26, li_25, li_23, li_22, li_21, li_19, li_18, li_17, li_15, li_m8, li_m2, li_60, li_54, li_2907, li_151, li_127, oN, iI_add, iI_sub, iI_mul, iI_neg, Int.reduceAdd, Int.reduceSub, Int.reduceMul, Int.reduceNeg, Int.toNat_natCast, Int.reduceToNat, iI_lt, iI_le, iI_eq, iI_cl, true_or, or_true, false_or, or_false, true_and, and_true, not_true_eq_false, not_false_eq_true]; first | done | omega)) only [↓if_pos, ↓if_neg, Option.bind_some, Option.toList_some, Option.toList_none, List.cons_append, List.nil_append, l_0, l_1, l_m1, l_2, l_3, l_4, l_5, l_6, l_7, l_8, l_9, l_10, l_16, l_20, l_40, l_48, l_99, l_200, l_999, l_9999, li_73, li_78, li_m1000000, li_90, li_251, li_400, li_2400, li_91, li_153, li_173, li_96, li_32, li_92, li_12, li_93, li_80, li_14, li_1000000000, li_30, li_11, li_24, li_13, li_97, li_64, li_1600, li_49, li_255, li_2147483647, li_12345, li_1103515245, li_59, li_57, li_122, li_1023, li_1000000, li_52, li_51, li_50, li_47, li_46, li_45, li_44, li_43, li_42, li_41, li_39, li_38, li_37, li_36, li_35, li_34, li_33, li_29, li_28, li_27, li_26, li_25, li_23, li_22, li_21, li_19, li_18, li_17, li_15, li_m8, li_m2, li_60, li_54, li_2907, li_151, li_127, oN, iI_add, iI_sub, iI_mul, iI_neg, Int.reduceAdd, Int.reduceSub, Int.reduceMul, Int.reduceNeg, Int.toNat_natCast, Int.reduceToNat, iI_cl, iI_mask, ed, up_at, iI_div, em_]
theorem m_337 (e : I 139 41 = iI s) (h0 : 0 ≤ s) (h1 : s < 2147483648) {m : Int} (m0 : 1 ≤ m) (m1 : m ≤ 1000) : am_do X 337 [.ref 139, .int (iI m)] (am_sh I J) = some (some (.int (iI (dr s / 64 % m))), am_sh (am_up I 139 41 (iI (dr s))) J) := by
  have r := dr_rg s
  have r2 : 0 ≤ dr s / 64 ∧ dr s / 64 < 2147483648 := by omega
  rw [cl_337, sg_337_e0, e, jj_dr h0 h1]
  simp (disch := first | omega | assumption | exact cat_n | exact cat_i _ | exact cat_r _ | (simp (disch := omega) only [l_0, l_1, l_m1, l_2, l_3, l_4, l_5, l_6, l_7, l_8, l_9, l_10, l_16, l_20, l_40, l_48, l_99, l_200, l_999, l_9999, li_73, li_78, li_m1000000, li_90, li_251, li_400, li_2400, li_91, li_153, li_173, li_96, li_32, li_92, li_12, li_93, li_80, li_14, li_1000000000, li_30, li_11, li_24, li_13, li_97, li_64, li_1600, li_49, li_255, li_2147483647, li_12345, li_1103515245, li_59, li_57, li_122, li_1023, li_1000000, li_52, li_51, li_50, li_47, li_46, li_45, li_44, li_43, li_42, li_41, li_39, li_38, li_37, li_36, li_35, li_34, li_33, li_29, li_28, li_27, li_26, li_25, li_23, li_22, li_21, li_19, li_18, li_17, li_15, li_m8, li_m2, li_60, li_54, li_2907, li_151, li_127, oN, iI_add, iI_sub, iI_mul, iI_neg, Int.reduceAdd, Int.reduceSub, Int.reduceMul, Int.reduceNeg, Int.toNat_natCast, Int.reduceToNat, iI_lt, iI_le, iI_eq, iI_cl, true_or, or_true, false_or, or_false, true_and, and_true, not_true_eq_false, not_false_eq_true]; first | done | omega)) only [↓if_pos, ↓if_neg, Option.bind_some, Option.toList_some, Option.toList_none, List.cons_append, List.nil_append, l_0, l_1, l_m1, l_2, l_3, l_4, l_5, l_6, l_7, l_8, l_9, l_10, l_16, l_20, l_40, l_48, l_99, l_200, l_999, l_9999, li_73, li_78, li_m1000000, li_90, li_251, li_400, li_2400, li_91, li_153, li_173, li_96, li_32, li_92, li_12, li_93, li_80, li_14, li_1000000000, li_30, li_11, li_24, li_13, li_97, li_64, li_1600, li_49, li_255, li_2147483647, li_12345, li_1103515245, li_59, li_57, li_122, li_1023, li_1000000, li_52, li_51, li_50, li_47, li_46, li_45, li_44, li_43, li_42, li_41, li_39, li_38, li_37, li_36, li_35, li_34, li_33, li_29, li_28, li_27, li_26, li_25, li_23, li_22, li_21, li_19, li_18, li_17, li_15, li_m8, li_m2, li_60, li_54, li_2907, li_151, li_127, oN, iI_add, iI_sub, iI_mul, iI_neg, Int.reduceAdd, Int.reduceSub, Int.reduceMul, Int.reduceNeg, Int.toNat_natCast, Int.reduceToNat, iI_cl, up_at, iI_div, em_]
end S90
/-- a body changes as it is drawn: the sky and the seed behind it -/
def chw (K : Sk) (b : Nat) (r s : Int) : Sk × Int := if r = 0 then (ks K b (rs (kf K b) 8 (1 - kf K b 8)), s) else if r = 1 then (ks K b (rs (kf K b) 3 (dr s / 64 % kf K b 2)), dr s) else (ks K b (rs (kf K b) 4 (dr s / 64 % kf K b 2)), dr s)
section CHW
variable {K : Sk} {b : Nat} {r s : Int}
theorem chw_c : kn (chw K b r s).1 = kn K ∧ ke (chw K b r s).1 = ke K ∧ kz (chw K b r s).1 = kz K ∧ kt (chw K b r s).1 = kt K := by
  unfold chw
  split
  · exact ⟨rfl, rfl, rfl, rfl⟩
  · split
    · exact ⟨rfl, rfl, rfl, rfl⟩
    · exact ⟨rfl, rfl, rfl, rfl⟩
theorem chw_s (h0 : 0 ≤ s) (h1 : s < 2147483648) : 0 ≤ (chw K b r s).2 ∧ (chw K b r s).2 < 2147483648 := by
  have := dr_rg s
  unfold chw
  split
  · exact ⟨h0, h1⟩
  · split
    · exact this
    · exact this
theorem chw_0 : chw K b 0 s = (ks K b (rs (kf K b) 8 (1 - kf K b 8)), s) := by unfold chw; rw [if_pos rfl]
theorem chw_1 : chw K b 1 s = (ks K b (rs (kf K b) 3 (dr s / 64 % kf K b 2)), dr s) := by unfold chw; rw [if_neg (by decide), if_pos rfl]
theorem chw_2 : chw K b 2 s = (ks K b (rs (kf K b) 4 (dr s / 64 % kf K b 2)), dr s) := by unfold chw; rw [if_neg (by decide), if_neg (by decide)]
end CHW
section S90b
variable {X : am_X} {K : Sk} {I I' : Nat → Nat → Int32} {J : Nat → Nat → Int64} {b : Nat} {s : Int}
set_option maxHeartbeats 1000000 in
theorem k_12 (h : CS K I) (hC : rl_C I) (hb : b < kn K) (e : I 106 7 = iI s) {r : Int} (r0 : 0 ≤ r) (r1 : r ≤ 2) : ∃ I' : Nat → Nat → Int32, am_do X 12 [.ref 106, .int (iI b), .int (iI r)] (am_sh I J) = some (none, am_sh I' J) ∧ CS (chw K b r s).1 I' ∧ rl_C I' ∧ I' 106 7 = iI (chw K b r s).2 ∧ ∀ c k, ¬ (19 ≤ c ∧ c ≤ 78 ∧ ¬ ((c - 19) % 6 = 0 ∧ k = 0)) → c ≠ 80 → c ≠ 84 → ¬ (c = 106 ∧ k = 7) → I' c k = I c k := by
  have hn := K_n (CS_k h)
  have hr := K_rg (CS_k h) hb
  have ok := K_f (CS_k h) hb
  have hbd := bd_eq (b := b) (by omega)
  have ecl : (iI (b : Int)).toNatClampNeg = b := by rw [iI_cl (by omega) (by omega), Int.toNat_natCast]
  have e2 := CS_c h hb (k := 2) (by omega)
  have e8 := CS_c h hb (k := 8) (by omega)
  have e13 := k_13 (X := X) (J := J) (I := I) e (m := kf K b 2) (by omega) (by omega)
  have d1 := Int.emod_nonneg (dr s / 64) (show kf K b 2 ≠ 0 by omega)
  have d2 := Int.emod_lt_of_pos (dr s / 64) (show 0 < kf K b 2 by omega)
  rcases (by omega : r = 0 ∨ r = 1 ∨ r = 2) with rfl | rfl | rfl
  · rw [chw_0]
    have c1 : CS (ks K b (rs (kf K b) 8 (1 - kf K b 8))) (am_up I (am_bd b + 1) 8 (iI (1 - kf K b 8))) := CS_u8 h hb (by omega) (by omega) (fun c k z1 z2 => up_ck (by omega)) (up_at _ _ _ _)
    refine ⟨am_up I (am_bd b + 1) 8 (iI (1 - kf K b 8)), ?_, c1, C_u8 h hb hC c1 (fun k => up_ck (by omega)) (fun k => up_ck (by omega)) (fun k => up_ck (by omega)) (fun k => up_ck (by omega)), (up_ck (by omega)).trans e, fun c k z1 z2 z3 z4 => up_ck (by omega)⟩
    rw [cl_12, sg_12_e0, ecl, e8]
    simp (disch := first | omega | assumption | exact cat_n | exact cat_i _ | exact cat_r _ | (simp (disch := omega) only [l_0, l_1, l_m1, l_2, l_3, l_4, l_5, l_6, l_7, l_8, l_9, l_10, l_16, l_20, l_40, l_48, l_99, l_200, l_999, l_9999, li_73, li_78, li_m1000000, li_90, li_251, li_400, li_2400, li_91, li_153, li_173, li_96, li_32, li_92, li_12, li_93, li_80, li_14, li_1000000000, li_30, li_11, li_24, li_13, li_97, li_64, li_1600, li_49, li_255, li_2147483647, li_12345, li_1103515245, li_59, li_57, li_122, li_1023, li_1000000, li_52, li_51, li_50, li_47, li_46, li_45, li_44, li_43, li_42, li_41, li_39, li_38, li_37, li_36, li_35, li_34, li_33, li_29, li_28, li_27, li_26, li_25, li_23, li_22, li_21, li_19, li_18, li_17, li_15, li_m8, li_m2, li_60, li_54, li_2907, li_151, li_127, oN, iI_add, iI_sub, iI_mul, iI_neg, Int.reduceAdd, Int.reduceSub, Int.reduceMul, Int.reduceNeg, Int.toNat_natCast, Int.reduceToNat, iI_lt, iI_le, iI_eq, iI_cl, true_or, or_true, false_or, or_false, true_and, and_true, not_true_eq_false, not_false_eq_true]; first | done | omega)) only [↓if_pos, ↓if_neg, Option.bind_some, Option.toList_some, Option.toList_none, List.cons_append, List.nil_append, l_0, l_1, l_m1, l_2, l_3, l_4, l_5, l_6, l_7, l_8, l_9, l_10, l_16, l_20, l_40, l_48, l_99, l_200, l_999, l_9999, li_73, li_78, li_m1000000, li_90, li_251, li_400, li_2400, li_91, li_153, li_173, li_96, li_32, li_92, li_12, li_93, li_80, li_14, li_1000000000, li_30, li_11, li_24, li_13, li_97, li_64, li_1600, li_49, li_255, li_2147483647, li_12345, li_1103515245, li_59, li_57, li_122, li_1023, li_1000000, li_52, li_51, li_50, li_47, li_46, li_45, li_44, li_43, li_42, li_41, li_39, li_38, li_37, li_36, li_35, li_34, li_33, li_29, li_28, li_27, li_26, li_25, li_23, li_22, li_21, li_19, li_18, li_17, li_15, li_m8, li_m2, li_60, li_54, li_2907, li_151, li_127, oN, iI_add, iI_sub, iI_mul, iI_neg, Int.reduceAdd, Int.reduceSub, Int.reduceMul, Int.reduceNeg, Int.toNat_natCast, Int.reduceToNat, iI_cl]
  · rw [chw_1]
    generalize dr s / 64 % kf K b 2 = p at *
    generalize hI1 : am_up I 106 7 (iI (dr s)) = I1 at *
    have f1 : ∀ c k, ¬ (c = 106 ∧ k = 7) → I1 c k = I c k := fun c k z => by rw [← hI1, up_ck (by omega)]
    have h1 : CS K I1 := CS_cg h (fun c k z => f1 c k (by omega))
    have C1 : rl_C I1 := C_cg h hC h1 (fun c k z => f1 c k (by omega))
    have cr2 : cr (am_up I1 (am_bd b + 1) 3 (iI p)) b = rs (kf K b) 3 p := by rw [cr_set (by omega) (by omega) (by omega), CS_r h1 hb]
    have ok2 : ps_ok (rs (kf K b) 3 p) := ⟨ok.1, ok.2.1, ⟨d1, d2⟩, ok.2.2.2⟩
    obtain ⟨I3, p3, g3⟩ := k_3 (X := X) (J := J) cr2 ok2 (by omega) (I0 := I1) (fun c k z => up_ck (by omega))
    have c3 := CS_new h1 hb ok2 g3
    refine ⟨I3, ?_, c3, C_new h1 hb C1 c3 g3, ?_, fun c k z1 z2 z3 z4 => ?_⟩
    · rw [cl_12, sg_12_e0, ecl, e2]
      simp (disch := first | omega | assumption | exact cat_n | exact cat_i _ | exact cat_r _ | (simp (disch := omega) only [l_0, l_1, l_m1, l_2, l_3, l_4, l_5, l_6, l_7, l_8, l_9, l_10, l_16, l_20, l_40, l_48, l_99, l_200, l_999, l_9999, li_73, li_78, li_m1000000, li_90, li_251, li_400, li_2400, li_91, li_153, li_173, li_96, li_32, li_92, li_12, li_93, li_80, li_14, li_1000000000, li_30, li_11, li_24, li_13, li_97, li_64, li_1600, li_49, li_255, li_2147483647, li_12345, li_1103515245, li_59, li_57, li_122, li_1023, li_1000000, li_52, li_51, li_50, li_47, li_46, li_45, li_44, li_43, li_42, li_41, li_39, li_38, li_37, li_36, li_35, li_34, li_33, li_29, li_28, li_27, li_26, li_25, li_23, li_22, li_21, li_19, li_18, li_17, li_15, li_m8, li_m2, li_60, li_54, li_2907, li_151, li_127, oN, iI_add, iI_sub, iI_mul, iI_neg, Int.reduceAdd, Int.reduceSub, Int.reduceMul, Int.reduceNeg, Int.toNat_natCast, Int.reduceToNat, iI_lt, iI_le, iI_eq, iI_cl, true_or, or_true, false_or, or_false, true_and, and_true, not_true_eq_false, not_false_eq_true]; first | done | omega)) only [↓if_pos, ↓if_neg, Option.bind_some, Option.toList_some, Option.toList_none, List.cons_append, List.nil_append, l_0, l_1, l_m1, l_2, l_3, l_4, l_5, l_6, l_7, l_8, l_9, l_10, l_16, l_20, l_40, l_48, l_99, l_200, l_999, l_9999, li_73, li_78, li_m1000000, li_90, li_251, li_400, li_2400, li_91, li_153, li_173, li_96, li_32, li_92, li_12, li_93, li_80, li_14, li_1000000000, li_30, li_11, li_24, li_13, li_97, li_64, li_1600, li_49, li_255, li_2147483647, li_12345, li_1103515245, li_59, li_57, li_122, li_1023, li_1000000, li_52, li_51, li_50, li_47, li_46, li_45, li_44, li_43, li_42, li_41, li_39, li_38, li_37, li_36, li_35, li_34, li_33, li_29, li_28, li_27, li_26, li_25, li_23, li_22, li_21, li_19, li_18, li_17, li_15, li_m8, li_m2, li_60, li_54, li_2907, li_151, li_127, oN, iI_add, iI_sub, iI_mul, iI_neg, Int.reduceAdd, Int.reduceSub, Int.reduceMul, Int.reduceNeg, Int.toNat_natCast, Int.reduceToNat, iI_cl, e13, sg_12_30, p3, sg_12_34]
    · rw [g3.2.2.2.2 106 7 (by omega) (by omega) (by omega) (by omega), ← hI1, up_at]
    · rw [g3.2.2.2.2 c k (by omega) (by omega) z2 z3, f1 c k z4]
  · rw [chw_2]
    generalize dr s / 64 % kf K b 2 = p at *
    generalize hI1 : am_up I 106 7 (iI (dr s)) = I1 at *
    have f1 : ∀ c k, ¬ (c = 106 ∧ k = 7) → I1 c k = I c k := fun c k z => by rw [← hI1, up_ck (by omega)]
    have h1 : CS K I1 := CS_cg h (fun c k z => f1 c k (by omega))
    have C1 : rl_C I1 := C_cg h hC h1 (fun c k z => f1 c k (by omega))
    have cr2 : cr (am_up I1 (am_bd b + 1) 4 (iI p)) b = rs (kf K b) 4 p := by rw [cr_set (by omega) (by omega) (by omega), CS_r h1 hb]
    have ok2 : ps_ok (rs (kf K b) 4 p) := ⟨ok.1, ok.2.1, ok.2.2.1, ⟨d1, d2⟩, ok.2.2.2.2⟩
    obtain ⟨I3, p3, g3⟩ := k_3 (X := X) (J := J) cr2 ok2 (by omega) (I0 := I1) (fun c k z => up_ck (by omega))
    have c3 := CS_new h1 hb ok2 g3
    refine ⟨I3, ?_, c3, C_new h1 hb C1 c3 g3, ?_, fun c k z1 z2 z3 z4 => ?_⟩
    · rw [cl_12, sg_12_e0, ecl, e2]
      simp (disch := first | omega | assumption | exact cat_n | exact cat_i _ | exact cat_r _ | (simp (disch := omega) only [l_0, l_1, l_m1, l_2, l_3, l_4, l_5, l_6, l_7, l_8, l_9, l_10, l_16, l_20, l_40, l_48, l_99, l_200, l_999, l_9999, li_73, li_78, li_m1000000, li_90, li_251, li_400, li_2400, li_91, li_153, li_173, li_96, li_32, li_92, li_12, li_93, li_80, li_14, li_1000000000, li_30, li_11, li_24, li_13, li_97, li_64, li_1600, li_49, li_255, li_2147483647, li_12345, li_1103515245, li_59, li_57, li_122, li_1023, li_1000000, li_52, li_51, li_50, li_47, li_46, li_45, li_44, li_43, li_42, li_41, li_39, li_38, li_37, li_36, li_35, li_34, li_33, li_29, li_28, li_27, li_26, li_25, li_23, li_22, li_21, li_19, li_18, li_17, li_15, li_m8, li_m2, li_60, li_54, li_2907, li_151, li_127, oN, iI_add, iI_sub, iI_mul, iI_neg, Int.reduceAdd, Int.reduceSub, Int.reduceMul, Int.reduceNeg, Int.toNat_natCast, Int.reduceToNat, iI_lt, iI_le, iI_eq, iI_cl, true_or, or_true, false_or, or_false, true_and, and_true, not_true_eq_false, not_false_eq_true]; first | done | omega)) only [↓if_pos, ↓if_neg, Option.bind_some, Option.toList_some, Option.toList_none, List.cons_append, List.nil_append, l_0, l_1, l_m1, l_2, l_3, l_4, l_5, l_6, l_7, l_8, l_9, l_10, l_16, l_20, l_40, l_48, l_99, l_200, l_999, l_9999, li_73, li_78, li_m1000000, li_90, li_251, li_400, li_2400, li_91, li_153, li_173, li_96, li_32, li_92, li_12, li_93, li_80, li_14, li_1000000000, li_30, li_11, li_24, li_13, li_97, li_64, li_1600, li_49, li_255, li_2147483647, li_12345, li_1103515245, li_59, li_57, li_122, li_1023, li_1000000, li_52, li_51, li_50, li_47, li_46, li_45, li_44, li_43, li_42, li_41, li_39, li_38, li_37, li_36, li_35, li_34, li_33, li_29, li_28, li_27, li_26, li_25, li_23, li_22, li_21, li_19, li_18, li_17, li_15, li_m8, li_m2, li_60, li_54, li_2907, li_151, li_127, oN, iI_add, iI_sub, iI_mul, iI_neg, Int.reduceAdd, Int.reduceSub, Int.reduceMul, Int.reduceNeg, Int.toNat_natCast, Int.reduceToNat, iI_cl, e13, sg_12_30, p3, sg_12_34]
    · rw [g3.2.2.2.2 106 7 (by omega) (by omega) (by omega) (by omega), ← hI1, up_at]
    · rw [g3.2.2.2.2 c k (by omega) (by omega) z2 z3, f1 c k z4]
theorem Fr_c148 (f : Fr W_k I I') : ∀ c k, c ≠ 150 → ¬ (c = 148 ∧ 3 ≤ k ∧ k ≤ 72) → I' c k = I c k := fun c k z1 z2 => f c k (by
  cases w : W_k c k with
  | false => rfl
  | true =>
    unfold W_k at w
    simp only [Bool.or_eq_true, Bool.and_eq_true, Nat.beq_eq, Nat.ble_eq] at w
    omega)
theorem n_lay2 (h : MS K I) (hb : b < kn K) : ∃ I' : Nat → Nat → Int32, am_do X 247 [.ref 139, .int (iI b)] (am_sh I J) = some (none, am_sh I' J) ∧ Fr W_k I I' ∧ MS K I' := by
  obtain ⟨I', p1, p2, p3⟩ := n_lay (X := X) (J := J) (MS_MP h hb)
  rw [ks_id] at p3
  exact ⟨I', p1, p2, p3⟩
set_option maxHeartbeats 1000000 in
/-- the model changes a body as it is drawn -/
theorem m_338w (h : MS K I) (hb : b < kn K) (e : I 139 41 = iI s) (s0 : 0 ≤ s) (s1 : s < 2147483648) {r : Int} (r0 : 0 ≤ r) (r1 : r ≤ 2) {n j : Int} {w4 w5 w6 : Value} (hw4 : w4.category = 1) (hw5 : w5.category = 1) (hw6 : w6.category = 1) : ∃ I' : Nat → Nat → Int32, am_ev X amP_338 37 [.ref 139, .int (iI n), .int (iI j), .int (iI b), w4, w5, w6] [.int (iI r)] (am_sh I J) = am_ev X amP_338 77 [.ref 139, .int (iI n), .int (iI j), .int (iI b), .int (iI r), w5, w6] [] (am_sh I' J) ∧ MS (chw K b r s).1 I' ∧ I' 139 41 = iI (chw K b r s).2 ∧ ∀ c k, c ≠ 150 → ¬ (c = 148 ∧ 3 ≤ k ∧ k ≤ 72) → ¬ (c = 139 ∧ k = 41) → I' c k = I c k := by
  have hn := K_n (MS_k h)
  have hr := K_rg (MS_k h) hb
  have ok := K_f (MS_k h) hb
  have ecl : (iI (b : Int)).toNatClampNeg = b := by rw [iI_cl (by omega) (by omega), Int.toNat_natCast]
  have e2 := MS_2 h hb
  have e13 := m_337 (X := X) (J := J) (I := I) e s0 s1 (m := kf K b 2) (by omega) (by omega)
  have d1 := Int.emod_nonneg (dr s / 64) (show kf K b 2 ≠ 0 by omega)
  have d2 := Int.emod_lt_of_pos (dr s / 64) (show 0 < kf K b 2 by omega)
  rcases (by omega : r = 0 ∨ r = 1 ∨ r = 2) with rfl | rfl | rfl
  · rw [chw_0]
    have m1 := MS_u8 h hb (v := 1 - kf K b 8) (by omega) (by omega)
    obtain ⟨I2, p2, f2, m2⟩ := n_lay2 (X := X) (J := J) m1 (b := b) hb
    have f2' := Fr_c148 f2
    have e242 := c_242 (X := X) (I := I) (J := J) (b := b) (by omega) (k := 6) (by omega) (v := iI (1 - kf K b 8))
    rw [show ((6 : Nat) : Int) = 6 from rfl, show 7 * b + 3 + 6 = 7 * b + 9 by omega] at e242
    refine ⟨I2, ?_, m2, ?_, fun c k z1 z2 z3 => ?_⟩
    · rw [sg_338_37 (hw4 := hw4) (hw5 := hw5) (hw6 := hw6)]
      simp (disch := first | omega | assumption | exact cat_n | exact cat_i _ | exact cat_r _ | (simp (disch := omega) only [l_0, l_1, l_m1, l_2, l_3, l_4, l_5, l_6, l_7, l_8, l_9, l_10, l_16, l_20, l_40, l_48, l_99, l_200, l_999, l_9999, li_73, li_78, li_m1000000, li_90, li_251, li_400, li_2400, li_91, li_153, li_173, li_96, li_32, li_92, li_12, li_93, li_80, li_14, li_1000000000, li_30, li_11, li_24, li_13, li_97, li_64, li_1600, li_49, li_255, li_2147483647, li_12345, li_1103515245, li_59, li_57, li_122, li_1023, li_1000000, li_52, li_51, li_50, li_47, li_46, li_45, li_44, li_43, li_42, li_41, li_39, li_38, li_37, li_36, li_35, li_34, li_33, li_29, li_28, li_27, li_26, li_25, li_23, li_22, li_21, li_19, li_18, li_17, li_15, li_m8, li_m2, li_60, li_54, li_2907, li_151, li_127, oN, iI_add, iI_sub, iI_mul, iI_neg, Int.reduceAdd, Int.reduceSub, Int.reduceMul, Int.reduceNeg, Int.toNat_natCast, Int.reduceToNat, iI_lt, iI_le, iI_eq, iI_cl, true_or, or_true, false_or, or_false, true_and, and_true, not_true_eq_false, not_false_eq_true]; first | done | omega)) only [↓if_pos, ↓if_neg, Option.bind_some, Option.toList_some, Option.toList_none, List.cons_append, List.nil_append, l_0, l_1, l_m1, l_2, l_3, l_4, l_5, l_6, l_7, l_8, l_9, l_10, l_16, l_20, l_40, l_48, l_99, l_200, l_999, l_9999, li_73, li_78, li_m1000000, li_90, li_251, li_400, li_2400, li_91, li_153, li_173, li_96, li_32, li_92, li_12, li_93, li_80, li_14, li_1000000000, li_30, li_11, li_24, li_13, li_97, li_64, li_1600, li_49, li_255, li_2147483647, li_12345, li_1103515245, li_59, li_57, li_122, li_1023, li_1000000, li_52, li_51, li_50, li_47, li_46, li_45, li_44, li_43, li_42, li_41, li_39, li_38, li_37, li_36, li_35, li_34, li_33, li_29, li_28, li_27, li_26, li_25, li_23, li_22, li_21, li_19, li_18, li_17, li_15, li_m8, li_m2, li_60, li_54, li_2907, li_151, li_127, oN, iI_add, iI_sub, iI_mul, iI_neg, Int.reduceAdd, Int.reduceSub, Int.reduceMul, Int.reduceNeg, Int.toNat_natCast, Int.reduceToNat, iI_cl, sg_338_48, sg_338_50, m_241_6 h, e242, p2]
    · rw [f2' _ _ (by omega) (by omega), up_ck (by omega)]; exact e
    · rw [f2' c k z1 z2, up_ck (by omega)]
  · rw [chw_1]
    generalize dr s / 64 % kf K b 2 = p at *
    generalize hI1 : am_up I 139 41 (iI (dr s)) = I1 at *
    have f1 : ∀ c k, ¬ (c = 139 ∧ k = 41) → I1 c k = I c k := fun c k z => by rw [← hI1, up_ck (by omega)]
    have h1 : MS K I1 := MS_cg h (fun c k z => f1 c k (by omega))
    obtain ⟨I2, p2, f2, m2⟩ := m_294 (X := X) (J := J) h1 hb (p := p) d1 d2
    obtain ⟨I3, p3, f3, m3⟩ := n_lay2 (X := X) (J := J) m2 (b := b) hb
    have f2' := Fr_c148 f2
    have f3' := Fr_c148 f3
    refine ⟨I3, ?_, m3, ?_, fun c k z1 z2 z3 => ?_⟩
    · rw [sg_338_37 (hw4 := hw4) (hw5 := hw5) (hw6 := hw6), ecl, e2]
      simp (disch := first | omega | assumption | exact cat_n | exact cat_i _ | exact cat_r _ | (simp (disch := omega) only [l_0, l_1, l_m1, l_2, l_3, l_4, l_5, l_6, l_7, l_8, l_9, l_10, l_16, l_20, l_40, l_48, l_99, l_200, l_999, l_9999, li_73, li_78, li_m1000000, li_90, li_251, li_400, li_2400, li_91, li_153, li_173, li_96, li_32, li_92, li_12, li_93, li_80, li_14, li_1000000000, li_30, li_11, li_24, li_13, li_97, li_64, li_1600, li_49, li_255, li_2147483647, li_12345, li_1103515245, li_59, li_57, li_122, li_1023, li_1000000, li_52, li_51, li_50, li_47, li_46, li_45, li_44, li_43, li_42, li_41, li_39, li_38, li_37, li_36, li_35, li_34, li_33, li_29, li_28, li_27, li_26, li_25, li_23, li_22, li_21, li_19, li_18, li_17, li_15, li_m8, li_m2, li_60, li_54, li_2907, li_151, li_127, oN, iI_add, iI_sub, iI_mul, iI_neg, Int.reduceAdd, Int.reduceSub, Int.reduceMul, Int.reduceNeg, Int.toNat_natCast, Int.reduceToNat, iI_lt, iI_le, iI_eq, iI_cl, true_or, or_true, false_or, or_false, true_and, and_true, not_true_eq_false, not_false_eq_true]; first | done | omega)) only [↓if_pos, ↓if_neg, Option.bind_some, Option.toList_some, Option.toList_none, List.cons_append, List.nil_append, l_0, l_1, l_m1, l_2, l_3, l_4, l_5, l_6, l_7, l_8, l_9, l_10, l_16, l_20, l_40, l_48, l_99, l_200, l_999, l_9999, li_73, li_78, li_m1000000, li_90, li_251, li_400, li_2400, li_91, li_153, li_173, li_96, li_32, li_92, li_12, li_93, li_80, li_14, li_1000000000, li_30, li_11, li_24, li_13, li_97, li_64, li_1600, li_49, li_255, li_2147483647, li_12345, li_1103515245, li_59, li_57, li_122, li_1023, li_1000000, li_52, li_51, li_50, li_47, li_46, li_45, li_44, li_43, li_42, li_41, li_39, li_38, li_37, li_36, li_35, li_34, li_33, li_29, li_28, li_27, li_26, li_25, li_23, li_22, li_21, li_19, li_18, li_17, li_15, li_m8, li_m2, li_60, li_54, li_2907, li_151, li_127, oN, iI_add, iI_sub, iI_mul, iI_neg, Int.reduceAdd, Int.reduceSub, Int.reduceMul, Int.reduceNeg, Int.toNat_natCast, Int.reduceToNat, iI_cl, sg_338_62, sg_338_63, e13, p2, p3]
    · rw [f3' _ _ (by omega) (by omega), f2' _ _ (by omega) (by omega), ← hI1, up_at]
    · rw [f3' c k z1 z2, f2' c k z1 z2, f1 c k z3]
  · rw [chw_2]
    generalize dr s / 64 % kf K b 2 = p at *
    generalize hI1 : am_up I 139 41 (iI (dr s)) = I1 at *
    have f1 : ∀ c k, ¬ (c = 139 ∧ k = 41) → I1 c k = I c k := fun c k z => by rw [← hI1, up_ck (by omega)]
    have h1 : MS K I1 := MS_cg h (fun c k z => f1 c k (by omega))
    have ok2 : ps_ok (rs (kf K b) 4 p) := ⟨ok.1, ok.2.1, ok.2.2.1, ⟨d1, d2⟩, ok.2.2.2.2⟩
    have m1 := MP_set (MS_MP h1 hb) (k := 3) (v := p) (by omega) ok2 (by omega) (by omega)
    obtain ⟨I3, p3, f3, m3⟩ := n_lay (X := X) (J := J) m1
    have f3' := Fr_c148 f3
    have e242 := c_242 (X := X) (I := I1) (J := J) (b := b) (by omega) (k := 3) (by omega) (v := iI p)
    rw [show ((3 : Nat) : Int) = 3 from rfl] at e242
    refine ⟨I3, ?_, m3, ?_, fun c k z1 z2 z3 => ?_⟩
    · rw [sg_338_37 (hw4 := hw4) (hw5 := hw5) (hw6 := hw6), ecl, e2]
      simp (disch := first | omega | assumption | exact cat_n | exact cat_i _ | exact cat_r _ | (simp (disch := omega) only [l_0, l_1, l_m1, l_2, l_3, l_4, l_5, l_6, l_7, l_8, l_9, l_10, l_16, l_20, l_40, l_48, l_99, l_200, l_999, l_9999, li_73, li_78, li_m1000000, li_90, li_251, li_400, li_2400, li_91, li_153, li_173, li_96, li_32, li_92, li_12, li_93, li_80, li_14, li_1000000000, li_30, li_11, li_24, li_13, li_97, li_64, li_1600, li_49, li_255, li_2147483647, li_12345, li_1103515245, li_59, li_57, li_122, li_1023, li_1000000, li_52, li_51, li_50, li_47, li_46, li_45, li_44, li_43, li_42, li_41, li_39, li_38, li_37, li_36, li_35, li_34, li_33, li_29, li_28, li_27, li_26, li_25, li_23, li_22, li_21, li_19, li_18, li_17, li_15, li_m8, li_m2, li_60, li_54, li_2907, li_151, li_127, oN, iI_add, iI_sub, iI_mul, iI_neg, Int.reduceAdd, Int.reduceSub, Int.reduceMul, Int.reduceNeg, Int.toNat_natCast, Int.reduceToNat, iI_lt, iI_le, iI_eq, iI_cl, true_or, or_true, false_or, or_false, true_and, and_true, not_true_eq_false, not_false_eq_true]; first | done | omega)) only [↓if_pos, ↓if_neg, Option.bind_some, Option.toList_some, Option.toList_none, List.cons_append, List.nil_append, l_0, l_1, l_m1, l_2, l_3, l_4, l_5, l_6, l_7, l_8, l_9, l_10, l_16, l_20, l_40, l_48, l_99, l_200, l_999, l_9999, li_73, li_78, li_m1000000, li_90, li_251, li_400, li_2400, li_91, li_153, li_173, li_96, li_32, li_92, li_12, li_93, li_80, li_14, li_1000000000, li_30, li_11, li_24, li_13, li_97, li_64, li_1600, li_49, li_255, li_2147483647, li_12345, li_1103515245, li_59, li_57, li_122, li_1023, li_1000000, li_52, li_51, li_50, li_47, li_46, li_45, li_44, li_43, li_42, li_41, li_39, li_38, li_37, li_36, li_35, li_34, li_33, li_29, li_28, li_27, li_26, li_25, li_23, li_22, li_21, li_19, li_18, li_17, li_15, li_m8, li_m2, li_60, li_54, li_2907, li_151, li_127, oN, iI_add, iI_sub, iI_mul, iI_neg, Int.reduceAdd, Int.reduceSub, Int.reduceMul, Int.reduceNeg, Int.toNat_natCast, Int.reduceToNat, iI_cl, sg_338_73, sg_338_74, e13, e242, p3]
    · rw [f3' _ _ (by omega) (by omega), up_ck (by omega), ← hI1, up_at]
    · rw [f3' c k z1 z2, up_ck (by omega), f1 c k z3]
end S90b
