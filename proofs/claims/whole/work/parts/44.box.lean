/-! BOXES: ops box, apart -/
/-- the least, the greatest of g 0 .. g m -/
def mnI (g : Nat → Int) : Nat → Int
  | 0 => g 0
  | m + 1 => min (mnI g m) (g (m + 1))
def mxI (g : Nat → Int) : Nat → Int
  | 0 => g 0
  | m + 1 => max (mxI g m) (g (m + 1))
section MN
variable {g : Nat → Int}
theorem mnI_le : ∀ m j : Nat, j ≤ m → mnI g m ≤ g j := by
  intro m
  induction m with
  | zero =>
    intro j hj
    obtain rfl : j = 0 := by omega
    exact Int.le_refl _
  | succ m ih =>
    intro j hj
    show min (mnI g m) (g (m + 1)) ≤ g j
    by_cases e : j = m + 1
    · subst e; omega
    · have := ih j (by omega)
      omega
theorem mxI_le : ∀ m j : Nat, j ≤ m → g j ≤ mxI g m := by
  intro m
  induction m with
  | zero =>
    intro j hj
    obtain rfl : j = 0 := by omega
    exact Int.le_refl _
  | succ m ih =>
    intro j hj
    show g j ≤ max (mxI g m) (g (m + 1))
    by_cases e : j = m + 1
    · subst e; omega
    · have := ih j (by omega)
      omega
/-- a turn shows all -/
theorem mnI_turn {T : Nat} (hT : 0 < T) (hp : ∀ j, g (j + T) = g j) : ∀ d, mnI g (T - 1 + d) = mnI g (T - 1) := by
  intro d
  induction d with
  | zero => rfl
  | succ d ih =>
    show min (mnI g (T - 1 + d)) (g (T - 1 + d + 1)) = _
    have e : g (T - 1 + d + 1) = g d := by
      rw [show T - 1 + d + 1 = d + T by omega]
      exact hp d
    have := mnI_le (g := g) (T - 1 + d) d (by omega)
    rw [e, Int.min_eq_left this, ih]
theorem mxI_turn {T : Nat} (hT : 0 < T) (hp : ∀ j, g (j + T) = g j) : ∀ d, mxI g (T - 1 + d) = mxI g (T - 1) := by
  intro d
  induction d with
  | zero => rfl
  | succ d ih =>
    show max (mxI g (T - 1 + d)) (g (T - 1 + d + 1)) = _
    have e : g (T - 1 + d + 1) = g d := by
      rw [show T - 1 + d + 1 = d + T by omega]
      exact hp d
    have := mxI_le (g := g) (T - 1 + d) d (by omega)
    rw [e, Int.max_eq_left this, ih]
theorem mnI_rg {B : Int} (hB : ∀ j, -B ≤ g j ∧ g j ≤ B) (m : Nat) : -B ≤ mnI g m ∧ mnI g m ≤ B := by
  induction m with
  | zero => exact hB 0
  | succ m ih =>
    have := hB (m + 1)
    show -B ≤ min (mnI g m) (g (m + 1)) ∧ min (mnI g m) (g (m + 1)) ≤ B
    omega
theorem mxI_rg {B : Int} (hB : ∀ j, -B ≤ g j ∧ g j ≤ B) (m : Nat) : -B ≤ mxI g m ∧ mxI g m ≤ B := by
  induction m with
  | zero => exact hB 0
  | succ m ih =>
    have := hB (m + 1)
    show -B ≤ max (mxI g m) (g (m + 1)) ∧ max (mxI g m) (g (m + 1)) ≤ B
    omega
end MN
/-- x, y, z of a body from a tick on -/
def px (K : Sk) (b : Nat) (t : Int) (w : Nat) (j : Nat) : Int := if w = 0 then ps_x (kf K b) (ps_s (kf K b) (t + j)) else if w = 1 then ps_y (kf K b) (ps_s (kf K b) (t + j)) else ps_z (kf K b) (ps_s (kf K b) (t + j))
section S44
variable {X : am_X} {K : Sk} {I : Nat → Nat → Int32} {J : Nat → Nat → Int64} {a b o : Nat}
theorem px_rg (h : Kok K) (hb : b < kn K) {t : Int} {w : Nat} (j : Nat) : -200 ≤ px K b t w j ∧ px K b t w j ≤ 200 := by
  have s1 := K_s h hb (t + j)
  have r := ps_rg (K_f h hb) s1.1 s1.2
  unfold px
  split
  · omega
  · split
    · omega
    · omega
theorem px_per (h : Kok K) (hb : b < kn K) {t : Int} {w : Nat} (j : Nat) : px K b t w (j + kT K b) = px K b t w j := by
  obtain ⟨eT, T1, T2⟩ := K_T h hb
  have e : ps_s (kf K b) (t + ((j + kT K b : Nat) : Int)) = ps_s (kf K b) (t + j) := by
    unfold ps_s
    rw [eT, Int.natCast_add, show kf K b 3 + (t + ((j : Int) + (kT K b : Int))) = kf K b 3 + (t + j) + (kT K b : Int) by omega, Int.add_emod_right]
  unfold px
  rw [e]
/-- up to the last tick that shows something new -/
def mT (K : Sk) (b : Nat) (m : Nat) : Nat := min m (kT K b - 1)
theorem mn_T (h : Kok K) (hb : b < kn K) {t : Int} {w m : Nat} : mnI (px K b t w) m = mnI (px K b t w) (mT K b m) := by
  obtain ⟨eT, T1, T2⟩ := K_T h hb
  unfold mT
  by_cases q : m ≤ kT K b - 1
  · rw [Nat.min_eq_left q]
  · rw [Nat.min_eq_right (by omega)]
    have := mnI_turn (g := px K b t w) (T := kT K b) (by omega) (px_per h hb) (m - (kT K b - 1))
    rw [show kT K b - 1 + (m - (kT K b - 1)) = m by omega] at this
    exact this
theorem mx_T (h : Kok K) (hb : b < kn K) {t : Int} {w m : Nat} : mxI (px K b t w) m = mxI (px K b t w) (mT K b m) := by
  obtain ⟨eT, T1, T2⟩ := K_T h hb
  unfold mT
  by_cases q : m ≤ kT K b - 1
  · rw [Nat.min_eq_left q]
  · rw [Nat.min_eq_right (by omega)]
    have := mxI_turn (g := px K b t w) (T := kT K b) (by omega) (px_per h hb) (m - (kT K b - 1))
    rw [show kT K b - 1 + (m - (kT K b - 1)) = m by omega] at this
    exact this
theorem c_43 {c w : Nat} (hc : c = 136 ∨ c = 137) (hw : w < 3) {p q v : Int} (p1 : -200 ≤ p) (p2 : p ≤ 200) (q1 : -200 ≤ q) (q2 : q ≤ 200) (v1 : -200 ≤ v) (v2 : v ≤ 200) (e1 : I c w = iI p) (e2 : I c (w + 3) = iI q) : am_do X 43 [.ref c, .int (iI w), .int (iI v)] (am_sh I J) = some (none, am_sh (am_up (am_up I c w (iI (min p v))) c (w + 3) (iI (max q v))) J) := by
  have hK : am_K c = (20, 6) := by
    rcases hc with rfl | rfl
    · exact (am_Kc (by omega)).trans rfl
    · exact (am_Kc (by omega)).trans rfl
  have hc1 : c < 162 := by omega
  have e3 : ((w : Int) + 3).toNat = w + 3 := by omega
  have e4 : ∀ x : Int32, am_up I c w x c (w + 3) = I c (w + 3) := fun x => up_k (by omega)
  simp (disch := first | omega | assumption | exact cat_n | exact cat_i _ | exact cat_r _ | (simp (disch := omega) only [l_0, l_1, l_m1, l_2, l_3, l_4, l_5, l_6, l_7, l_8, l_9, l_10, l_16, l_20, l_40, l_48, l_99, l_200, l_999, l_9999, li_73, li_78, li_m1000000, li_90, li_251, li_400, li_2400, li_91, li_153, li_173, li_96, li_32, li_92, li_12, li_93, li_80, li_14, li_1000000000, li_30, li_11, li_24, li_13, li_97, li_64, li_1600, li_49, li_255, li_2147483647, li_12345, li_1103515245, li_59, li_57, li_122, li_1023, li_1000000, li_52, li_51, li_50, li_47, li_46, li_45, li_44, li_43, li_42, li_41, li_39, li_38, li_37, li_36, li_35, li_34, li_33, li_29, li_28, li_27, li_26, li_25, li_23, li_22, li_21, li_19, li_18, li_17, li_15, li_m8, li_m2, li_60, li_54, li_2907, li_151, li_127, oN, iI_add, iI_sub, iI_mul, iI_neg, Int.reduceAdd, Int.reduceSub, Int.reduceMul, Int.reduceNeg, Int.toNat_natCast, iI_lt, iI_le, iI_eq, iI_cl, true_or, or_true, false_or, or_false, true_and, and_true, not_true_eq_false, not_false_eq_true]; first | done | omega)) only [↓if_pos, ↓if_neg, Option.bind_some, Option.toList_some, Option.toList_none, List.cons_append, List.nil_append, l_0, l_1, l_m1, l_2, l_3, l_4, l_5, l_6, l_7, l_8, l_9, l_10, l_16, l_20, l_40, l_48, l_99, l_200, l_999, l_9999, li_73, li_78, li_m1000000, li_90, li_251, li_400, li_2400, li_91, li_153, li_173, li_96, li_32, li_92, li_12, li_93, li_80, li_14, li_1000000000, li_30, li_11, li_24, li_13, li_97, li_64, li_1600, li_49, li_255, li_2147483647, li_12345, li_1103515245, li_59, li_57, li_122, li_1023, li_1000000, li_52, li_51, li_50, li_47, li_46, li_45, li_44, li_43, li_42, li_41, li_39, li_38, li_37, li_36, li_35, li_34, li_33, li_29, li_28, li_27, li_26, li_25, li_23, li_22, li_21, li_19, li_18, li_17, li_15, li_m8, li_m2, li_60, li_54, li_2907, li_151, li_127, oN, iI_add, iI_sub, iI_mul, iI_neg, Int.reduceAdd, Int.reduceSub, Int.reduceMul, Int.reduceNeg, Int.toNat_natCast, iI_cl, cl_43 (n1 := 6), sg_43_e0 (n1 := 6), sg_43_7 (n1 := 6) (n4 := 6), sg_43_19 (n1 := 6) (n4 := 6), e1, e2, e3, e4, c_353, c_352]
theorem c_210t {x y : Int} (h1 : 0 ≤ x) (h2 : x ≤ y) (h3 : y ≤ 9999) (h4 : y - x ≤ 200) : am_do X 210 [.int (iI x), .int (iI y)] (am_sh I J) = some (some (.int (iI 1)), am_sh I J) := by
  simp (disch := first | omega | assumption | exact cat_n | exact cat_i _ | exact cat_r _ | (simp (disch := omega) only [l_0, l_1, l_m1, l_2, l_3, l_4, l_5, l_6, l_7, l_8, l_9, l_10, l_16, l_20, l_40, l_48, l_99, l_200, l_999, l_9999, li_73, li_78, li_m1000000, li_90, li_251, li_400, li_2400, li_91, li_153, li_173, li_96, li_32, li_92, li_12, li_93, li_80, li_14, li_1000000000, li_30, li_11, li_24, li_13, li_97, li_64, li_1600, li_49, li_255, li_2147483647, li_12345, li_1103515245, li_59, li_57, li_122, li_1023, li_1000000, li_52, li_51, li_50, li_47, li_46, li_45, li_44, li_43, li_42, li_41, li_39, li_38, li_37, li_36, li_35, li_34, li_33, li_29, li_28, li_27, li_26, li_25, li_23, li_22, li_21, li_19, li_18, li_17, li_15, li_m8, li_m2, li_60, li_54, li_2907, li_151, li_127, oN, iI_add, iI_sub, iI_mul, iI_neg, Int.reduceAdd, Int.reduceSub, Int.reduceMul, Int.reduceNeg, Int.toNat_natCast, iI_lt, iI_le, iI_eq, iI_cl, true_or, or_true, false_or, or_false, true_and, and_true, not_true_eq_false, not_false_eq_true]; first | done | omega)) only [↓if_pos, ↓if_neg, Option.bind_some, Option.toList_some, Option.toList_none, List.cons_append, List.nil_append, l_0, l_1, l_m1, l_2, l_3, l_4, l_5, l_6, l_7, l_8, l_9, l_10, l_16, l_20, l_40, l_48, l_99, l_200, l_999, l_9999, li_73, li_78, li_m1000000, li_90, li_251, li_400, li_2400, li_91, li_153, li_173, li_96, li_32, li_92, li_12, li_93, li_80, li_14, li_1000000000, li_30, li_11, li_24, li_13, li_97, li_64, li_1600, li_49, li_255, li_2147483647, li_12345, li_1103515245, li_59, li_57, li_122, li_1023, li_1000000, li_52, li_51, li_50, li_47, li_46, li_45, li_44, li_43, li_42, li_41, li_39, li_38, li_37, li_36, li_35, li_34, li_33, li_29, li_28, li_27, li_26, li_25, li_23, li_22, li_21, li_19, li_18, li_17, li_15, li_m8, li_m2, li_60, li_54, li_2907, li_151, li_127, oN, iI_add, iI_sub, iI_mul, iI_neg, Int.reduceAdd, Int.reduceSub, Int.reduceMul, Int.reduceNeg, Int.toNat_natCast, iI_cl, cl_210, sg_210_e0, sg_210_2, sg_210_5, c_209t]
theorem c_210f {x y : Int} (x1 : -2147483648 ≤ x) (x2 : x < 2147483648) (y1 : -2147483648 ≤ y) (y2 : y < 2147483648) (h : ¬ (0 ≤ x ∧ x ≤ y ∧ y ≤ 9999 ∧ y - x ≤ 200)) : am_do X 210 [.int (iI x), .int (iI y)] (am_sh I J) = some (some (.int (iI 0)), am_sh I J) := by
  by_cases q1 : 0 ≤ x ∧ x ≤ 9999
  · by_cases q2 : 0 ≤ y ∧ y ≤ 9999
    · by_cases q3 : y < x
      · simp (disch := first | omega | assumption | exact cat_n | exact cat_i _ | exact cat_r _ | (simp (disch := omega) only [l_0, l_1, l_m1, l_2, l_3, l_4, l_5, l_6, l_7, l_8, l_9, l_10, l_16, l_20, l_40, l_48, l_99, l_200, l_999, l_9999, li_73, li_78, li_m1000000, li_90, li_251, li_400, li_2400, li_91, li_153, li_173, li_96, li_32, li_92, li_12, li_93, li_80, li_14, li_1000000000, li_30, li_11, li_24, li_13, li_97, li_64, li_1600, li_49, li_255, li_2147483647, li_12345, li_1103515245, li_59, li_57, li_122, li_1023, li_1000000, li_52, li_51, li_50, li_47, li_46, li_45, li_44, li_43, li_42, li_41, li_39, li_38, li_37, li_36, li_35, li_34, li_33, li_29, li_28, li_27, li_26, li_25, li_23, li_22, li_21, li_19, li_18, li_17, li_15, li_m8, li_m2, li_60, li_54, li_2907, li_151, li_127, oN, iI_add, iI_sub, iI_mul, iI_neg, Int.reduceAdd, Int.reduceSub, Int.reduceMul, Int.reduceNeg, Int.toNat_natCast, iI_lt, iI_le, iI_eq, iI_cl, true_or, or_true, false_or, or_false, true_and, and_true, not_true_eq_false, not_false_eq_true]; first | done | omega)) only [↓if_pos, ↓if_neg, Option.bind_some, Option.toList_some, Option.toList_none, List.cons_append, List.nil_append, l_0, l_1, l_m1, l_2, l_3, l_4, l_5, l_6, l_7, l_8, l_9, l_10, l_16, l_20, l_40, l_48, l_99, l_200, l_999, l_9999, li_73, li_78, li_m1000000, li_90, li_251, li_400, li_2400, li_91, li_153, li_173, li_96, li_32, li_92, li_12, li_93, li_80, li_14, li_1000000000, li_30, li_11, li_24, li_13, li_97, li_64, li_1600, li_49, li_255, li_2147483647, li_12345, li_1103515245, li_59, li_57, li_122, li_1023, li_1000000, li_52, li_51, li_50, li_47, li_46, li_45, li_44, li_43, li_42, li_41, li_39, li_38, li_37, li_36, li_35, li_34, li_33, li_29, li_28, li_27, li_26, li_25, li_23, li_22, li_21, li_19, li_18, li_17, li_15, li_m8, li_m2, li_60, li_54, li_2907, li_151, li_127, oN, iI_add, iI_sub, iI_mul, iI_neg, Int.reduceAdd, Int.reduceSub, Int.reduceMul, Int.reduceNeg, Int.toNat_natCast, iI_cl, cl_210, sg_210_e0, sg_210_2, sg_210_5, c_209t]
      · simp (disch := first | omega | assumption | exact cat_n | exact cat_i _ | exact cat_r _ | (simp (disch := omega) only [l_0, l_1, l_m1, l_2, l_3, l_4, l_5, l_6, l_7, l_8, l_9, l_10, l_16, l_20, l_40, l_48, l_99, l_200, l_999, l_9999, li_73, li_78, li_m1000000, li_90, li_251, li_400, li_2400, li_91, li_153, li_173, li_96, li_32, li_92, li_12, li_93, li_80, li_14, li_1000000000, li_30, li_11, li_24, li_13, li_97, li_64, li_1600, li_49, li_255, li_2147483647, li_12345, li_1103515245, li_59, li_57, li_122, li_1023, li_1000000, li_52, li_51, li_50, li_47, li_46, li_45, li_44, li_43, li_42, li_41, li_39, li_38, li_37, li_36, li_35, li_34, li_33, li_29, li_28, li_27, li_26, li_25, li_23, li_22, li_21, li_19, li_18, li_17, li_15, li_m8, li_m2, li_60, li_54, li_2907, li_151, li_127, oN, iI_add, iI_sub, iI_mul, iI_neg, Int.reduceAdd, Int.reduceSub, Int.reduceMul, Int.reduceNeg, Int.toNat_natCast, iI_lt, iI_le, iI_eq, iI_cl, true_or, or_true, false_or, or_false, true_and, and_true, not_true_eq_false, not_false_eq_true]; first | done | omega)) only [↓if_pos, ↓if_neg, Option.bind_some, Option.toList_some, Option.toList_none, List.cons_append, List.nil_append, l_0, l_1, l_m1, l_2, l_3, l_4, l_5, l_6, l_7, l_8, l_9, l_10, l_16, l_20, l_40, l_48, l_99, l_200, l_999, l_9999, li_73, li_78, li_m1000000, li_90, li_251, li_400, li_2400, li_91, li_153, li_173, li_96, li_32, li_92, li_12, li_93, li_80, li_14, li_1000000000, li_30, li_11, li_24, li_13, li_97, li_64, li_1600, li_49, li_255, li_2147483647, li_12345, li_1103515245, li_59, li_57, li_122, li_1023, li_1000000, li_52, li_51, li_50, li_47, li_46, li_45, li_44, li_43, li_42, li_41, li_39, li_38, li_37, li_36, li_35, li_34, li_33, li_29, li_28, li_27, li_26, li_25, li_23, li_22, li_21, li_19, li_18, li_17, li_15, li_m8, li_m2, li_60, li_54, li_2907, li_151, li_127, oN, iI_add, iI_sub, iI_mul, iI_neg, Int.reduceAdd, Int.reduceSub, Int.reduceMul, Int.reduceNeg, Int.toNat_natCast, iI_cl, cl_210, sg_210_e0, sg_210_2, sg_210_5, c_209t]
    · simp (disch := first | omega | assumption | exact cat_n | exact cat_i _ | exact cat_r _ | (simp (disch := omega) only [l_0, l_1, l_m1, l_2, l_3, l_4, l_5, l_6, l_7, l_8, l_9, l_10, l_16, l_20, l_40, l_48, l_99, l_200, l_999, l_9999, li_73, li_78, li_m1000000, li_90, li_251, li_400, li_2400, li_91, li_153, li_173, li_96, li_32, li_92, li_12, li_93, li_80, li_14, li_1000000000, li_30, li_11, li_24, li_13, li_97, li_64, li_1600, li_49, li_255, li_2147483647, li_12345, li_1103515245, li_59, li_57, li_122, li_1023, li_1000000, li_52, li_51, li_50, li_47, li_46, li_45, li_44, li_43, li_42, li_41, li_39, li_38, li_37, li_36, li_35, li_34, li_33, li_29, li_28, li_27, li_26, li_25, li_23, li_22, li_21, li_19, li_18, li_17, li_15, li_m8, li_m2, li_60, li_54, li_2907, li_151, li_127, oN, iI_add, iI_sub, iI_mul, iI_neg, Int.reduceAdd, Int.reduceSub, Int.reduceMul, Int.reduceNeg, Int.toNat_natCast, iI_lt, iI_le, iI_eq, iI_cl, true_or, or_true, false_or, or_false, true_and, and_true, not_true_eq_false, not_false_eq_true]; first | done | omega)) only [↓if_pos, ↓if_neg, Option.bind_some, Option.toList_some, Option.toList_none, List.cons_append, List.nil_append, l_0, l_1, l_m1, l_2, l_3, l_4, l_5, l_6, l_7, l_8, l_9, l_10, l_16, l_20, l_40, l_48, l_99, l_200, l_999, l_9999, li_73, li_78, li_m1000000, li_90, li_251, li_400, li_2400, li_91, li_153, li_173, li_96, li_32, li_92, li_12, li_93, li_80, li_14, li_1000000000, li_30, li_11, li_24, li_13, li_97, li_64, li_1600, li_49, li_255, li_2147483647, li_12345, li_1103515245, li_59, li_57, li_122, li_1023, li_1000000, li_52, li_51, li_50, li_47, li_46, li_45, li_44, li_43, li_42, li_41, li_39, li_38, li_37, li_36, li_35, li_34, li_33, li_29, li_28, li_27, li_26, li_25, li_23, li_22, li_21, li_19, li_18, li_17, li_15, li_m8, li_m2, li_60, li_54, li_2907, li_151, li_127, oN, iI_add, iI_sub, iI_mul, iI_neg, Int.reduceAdd, Int.reduceSub, Int.reduceMul, Int.reduceNeg, Int.toNat_natCast, iI_cl, cl_210, sg_210_e0, sg_210_2, sg_210_5, c_209t, c_209f]
  · simp (disch := first | omega | assumption | exact cat_n | exact cat_i _ | exact cat_r _ | (simp (disch := omega) only [l_0, l_1, l_m1, l_2, l_3, l_4, l_5, l_6, l_7, l_8, l_9, l_10, l_16, l_20, l_40, l_48, l_99, l_200, l_999, l_9999, li_73, li_78, li_m1000000, li_90, li_251, li_400, li_2400, li_91, li_153, li_173, li_96, li_32, li_92, li_12, li_93, li_80, li_14, li_1000000000, li_30, li_11, li_24, li_13, li_97, li_64, li_1600, li_49, li_255, li_2147483647, li_12345, li_1103515245, li_59, li_57, li_122, li_1023, li_1000000, li_52, li_51, li_50, li_47, li_46, li_45, li_44, li_43, li_42, li_41, li_39, li_38, li_37, li_36, li_35, li_34, li_33, li_29, li_28, li_27, li_26, li_25, li_23, li_22, li_21, li_19, li_18, li_17, li_15, li_m8, li_m2, li_60, li_54, li_2907, li_151, li_127, oN, iI_add, iI_sub, iI_mul, iI_neg, Int.reduceAdd, Int.reduceSub, Int.reduceMul, Int.reduceNeg, Int.toNat_natCast, iI_lt, iI_le, iI_eq, iI_cl, true_or, or_true, false_or, or_false, true_and, and_true, not_true_eq_false, not_false_eq_true]; first | done | omega)) only [↓if_pos, ↓if_neg, Option.bind_some, Option.toList_some, Option.toList_none, List.cons_append, List.nil_append, l_0, l_1, l_m1, l_2, l_3, l_4, l_5, l_6, l_7, l_8, l_9, l_10, l_16, l_20, l_40, l_48, l_99, l_200, l_999, l_9999, li_73, li_78, li_m1000000, li_90, li_251, li_400, li_2400, li_91, li_153, li_173, li_96, li_32, li_92, li_12, li_93, li_80, li_14, li_1000000000, li_30, li_11, li_24, li_13, li_97, li_64, li_1600, li_49, li_255, li_2147483647, li_12345, li_1103515245, li_59, li_57, li_122, li_1023, li_1000000, li_52, li_51, li_50, li_47, li_46, li_45, li_44, li_43, li_42, li_41, li_39, li_38, li_37, li_36, li_35, li_34, li_33, li_29, li_28, li_27, li_26, li_25, li_23, li_22, li_21, li_19, li_18, li_17, li_15, li_m8, li_m2, li_60, li_54, li_2907, li_151, li_127, oN, iI_add, iI_sub, iI_mul, iI_neg, Int.reduceAdd, Int.reduceSub, Int.reduceMul, Int.reduceNeg, Int.toNat_natCast, iI_cl, cl_210, sg_210_e0, sg_210_2, sg_210_5, c_209f]
theorem c_280t {x y : Int} (h1 : 0 ≤ x) (h2 : x ≤ y) (h3 : y ≤ 9999) (h4 : y - x ≤ 200) : am_do X 280 [.int (iI x), .int (iI y)] (am_sh I J) = some (some (.int (iI 1)), am_sh I J) := by
  simp (disch := first | omega | assumption | exact cat_n | exact cat_i _ | exact cat_r _ | (simp (disch := omega) only [l_0, l_1, l_m1, l_2, l_3, l_4, l_5, l_6, l_7, l_8, l_9, l_10, l_16, l_20, l_40, l_48, l_99, l_200, l_999, l_9999, li_73, li_78, li_m1000000, li_90, li_251, li_400, li_2400, li_91, li_153, li_173, li_96, li_32, li_92, li_12, li_93, li_80, li_14, li_1000000000, li_30, li_11, li_24, li_13, li_97, li_64, li_1600, li_49, li_255, li_2147483647, li_12345, li_1103515245, li_59, li_57, li_122, li_1023, li_1000000, li_52, li_51, li_50, li_47, li_46, li_45, li_44, li_43, li_42, li_41, li_39, li_38, li_37, li_36, li_35, li_34, li_33, li_29, li_28, li_27, li_26, li_25, li_23, li_22, li_21, li_19, li_18, li_17, li_15, li_m8, li_m2, li_60, li_54, li_2907, li_151, li_127, oN, iI_add, iI_sub, iI_mul, iI_neg, Int.reduceAdd, Int.reduceSub, Int.reduceMul, Int.reduceNeg, Int.toNat_natCast, iI_lt, iI_le, iI_eq, iI_cl, true_or, or_true, false_or, or_false, true_and, and_true, not_true_eq_false, not_false_eq_true]; first | done | omega)) only [↓if_pos, ↓if_neg, Option.bind_some, Option.toList_some, Option.toList_none, List.cons_append, List.nil_append, l_0, l_1, l_m1, l_2, l_3, l_4, l_5, l_6, l_7, l_8, l_9, l_10, l_16, l_20, l_40, l_48, l_99, l_200, l_999, l_9999, li_73, li_78, li_m1000000, li_90, li_251, li_400, li_2400, li_91, li_153, li_173, li_96, li_32, li_92, li_12, li_93, li_80, li_14, li_1000000000, li_30, li_11, li_24, li_13, li_97, li_64, li_1600, li_49, li_255, li_2147483647, li_12345, li_1103515245, li_59, li_57, li_122, li_1023, li_1000000, li_52, li_51, li_50, li_47, li_46, li_45, li_44, li_43, li_42, li_41, li_39, li_38, li_37, li_36, li_35, li_34, li_33, li_29, li_28, li_27, li_26, li_25, li_23, li_22, li_21, li_19, li_18, li_17, li_15, li_m8, li_m2, li_60, li_54, li_2907, li_151, li_127, oN, iI_add, iI_sub, iI_mul, iI_neg, Int.reduceAdd, Int.reduceSub, Int.reduceMul, Int.reduceNeg, Int.toNat_natCast, iI_cl, cl_280, sg_280_e0, sg_280_2, sg_280_5, c_258t]
theorem c_280f {x y : Int} (x1 : -2147483648 ≤ x) (x2 : x < 2147483648) (y1 : -2147483648 ≤ y) (y2 : y < 2147483648) (h : ¬ (0 ≤ x ∧ x ≤ y ∧ y ≤ 9999 ∧ y - x ≤ 200)) : am_do X 280 [.int (iI x), .int (iI y)] (am_sh I J) = some (some (.int (iI 0)), am_sh I J) := by
  by_cases q1 : 0 ≤ x ∧ x ≤ 9999
  · by_cases q2 : 0 ≤ y ∧ y ≤ 9999
    · by_cases q3 : y < x
      · simp (disch := first | omega | assumption | exact cat_n | exact cat_i _ | exact cat_r _ | (simp (disch := omega) only [l_0, l_1, l_m1, l_2, l_3, l_4, l_5, l_6, l_7, l_8, l_9, l_10, l_16, l_20, l_40, l_48, l_99, l_200, l_999, l_9999, li_73, li_78, li_m1000000, li_90, li_251, li_400, li_2400, li_91, li_153, li_173, li_96, li_32, li_92, li_12, li_93, li_80, li_14, li_1000000000, li_30, li_11, li_24, li_13, li_97, li_64, li_1600, li_49, li_255, li_2147483647, li_12345, li_1103515245, li_59, li_57, li_122, li_1023, li_1000000, li_52, li_51, li_50, li_47, li_46, li_45, li_44, li_43, li_42, li_41, li_39, li_38, li_37, li_36, li_35, li_34, li_33, li_29, li_28, li_27, li_26, li_25, li_23, li_22, li_21, li_19, li_18, li_17, li_15, li_m8, li_m2, li_60, li_54, li_2907, li_151, li_127, oN, iI_add, iI_sub, iI_mul, iI_neg, Int.reduceAdd, Int.reduceSub, Int.reduceMul, Int.reduceNeg, Int.toNat_natCast, iI_lt, iI_le, iI_eq, iI_cl, true_or, or_true, false_or, or_false, true_and, and_true, not_true_eq_false, not_false_eq_true]; first | done | omega)) only [↓if_pos, ↓if_neg, Option.bind_some, Option.toList_some, Option.toList_none, List.cons_append, List.nil_append, l_0, l_1, l_m1, l_2, l_3, l_4, l_5, l_6, l_7, l_8, l_9, l_10, l_16, l_20, l_40, l_48, l_99, l_200, l_999, l_9999, li_73, li_78, li_m1000000, li_90, li_251, li_400, li_2400, li_91, li_153, li_173, li_96, li_32, li_92, li_12, li_93, li_80, li_14, li_1000000000, li_30, li_11, li_24, li_13, li_97, li_64, li_1600, li_49, li_255, li_2147483647, li_12345, li_1103515245, li_59, li_57, li_122, li_1023, li_1000000, li_52, li_51, li_50, li_47, li_46, li_45, li_44, li_43, li_42, li_41, li_39, li_38, li_37, li_36, li_35, li_34, li_33, li_29, li_28, li_27, li_26, li_25, li_23, li_22, li_21, li_19, li_18, li_17, li_15, li_m8, li_m2, li_60, li_54, li_2907, li_151, li_127, oN, iI_add, iI_sub, iI_mul, iI_neg, Int.reduceAdd, Int.reduceSub, Int.reduceMul, Int.reduceNeg, Int.toNat_natCast, iI_cl, cl_280, sg_280_e0, sg_280_2, sg_280_5, c_258t]
      · simp (disch := first | omega | assumption | exact cat_n | exact cat_i _ | exact cat_r _ | (simp (disch := omega) only [l_0, l_1, l_m1, l_2, l_3, l_4, l_5, l_6, l_7, l_8, l_9, l_10, l_16, l_20, l_40, l_48, l_99, l_200, l_999, l_9999, li_73, li_78, li_m1000000, li_90, li_251, li_400, li_2400, li_91, li_153, li_173, li_96, li_32, li_92, li_12, li_93, li_80, li_14, li_1000000000, li_30, li_11, li_24, li_13, li_97, li_64, li_1600, li_49, li_255, li_2147483647, li_12345, li_1103515245, li_59, li_57, li_122, li_1023, li_1000000, li_52, li_51, li_50, li_47, li_46, li_45, li_44, li_43, li_42, li_41, li_39, li_38, li_37, li_36, li_35, li_34, li_33, li_29, li_28, li_27, li_26, li_25, li_23, li_22, li_21, li_19, li_18, li_17, li_15, li_m8, li_m2, li_60, li_54, li_2907, li_151, li_127, oN, iI_add, iI_sub, iI_mul, iI_neg, Int.reduceAdd, Int.reduceSub, Int.reduceMul, Int.reduceNeg, Int.toNat_natCast, iI_lt, iI_le, iI_eq, iI_cl, true_or, or_true, false_or, or_false, true_and, and_true, not_true_eq_false, not_false_eq_true]; first | done | omega)) only [↓if_pos, ↓if_neg, Option.bind_some, Option.toList_some, Option.toList_none, List.cons_append, List.nil_append, l_0, l_1, l_m1, l_2, l_3, l_4, l_5, l_6, l_7, l_8, l_9, l_10, l_16, l_20, l_40, l_48, l_99, l_200, l_999, l_9999, li_73, li_78, li_m1000000, li_90, li_251, li_400, li_2400, li_91, li_153, li_173, li_96, li_32, li_92, li_12, li_93, li_80, li_14, li_1000000000, li_30, li_11, li_24, li_13, li_97, li_64, li_1600, li_49, li_255, li_2147483647, li_12345, li_1103515245, li_59, li_57, li_122, li_1023, li_1000000, li_52, li_51, li_50, li_47, li_46, li_45, li_44, li_43, li_42, li_41, li_39, li_38, li_37, li_36, li_35, li_34, li_33, li_29, li_28, li_27, li_26, li_25, li_23, li_22, li_21, li_19, li_18, li_17, li_15, li_m8, li_m2, li_60, li_54, li_2907, li_151, li_127, oN, iI_add, iI_sub, iI_mul, iI_neg, Int.reduceAdd, Int.reduceSub, Int.reduceMul, Int.reduceNeg, Int.toNat_natCast, iI_cl, cl_280, sg_280_e0, sg_280_2, sg_280_5, c_258t]
    · simp (disch := first | omega | assumption | exact cat_n | exact cat_i _ | exact cat_r _ | (simp (disch := omega) only [l_0, l_1, l_m1, l_2, l_3, l_4, l_5, l_6, l_7, l_8, l_9, l_10, l_16, l_20, l_40, l_48, l_99, l_200, l_999, l_9999, li_73, li_78, li_m1000000, li_90, li_251, li_400, li_2400, li_91, li_153, li_173, li_96, li_32, li_92, li_12, li_93, li_80, li_14, li_1000000000, li_30, li_11, li_24, li_13, li_97, li_64, li_1600, li_49, li_255, li_2147483647, li_12345, li_1103515245, li_59, li_57, li_122, li_1023, li_1000000, li_52, li_51, li_50, li_47, li_46, li_45, li_44, li_43, li_42, li_41, li_39, li_38, li_37, li_36, li_35, li_34, li_33, li_29, li_28, li_27, li_26, li_25, li_23, li_22, li_21, li_19, li_18, li_17, li_15, li_m8, li_m2, li_60, li_54, li_2907, li_151, li_127, oN, iI_add, iI_sub, iI_mul, iI_neg, Int.reduceAdd, Int.reduceSub, Int.reduceMul, Int.reduceNeg, Int.toNat_natCast, iI_lt, iI_le, iI_eq, iI_cl, true_or, or_true, false_or, or_false, true_and, and_true, not_true_eq_false, not_false_eq_true]; first | done | omega)) only [↓if_pos, ↓if_neg, Option.bind_some, Option.toList_some, Option.toList_none, List.cons_append, List.nil_append, l_0, l_1, l_m1, l_2, l_3, l_4, l_5, l_6, l_7, l_8, l_9, l_10, l_16, l_20, l_40, l_48, l_99, l_200, l_999, l_9999, li_73, li_78, li_m1000000, li_90, li_251, li_400, li_2400, li_91, li_153, li_173, li_96, li_32, li_92, li_12, li_93, li_80, li_14, li_1000000000, li_30, li_11, li_24, li_13, li_97, li_64, li_1600, li_49, li_255, li_2147483647, li_12345, li_1103515245, li_59, li_57, li_122, li_1023, li_1000000, li_52, li_51, li_50, li_47, li_46, li_45, li_44, li_43, li_42, li_41, li_39, li_38, li_37, li_36, li_35, li_34, li_33, li_29, li_28, li_27, li_26, li_25, li_23, li_22, li_21, li_19, li_18, li_17, li_15, li_m8, li_m2, li_60, li_54, li_2907, li_151, li_127, oN, iI_add, iI_sub, iI_mul, iI_neg, Int.reduceAdd, Int.reduceSub, Int.reduceMul, Int.reduceNeg, Int.toNat_natCast, iI_cl, cl_280, sg_280_e0, sg_280_2, sg_280_5, c_258t, c_258f]
  · simp (disch := first | omega | assumption | exact cat_n | exact cat_i _ | exact cat_r _ | (simp (disch := omega) only [l_0, l_1, l_m1, l_2, l_3, l_4, l_5, l_6, l_7, l_8, l_9, l_10, l_16, l_20, l_40, l_48, l_99, l_200, l_999, l_9999, li_73, li_78, li_m1000000, li_90, li_251, li_400, li_2400, li_91, li_153, li_173, li_96, li_32, li_92, li_12, li_93, li_80, li_14, li_1000000000, li_30, li_11, li_24, li_13, li_97, li_64, li_1600, li_49, li_255, li_2147483647, li_12345, li_1103515245, li_59, li_57, li_122, li_1023, li_1000000, li_52, li_51, li_50, li_47, li_46, li_45, li_44, li_43, li_42, li_41, li_39, li_38, li_37, li_36, li_35, li_34, li_33, li_29, li_28, li_27, li_26, li_25, li_23, li_22, li_21, li_19, li_18, li_17, li_15, li_m8, li_m2, li_60, li_54, li_2907, li_151, li_127, oN, iI_add, iI_sub, iI_mul, iI_neg, Int.reduceAdd, Int.reduceSub, Int.reduceMul, Int.reduceNeg, Int.toNat_natCast, iI_lt, iI_le, iI_eq, iI_cl, true_or, or_true, false_or, or_false, true_and, and_true, not_true_eq_false, not_false_eq_true]; first | done | omega)) only [↓if_pos, ↓if_neg, Option.bind_some, Option.toList_some, Option.toList_none, List.cons_append, List.nil_append, l_0, l_1, l_m1, l_2, l_3, l_4, l_5, l_6, l_7, l_8, l_9, l_10, l_16, l_20, l_40, l_48, l_99, l_200, l_999, l_9999, li_73, li_78, li_m1000000, li_90, li_251, li_400, li_2400, li_91, li_153, li_173, li_96, li_32, li_92, li_12, li_93, li_80, li_14, li_1000000000, li_30, li_11, li_24, li_13, li_97, li_64, li_1600, li_49, li_255, li_2147483647, li_12345, li_1103515245, li_59, li_57, li_122, li_1023, li_1000000, li_52, li_51, li_50, li_47, li_46, li_45, li_44, li_43, li_42, li_41, li_39, li_38, li_37, li_36, li_35, li_34, li_33, li_29, li_28, li_27, li_26, li_25, li_23, li_22, li_21, li_19, li_18, li_17, li_15, li_m8, li_m2, li_60, li_54, li_2907, li_151, li_127, oN, iI_add, iI_sub, iI_mul, iI_neg, Int.reduceAdd, Int.reduceSub, Int.reduceMul, Int.reduceNeg, Int.toNat_natCast, iI_cl, cl_280, sg_280_e0, sg_280_2, sg_280_5, c_258f]
/-- the box of a body -/
def bx (K : Sk) (b : Nat) (t : Int) (m : Nat) (I : Nat → Nat → Int32) (c : Nat) : Prop := ∀ w, w < 3 → I c w = iI (mnI (px K b t w) m) ∧ I c (w + 3) = iI (mxI (px K b t w) m)
set_option maxHeartbeats 1000000 in
theorem k_42 (h : CS K I) (hb : b < kn K) {c : Nat} (hc : c = 136 ∨ c = 137) {t u : Int} (h1 : 0 ≤ t) (h2 : t ≤ u) (h3 : u ≤ 9999) (h4 : u - t ≤ 200) : ∃ I' : Nat → Nat → Int32, am_do X 42 [.ref (am_bd b), .ref c, .int (iI t), .int (iI u)] (am_sh I J) = some (none, am_sh I' J) ∧ (∀ d k, d ≠ c → I' d k = I d k) ∧ bx K b t (u - t).toNat I' c := by
  have hn := K_n (CS_k h)
  obtain ⟨eT, T1, T2⟩ := K_T (CS_k h) hb
  have hK : am_K c = (20, 6) := by
    rcases hc with rfl | rfl
    · exact (am_Kc (by omega)).trans rfl
    · exact (am_Kc (by omega)).trans rfl
  have hc1 : c < 162 := by omega
  have hF : ∀ I1 : Nat → Nat → Int32, (∀ d k, d ≠ c → I1 d k = I d k) → CS K I1 := fun I1 f => CS_fr h (fun d k q => f d k (fun z => by
    rw [z] at q
    rcases hc with rfl | rfl
    · cases q
    · cases q))
  have hs := K_s (CS_k h) hb t
  -- the three axes at the first tick
  have A := Lp1 (n := 3) (G := fun k (I1 : Nat → Nat → Int32) => am_ev X amP_42 6 [.ref (am_bd b), .ref c, .int (iI t), .int (iI u), .int (iI (ps_s (kf K b) t)), .int (iI k), .null, .null] [] (am_sh I1 J)) (Iv := fun k I1 => (∀ d k, d ≠ c → I1 d k = I d k) ∧ ∀ w, w < k → I1 c w = iI (px K b t w 0) ∧ I1 c (w + 3) = iI (px K b t w 0)) (P := fun r => ∃ I1 : Nat → Nat → Int32, r = am_ev X amP_42 37 [.ref (am_bd b), .ref c, .int (iI t), .int (iI u), .int (iI (ps_s (kf K b) t)), .int (iI (mT K b (u - t).toNat + 1 : Nat)), .int (iI 1), .null] [] (am_sh I1 J) ∧ (∀ d k, d ≠ c → I1 d k = I d k) ∧ bx K b t 0 I1 c) (by
    rintro k I1 hk ⟨f1, v1⟩
    right
    have g1 : CS K I1 := hF I1 f1
    have e34 := c_34 (X := X) (J := J) (I := I1) (b := b) (t := t) (w := k) (by omega) (CS_B g1 hb) (by omega) (by omega) (by omega)
    rw [CS_r g1 hb] at e34
    have ep : (if ((k : Nat) : Int) = 0 then ps_x (kf K b) (ps_s (kf K b) t) else if ((k : Nat) : Int) = 1 then ps_y (kf K b) (ps_s (kf K b) t) else if ((k : Nat) : Int) = 2 then ps_z (kf K b) (ps_s (kf K b) t) else ps_h (kf K b) (ps_s (kf K b) t)) = px K b t k 0 := by
      unfold px
      rw [show t + ((0 : Nat) : Int) = t by omega]
      rcases (by omega : k = 0 ∨ k = 1 ∨ k = 2) with rfl | rfl | rfl <;> rfl
    rw [ep] at e34
    have e3 : ((k : Int) + 3).toNat = k + 3 := by omega
    refine ⟨am_up (am_up I1 c k (iI (px K b t k 0))) c (k + 3) (iI (px K b t k 0)), ⟨fun d j hd => by rw [up_ck (by omega), up_ck (by omega)]; exact f1 d j hd, fun w hw => ?_⟩, ?_⟩
    · by_cases e : w = k
      · subst e
        rw [up_at, up_k (by omega), up_at]
        exact ⟨rfl, rfl⟩
      · rw [up_k (by omega), up_k (by omega), up_k (by omega), up_k (by omega)]
        exact v1 w (by omega)
    · try dsimp only
      rw [cS, sg_42_6 (n2 := 6)]
      · simp (disch := first | omega | assumption | exact cat_n | exact cat_i _ | exact cat_r _ | (simp (disch := omega) only [l_0, l_1, l_m1, l_2, l_3, l_4, l_5, l_6, l_7, l_8, l_9, l_10, l_16, l_20, l_40, l_48, l_99, l_200, l_999, l_9999, li_73, li_78, li_m1000000, li_90, li_251, li_400, li_2400, li_91, li_153, li_173, li_96, li_32, li_92, li_12, li_93, li_80, li_14, li_1000000000, li_30, li_11, li_24, li_13, li_97, li_64, li_1600, li_49, li_255, li_2147483647, li_12345, li_1103515245, li_59, li_57, li_122, li_1023, li_1000000, li_52, li_51, li_50, li_47, li_46, li_45, li_44, li_43, li_42, li_41, li_39, li_38, li_37, li_36, li_35, li_34, li_33, li_29, li_28, li_27, li_26, li_25, li_23, li_22, li_21, li_19, li_18, li_17, li_15, li_m8, li_m2, li_60, li_54, li_2907, li_151, li_127, oN, iI_add, iI_sub, iI_mul, iI_neg, Int.reduceAdd, Int.reduceSub, Int.reduceMul, Int.reduceNeg, Int.toNat_natCast, iI_lt, iI_le, iI_eq, iI_cl, true_or, or_true, false_or, or_false, true_and, and_true, not_true_eq_false, not_false_eq_true]; first | done | omega)) only [↓if_pos, ↓if_neg, Option.bind_some, Option.toList_some, Option.toList_none, List.cons_append, List.nil_append, l_0, l_1, l_m1, l_2, l_3, l_4, l_5, l_6, l_7, l_8, l_9, l_10, l_16, l_20, l_40, l_48, l_99, l_200, l_999, l_9999, li_73, li_78, li_m1000000, li_90, li_251, li_400, li_2400, li_91, li_153, li_173, li_96, li_32, li_92, li_12, li_93, li_80, li_14, li_1000000000, li_30, li_11, li_24, li_13, li_97, li_64, li_1600, li_49, li_255, li_2147483647, li_12345, li_1103515245, li_59, li_57, li_122, li_1023, li_1000000, li_52, li_51, li_50, li_47, li_46, li_45, li_44, li_43, li_42, li_41, li_39, li_38, li_37, li_36, li_35, li_34, li_33, li_29, li_28, li_27, li_26, li_25, li_23, li_22, li_21, li_19, li_18, li_17, li_15, li_m8, li_m2, li_60, li_54, li_2907, li_151, li_127, oN, iI_add, iI_sub, iI_mul, iI_neg, Int.reduceAdd, Int.reduceSub, Int.reduceMul, Int.reduceNeg, Int.toNat_natCast, iI_cl, sg_42_15 (n2 := 6) (n9 := 6), e34, e3, up_at]
      all_goals first | assumption | omega | exact cat_n | exact cat_i _ | exact cat_r _ | rfl) (by
    rintro I1 ⟨f1, v1⟩
    have g1 : CS K I1 := hF I1 f1
    refine ⟨I1, ?_, f1, fun w hw => v1 w hw⟩
    have em : min (u - t + 1) (kf K b 2) = ((mT K b (u - t).toNat + 1 : Nat) : Int) := by
      unfold mT
      omega
    have em2 := CS_tn g1 hb
    try dsimp only
    rw [sg_42_6 (n2 := 6)]
    · simp (disch := first | omega | assumption | exact cat_n | exact cat_i _ | exact cat_r _ | (simp (disch := omega) only [l_0, l_1, l_m1, l_2, l_3, l_4, l_5, l_6, l_7, l_8, l_9, l_10, l_16, l_20, l_40, l_48, l_99, l_200, l_999, l_9999, li_73, li_78, li_m1000000, li_90, li_251, li_400, li_2400, li_91, li_153, li_173, li_96, li_32, li_92, li_12, li_93, li_80, li_14, li_1000000000, li_30, li_11, li_24, li_13, li_97, li_64, li_1600, li_49, li_255, li_2147483647, li_12345, li_1103515245, li_59, li_57, li_122, li_1023, li_1000000, li_52, li_51, li_50, li_47, li_46, li_45, li_44, li_43, li_42, li_41, li_39, li_38, li_37, li_36, li_35, li_34, li_33, li_29, li_28, li_27, li_26, li_25, li_23, li_22, li_21, li_19, li_18, li_17, li_15, li_m8, li_m2, li_60, li_54, li_2907, li_151, li_127, oN, iI_add, iI_sub, iI_mul, iI_neg, Int.reduceAdd, Int.reduceSub, Int.reduceMul, Int.reduceNeg, Int.toNat_natCast, iI_lt, iI_le, iI_eq, iI_cl, true_or, or_true, false_or, or_false, true_and, and_true, not_true_eq_false, not_false_eq_true]; first | done | omega)) only [↓if_pos, ↓if_neg, Option.bind_some, Option.toList_some, Option.toList_none, List.cons_append, List.nil_append, l_0, l_1, l_m1, l_2, l_3, l_4, l_5, l_6, l_7, l_8, l_9, l_10, l_16, l_20, l_40, l_48, l_99, l_200, l_999, l_9999, li_73, li_78, li_m1000000, li_90, li_251, li_400, li_2400, li_91, li_153, li_173, li_96, li_32, li_92, li_12, li_93, li_80, li_14, li_1000000000, li_30, li_11, li_24, li_13, li_97, li_64, li_1600, li_49, li_255, li_2147483647, li_12345, li_1103515245, li_59, li_57, li_122, li_1023, li_1000000, li_52, li_51, li_50, li_47, li_46, li_45, li_44, li_43, li_42, li_41, li_39, li_38, li_37, li_36, li_35, li_34, li_33, li_29, li_28, li_27, li_26, li_25, li_23, li_22, li_21, li_19, li_18, li_17, li_15, li_m8, li_m2, li_60, li_54, li_2907, li_151, li_127, oN, iI_add, iI_sub, iI_mul, iI_neg, Int.reduceAdd, Int.reduceSub, Int.reduceMul, Int.reduceNeg, Int.toNat_natCast, iI_cl, sg_42_34 (n2 := 6), em2, c_353, em]
    all_goals first | assumption | omega | exact cat_n | exact cat_i _ | exact cat_r _ | rfl) I ⟨fun _ _ _ => rfl, fun w hw => by omega⟩
  obtain ⟨I1, a1, f1, v1⟩ := A
  try dsimp only at a1
  rw [c0] at a1
  have B := Lp1 (n := mT K b (u - t).toNat) (G := fun k (s : (Nat → Nat → Int32) × Value) => am_ev X amP_42 37 [.ref (am_bd b), .ref c, .int (iI t), .int (iI u), .int (iI (ps_s (kf K b) t)), .int (iI (mT K b (u - t).toNat + 1 : Nat)), .int (iI (k + 1 : Nat)), s.2] [] (am_sh s.1 J)) (Iv := fun k s => (∀ d k, d ≠ c → s.1 d k = I d k) ∧ bx K b t k s.1 c ∧ s.2.category = 1) (P := fun r => ∃ I' : Nat → Nat → Int32, r = some (none, am_sh I' J) ∧ (∀ d k, d ≠ c → I' d k = I d k) ∧ bx K b t (mT K b (u - t).toNat) I' c) (by
    rintro k ⟨I2, wv⟩ hk ⟨f2, v2, hw⟩
    right
    try dsimp only at f2 v2 hw
    have hmT : mT K b (u - t).toNat ≤ kT K b - 1 := Nat.min_le_right _ _
    have g2 : CS K I2 := hF I2 f2
    have et := CS_tn g2 hb
    rw [eT] at et
    have hs1 := K_s (CS_k h) hb (t + ((k + 1 : Nat) : Int))
    have es : (ps_s (kf K b) t + ((k + 1 : Nat) : Int)) % ((kT K b : Nat) : Int) = ps_s (kf K b) (t + ((k + 1 : Nat) : Int)) := by
      unfold ps_s
      rw [← eT, Int.emod_add_emod]
      congr 1
      omega
    have es1 : 0 ≤ (ps_s (kf K b) t + ((k + 1 : Nat) : Int)) := by omega
    generalize hst : ps_s (kf K b) (t + ((k + 1 : Nat) : Int)) = st at *
    have p0 : px K b t 0 (k + 1) = ps_x (kf K b) st := by unfold px; rw [hst]; rfl
    have p1 : px K b t 1 (k + 1) = ps_y (kf K b) st := by unfold px; rw [hst]; rfl
    have p2 : px K b t 2 (k + 1) = ps_z (kf K b) st := by unfold px; rw [hst]; rfl
    have hB : ∀ w j, -200 ≤ px K b t w j ∧ px K b t w j ≤ 200 := fun w j => px_rg (CS_k h) hb j
    have hM : ∀ w, (-200 ≤ mnI (px K b t w) k ∧ mnI (px K b t w) k ≤ 200) ∧ (-200 ≤ mxI (px K b t w) k ∧ mxI (px K b t w) k ≤ 200) := fun w => ⟨mnI_rg (hB w) k, mxI_rg (hB w) k⟩
    -- the three axes
    have w0 := c_43 (X := X) (I := I2) (J := J) (w := 0) (v := px K b t 0 (k + 1)) hc (by omega) (hM 0).1.1 (hM 0).1.2 (hM 0).2.1 (hM 0).2.2 (hB 0 (k + 1)).1 (hB 0 (k + 1)).2 (v2 0 (by omega)).1 (v2 0 (by omega)).2
    generalize hI3 : am_up (am_up I2 c 0 (iI (min (mnI (px K b t 0) k) (px K b t 0 (k + 1))))) c (0 + 3) (iI (max (mxI (px K b t 0) k) (px K b t 0 (k + 1)))) = I3 at w0
    have f3 : ∀ d j, ¬ (d = c ∧ (j = 0 ∨ j = 3)) → I3 d j = I2 d j := fun d j hd => by rw [← hI3, up_ck (by omega), up_ck (by omega)]
    have u3 : I3 c 0 = iI (mnI (px K b t 0) (k + 1)) ∧ I3 c 3 = iI (mxI (px K b t 0) (k + 1)) := by
      rw [← hI3]
      refine ⟨?_, up_at _ _ _ _⟩
      rw [up_k (by omega), up_at]
      rfl
    have w1 := c_43 (X := X) (I := I3) (J := J) (w := 1) (v := px K b t 1 (k + 1)) hc (by omega) (hM 1).1.1 (hM 1).1.2 (hM 1).2.1 (hM 1).2.2 (hB 1 (k + 1)).1 (hB 1 (k + 1)).2 (by rw [f3 c 1 (by omega)]; exact (v2 1 (by omega)).1) (by rw [f3 c (1 + 3) (by omega)]; exact (v2 1 (by omega)).2)
    generalize hI4 : am_up (am_up I3 c 1 (iI (min (mnI (px K b t 1) k) (px K b t 1 (k + 1))))) c (1 + 3) (iI (max (mxI (px K b t 1) k) (px K b t 1 (k + 1)))) = I4 at w1
    have f4 : ∀ d j, ¬ (d = c ∧ (j = 1 ∨ j = 4)) → I4 d j = I3 d j := fun d j hd => by rw [← hI4, up_ck (by omega), up_ck (by omega)]
    have u4 : I4 c 1 = iI (mnI (px K b t 1) (k + 1)) ∧ I4 c 4 = iI (mxI (px K b t 1) (k + 1)) := by
      rw [← hI4]
      refine ⟨?_, up_at _ _ _ _⟩
      rw [up_k (by omega), up_at]
      rfl
    have w2 := c_43 (X := X) (I := I4) (J := J) (w := 2) (v := px K b t 2 (k + 1)) hc (by omega) (hM 2).1.1 (hM 2).1.2 (hM 2).2.1 (hM 2).2.2 (hB 2 (k + 1)).1 (hB 2 (k + 1)).2 (by rw [f4 c 2 (by omega), f3 c 2 (by omega)]; exact (v2 2 (by omega)).1) (by rw [f4 c (2 + 3) (by omega), f3 c (2 + 3) (by omega)]; exact (v2 2 (by omega)).2)
    generalize hI5 : am_up (am_up I4 c 2 (iI (min (mnI (px K b t 2) k) (px K b t 2 (k + 1))))) c (2 + 3) (iI (max (mxI (px K b t 2) k) (px K b t 2 (k + 1)))) = I5 at w2
    have f5 : ∀ d j, ¬ (d = c ∧ (j = 2 ∨ j = 5)) → I5 d j = I4 d j := fun d j hd => by rw [← hI5, up_ck (by omega), up_ck (by omega)]
    have u5 : I5 c 2 = iI (mnI (px K b t 2) (k + 1)) ∧ I5 c 5 = iI (mxI (px K b t 2) (k + 1)) := by
      rw [← hI5]
      refine ⟨?_, up_at _ _ _ _⟩
      rw [up_k (by omega), up_at]
      rfl
    rw [p0, c0] at w0
    rw [p1, show ((1 : Nat) : Int) = 1 from rfl] at w1
    rw [p2, show ((2 : Nat) : Int) = 2 from rfl] at w2
    have g3 : CS K I3 := hF I3 (fun d j hd => by rw [f3 d j (by omega)]; exact f2 d j hd)
    have g4 : CS K I4 := hF I4 (fun d j hd => by rw [f4 d j (by omega), f3 d j (by omega)]; exact f2 d j hd)
    refine ⟨(I5, .int (iI st)), ⟨fun d j hd => by try dsimp only; rw [f5 d j (by omega), f4 d j (by omega), f3 d j (by omega)]; exact f2 d j hd, fun w hw => ?_, rfl⟩, ?_⟩
    · try dsimp only
      rcases (by omega : w = 0 ∨ w = 1 ∨ w = 2) with rfl | rfl | rfl
      · rw [f5 c 0 (by omega), f5 c (0 + 3) (by omega), f4 c 0 (by omega), f4 c (0 + 3) (by omega)]
        exact u3
      · rw [f5 c 1 (by omega), f5 c (1 + 3) (by omega)]
        exact u4
      · exact u5
    · try dsimp only
      rw [cS (k + 1), sg_42_37 (n2 := 6)]
      · simp (disch := first | omega | assumption | exact cat_n | exact cat_i _ | exact cat_r _ | (simp (disch := omega) only [l_0, l_1, l_m1, l_2, l_3, l_4, l_5, l_6, l_7, l_8, l_9, l_10, l_16, l_20, l_40, l_48, l_99, l_200, l_999, l_9999, li_73, li_78, li_m1000000, li_90, li_251, li_400, li_2400, li_91, li_153, li_173, li_96, li_32, li_92, li_12, li_93, li_80, li_14, li_1000000000, li_30, li_11, li_24, li_13, li_97, li_64, li_1600, li_49, li_255, li_2147483647, li_12345, li_1103515245, li_59, li_57, li_122, li_1023, li_1000000, li_52, li_51, li_50, li_47, li_46, li_45, li_44, li_43, li_42, li_41, li_39, li_38, li_37, li_36, li_35, li_34, li_33, li_29, li_28, li_27, li_26, li_25, li_23, li_22, li_21, li_19, li_18, li_17, li_15, li_m8, li_m2, li_60, li_54, li_2907, li_151, li_127, oN, iI_add, iI_sub, iI_mul, iI_neg, Int.reduceAdd, Int.reduceSub, Int.reduceMul, Int.reduceNeg, Int.toNat_natCast, iI_lt, iI_le, iI_eq, iI_cl, true_or, or_true, false_or, or_false, true_and, and_true, not_true_eq_false, not_false_eq_true]; first | done | omega)) only [↓if_pos, ↓if_neg, Option.bind_some, Option.toList_some, Option.toList_none, List.cons_append, List.nil_append, l_0, l_1, l_m1, l_2, l_3, l_4, l_5, l_6, l_7, l_8, l_9, l_10, l_16, l_20, l_40, l_48, l_99, l_200, l_999, l_9999, li_73, li_78, li_m1000000, li_90, li_251, li_400, li_2400, li_91, li_153, li_173, li_96, li_32, li_92, li_12, li_93, li_80, li_14, li_1000000000, li_30, li_11, li_24, li_13, li_97, li_64, li_1600, li_49, li_255, li_2147483647, li_12345, li_1103515245, li_59, li_57, li_122, li_1023, li_1000000, li_52, li_51, li_50, li_47, li_46, li_45, li_44, li_43, li_42, li_41, li_39, li_38, li_37, li_36, li_35, li_34, li_33, li_29, li_28, li_27, li_26, li_25, li_23, li_22, li_21, li_19, li_18, li_17, li_15, li_m8, li_m2, li_60, li_54, li_2907, li_151, li_127, oN, iI_add, iI_sub, iI_mul, iI_neg, Int.reduceAdd, Int.reduceSub, Int.reduceMul, Int.reduceNeg, Int.toNat_natCast, iI_cl, sg_42_54 (n2 := 6), sg_42_61 (n2 := 6), sg_42_68 (n2 := 6), et, iI_div, em_, es, CS_x g2, CS_y g3, CS_zz g4, w0, w1, w2]
      all_goals first | assumption | omega | exact cat_n | exact cat_i _ | exact cat_r _ | rfl) (by
    rintro ⟨I2, wv⟩ ⟨f2, v2, hw⟩
    try dsimp only at f2 v2 hw
    refine ⟨I2, ?_, f2, v2⟩
    have hmT : mT K b (u - t).toNat ≤ kT K b - 1 := Nat.min_le_right _ _
    try dsimp only
    rw [sg_42_37 (n2 := 6)]
    · simp (disch := first | omega | assumption | exact cat_n | exact cat_i _ | exact cat_r _ | (simp (disch := omega) only [l_0, l_1, l_m1, l_2, l_3, l_4, l_5, l_6, l_7, l_8, l_9, l_10, l_16, l_20, l_40, l_48, l_99, l_200, l_999, l_9999, li_73, li_78, li_m1000000, li_90, li_251, li_400, li_2400, li_91, li_153, li_173, li_96, li_32, li_92, li_12, li_93, li_80, li_14, li_1000000000, li_30, li_11, li_24, li_13, li_97, li_64, li_1600, li_49, li_255, li_2147483647, li_12345, li_1103515245, li_59, li_57, li_122, li_1023, li_1000000, li_52, li_51, li_50, li_47, li_46, li_45, li_44, li_43, li_42, li_41, li_39, li_38, li_37, li_36, li_35, li_34, li_33, li_29, li_28, li_27, li_26, li_25, li_23, li_22, li_21, li_19, li_18, li_17, li_15, li_m8, li_m2, li_60, li_54, li_2907, li_151, li_127, oN, iI_add, iI_sub, iI_mul, iI_neg, Int.reduceAdd, Int.reduceSub, Int.reduceMul, Int.reduceNeg, Int.toNat_natCast, iI_lt, iI_le, iI_eq, iI_cl, true_or, or_true, false_or, or_false, true_and, and_true, not_true_eq_false, not_false_eq_true]; first | done | omega)) only [↓if_pos, ↓if_neg, Option.bind_some, Option.toList_some, Option.toList_none, List.cons_append, List.nil_append, l_0, l_1, l_m1, l_2, l_3, l_4, l_5, l_6, l_7, l_8, l_9, l_10, l_16, l_20, l_40, l_48, l_99, l_200, l_999, l_9999, li_73, li_78, li_m1000000, li_90, li_251, li_400, li_2400, li_91, li_153, li_173, li_96, li_32, li_92, li_12, li_93, li_80, li_14, li_1000000000, li_30, li_11, li_24, li_13, li_97, li_64, li_1600, li_49, li_255, li_2147483647, li_12345, li_1103515245, li_59, li_57, li_122, li_1023, li_1000000, li_52, li_51, li_50, li_47, li_46, li_45, li_44, li_43, li_42, li_41, li_39, li_38, li_37, li_36, li_35, li_34, li_33, li_29, li_28, li_27, li_26, li_25, li_23, li_22, li_21, li_19, li_18, li_17, li_15, li_m8, li_m2, li_60, li_54, li_2907, li_151, li_127, oN, iI_add, iI_sub, iI_mul, iI_neg, Int.reduceAdd, Int.reduceSub, Int.reduceMul, Int.reduceNeg, Int.toNat_natCast, iI_cl]
    all_goals first | assumption | omega | exact cat_n | exact cat_i _ | exact cat_r _ | rfl) (I1, .null) ⟨f1, v1, rfl⟩
  obtain ⟨I', b1, f', v'⟩ := B
  try dsimp only at b1
  rw [show ((0 + 1 : Nat) : Int) = 1 from rfl] at b1
  refine ⟨I', ?_, f', fun w hw => ?_⟩
  · simp (disch := first | omega | assumption | exact cat_n | exact cat_i _ | exact cat_r _ | (simp (disch := omega) only [l_0, l_1, l_m1, l_2, l_3, l_4, l_5, l_6, l_7, l_8, l_9, l_10, l_16, l_20, l_40, l_48, l_99, l_200, l_999, l_9999, li_73, li_78, li_m1000000, li_90, li_251, li_400, li_2400, li_91, li_153, li_173, li_96, li_32, li_92, li_12, li_93, li_80, li_14, li_1000000000, li_30, li_11, li_24, li_13, li_97, li_64, li_1600, li_49, li_255, li_2147483647, li_12345, li_1103515245, li_59, li_57, li_122, li_1023, li_1000000, li_52, li_51, li_50, li_47, li_46, li_45, li_44, li_43, li_42, li_41, li_39, li_38, li_37, li_36, li_35, li_34, li_33, li_29, li_28, li_27, li_26, li_25, li_23, li_22, li_21, li_19, li_18, li_17, li_15, li_m8, li_m2, li_60, li_54, li_2907, li_151, li_127, oN, iI_add, iI_sub, iI_mul, iI_neg, Int.reduceAdd, Int.reduceSub, Int.reduceMul, Int.reduceNeg, Int.toNat_natCast, iI_lt, iI_le, iI_eq, iI_cl, true_or, or_true, false_or, or_false, true_and, and_true, not_true_eq_false, not_false_eq_true]; first | done | omega)) only [↓if_pos, ↓if_neg, Option.bind_some, Option.toList_some, Option.toList_none, List.cons_append, List.nil_append, l_0, l_1, l_m1, l_2, l_3, l_4, l_5, l_6, l_7, l_8, l_9, l_10, l_16, l_20, l_40, l_48, l_99, l_200, l_999, l_9999, li_73, li_78, li_m1000000, li_90, li_251, li_400, li_2400, li_91, li_153, li_173, li_96, li_32, li_92, li_12, li_93, li_80, li_14, li_1000000000, li_30, li_11, li_24, li_13, li_97, li_64, li_1600, li_49, li_255, li_2147483647, li_12345, li_1103515245, li_59, li_57, li_122, li_1023, li_1000000, li_52, li_51, li_50, li_47, li_46, li_45, li_44, li_43, li_42, li_41, li_39, li_38, li_37, li_36, li_35, li_34, li_33, li_29, li_28, li_27, li_26, li_25, li_23, li_22, li_21, li_19, li_18, li_17, li_15, li_m8, li_m2, li_60, li_54, li_2907, li_151, li_127, oN, iI_add, iI_sub, iI_mul, iI_neg, Int.reduceAdd, Int.reduceSub, Int.reduceMul, Int.reduceNeg, Int.toNat_natCast, iI_cl, cl_42 (n2 := 6), sg_42_e0 (n2 := 6), sg_42_3 (n2 := 6), k_30 h, a1, b1]
  · rw [mn_T (CS_k h) hb, mx_T (CS_k h) hb]
    exact v' w hw
end S44
