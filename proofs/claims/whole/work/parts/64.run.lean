/-! AHEAD: ticks go in thought; ops doom, stays -/
section S64
variable {X : am_X} {K : Sk} {I : Nat → Nat → Int32} {J : Nat → Nat → Int64} {a b o : Nat} {S A : Nat → Prop} {mt : Nat → Nat → Prop}
theorem mte_far (hm : mte K S (kz K) (fun _ _ => True) mt) (hA : ∀ x, A x → S x) (t : Int) : far_ok K A mt t := fun a b hab hb h1 h2 h3 => hm.2 a b hab hb (hA a h1) (hA b h2) trivial h3 t
theorem crs_cnd (hA : ∀ x, A x → x < kn K) {t : Int} (hf : far_ok K A mt t) {x : Nat} (h : crs K A t x) : cnd K A mt x := by
  obtain ⟨h1, o, h2, h3, h4, h5⟩ := h
  rcases Nat.lt_or_ge x o with q | q
  · by_cases m : mt x o
    · exact (cnd_a (hA x h1) h2 h1 h4 m).1
    · have := hf x o q h2 h1 h4 m
      omega
  · by_cases m : mt o x
    · exact (cnd_a h2 (hA x h1) h4 h1 m).2
    · have := hf o x (by omega) (hA x h1) h4 h1 m
      rw [ps_far_com] at this
      omega
theorem cnd_mono {B : Nat → Prop} (hB : ∀ x, B x → A x) {x : Nat} (h : cnd K B mt x) : cnd K A mt x := by
  obtain ⟨b, b1, b2, ⟨o, o1, o2, o3⟩, b4⟩ := h
  refine ⟨b, b1, hB b b2, ⟨o, o1, o2, hB o o3⟩, ?_⟩
  rcases b4 with b4 | ⟨b4, b5⟩
  · exact Or.inl b4
  · exact Or.inr ⟨b4, hB x b5⟩
theorem as_mono : ∀ d k x, as_ K S (k + d) x → as_ K S k x := by
  intro d
  induction d with
  | zero => intro k x h; exact h
  | succ d ih => intro k x h; exact ih k x h.1
theorem as_S {k x : Nat} (h : as_ K S k x) : S x := as_mono k 0 x (by rw [Nat.zero_add]; exact h)
/-- who isn't concerned any more stays up -/
theorem as_safe (hS : ∀ x, S x → x < kn K) (hm : mte K S (kz K) (fun _ _ => True) mt) {k x : Nat} (h : as_ K S k x) (hc : ¬ cnd K (as_ K S k) mt x) : ∀ d, as_ K S (k + d) x := by
  intro d
  induction d with
  | zero => exact h
  | succ d ih =>
    refine ⟨ih, fun z => hc ?_⟩
    exact cnd_mono (fun y hy => as_mono d k y hy) (crs_cnd (as_kn hS (k + d)) (mte_far hm (fun y hy => as_S hy) _) z)
/-- at how many of T ticks a body is up as they begin, k being gone -/
def upt (K : Sk) (S : Nat → Prop) (T k x : Nat) (u : Int) : Prop := (¬ S x ∧ u = 0) ∨ (as_ K S k x ∧ u = T) ∨ ∃ j, j < k ∧ as_ K S j x ∧ ¬ as_ K S (j + 1) x ∧ u = j + 1
theorem k_19 (h : CS K I) {C : Nat → Prop} (hAH : AH K A mt I) (hA : ∀ x, A x → x < kn K) {u : Int} : ∃ I' : Nat → Nat → Int32, am_do X 19 [.ref 89, .int (st C (kn K)), .int (iI u)] (am_sh I J) = some (none, am_sh I' J) ∧ (∀ c k, ¬ (c = 89 ∧ (k = 8 ∨ k = 9)) → c ≠ 91 → I' c k = I c k) ∧ AH K (fun x => A x ∧ ¬ C x) mt I' ∧ ∀ x, x < kn K → (C x → I' 91 x = iI u) ∧ (¬ C x → I' 91 x = I 91 x) := by
  have hn := K_n (CS_k h)
  obtain ⟨a8, a90, a9⟩ := hAH
  have hF : ∀ I1 : Nat → Nat → Int32, (∀ c k, c ≠ 91 → I1 c k = I c k) → CS K I1 := fun I1 f => CS_fr h (fun c k q => f c k (fun z => by rw [z] at q; cases q))
  have L := Lp1 (n := kn K) (G := fun k (I1 : Nat → Nat → Int32) => am_ev X amP_19 2 [.ref 89, .int (st C (kn K)), .int (iI u), .int (iI k)] [] (am_sh I1 J)) (Iv := fun k I1 => (∀ c j, c ≠ 91 → I1 c j = I c j) ∧ (∀ x, x < k → (C x → I1 91 x = iI u) ∧ (¬ C x → I1 91 x = I 91 x)) ∧ ∀ x, k ≤ x → I1 91 x = I 91 x) (P := fun r => ∃ I' : Nat → Nat → Int32, r = some (none, am_sh I' J) ∧ (∀ c k, ¬ (c = 89 ∧ (k = 8 ∨ k = 9)) → c ≠ 91 → I' c k = I c k) ∧ AH K (fun x => A x ∧ ¬ C x) mt I' ∧ ∀ x, x < kn K → (C x → I' 91 x = iI u) ∧ (¬ C x → I' 91 x = I 91 x)) (by
    rintro k I1 hk ⟨f1, v1, v2⟩
    right
    have h1 := hF I1 f1
    by_cases q : C k
    · refine ⟨am_up I1 91 k (iI u), ⟨fun c j hc => by rw [up_c hc]; exact f1 c j hc, fun x hx => ?_, fun x hx => by rw [up_k (by omega)]; exact v2 x (by omega)⟩, ?_⟩
      · by_cases e : x = k
        · subst e
          exact ⟨fun _ => up_at _ _ _ _, fun z => absurd q z⟩
        · rw [up_k e]
          exact v1 x (by omega)
      · try dsimp only
        rw [cS, sg_19_2]
        simp (disch := first | omega | assumption | exact cat_n | exact cat_i _ | exact cat_r _ | (simp (disch := omega) only [l_0, l_1, l_m1, l_2, l_3, l_4, l_5, l_6, l_7, l_8, l_9, l_10, l_16, l_20, l_40, l_48, l_99, l_200, l_999, l_9999, li_73, li_78, li_m1000000, li_90, li_251, li_400, li_2400, li_91, li_153, li_173, li_96, li_32, li_92, li_12, li_93, li_80, li_14, li_1000000000, li_30, li_11, li_24, li_13, li_97, li_64, li_1600, li_49, li_255, li_2147483647, li_12345, li_1103515245, li_59, li_57, li_122, li_1023, li_1000000, li_52, li_51, li_50, li_47, li_46, li_45, li_44, li_43, li_42, li_41, li_39, li_38, li_37, li_36, li_35, li_34, li_33, li_29, li_28, li_27, li_26, li_25, li_23, li_22, li_21, li_19, li_18, li_17, li_15, li_m8, li_m2, li_60, li_54, li_2907, li_151, li_127, oN, iI_add, iI_sub, iI_mul, iI_neg, Int.reduceAdd, Int.reduceSub, Int.reduceMul, Int.reduceNeg, Int.toNat_natCast, iI_lt, iI_le, iI_eq, iI_cl, true_or, or_true, false_or, or_false, true_and, and_true, not_true_eq_false, not_false_eq_true]; first | done | omega)) only [↓if_pos, ↓if_neg, Option.bind_some, Option.toList_some, Option.toList_none, List.cons_append, List.nil_append, l_0, l_1, l_m1, l_2, l_3, l_4, l_5, l_6, l_7, l_8, l_9, l_10, l_16, l_20, l_40, l_48, l_99, l_200, l_999, l_9999, li_73, li_78, li_m1000000, li_90, li_251, li_400, li_2400, li_91, li_153, li_173, li_96, li_32, li_92, li_12, li_93, li_80, li_14, li_1000000000, li_30, li_11, li_24, li_13, li_97, li_64, li_1600, li_49, li_255, li_2147483647, li_12345, li_1103515245, li_59, li_57, li_122, li_1023, li_1000000, li_52, li_51, li_50, li_47, li_46, li_45, li_44, li_43, li_42, li_41, li_39, li_38, li_37, li_36, li_35, li_34, li_33, li_29, li_28, li_27, li_26, li_25, li_23, li_22, li_21, li_19, li_18, li_17, li_15, li_m8, li_m2, li_60, li_54, li_2907, li_151, li_127, oN, iI_add, iI_sub, iI_mul, iI_neg, Int.reduceAdd, Int.reduceSub, Int.reduceMul, Int.reduceNeg, Int.toNat_natCast, iI_cl, CS_n h1, st_at (p := C) (n := kn K) (k := k) (by omega) hk q]
    · refine ⟨I1, ⟨f1, fun x hx => ?_, fun x hx => v2 x (by omega)⟩, ?_⟩
      · by_cases e : x = k
        · subst e
          exact ⟨fun z => absurd z q, fun _ => v2 x (Nat.le_refl _)⟩
        · exact v1 x (by omega)
      · try dsimp only
        rw [cS, sg_19_2]
        simp (disch := first | omega | assumption | exact cat_n | exact cat_i _ | exact cat_r _ | (simp (disch := omega) only [l_0, l_1, l_m1, l_2, l_3, l_4, l_5, l_6, l_7, l_8, l_9, l_10, l_16, l_20, l_40, l_48, l_99, l_200, l_999, l_9999, li_73, li_78, li_m1000000, li_90, li_251, li_400, li_2400, li_91, li_153, li_173, li_96, li_32, li_92, li_12, li_93, li_80, li_14, li_1000000000, li_30, li_11, li_24, li_13, li_97, li_64, li_1600, li_49, li_255, li_2147483647, li_12345, li_1103515245, li_59, li_57, li_122, li_1023, li_1000000, li_52, li_51, li_50, li_47, li_46, li_45, li_44, li_43, li_42, li_41, li_39, li_38, li_37, li_36, li_35, li_34, li_33, li_29, li_28, li_27, li_26, li_25, li_23, li_22, li_21, li_19, li_18, li_17, li_15, li_m8, li_m2, li_60, li_54, li_2907, li_151, li_127, oN, iI_add, iI_sub, iI_mul, iI_neg, Int.reduceAdd, Int.reduceSub, Int.reduceMul, Int.reduceNeg, Int.toNat_natCast, iI_lt, iI_le, iI_eq, iI_cl, true_or, or_true, false_or, or_false, true_and, and_true, not_true_eq_false, not_false_eq_true]; first | done | omega)) only [↓if_pos, ↓if_neg, Option.bind_some, Option.toList_some, Option.toList_none, List.cons_append, List.nil_append, l_0, l_1, l_m1, l_2, l_3, l_4, l_5, l_6, l_7, l_8, l_9, l_10, l_16, l_20, l_40, l_48, l_99, l_200, l_999, l_9999, li_73, li_78, li_m1000000, li_90, li_251, li_400, li_2400, li_91, li_153, li_173, li_96, li_32, li_92, li_12, li_93, li_80, li_14, li_1000000000, li_30, li_11, li_24, li_13, li_97, li_64, li_1600, li_49, li_255, li_2147483647, li_12345, li_1103515245, li_59, li_57, li_122, li_1023, li_1000000, li_52, li_51, li_50, li_47, li_46, li_45, li_44, li_43, li_42, li_41, li_39, li_38, li_37, li_36, li_35, li_34, li_33, li_29, li_28, li_27, li_26, li_25, li_23, li_22, li_21, li_19, li_18, li_17, li_15, li_m8, li_m2, li_60, li_54, li_2907, li_151, li_127, oN, iI_add, iI_sub, iI_mul, iI_neg, Int.reduceAdd, Int.reduceSub, Int.reduceMul, Int.reduceNeg, Int.toNat_natCast, iI_cl, CS_n h1, st_no (p := C) (n := kn K) (k := k) (by omega) (by omega) (fun z => q z.2)]) (by
    rintro I1 ⟨f1, v1, v2⟩
    have h1 := hF I1 f1
    have b8 : I1 89 8 = st A (kn K) := (f1 89 8 (by omega)).trans a8
    have h2 : CS K (am_up I1 89 8 (st (fun x => A x ∧ ¬ C x) (kn K))) := CS_fr h1 (Fr_89 (by omega) Fr_rfl)
    obtain ⟨I2, g1, g2, g3⟩ := k_17 (X := X) (J := J) h2 (A := fun x => A x ∧ ¬ C x) (mt := mt) (up_at _ _ _ _) (fun a ha => by rw [up_c (by omega)]; exact (f1 90 a (by omega)).trans (a90 a ha))
    refine ⟨I2, ?_, fun c k hc hc2 => ?_, g3, fun x hx => ?_⟩
    · have ed : st A (kn K) &&& (st C (kn K) ^^^ iI (-1)) = st (fun x => A x ∧ ¬ C x) (kn K) := st_dif (by omega)
      try dsimp only
      rw [sg_19_2]
      simp (disch := first | omega | assumption | exact cat_n | exact cat_i _ | exact cat_r _ | (simp (disch := omega) only [l_0, l_1, l_m1, l_2, l_3, l_4, l_5, l_6, l_7, l_8, l_9, l_10, l_16, l_20, l_40, l_48, l_99, l_200, l_999, l_9999, li_73, li_78, li_m1000000, li_90, li_251, li_400, li_2400, li_91, li_153, li_173, li_96, li_32, li_92, li_12, li_93, li_80, li_14, li_1000000000, li_30, li_11, li_24, li_13, li_97, li_64, li_1600, li_49, li_255, li_2147483647, li_12345, li_1103515245, li_59, li_57, li_122, li_1023, li_1000000, li_52, li_51, li_50, li_47, li_46, li_45, li_44, li_43, li_42, li_41, li_39, li_38, li_37, li_36, li_35, li_34, li_33, li_29, li_28, li_27, li_26, li_25, li_23, li_22, li_21, li_19, li_18, li_17, li_15, li_m8, li_m2, li_60, li_54, li_2907, li_151, li_127, oN, iI_add, iI_sub, iI_mul, iI_neg, Int.reduceAdd, Int.reduceSub, Int.reduceMul, Int.reduceNeg, Int.toNat_natCast, iI_lt, iI_le, iI_eq, iI_cl, true_or, or_true, false_or, or_false, true_and, and_true, not_true_eq_false, not_false_eq_true]; first | done | omega)) only [↓if_pos, ↓if_neg, Option.bind_some, Option.toList_some, Option.toList_none, List.cons_append, List.nil_append, l_0, l_1, l_m1, l_2, l_3, l_4, l_5, l_6, l_7, l_8, l_9, l_10, l_16, l_20, l_40, l_48, l_99, l_200, l_999, l_9999, li_73, li_78, li_m1000000, li_90, li_251, li_400, li_2400, li_91, li_153, li_173, li_96, li_32, li_92, li_12, li_93, li_80, li_14, li_1000000000, li_30, li_11, li_24, li_13, li_97, li_64, li_1600, li_49, li_255, li_2147483647, li_12345, li_1103515245, li_59, li_57, li_122, li_1023, li_1000000, li_52, li_51, li_50, li_47, li_46, li_45, li_44, li_43, li_42, li_41, li_39, li_38, li_37, li_36, li_35, li_34, li_33, li_29, li_28, li_27, li_26, li_25, li_23, li_22, li_21, li_19, li_18, li_17, li_15, li_m8, li_m2, li_60, li_54, li_2907, li_151, li_127, oN, iI_add, iI_sub, iI_mul, iI_neg, Int.reduceAdd, Int.reduceSub, Int.reduceMul, Int.reduceNeg, Int.toNat_natCast, iI_cl, sg_19_31, CS_n h1, b8, ed, g1]
    · rw [g2 c k (by omega), up_ck (by omega)]
      exact f1 c k hc2
    · rw [g2 91 x (by omega), up_ck (by omega)]
      exact v1 x hx) I ⟨fun _ _ _ => rfl, fun x hx => by omega, fun _ _ => rfl⟩
  obtain ⟨I', e1, e2⟩ := L
  try dsimp only at e1
  rw [c0] at e1
  refine ⟨I', ?_, e2⟩
  simp (disch := first | omega | assumption | exact cat_n | exact cat_i _ | exact cat_r _ | (simp (disch := omega) only [l_0, l_1, l_m1, l_2, l_3, l_4, l_5, l_6, l_7, l_8, l_9, l_10, l_16, l_20, l_40, l_48, l_99, l_200, l_999, l_9999, li_73, li_78, li_m1000000, li_90, li_251, li_400, li_2400, li_91, li_153, li_173, li_96, li_32, li_92, li_12, li_93, li_80, li_14, li_1000000000, li_30, li_11, li_24, li_13, li_97, li_64, li_1600, li_49, li_255, li_2147483647, li_12345, li_1103515245, li_59, li_57, li_122, li_1023, li_1000000, li_52, li_51, li_50, li_47, li_46, li_45, li_44, li_43, li_42, li_41, li_39, li_38, li_37, li_36, li_35, li_34, li_33, li_29, li_28, li_27, li_26, li_25, li_23, li_22, li_21, li_19, li_18, li_17, li_15, li_m8, li_m2, li_60, li_54, li_2907, li_151, li_127, oN, iI_add, iI_sub, iI_mul, iI_neg, Int.reduceAdd, Int.reduceSub, Int.reduceMul, Int.reduceNeg, Int.toNat_natCast, iI_lt, iI_le, iI_eq, iI_cl, true_or, or_true, false_or, or_false, true_and, and_true, not_true_eq_false, not_false_eq_true]; first | done | omega)) only [↓if_pos, ↓if_neg, Option.bind_some, Option.toList_some, Option.toList_none, List.cons_append, List.nil_append, l_0, l_1, l_m1, l_2, l_3, l_4, l_5, l_6, l_7, l_8, l_9, l_10, l_16, l_20, l_40, l_48, l_99, l_200, l_999, l_9999, li_73, li_78, li_m1000000, li_90, li_251, li_400, li_2400, li_91, li_153, li_173, li_96, li_32, li_92, li_12, li_93, li_80, li_14, li_1000000000, li_30, li_11, li_24, li_13, li_97, li_64, li_1600, li_49, li_255, li_2147483647, li_12345, li_1103515245, li_59, li_57, li_122, li_1023, li_1000000, li_52, li_51, li_50, li_47, li_46, li_45, li_44, li_43, li_42, li_41, li_39, li_38, li_37, li_36, li_35, li_34, li_33, li_29, li_28, li_27, li_26, li_25, li_23, li_22, li_21, li_19, li_18, li_17, li_15, li_m8, li_m2, li_60, li_54, li_2907, li_151, li_127, oN, iI_add, iI_sub, iI_mul, iI_neg, Int.reduceAdd, Int.reduceSub, Int.reduceMul, Int.reduceNeg, Int.toNat_natCast, iI_cl, cl_19, sg_19_e0, e1]
theorem b_1023 (i : Nat) (hi : i < 32) : bt (iI 1023) i = decide (i < 10) := by
  have : ∀ i, i < 32 → bt 1023 i = decide (i < 10) := by decide +kernel
  exact this i hi
theorem st_1023 {p : Nat → Prop} {n : Nat} (hn : n ≤ 10) : st p n &&& iI 1023 = st p n := by
  refine b_ext (fun i hi => ?_)
  rw [b_and, b_1023 i hi, b_st (by omega) i hi]
  by_cases h : i < n
  · simp [show i < 10 by omega]
  · simp [h]
theorem W_ah {I' : Nat → Nat → Int32} (f : ∀ c k, ¬ (c = 89 ∧ (k = 8 ∨ k = 9)) → ¬ (91 ≤ c ∧ c ≤ 94) → I' c k = I c k) : Fr W_q I I' := fun c k q => f c k (fun z => by rw [z.1] at q; cases q) (fun z => by
  have e : ∀ c, c < 95 → 91 ≤ c → W_qb c = true ∧ Nat.beq c 96 = false ∧ Nat.beq c 128 = false ∧ Nat.beq c 3 = false := by decide
  obtain ⟨e1, e2, e3, e4⟩ := e c (by omega) z.1
  unfold W_q at q
  rw [e1, e2, e3, e4] at q
  cases q)
/-- with how many ticks b crashes; -1 -/
def dm (K : Sk) (S : Nat → Prop) (T b : Nat) (v : Int) : Prop := (∃ k, k < T ∧ as_ K S k b ∧ ¬ as_ K S (k + 1) b ∧ v = k + 1) ∨ (as_ K S T b ∧ v = -1)
theorem dm_one {T : Nat} {v v' : Int} (h1 : dm K S T b v) (h2 : dm K S T b v') : v = v' := by
  have key : ∀ i j, as_ K S i b → ¬ as_ K S (i + 1) b → as_ K S j b → j ≤ i := fun i j _ h2 h3 => by
    apply Classical.byContradiction
    intro z
    apply h2
    exact as_mono (j - (i + 1)) (i + 1) b (by rw [show i + 1 + (j - (i + 1)) = j by omega]; exact h3)
  rcases h1 with ⟨k, k1, k2, k3, k4⟩ | ⟨k1, k2⟩
  · rcases h2 with ⟨j, j1, j2, j3, j4⟩ | ⟨j1, j2⟩
    · have := key k j k2 k3 j2
      have := key j k j2 j3 k2
      omega
    · have := key k T k2 k3 j1
      omega
  · rcases h2 with ⟨j, j1, j2, j3, j4⟩ | ⟨j1, j2⟩
    · have := key j T j2 j3 k1
      omega
    · omega
set_option maxHeartbeats 1000000 in
/-- run: x1 the watched one (-1: none), x3 whom it awaits -/
theorem k_18 (h : CS K I) (hAH : AH K S mt I) (hS : ∀ x, S x → x < kn K) (hm : mte K S (kz K) (fun _ _ => True) mt) {T : Nat} (hT : T ≤ 2400) {w : Int} (hw : w = -1 ∨ ∃ b : Nat, w = b ∧ S b) : ∃ (I' : Nat → Nat → Int32) (v : Int), am_do X 18 [.ref 89, .int (iI w), .int (iI T)] (am_sh I J) = some (some (.int (iI v)), am_sh I' J) ∧ (∀ c k, ¬ (c = 89 ∧ (k = 8 ∨ k = 9)) → ¬ (91 ≤ c ∧ c ≤ 94) → I' c k = I c k) ∧ (w = -1 → I' 89 8 = st (as_ K S T) (kn K) ∧ ∀ x, x < kn K → ∃ u : Int, I' 91 x = iI u ∧ upt K S T T x u) ∧ ∀ b : Nat, w = b → dm K S T b v := by
  have hn := K_n (CS_k h)
  have hKt := K_t (CS_k h)
  have hF : ∀ I1 : Nat → Nat → Int32, (∀ c k, ¬ (c = 89 ∧ (k = 8 ∨ k = 9)) → ¬ (91 ≤ c ∧ c ≤ 94) → I1 c k = I c k) → CS K I1 := fun I1 f => CS_fr h (W_ah f)
  -- at first
  have A := Lp1 (n := kn K) (G := fun k (I1 : Nat → Nat → Int32) => am_ev X amP_18 2 [.ref 89, .int (iI w), .int (iI T), .int (iI k), .null, .null] [] (am_sh I1 J)) (Iv := fun k I1 => (∀ c j, c ≠ 91 → I1 c j = I c j) ∧ ∀ x, x < k → ∃ u : Int, I1 91 x = iI u ∧ upt K S T 0 x u) (P := fun r => ∃ I1 : Nat → Nat → Int32, r = am_ev X amP_18 2 [.ref 89, .int (iI w), .int (iI T), .int (iI (kn K)), .null, .null] [] (am_sh I1 J) ∧ (∀ c j, c ≠ 91 → I1 c j = I c j) ∧ ∀ x, x < kn K → ∃ u : Int, I1 91 x = iI u ∧ upt K S T 0 x u) (by
    rintro k I1 hk ⟨f1, v1⟩
    right
    have h1 := hF I1 (fun c k _ hc => f1 c k (by omega))
    have b8 : I1 89 8 = st S (kn K) := (f1 89 8 (by omega)).trans hAH.1
    by_cases q : S k
    · refine ⟨am_up I1 91 k (iI T), ⟨fun c j hc => by rw [up_c hc]; exact f1 c j hc, fun x hx => ?_⟩, ?_⟩
      · by_cases e : x = k
        · subst e
          exact ⟨T, up_at _ _ _ _, Or.inr (Or.inl ⟨q, rfl⟩)⟩
        · rw [up_k e]
          exact v1 x (by omega)
      · try dsimp only
        rw [cS, sg_18_2]
        · rw [b8]
          simp (disch := first | omega | assumption | exact cat_n | exact cat_i _ | exact cat_r _ | (simp (disch := omega) only [l_0, l_1, l_m1, l_2, l_3, l_4, l_5, l_6, l_7, l_8, l_9, l_10, l_16, l_20, l_40, l_48, l_99, l_200, l_999, l_9999, li_73, li_78, li_m1000000, li_90, li_251, li_400, li_2400, li_91, li_153, li_173, li_96, li_32, li_92, li_12, li_93, li_80, li_14, li_1000000000, li_30, li_11, li_24, li_13, li_97, li_64, li_1600, li_49, li_255, li_2147483647, li_12345, li_1103515245, li_59, li_57, li_122, li_1023, li_1000000, li_52, li_51, li_50, li_47, li_46, li_45, li_44, li_43, li_42, li_41, li_39, li_38, li_37, li_36, li_35, li_34, li_33, li_29, li_28, li_27, li_26, li_25, li_23, li_22, li_21, li_19, li_18, li_17, li_15, li_m8, li_m2, li_60, li_54, li_2907, li_151, li_127, oN, iI_add, iI_sub, iI_mul, iI_neg, Int.reduceAdd, Int.reduceSub, Int.reduceMul, Int.reduceNeg, Int.toNat_natCast, iI_lt, iI_le, iI_eq, iI_cl, true_or, or_true, false_or, or_false, true_and, and_true, not_true_eq_false, not_false_eq_true]; first | done | omega)) only [↓if_pos, ↓if_neg, Option.bind_some, Option.toList_some, Option.toList_none, List.cons_append, List.nil_append, l_0, l_1, l_m1, l_2, l_3, l_4, l_5, l_6, l_7, l_8, l_9, l_10, l_16, l_20, l_40, l_48, l_99, l_200, l_999, l_9999, li_73, li_78, li_m1000000, li_90, li_251, li_400, li_2400, li_91, li_153, li_173, li_96, li_32, li_92, li_12, li_93, li_80, li_14, li_1000000000, li_30, li_11, li_24, li_13, li_97, li_64, li_1600, li_49, li_255, li_2147483647, li_12345, li_1103515245, li_59, li_57, li_122, li_1023, li_1000000, li_52, li_51, li_50, li_47, li_46, li_45, li_44, li_43, li_42, li_41, li_39, li_38, li_37, li_36, li_35, li_34, li_33, li_29, li_28, li_27, li_26, li_25, li_23, li_22, li_21, li_19, li_18, li_17, li_15, li_m8, li_m2, li_60, li_54, li_2907, li_151, li_127, oN, iI_add, iI_sub, iI_mul, iI_neg, Int.reduceAdd, Int.reduceSub, Int.reduceMul, Int.reduceNeg, Int.toNat_natCast, iI_cl, CS_n h1, st_at (p := S) (n := kn K) (k := k) (by omega) hk q]
        all_goals first | assumption | omega | exact cat_n | exact cat_i _ | exact cat_r _ | rfl
    · refine ⟨am_up I1 91 k (iI 0), ⟨fun c j hc => by rw [up_c hc]; exact f1 c j hc, fun x hx => ?_⟩, ?_⟩
      · by_cases e : x = k
        · subst e
          exact ⟨0, up_at _ _ _ _, Or.inl ⟨q, rfl⟩⟩
        · rw [up_k e]
          exact v1 x (by omega)
      · try dsimp only
        rw [cS, sg_18_2]
        · rw [b8]
          simp (disch := first | omega | assumption | exact cat_n | exact cat_i _ | exact cat_r _ | (simp (disch := omega) only [l_0, l_1, l_m1, l_2, l_3, l_4, l_5, l_6, l_7, l_8, l_9, l_10, l_16, l_20, l_40, l_48, l_99, l_200, l_999, l_9999, li_73, li_78, li_m1000000, li_90, li_251, li_400, li_2400, li_91, li_153, li_173, li_96, li_32, li_92, li_12, li_93, li_80, li_14, li_1000000000, li_30, li_11, li_24, li_13, li_97, li_64, li_1600, li_49, li_255, li_2147483647, li_12345, li_1103515245, li_59, li_57, li_122, li_1023, li_1000000, li_52, li_51, li_50, li_47, li_46, li_45, li_44, li_43, li_42, li_41, li_39, li_38, li_37, li_36, li_35, li_34, li_33, li_29, li_28, li_27, li_26, li_25, li_23, li_22, li_21, li_19, li_18, li_17, li_15, li_m8, li_m2, li_60, li_54, li_2907, li_151, li_127, oN, iI_add, iI_sub, iI_mul, iI_neg, Int.reduceAdd, Int.reduceSub, Int.reduceMul, Int.reduceNeg, Int.toNat_natCast, iI_lt, iI_le, iI_eq, iI_cl, true_or, or_true, false_or, or_false, true_and, and_true, not_true_eq_false, not_false_eq_true]; first | done | omega)) only [↓if_pos, ↓if_neg, Option.bind_some, Option.toList_some, Option.toList_none, List.cons_append, List.nil_append, l_0, l_1, l_m1, l_2, l_3, l_4, l_5, l_6, l_7, l_8, l_9, l_10, l_16, l_20, l_40, l_48, l_99, l_200, l_999, l_9999, li_73, li_78, li_m1000000, li_90, li_251, li_400, li_2400, li_91, li_153, li_173, li_96, li_32, li_92, li_12, li_93, li_80, li_14, li_1000000000, li_30, li_11, li_24, li_13, li_97, li_64, li_1600, li_49, li_255, li_2147483647, li_12345, li_1103515245, li_59, li_57, li_122, li_1023, li_1000000, li_52, li_51, li_50, li_47, li_46, li_45, li_44, li_43, li_42, li_41, li_39, li_38, li_37, li_36, li_35, li_34, li_33, li_29, li_28, li_27, li_26, li_25, li_23, li_22, li_21, li_19, li_18, li_17, li_15, li_m8, li_m2, li_60, li_54, li_2907, li_151, li_127, oN, iI_add, iI_sub, iI_mul, iI_neg, Int.reduceAdd, Int.reduceSub, Int.reduceMul, Int.reduceNeg, Int.toNat_natCast, iI_cl, CS_n h1, st_no (p := S) (n := kn K) (k := k) (by omega) (by omega) (fun z => q z.2)]
        all_goals first | assumption | omega | exact cat_n | exact cat_i _ | exact cat_r _ | rfl) (by
    rintro I1 ⟨f1, v1⟩
    exact ⟨I1, rfl, f1, v1⟩) I ⟨fun _ _ _ => rfl, fun x hx => by omega⟩
  obtain ⟨I1, a1, f1, v1⟩ := A
  try dsimp only at a1
  rw [c0] at a1
  have h1 := hF I1 (fun c k _ hc => f1 c k (by omega))
  have ah1 : AH K (as_ K S 0) mt I1 := ⟨(f1 89 8 (by omega)).trans hAH.1, fun a ha => (f1 90 a (by omega)).trans (hAH.2.1 a ha), (f1 89 9 (by omega)).trans hAH.2.2⟩
  -- whom it awaits
  obtain ⟨y, hy1, hy2⟩ : ∃ y : Int32, am_ev X amP_18 2 [.ref 89, .int (iI w), .int (iI T), .int (iI (kn K)), .null, .null] [] (am_sh I1 J) = am_ev X amP_18 35 [.ref 89, .int (iI w), .int (iI T), .int y, .int (iI 0), .null] [] (am_sh I1 J) ∧ ((w = -1 ∧ ∀ p : Nat → Prop, st p (kn K) &&& y = st p (kn K)) ∨ ∃ b : Nat, w = b ∧ S b ∧ y = st (fun x => x = b) (kn K)) := by
    rcases hw with rfl | ⟨b, rfl, hb⟩
    · refine ⟨iI 1023, ?_, Or.inl ⟨rfl, fun p => st_1023 hn⟩⟩
      rw [sg_18_2]
      · simp (disch := first | omega | assumption | exact cat_n | exact cat_i _ | exact cat_r _ | (simp (disch := omega) only [l_0, l_1, l_m1, l_2, l_3, l_4, l_5, l_6, l_7, l_8, l_9, l_10, l_16, l_20, l_40, l_48, l_99, l_200, l_999, l_9999, li_73, li_78, li_m1000000, li_90, li_251, li_400, li_2400, li_91, li_153, li_173, li_96, li_32, li_92, li_12, li_93, li_80, li_14, li_1000000000, li_30, li_11, li_24, li_13, li_97, li_64, li_1600, li_49, li_255, li_2147483647, li_12345, li_1103515245, li_59, li_57, li_122, li_1023, li_1000000, li_52, li_51, li_50, li_47, li_46, li_45, li_44, li_43, li_42, li_41, li_39, li_38, li_37, li_36, li_35, li_34, li_33, li_29, li_28, li_27, li_26, li_25, li_23, li_22, li_21, li_19, li_18, li_17, li_15, li_m8, li_m2, li_60, li_54, li_2907, li_151, li_127, oN, iI_add, iI_sub, iI_mul, iI_neg, Int.reduceAdd, Int.reduceSub, Int.reduceMul, Int.reduceNeg, Int.toNat_natCast, iI_lt, iI_le, iI_eq, iI_cl, true_or, or_true, false_or, or_false, true_and, and_true, not_true_eq_false, not_false_eq_true]; first | done | omega)) only [↓if_pos, ↓if_neg, Option.bind_some, Option.toList_some, Option.toList_none, List.cons_append, List.nil_append, l_0, l_1, l_m1, l_2, l_3, l_4, l_5, l_6, l_7, l_8, l_9, l_10, l_16, l_20, l_40, l_48, l_99, l_200, l_999, l_9999, li_73, li_78, li_m1000000, li_90, li_251, li_400, li_2400, li_91, li_153, li_173, li_96, li_32, li_92, li_12, li_93, li_80, li_14, li_1000000000, li_30, li_11, li_24, li_13, li_97, li_64, li_1600, li_49, li_255, li_2147483647, li_12345, li_1103515245, li_59, li_57, li_122, li_1023, li_1000000, li_52, li_51, li_50, li_47, li_46, li_45, li_44, li_43, li_42, li_41, li_39, li_38, li_37, li_36, li_35, li_34, li_33, li_29, li_28, li_27, li_26, li_25, li_23, li_22, li_21, li_19, li_18, li_17, li_15, li_m8, li_m2, li_60, li_54, li_2907, li_151, li_127, oN, iI_add, iI_sub, iI_mul, iI_neg, Int.reduceAdd, Int.reduceSub, Int.reduceMul, Int.reduceNeg, Int.toNat_natCast, iI_cl, CS_n h1]
      all_goals first | assumption | omega | exact cat_n | exact cat_i _ | exact cat_r _ | rfl
    · have hb1 := hS b hb
      refine ⟨st (fun x => x = b) (kn K), ?_, Or.inr ⟨b, rfl, hb, rfl⟩⟩
      rw [sg_18_2]
      · simp (disch := first | omega | assumption | exact cat_n | exact cat_i _ | exact cat_r _ | (simp (disch := omega) only [l_0, l_1, l_m1, l_2, l_3, l_4, l_5, l_6, l_7, l_8, l_9, l_10, l_16, l_20, l_40, l_48, l_99, l_200, l_999, l_9999, li_73, li_78, li_m1000000, li_90, li_251, li_400, li_2400, li_91, li_153, li_173, li_96, li_32, li_92, li_12, li_93, li_80, li_14, li_1000000000, li_30, li_11, li_24, li_13, li_97, li_64, li_1600, li_49, li_255, li_2147483647, li_12345, li_1103515245, li_59, li_57, li_122, li_1023, li_1000000, li_52, li_51, li_50, li_47, li_46, li_45, li_44, li_43, li_42, li_41, li_39, li_38, li_37, li_36, li_35, li_34, li_33, li_29, li_28, li_27, li_26, li_25, li_23, li_22, li_21, li_19, li_18, li_17, li_15, li_m8, li_m2, li_60, li_54, li_2907, li_151, li_127, oN, iI_add, iI_sub, iI_mul, iI_neg, Int.reduceAdd, Int.reduceSub, Int.reduceMul, Int.reduceNeg, Int.toNat_natCast, iI_lt, iI_le, iI_eq, iI_cl, true_or, or_true, false_or, or_false, true_and, and_true, not_true_eq_false, not_false_eq_true]; first | done | omega)) only [↓if_pos, ↓if_neg, Option.bind_some, Option.toList_some, Option.toList_none, List.cons_append, List.nil_append, l_0, l_1, l_m1, l_2, l_3, l_4, l_5, l_6, l_7, l_8, l_9, l_10, l_16, l_20, l_40, l_48, l_99, l_200, l_999, l_9999, li_73, li_78, li_m1000000, li_90, li_251, li_400, li_2400, li_91, li_153, li_173, li_96, li_32, li_92, li_12, li_93, li_80, li_14, li_1000000000, li_30, li_11, li_24, li_13, li_97, li_64, li_1600, li_49, li_255, li_2147483647, li_12345, li_1103515245, li_59, li_57, li_122, li_1023, li_1000000, li_52, li_51, li_50, li_47, li_46, li_45, li_44, li_43, li_42, li_41, li_39, li_38, li_37, li_36, li_35, li_34, li_33, li_29, li_28, li_27, li_26, li_25, li_23, li_22, li_21, li_19, li_18, li_17, li_15, li_m8, li_m2, li_60, li_54, li_2907, li_151, li_127, oN, iI_add, iI_sub, iI_mul, iI_neg, Int.reduceAdd, Int.reduceSub, Int.reduceMul, Int.reduceNeg, Int.toNat_natCast, iI_cl, CS_n h1, st_one (n := kn K) (k := b) (by omega) hb1]
      all_goals first | assumption | omega | exact cat_n | exact cat_i _ | exact cat_r _ | rfl
  have aw : ∀ p : Nat → Prop, (st p (kn K) &&& y = iI 0) ↔ (w = -1 ∧ ∀ x, x < kn K → ¬ p x) ∨ ∃ b : Nat, w = b ∧ ¬ p b := by
    intro p
    rcases hy2 with ⟨e1, e2⟩ | ⟨b, e1, e2, e3⟩
    · rw [e2, st_zi (by omega)]
      constructor
      · exact fun z => Or.inl ⟨e1, z⟩
      · rintro (z | ⟨b, z1, -⟩)
        · exact z.2
        · omega
    · rw [e3, st_and (by omega), st_zi (by omega)]
      constructor
      · intro z
        exact Or.inr ⟨b, e1, fun y => z b (hS b e2) ⟨y, rfl⟩⟩
      · rintro (z | ⟨b', z1, z2⟩)
        · omega
        · intro x _ z3
          obtain rfl : b' = b := by omega
          rw [z3.2] at z3
          exact z2 z3.1
  -- the ticks
  have B := Lp1 (n := T) (G := fun k (s : (Nat → Nat → Int32) × Value) => am_ev X amP_18 35 [.ref 89, .int (iI w), .int (iI T), .int y, .int (iI k), s.2] [] (am_sh s.1 J)) (Iv := fun k s => (∀ c k, ¬ (c = 89 ∧ (k = 8 ∨ k = 9)) → ¬ (91 ≤ c ∧ c ≤ 94) → s.1 c k = I c k) ∧ AH K (as_ K S k) mt s.1 ∧ (∀ x, x < kn K → ∃ u : Int, s.1 91 x = iI u ∧ upt K S T k x u) ∧ (∀ b : Nat, w = b → as_ K S k b) ∧ s.2.category = 1) (P := fun r => ∃ (I' : Nat → Nat → Int32) (v : Int), r = some (some (.int (iI v)), am_sh I' J) ∧ (∀ c k, ¬ (c = 89 ∧ (k = 8 ∨ k = 9)) → ¬ (91 ≤ c ∧ c ≤ 94) → I' c k = I c k) ∧ (w = -1 → I' 89 8 = st (as_ K S T) (kn K) ∧ ∀ x, x < kn K → ∃ u : Int, I' 91 x = iI u ∧ upt K S T T x u) ∧ ∀ b : Nat, w = b → dm K S T b v) (by
    rintro k ⟨I2, wv⟩ hk ⟨f2, ah2, u2, ab, hwv⟩
    try dsimp only at f2 ah2 u2 ab hwv
    have h2 := hF I2 f2
    have c9 := ah2.2.2
    by_cases z : st (cnd K (as_ K S k) mt) (kn K) &&& y = iI 0
    · -- none left to crash with
      left
      refine ⟨I2, -1, ?_, f2, fun hw1 => ?_, fun b hb => Or.inr ⟨?_, rfl⟩⟩
      · try dsimp only
        rw [sg_18_35]
        · rw [c9]
          simp (disch := first | omega | assumption | exact cat_n | exact cat_i _ | exact cat_r _ | (simp (disch := omega) only [l_0, l_1, l_m1, l_2, l_3, l_4, l_5, l_6, l_7, l_8, l_9, l_10, l_16, l_20, l_40, l_48, l_99, l_200, l_999, l_9999, li_73, li_78, li_m1000000, li_90, li_251, li_400, li_2400, li_91, li_153, li_173, li_96, li_32, li_92, li_12, li_93, li_80, li_14, li_1000000000, li_30, li_11, li_24, li_13, li_97, li_64, li_1600, li_49, li_255, li_2147483647, li_12345, li_1103515245, li_59, li_57, li_122, li_1023, li_1000000, li_52, li_51, li_50, li_47, li_46, li_45, li_44, li_43, li_42, li_41, li_39, li_38, li_37, li_36, li_35, li_34, li_33, li_29, li_28, li_27, li_26, li_25, li_23, li_22, li_21, li_19, li_18, li_17, li_15, li_m8, li_m2, li_60, li_54, li_2907, li_151, li_127, oN, iI_add, iI_sub, iI_mul, iI_neg, Int.reduceAdd, Int.reduceSub, Int.reduceMul, Int.reduceNeg, Int.toNat_natCast, iI_lt, iI_le, iI_eq, iI_cl, true_or, or_true, false_or, or_false, true_and, and_true, not_true_eq_false, not_false_eq_true]; first | done | omega)) only [↓if_pos, ↓if_neg, Option.bind_some, Option.toList_some, Option.toList_none, List.cons_append, List.nil_append, l_0, l_1, l_m1, l_2, l_3, l_4, l_5, l_6, l_7, l_8, l_9, l_10, l_16, l_20, l_40, l_48, l_99, l_200, l_999, l_9999, li_73, li_78, li_m1000000, li_90, li_251, li_400, li_2400, li_91, li_153, li_173, li_96, li_32, li_92, li_12, li_93, li_80, li_14, li_1000000000, li_30, li_11, li_24, li_13, li_97, li_64, li_1600, li_49, li_255, li_2147483647, li_12345, li_1103515245, li_59, li_57, li_122, li_1023, li_1000000, li_52, li_51, li_50, li_47, li_46, li_45, li_44, li_43, li_42, li_41, li_39, li_38, li_37, li_36, li_35, li_34, li_33, li_29, li_28, li_27, li_26, li_25, li_23, li_22, li_21, li_19, li_18, li_17, li_15, li_m8, li_m2, li_60, li_54, li_2907, li_151, li_127, oN, iI_add, iI_sub, iI_mul, iI_neg, Int.reduceAdd, Int.reduceSub, Int.reduceMul, Int.reduceNeg, Int.toNat_natCast, iI_cl, z]
        all_goals first | assumption | omega | exact cat_n | exact cat_i _ | exact cat_r _ | rfl
      · have zz : ∀ x, x < kn K → ¬ cnd K (as_ K S k) mt x := by
          rcases (aw _).mp z with y | ⟨b, y, -⟩
          · exact y.2
          · omega
        have hsame : ∀ x, as_ K S T x ↔ as_ K S k x := fun x => ⟨fun q => as_mono (T - k) k x (by rw [show k + (T - k) = T by omega]; exact q), fun q => by
          have := as_safe hS hm q (zz x (as_kn hS k x q)) (T - k)
          rw [show k + (T - k) = T by omega] at this
          exact this⟩
        refine ⟨ah2.1.trans (st_cg (fun x _ => (hsame x).symm)), fun x hx => ?_⟩
        obtain ⟨u, q1, q2⟩ := u2 x hx
        refine ⟨u, q1, ?_⟩
        rcases q2 with q | ⟨q3, q4⟩ | ⟨j, j1, j2⟩
        · exact Or.inl q
        · exact Or.inr (Or.inl ⟨(hsame x).mpr q3, q4⟩)
        · exact Or.inr (Or.inr ⟨j, by omega, j2⟩)
      · have zz : ¬ cnd K (as_ K S k) mt b := by
          rcases (aw _).mp z with y | ⟨b', y, y2⟩
          · omega
          · obtain rfl : b' = b := by omega
            exact y2
        have := as_safe hS hm (ab b hb) zz (T - k)
        rw [show k + (T - k) = T by omega] at this
        exact this
    · obtain ⟨I3, g1, g2⟩ := k_21 (X := X) (J := J) h2 ah2 (t := kt K + k) (by omega) (by omega) (as_kn hS k) (mte_far hm (fun x hx => as_S hx) _)
      have f3 : ∀ c k, ¬ (c = 89 ∧ (k = 8 ∨ k = 9)) → ¬ (91 ≤ c ∧ c ≤ 94) → I3 c k = I c k := fun c k q1 q2 => (g2 c k (by omega)).trans (f2 c k q1 q2)
      have h3 := hF I3 f3
      have ah3 : AH K (as_ K S k) mt I3 := ⟨(g2 89 8 (by omega)).trans ah2.1, fun a ha => (g2 90 a (by omega)).trans (ah2.2.1 a ha), (g2 89 9 (by omega)).trans ah2.2.2⟩
      have t16 := CS_t h2
      by_cases zc : st (crs K (as_ K S k) (kt K + k)) (kn K) = iI 0
      · -- nobody crashes
        right
        have hz := (st_zi (by omega)).mp zc
        have hnc : ∀ x, ¬ crs K (as_ K S k) (kt K + k) x := fun x q => hz x (as_kn hS k x q.1) q
        have hsame : ∀ x, as_ K S (k + 1) x ↔ as_ K S k x := fun x => ⟨fun q => q.1, fun q => ⟨q, hnc x⟩⟩
        have hcg : as_ K S (k + 1) = as_ K S k := funext fun x => propext (hsame x)
        refine ⟨(I3, .int (iI 0)), ⟨f3, by try dsimp only; rw [hcg]; exact ah3, fun x hx => ?_, fun b hb => (hsame b).mpr (ab b hb), rfl⟩, ?_⟩
        · obtain ⟨u, q1, q2⟩ := u2 x hx
          refine ⟨u, by try dsimp only; rw [g2 91 x (by omega)]; exact q1, ?_⟩
          rcases q2 with q | ⟨q3, q4⟩ | ⟨j, j1, j2⟩
          · exact Or.inl q
          · exact Or.inr (Or.inl ⟨(hsame x).mpr q3, q4⟩)
          · exact Or.inr (Or.inr ⟨j, by omega, j2⟩)
        · have z0 : iI 0 &&& y = iI 0 := by
            have := st_and (p := fun _ => False) (q := fun _ => False) (n := 0) (by omega)
            refine b_ext (fun i hi => ?_)
            have e : iI 0 = 0 := rfl
            rw [b_and, e, b_0, Bool.false_and]
          rw [zc] at g1
          try dsimp only
          rw [cS, sg_18_35]
          · rw [c9]
            rcases hw with rfl | ⟨b, rfl, hb⟩
            · simp (disch := first | omega | assumption | exact cat_n | exact cat_i _ | exact cat_r _ | (simp (disch := omega) only [l_0, l_1, l_m1, l_2, l_3, l_4, l_5, l_6, l_7, l_8, l_9, l_10, l_16, l_20, l_40, l_48, l_99, l_200, l_999, l_9999, li_73, li_78, li_m1000000, li_90, li_251, li_400, li_2400, li_91, li_153, li_173, li_96, li_32, li_92, li_12, li_93, li_80, li_14, li_1000000000, li_30, li_11, li_24, li_13, li_97, li_64, li_1600, li_49, li_255, li_2147483647, li_12345, li_1103515245, li_59, li_57, li_122, li_1023, li_1000000, li_52, li_51, li_50, li_47, li_46, li_45, li_44, li_43, li_42, li_41, li_39, li_38, li_37, li_36, li_35, li_34, li_33, li_29, li_28, li_27, li_26, li_25, li_23, li_22, li_21, li_19, li_18, li_17, li_15, li_m8, li_m2, li_60, li_54, li_2907, li_151, li_127, oN, iI_add, iI_sub, iI_mul, iI_neg, Int.reduceAdd, Int.reduceSub, Int.reduceMul, Int.reduceNeg, Int.toNat_natCast, iI_lt, iI_le, iI_eq, iI_cl, true_or, or_true, false_or, or_false, true_and, and_true, not_true_eq_false, not_false_eq_true]; first | done | omega)) only [↓if_pos, ↓if_neg, Option.bind_some, Option.toList_some, Option.toList_none, List.cons_append, List.nil_append, l_0, l_1, l_m1, l_2, l_3, l_4, l_5, l_6, l_7, l_8, l_9, l_10, l_16, l_20, l_40, l_48, l_99, l_200, l_999, l_9999, li_73, li_78, li_m1000000, li_90, li_251, li_400, li_2400, li_91, li_153, li_173, li_96, li_32, li_92, li_12, li_93, li_80, li_14, li_1000000000, li_30, li_11, li_24, li_13, li_97, li_64, li_1600, li_49, li_255, li_2147483647, li_12345, li_1103515245, li_59, li_57, li_122, li_1023, li_1000000, li_52, li_51, li_50, li_47, li_46, li_45, li_44, li_43, li_42, li_41, li_39, li_38, li_37, li_36, li_35, li_34, li_33, li_29, li_28, li_27, li_26, li_25, li_23, li_22, li_21, li_19, li_18, li_17, li_15, li_m8, li_m2, li_60, li_54, li_2907, li_151, li_127, oN, iI_add, iI_sub, iI_mul, iI_neg, Int.reduceAdd, Int.reduceSub, Int.reduceMul, Int.reduceNeg, Int.toNat_natCast, iI_cl, sg_18_50, z, t16, g1, z0]
            · have := hS b hb
              simp (disch := first | omega | assumption | exact cat_n | exact cat_i _ | exact cat_r _ | (simp (disch := omega) only [l_0, l_1, l_m1, l_2, l_3, l_4, l_5, l_6, l_7, l_8, l_9, l_10, l_16, l_20, l_40, l_48, l_99, l_200, l_999, l_9999, li_73, li_78, li_m1000000, li_90, li_251, li_400, li_2400, li_91, li_153, li_173, li_96, li_32, li_92, li_12, li_93, li_80, li_14, li_1000000000, li_30, li_11, li_24, li_13, li_97, li_64, li_1600, li_49, li_255, li_2147483647, li_12345, li_1103515245, li_59, li_57, li_122, li_1023, li_1000000, li_52, li_51, li_50, li_47, li_46, li_45, li_44, li_43, li_42, li_41, li_39, li_38, li_37, li_36, li_35, li_34, li_33, li_29, li_28, li_27, li_26, li_25, li_23, li_22, li_21, li_19, li_18, li_17, li_15, li_m8, li_m2, li_60, li_54, li_2907, li_151, li_127, oN, iI_add, iI_sub, iI_mul, iI_neg, Int.reduceAdd, Int.reduceSub, Int.reduceMul, Int.reduceNeg, Int.toNat_natCast, iI_lt, iI_le, iI_eq, iI_cl, true_or, or_true, false_or, or_false, true_and, and_true, not_true_eq_false, not_false_eq_true]; first | done | omega)) only [↓if_pos, ↓if_neg, Option.bind_some, Option.toList_some, Option.toList_none, List.cons_append, List.nil_append, l_0, l_1, l_m1, l_2, l_3, l_4, l_5, l_6, l_7, l_8, l_9, l_10, l_16, l_20, l_40, l_48, l_99, l_200, l_999, l_9999, li_73, li_78, li_m1000000, li_90, li_251, li_400, li_2400, li_91, li_153, li_173, li_96, li_32, li_92, li_12, li_93, li_80, li_14, li_1000000000, li_30, li_11, li_24, li_13, li_97, li_64, li_1600, li_49, li_255, li_2147483647, li_12345, li_1103515245, li_59, li_57, li_122, li_1023, li_1000000, li_52, li_51, li_50, li_47, li_46, li_45, li_44, li_43, li_42, li_41, li_39, li_38, li_37, li_36, li_35, li_34, li_33, li_29, li_28, li_27, li_26, li_25, li_23, li_22, li_21, li_19, li_18, li_17, li_15, li_m8, li_m2, li_60, li_54, li_2907, li_151, li_127, oN, iI_add, iI_sub, iI_mul, iI_neg, Int.reduceAdd, Int.reduceSub, Int.reduceMul, Int.reduceNeg, Int.toNat_natCast, iI_cl, sg_18_50, z, t16, g1, z0]
          all_goals first | assumption | omega | exact cat_n | exact cat_i _ | exact cat_r _ | rfl
      · obtain ⟨I4, r1, r2, r3, r4⟩ := k_19 (X := X) (J := J) h3 ah3 (C := crs K (as_ K S k) (kt K + k)) (as_kn hS k) (u := (k : Int) + 1)
        have f4 : ∀ c k, ¬ (c = 89 ∧ (k = 8 ∨ k = 9)) → ¬ (91 ≤ c ∧ c ≤ 94) → I4 c k = I c k := fun c k q1 q2 => (r2 c k q1 (by omega)).trans (f3 c k q1 q2)
        have hcg : (fun x => as_ K S k x ∧ ¬ crs K (as_ K S k) (kt K + k) x) = as_ K S (k + 1) := rfl
        rw [hcg] at r3
        have u4 : ∀ x, x < kn K → ∃ u : Int, I4 91 x = iI u ∧ upt K S T (k + 1) x u := fun x hx => by
          obtain ⟨q1, q2⟩ := r4 x hx
          by_cases qc : crs K (as_ K S k) (kt K + k) x
          · exact ⟨k + 1, q1 qc, Or.inr (Or.inr ⟨k, by omega, qc.1, fun y => y.2 qc, rfl⟩)⟩
          · obtain ⟨u, p1, p2⟩ := u2 x hx
            refine ⟨u, by rw [q2 qc, g2 91 x (by omega)]; exact p1, ?_⟩
            rcases p2 with q | ⟨q3, q4⟩ | ⟨j, j1, j2⟩
            · exact Or.inl q
            · exact Or.inr (Or.inl ⟨⟨q3, qc⟩, q4⟩)
            · exact Or.inr (Or.inr ⟨j, by omega, j2⟩)
        rcases hw with rfl | ⟨b, rfl, hb⟩
        · right
          refine ⟨(I4, .int (st (crs K (as_ K S k) (kt K + k)) (kn K))), ⟨f4, r3, u4, fun b hb => by omega, rfl⟩, ?_⟩
          try dsimp only
          rw [cS, sg_18_35]
          · rw [c9]
            simp (disch := first | omega | assumption | exact cat_n | exact cat_i _ | exact cat_r _ | (simp (disch := omega) only [l_0, l_1, l_m1, l_2, l_3, l_4, l_5, l_6, l_7, l_8, l_9, l_10, l_16, l_20, l_40, l_48, l_99, l_200, l_999, l_9999, li_73, li_78, li_m1000000, li_90, li_251, li_400, li_2400, li_91, li_153, li_173, li_96, li_32, li_92, li_12, li_93, li_80, li_14, li_1000000000, li_30, li_11, li_24, li_13, li_97, li_64, li_1600, li_49, li_255, li_2147483647, li_12345, li_1103515245, li_59, li_57, li_122, li_1023, li_1000000, li_52, li_51, li_50, li_47, li_46, li_45, li_44, li_43, li_42, li_41, li_39, li_38, li_37, li_36, li_35, li_34, li_33, li_29, li_28, li_27, li_26, li_25, li_23, li_22, li_21, li_19, li_18, li_17, li_15, li_m8, li_m2, li_60, li_54, li_2907, li_151, li_127, oN, iI_add, iI_sub, iI_mul, iI_neg, Int.reduceAdd, Int.reduceSub, Int.reduceMul, Int.reduceNeg, Int.toNat_natCast, iI_lt, iI_le, iI_eq, iI_cl, true_or, or_true, false_or, or_false, true_and, and_true, not_true_eq_false, not_false_eq_true]; first | done | omega)) only [↓if_pos, ↓if_neg, Option.bind_some, Option.toList_some, Option.toList_none, List.cons_append, List.nil_append, l_0, l_1, l_m1, l_2, l_3, l_4, l_5, l_6, l_7, l_8, l_9, l_10, l_16, l_20, l_40, l_48, l_99, l_200, l_999, l_9999, li_73, li_78, li_m1000000, li_90, li_251, li_400, li_2400, li_91, li_153, li_173, li_96, li_32, li_92, li_12, li_93, li_80, li_14, li_1000000000, li_30, li_11, li_24, li_13, li_97, li_64, li_1600, li_49, li_255, li_2147483647, li_12345, li_1103515245, li_59, li_57, li_122, li_1023, li_1000000, li_52, li_51, li_50, li_47, li_46, li_45, li_44, li_43, li_42, li_41, li_39, li_38, li_37, li_36, li_35, li_34, li_33, li_29, li_28, li_27, li_26, li_25, li_23, li_22, li_21, li_19, li_18, li_17, li_15, li_m8, li_m2, li_60, li_54, li_2907, li_151, li_127, oN, iI_add, iI_sub, iI_mul, iI_neg, Int.reduceAdd, Int.reduceSub, Int.reduceMul, Int.reduceNeg, Int.toNat_natCast, iI_cl, sg_18_50, sg_18_59, z, t16, g1, zc, r1]
          all_goals first | assumption | omega | exact cat_n | exact cat_i _ | exact cat_r _ | rfl
        · have hb1 := hS b hb
          have hyb : ∀ p : Nat → Prop, (st p (kn K) &&& y = iI 0) ↔ ¬ p b := fun p => by
            rw [aw]
            constructor
            · rintro (z | ⟨b', z1, z2⟩)
              · omega
              · obtain rfl : b' = b := by omega
                exact z2
            · exact fun z => Or.inr ⟨b, rfl, z⟩
          by_cases qb : crs K (as_ K S k) (kt K + k) b
          · left
            have zy : ¬ st (crs K (as_ K S k) (kt K + k)) (kn K) &&& y = iI 0 := fun q => (hyb _).mp q qb
            refine ⟨I4, (k : Int) + 1, ?_, f4, fun q => by omega, fun b' hb' => ?_⟩
            · try dsimp only
              rw [sg_18_35]
              · rw [c9]
                simp (disch := first | omega | assumption | exact cat_n | exact cat_i _ | exact cat_r _ | (simp (disch := omega) only [l_0, l_1, l_m1, l_2, l_3, l_4, l_5, l_6, l_7, l_8, l_9, l_10, l_16, l_20, l_40, l_48, l_99, l_200, l_999, l_9999, li_73, li_78, li_m1000000, li_90, li_251, li_400, li_2400, li_91, li_153, li_173, li_96, li_32, li_92, li_12, li_93, li_80, li_14, li_1000000000, li_30, li_11, li_24, li_13, li_97, li_64, li_1600, li_49, li_255, li_2147483647, li_12345, li_1103515245, li_59, li_57, li_122, li_1023, li_1000000, li_52, li_51, li_50, li_47, li_46, li_45, li_44, li_43, li_42, li_41, li_39, li_38, li_37, li_36, li_35, li_34, li_33, li_29, li_28, li_27, li_26, li_25, li_23, li_22, li_21, li_19, li_18, li_17, li_15, li_m8, li_m2, li_60, li_54, li_2907, li_151, li_127, oN, iI_add, iI_sub, iI_mul, iI_neg, Int.reduceAdd, Int.reduceSub, Int.reduceMul, Int.reduceNeg, Int.toNat_natCast, iI_lt, iI_le, iI_eq, iI_cl, true_or, or_true, false_or, or_false, true_and, and_true, not_true_eq_false, not_false_eq_true]; first | done | omega)) only [↓if_pos, ↓if_neg, Option.bind_some, Option.toList_some, Option.toList_none, List.cons_append, List.nil_append, l_0, l_1, l_m1, l_2, l_3, l_4, l_5, l_6, l_7, l_8, l_9, l_10, l_16, l_20, l_40, l_48, l_99, l_200, l_999, l_9999, li_73, li_78, li_m1000000, li_90, li_251, li_400, li_2400, li_91, li_153, li_173, li_96, li_32, li_92, li_12, li_93, li_80, li_14, li_1000000000, li_30, li_11, li_24, li_13, li_97, li_64, li_1600, li_49, li_255, li_2147483647, li_12345, li_1103515245, li_59, li_57, li_122, li_1023, li_1000000, li_52, li_51, li_50, li_47, li_46, li_45, li_44, li_43, li_42, li_41, li_39, li_38, li_37, li_36, li_35, li_34, li_33, li_29, li_28, li_27, li_26, li_25, li_23, li_22, li_21, li_19, li_18, li_17, li_15, li_m8, li_m2, li_60, li_54, li_2907, li_151, li_127, oN, iI_add, iI_sub, iI_mul, iI_neg, Int.reduceAdd, Int.reduceSub, Int.reduceMul, Int.reduceNeg, Int.toNat_natCast, iI_cl, sg_18_50, sg_18_59, z, t16, g1, zc, r1, zy]
              all_goals first | assumption | omega | exact cat_n | exact cat_i _ | exact cat_r _ | rfl
            · obtain rfl : b = b' := by omega
              exact Or.inl ⟨k, hk, qb.1, fun y => y.2 qb, rfl⟩
          · right
            have zy : st (crs K (as_ K S k) (kt K + k)) (kn K) &&& y = iI 0 := (hyb _).mpr qb
            refine ⟨(I4, .int (st (crs K (as_ K S k) (kt K + k)) (kn K))), ⟨f4, r3, u4, fun b' hb' => ?_, rfl⟩, ?_⟩
            · obtain rfl : b = b' := by omega
              exact ⟨ab b rfl, qb⟩
            · try dsimp only
              rw [cS, sg_18_35]
              · rw [c9]
                simp (disch := first | omega | assumption | exact cat_n | exact cat_i _ | exact cat_r _ | (simp (disch := omega) only [l_0, l_1, l_m1, l_2, l_3, l_4, l_5, l_6, l_7, l_8, l_9, l_10, l_16, l_20, l_40, l_48, l_99, l_200, l_999, l_9999, li_73, li_78, li_m1000000, li_90, li_251, li_400, li_2400, li_91, li_153, li_173, li_96, li_32, li_92, li_12, li_93, li_80, li_14, li_1000000000, li_30, li_11, li_24, li_13, li_97, li_64, li_1600, li_49, li_255, li_2147483647, li_12345, li_1103515245, li_59, li_57, li_122, li_1023, li_1000000, li_52, li_51, li_50, li_47, li_46, li_45, li_44, li_43, li_42, li_41, li_39, li_38, li_37, li_36, li_35, li_34, li_33, li_29, li_28, li_27, li_26, li_25, li_23, li_22, li_21, li_19, li_18, li_17, li_15, li_m8, li_m2, li_60, li_54, li_2907, li_151, li_127, oN, iI_add, iI_sub, iI_mul, iI_neg, Int.reduceAdd, Int.reduceSub, Int.reduceMul, Int.reduceNeg, Int.toNat_natCast, iI_lt, iI_le, iI_eq, iI_cl, true_or, or_true, false_or, or_false, true_and, and_true, not_true_eq_false, not_false_eq_true]; first | done | omega)) only [↓if_pos, ↓if_neg, Option.bind_some, Option.toList_some, Option.toList_none, List.cons_append, List.nil_append, l_0, l_1, l_m1, l_2, l_3, l_4, l_5, l_6, l_7, l_8, l_9, l_10, l_16, l_20, l_40, l_48, l_99, l_200, l_999, l_9999, li_73, li_78, li_m1000000, li_90, li_251, li_400, li_2400, li_91, li_153, li_173, li_96, li_32, li_92, li_12, li_93, li_80, li_14, li_1000000000, li_30, li_11, li_24, li_13, li_97, li_64, li_1600, li_49, li_255, li_2147483647, li_12345, li_1103515245, li_59, li_57, li_122, li_1023, li_1000000, li_52, li_51, li_50, li_47, li_46, li_45, li_44, li_43, li_42, li_41, li_39, li_38, li_37, li_36, li_35, li_34, li_33, li_29, li_28, li_27, li_26, li_25, li_23, li_22, li_21, li_19, li_18, li_17, li_15, li_m8, li_m2, li_60, li_54, li_2907, li_151, li_127, oN, iI_add, iI_sub, iI_mul, iI_neg, Int.reduceAdd, Int.reduceSub, Int.reduceMul, Int.reduceNeg, Int.toNat_natCast, iI_cl, sg_18_50, sg_18_59, z, t16, g1, zc, r1, zy]
              all_goals first | assumption | omega | exact cat_n | exact cat_i _ | exact cat_r _ | rfl) (by
    rintro ⟨I2, wv⟩ ⟨f2, ah2, u2, ab, hwv⟩
    try dsimp only at f2 ah2 u2 ab hwv
    refine ⟨I2, -1, ?_, f2, fun _ => ⟨ah2.1, u2⟩, fun b hb => Or.inr ⟨ab b hb, rfl⟩⟩
    try dsimp only
    rw [sg_18_35]
    · simp (disch := first | omega | assumption | exact cat_n | exact cat_i _ | exact cat_r _ | (simp (disch := omega) only [l_0, l_1, l_m1, l_2, l_3, l_4, l_5, l_6, l_7, l_8, l_9, l_10, l_16, l_20, l_40, l_48, l_99, l_200, l_999, l_9999, li_73, li_78, li_m1000000, li_90, li_251, li_400, li_2400, li_91, li_153, li_173, li_96, li_32, li_92, li_12, li_93, li_80, li_14, li_1000000000, li_30, li_11, li_24, li_13, li_97, li_64, li_1600, li_49, li_255, li_2147483647, li_12345, li_1103515245, li_59, li_57, li_122, li_1023, li_1000000, li_52, li_51, li_50, li_47, li_46, li_45, li_44, li_43, li_42, li_41, li_39, li_38, li_37, li_36, li_35, li_34, li_33, li_29, li_28, li_27, li_26, li_25, li_23, li_22, li_21, li_19, li_18, li_17, li_15, li_m8, li_m2, li_60, li_54, li_2907, li_151, li_127, oN, iI_add, iI_sub, iI_mul, iI_neg, Int.reduceAdd, Int.reduceSub, Int.reduceMul, Int.reduceNeg, Int.toNat_natCast, iI_lt, iI_le, iI_eq, iI_cl, true_or, or_true, false_or, or_false, true_and, and_true, not_true_eq_false, not_false_eq_true]; first | done | omega)) only [↓if_pos, ↓if_neg, Option.bind_some, Option.toList_some, Option.toList_none, List.cons_append, List.nil_append, l_0, l_1, l_m1, l_2, l_3, l_4, l_5, l_6, l_7, l_8, l_9, l_10, l_16, l_20, l_40, l_48, l_99, l_200, l_999, l_9999, li_73, li_78, li_m1000000, li_90, li_251, li_400, li_2400, li_91, li_153, li_173, li_96, li_32, li_92, li_12, li_93, li_80, li_14, li_1000000000, li_30, li_11, li_24, li_13, li_97, li_64, li_1600, li_49, li_255, li_2147483647, li_12345, li_1103515245, li_59, li_57, li_122, li_1023, li_1000000, li_52, li_51, li_50, li_47, li_46, li_45, li_44, li_43, li_42, li_41, li_39, li_38, li_37, li_36, li_35, li_34, li_33, li_29, li_28, li_27, li_26, li_25, li_23, li_22, li_21, li_19, li_18, li_17, li_15, li_m8, li_m2, li_60, li_54, li_2907, li_151, li_127, oN, iI_add, iI_sub, iI_mul, iI_neg, Int.reduceAdd, Int.reduceSub, Int.reduceMul, Int.reduceNeg, Int.toNat_natCast, iI_cl]
    all_goals first | assumption | omega | exact cat_n | exact cat_i _ | exact cat_r _ | rfl) (I1, .null) ⟨fun c k _ q => f1 c k (by omega), ah1, v1, fun b hb => by
      rcases hw with q | ⟨b', q1, q2⟩
      · omega
      · obtain rfl : b' = b := by omega
        exact q2, rfl⟩
  obtain ⟨I', v, b1, b2⟩ := B
  try dsimp only at b1
  rw [c0] at b1
  refine ⟨I', v, ?_, b2⟩
  simp (disch := first | omega | assumption | exact cat_n | exact cat_i _ | exact cat_r _ | (simp (disch := omega) only [l_0, l_1, l_m1, l_2, l_3, l_4, l_5, l_6, l_7, l_8, l_9, l_10, l_16, l_20, l_40, l_48, l_99, l_200, l_999, l_9999, li_73, li_78, li_m1000000, li_90, li_251, li_400, li_2400, li_91, li_153, li_173, li_96, li_32, li_92, li_12, li_93, li_80, li_14, li_1000000000, li_30, li_11, li_24, li_13, li_97, li_64, li_1600, li_49, li_255, li_2147483647, li_12345, li_1103515245, li_59, li_57, li_122, li_1023, li_1000000, li_52, li_51, li_50, li_47, li_46, li_45, li_44, li_43, li_42, li_41, li_39, li_38, li_37, li_36, li_35, li_34, li_33, li_29, li_28, li_27, li_26, li_25, li_23, li_22, li_21, li_19, li_18, li_17, li_15, li_m8, li_m2, li_60, li_54, li_2907, li_151, li_127, oN, iI_add, iI_sub, iI_mul, iI_neg, Int.reduceAdd, Int.reduceSub, Int.reduceMul, Int.reduceNeg, Int.toNat_natCast, iI_lt, iI_le, iI_eq, iI_cl, true_or, or_true, false_or, or_false, true_and, and_true, not_true_eq_false, not_false_eq_true]; first | done | omega)) only [↓if_pos, ↓if_neg, Option.bind_some, Option.toList_some, Option.toList_none, List.cons_append, List.nil_append, l_0, l_1, l_m1, l_2, l_3, l_4, l_5, l_6, l_7, l_8, l_9, l_10, l_16, l_20, l_40, l_48, l_99, l_200, l_999, l_9999, li_73, li_78, li_m1000000, li_90, li_251, li_400, li_2400, li_91, li_153, li_173, li_96, li_32, li_92, li_12, li_93, li_80, li_14, li_1000000000, li_30, li_11, li_24, li_13, li_97, li_64, li_1600, li_49, li_255, li_2147483647, li_12345, li_1103515245, li_59, li_57, li_122, li_1023, li_1000000, li_52, li_51, li_50, li_47, li_46, li_45, li_44, li_43, li_42, li_41, li_39, li_38, li_37, li_36, li_35, li_34, li_33, li_29, li_28, li_27, li_26, li_25, li_23, li_22, li_21, li_19, li_18, li_17, li_15, li_m8, li_m2, li_60, li_54, li_2907, li_151, li_127, oN, iI_add, iI_sub, iI_mul, iI_neg, Int.reduceAdd, Int.reduceSub, Int.reduceMul, Int.reduceNeg, Int.toNat_natCast, iI_cl, cl_18, sg_18_e0, a1, hy1, b1]
end S64
