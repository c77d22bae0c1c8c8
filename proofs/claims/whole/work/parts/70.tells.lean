/-! op tells -/
section S70
variable {X : am_X} {K : Sk} {I : Nat → Nat → Int32} {J : Nat → Nat → Int64} {m b : Nat} {tk qr : Nat → Int}
theorem c_360 {a n : Nat} (ha : a < 162) (hK : am_K a = (20, n)) (hn : n ≤ 2000) {v : Int32} : ∃ I' : Nat → Nat → Int32, am_do X 360 [.ref a, .int v] (am_sh I J) = some (none, am_sh I' J) ∧ (∀ c k, c ≠ a → I' c k = I c k) ∧ ∀ k, k < n → I' a k = v := by
  have L := Lp1 (n := n) (G := fun k (I1 : Nat → Nat → Int32) => am_ev X amP_360 5 [.ref a, .int v, .int (iI k), .int (iI n)] [] (am_sh I1 J)) (Iv := fun k I1 => (∀ c j, c ≠ a → I1 c j = I c j) ∧ ∀ j, j < k → I1 a j = v) (P := fun r => ∃ I' : Nat → Nat → Int32, r = some (none, am_sh I' J) ∧ (∀ c k, c ≠ a → I' c k = I c k) ∧ ∀ k, k < n → I' a k = v) (by
    rintro k I1 hk ⟨f1, v1⟩
    right
    refine ⟨am_up I1 a k v, ⟨fun c j hc => by rw [up_c hc]; exact f1 c j hc, fun j hj => ?_⟩, ?_⟩
    · by_cases e : j = k
      · subst e; exact up_at _ _ _ _
      · rw [up_k e]; exact v1 j (by omega)
    · try dsimp only
      rw [cS, sg_360_5 (n1 := n)]
      · simp (disch := first | omega | assumption | exact cat_n | exact cat_i _ | exact cat_r _ | (simp (disch := omega) only [l_0, l_1, l_m1, l_2, l_3, l_4, l_5, l_6, l_7, l_8, l_9, l_10, l_16, l_20, l_40, l_48, l_99, l_200, l_999, l_9999, li_73, li_78, li_m1000000, li_90, li_251, li_400, li_2400, li_91, li_153, li_173, li_96, li_32, li_92, li_12, li_93, li_80, li_14, li_1000000000, li_30, li_11, li_24, li_13, li_97, li_64, li_1600, li_49, li_255, li_2147483647, li_12345, li_1103515245, li_59, li_57, li_122, li_1023, li_1000000, li_52, li_51, li_50, li_47, li_46, li_45, li_44, li_43, li_42, li_41, li_39, li_38, li_37, li_36, li_35, li_34, li_33, li_29, li_28, li_27, li_26, li_25, li_23, li_22, li_21, li_19, li_18, li_17, li_15, li_m8, li_m2, li_60, li_54, li_2907, li_151, li_127, oN, iI_add, iI_sub, iI_mul, iI_neg, Int.reduceAdd, Int.reduceSub, Int.reduceMul, Int.reduceNeg, Int.toNat_natCast, iI_lt, iI_le, iI_eq, iI_cl, true_or, or_true, false_or, or_false, true_and, and_true, not_true_eq_false, not_false_eq_true]; first | done | omega)) only [↓if_pos, ↓if_neg, Option.bind_some, Option.toList_some, Option.toList_none, List.cons_append, List.nil_append, l_0, l_1, l_m1, l_2, l_3, l_4, l_5, l_6, l_7, l_8, l_9, l_10, l_16, l_20, l_40, l_48, l_99, l_200, l_999, l_9999, li_73, li_78, li_m1000000, li_90, li_251, li_400, li_2400, li_91, li_153, li_173, li_96, li_32, li_92, li_12, li_93, li_80, li_14, li_1000000000, li_30, li_11, li_24, li_13, li_97, li_64, li_1600, li_49, li_255, li_2147483647, li_12345, li_1103515245, li_59, li_57, li_122, li_1023, li_1000000, li_52, li_51, li_50, li_47, li_46, li_45, li_44, li_43, li_42, li_41, li_39, li_38, li_37, li_36, li_35, li_34, li_33, li_29, li_28, li_27, li_26, li_25, li_23, li_22, li_21, li_19, li_18, li_17, li_15, li_m8, li_m2, li_60, li_54, li_2907, li_151, li_127, oN, iI_add, iI_sub, iI_mul, iI_neg, Int.reduceAdd, Int.reduceSub, Int.reduceMul, Int.reduceNeg, Int.toNat_natCast, iI_cl]
      all_goals first | assumption | omega | exact cat_n | exact cat_i _ | exact cat_r _ | rfl) (by
    rintro I1 ⟨f1, v1⟩
    refine ⟨I1, ?_, f1, v1⟩
    try dsimp only
    rw [sg_360_5 (n1 := n)]
    · simp (disch := first | omega | assumption | exact cat_n | exact cat_i _ | exact cat_r _ | (simp (disch := omega) only [l_0, l_1, l_m1, l_2, l_3, l_4, l_5, l_6, l_7, l_8, l_9, l_10, l_16, l_20, l_40, l_48, l_99, l_200, l_999, l_9999, li_73, li_78, li_m1000000, li_90, li_251, li_400, li_2400, li_91, li_153, li_173, li_96, li_32, li_92, li_12, li_93, li_80, li_14, li_1000000000, li_30, li_11, li_24, li_13, li_97, li_64, li_1600, li_49, li_255, li_2147483647, li_12345, li_1103515245, li_59, li_57, li_122, li_1023, li_1000000, li_52, li_51, li_50, li_47, li_46, li_45, li_44, li_43, li_42, li_41, li_39, li_38, li_37, li_36, li_35, li_34, li_33, li_29, li_28, li_27, li_26, li_25, li_23, li_22, li_21, li_19, li_18, li_17, li_15, li_m8, li_m2, li_60, li_54, li_2907, li_151, li_127, oN, iI_add, iI_sub, iI_mul, iI_neg, Int.reduceAdd, Int.reduceSub, Int.reduceMul, Int.reduceNeg, Int.toNat_natCast, iI_lt, iI_le, iI_eq, iI_cl, true_or, or_true, false_or, or_false, true_and, and_true, not_true_eq_false, not_false_eq_true]; first | done | omega)) only [↓if_pos, ↓if_neg, Option.bind_some, Option.toList_some, Option.toList_none, List.cons_append, List.nil_append, l_0, l_1, l_m1, l_2, l_3, l_4, l_5, l_6, l_7, l_8, l_9, l_10, l_16, l_20, l_40, l_48, l_99, l_200, l_999, l_9999, li_73, li_78, li_m1000000, li_90, li_251, li_400, li_2400, li_91, li_153, li_173, li_96, li_32, li_92, li_12, li_93, li_80, li_14, li_1000000000, li_30, li_11, li_24, li_13, li_97, li_64, li_1600, li_49, li_255, li_2147483647, li_12345, li_1103515245, li_59, li_57, li_122, li_1023, li_1000000, li_52, li_51, li_50, li_47, li_46, li_45, li_44, li_43, li_42, li_41, li_39, li_38, li_37, li_36, li_35, li_34, li_33, li_29, li_28, li_27, li_26, li_25, li_23, li_22, li_21, li_19, li_18, li_17, li_15, li_m8, li_m2, li_60, li_54, li_2907, li_151, li_127, oN, iI_add, iI_sub, iI_mul, iI_neg, Int.reduceAdd, Int.reduceSub, Int.reduceMul, Int.reduceNeg, Int.toNat_natCast, iI_cl]
    all_goals first | assumption | omega | exact cat_n | exact cat_i _ | exact cat_r _ | rfl) I ⟨fun _ _ _ => rfl, fun j hj => by omega⟩
  obtain ⟨I', e1, e2⟩ := L
  try dsimp only at e1
  rw [c0] at e1
  refine ⟨I', ?_, e2⟩
  rw [cl_360 (n1 := n), sg_360_e0 (n1 := n)]
  · simp (disch := first | omega | assumption | exact cat_n | exact cat_i _ | exact cat_r _ | (simp (disch := omega) only [l_0, l_1, l_m1, l_2, l_3, l_4, l_5, l_6, l_7, l_8, l_9, l_10, l_16, l_20, l_40, l_48, l_99, l_200, l_999, l_9999, li_73, li_78, li_m1000000, li_90, li_251, li_400, li_2400, li_91, li_153, li_173, li_96, li_32, li_92, li_12, li_93, li_80, li_14, li_1000000000, li_30, li_11, li_24, li_13, li_97, li_64, li_1600, li_49, li_255, li_2147483647, li_12345, li_1103515245, li_59, li_57, li_122, li_1023, li_1000000, li_52, li_51, li_50, li_47, li_46, li_45, li_44, li_43, li_42, li_41, li_39, li_38, li_37, li_36, li_35, li_34, li_33, li_29, li_28, li_27, li_26, li_25, li_23, li_22, li_21, li_19, li_18, li_17, li_15, li_m8, li_m2, li_60, li_54, li_2907, li_151, li_127, oN, iI_add, iI_sub, iI_mul, iI_neg, Int.reduceAdd, Int.reduceSub, Int.reduceMul, Int.reduceNeg, Int.toNat_natCast, iI_lt, iI_le, iI_eq, iI_cl, true_or, or_true, false_or, or_false, true_and, and_true, not_true_eq_false, not_false_eq_true]; first | done | omega)) only [↓if_pos, ↓if_neg, Option.bind_some, Option.toList_some, Option.toList_none, List.cons_append, List.nil_append, l_0, l_1, l_m1, l_2, l_3, l_4, l_5, l_6, l_7, l_8, l_9, l_10, l_16, l_20, l_40, l_48, l_99, l_200, l_999, l_9999, li_73, li_78, li_m1000000, li_90, li_251, li_400, li_2400, li_91, li_153, li_173, li_96, li_32, li_92, li_12, li_93, li_80, li_14, li_1000000000, li_30, li_11, li_24, li_13, li_97, li_64, li_1600, li_49, li_255, li_2147483647, li_12345, li_1103515245, li_59, li_57, li_122, li_1023, li_1000000, li_52, li_51, li_50, li_47, li_46, li_45, li_44, li_43, li_42, li_41, li_39, li_38, li_37, li_36, li_35, li_34, li_33, li_29, li_28, li_27, li_26, li_25, li_23, li_22, li_21, li_19, li_18, li_17, li_15, li_m8, li_m2, li_60, li_54, li_2907, li_151, li_127, oN, iI_add, iI_sub, iI_mul, iI_neg, Int.reduceAdd, Int.reduceSub, Int.reduceMul, Int.reduceNeg, Int.toNat_natCast, iI_cl, e1]
  all_goals first | assumption | omega | exact cat_n | exact cat_i _ | exact cat_r _ | rfl
/-- how many phases that fit are in a quarter at a tick, of those below p -/
def fq (K : Sk) (m b : Nat) (tk qr : Nat → Int) (t : Int) (q : Nat) (p : Nat) : Prop := fit K m b tk qr p ∧ qt (kf K b) p t = q
noncomputable def cq (K : Sk) (m b : Nat) (tk qr : Nat → Int) (t : Int) (q p : Nat) : Int := ci (fq K m b tk qr t q) p
noncomputable def mq (K : Sk) (m b : Nat) (tk qr : Nat → Int) (t : Int) (p : Nat) : Int := max (max (max (cq K m b tk qr t 0 p) (cq K m b tk qr t 1 p)) (cq K m b tk qr t 2 p)) (cq K m b tk qr t 3 p)
noncomputable def mb (K : Sk) (m b : Nat) (tk qr : Nat → Int) (t : Nat) : Int := mq K m b tk qr t (kT K b)
theorem cq_rg {t : Int} {q p : Nat} : 0 ≤ cq K m b tk qr t q p ∧ cq K m b tk qr t q p ≤ p := ci_rg
theorem mb_rg {t : Nat} : 0 ≤ mb K m b tk qr t ∧ mb K m b tk qr t ≤ kT K b := by
  have h0 := cq_rg (K := K) (m := m) (b := b) (tk := tk) (qr := qr) (t := t) (q := 0) (p := kT K b)
  have h1 := cq_rg (K := K) (m := m) (b := b) (tk := tk) (qr := qr) (t := t) (q := 1) (p := kT K b)
  have h2 := cq_rg (K := K) (m := m) (b := b) (tk := tk) (qr := qr) (t := t) (q := 2) (p := kT K b)
  have h3 := cq_rg (K := K) (m := m) (b := b) (tk := tk) (qr := qr) (t := t) (q := 3) (p := kT K b)
  unfold mb mq
  omega
set_option maxHeartbeats 1000000 in
theorem k_97 (h : CS K I) (hb : b < kn K) (hv : ∀ p, p < kT K b → I 131 p = bI (fit K m b tk qr p)) {t : Nat} (ht : t ≤ 48) : ∃ I' : Nat → Nat → Int32, am_do X 97 [.ref 128, .ref (am_bd b), .int (iI t)] (am_sh I J) = some (some (.int (iI (mb K m b tk qr t))), am_sh I' J) ∧ ∀ c k, c ≠ 132 → I' c k = I c k := by
  have hn := K_n (CS_k h)
  obtain ⟨eT, T1, T2⟩ := K_T (CS_k h) hb
  obtain ⟨I1, e1, f1, v1⟩ := c_360 (X := X) (I := I) (J := J) (a := 132) (n := 4) (by omega) ((am_Kc (by omega)).trans rfl) (by omega) (v := iI 0)
  have hF : ∀ I1 : Nat → Nat → Int32, (∀ c k, c ≠ 132 → I1 c k = I c k) → CS K I1 := fun I1 f => CS_fr h (fun c k q => f c k (fun z => by rw [z] at q; cases q))
  have L := Lp1 (n := kT K b) (G := fun p (s : (Nat → Nat → Int32) × Value) => am_ev X amP_97 8 [.ref 128, .ref (am_bd b), .int (iI t), .int (iI (mq K m b tk qr t p)), .int (iI p), s.2] [] (am_sh s.1 J)) (Iv := fun p s => (∀ c k, c ≠ 132 → s.1 c k = I c k) ∧ (∀ q, q < 4 → s.1 132 q = iI (cq K m b tk qr t q p)) ∧ s.2.category = 1) (P := fun r => ∃ I' : Nat → Nat → Int32, r = some (some (.int (iI (mb K m b tk qr t))), am_sh I' J) ∧ ∀ c k, c ≠ 132 → I' c k = I c k) (by
    rintro p ⟨I2, w⟩ hp ⟨f2, v2, hw⟩
    right
    try dsimp only at f2 v2 hw
    have h2 := hF I2 f2
    have et := CS_tn h2 hb
    rw [eT] at et
    have v131 : I2 131 p = bI (fit K m b tk qr p) := (f2 131 p (by omega)).trans (hv p hp)
    have c0' := cq_rg (K := K) (m := m) (b := b) (tk := tk) (qr := qr) (t := t) (q := 0) (p := p)
    have c1' := cq_rg (K := K) (m := m) (b := b) (tk := tk) (qr := qr) (t := t) (q := 1) (p := p)
    have c2' := cq_rg (K := K) (m := m) (b := b) (tk := tk) (qr := qr) (t := t) (q := 2) (p := p)
    have c3' := cq_rg (K := K) (m := m) (b := b) (tk := tk) (qr := qr) (t := t) (q := 3) (p := p)
    by_cases q : fit K m b tk qr p
    · rw [bI_t q] at v131
      have e92 := k_92 (X := X) (J := J) h2 hb (p := p) (t := t) (by omega) (by omega) (by omega) (by omega)
      have hq : 0 ≤ qt (kf K b) p t ∧ qt (kf K b) p t ≤ 3 := qs_rg _ _
      obtain ⟨Q, eQ⟩ : ∃ Q : Nat, qt (kf K b) p t = Q := ⟨(qt (kf K b) p t).toNat, by omega⟩
      rw [eQ] at e92
      have hQ : Q < 4 := by omega
      have step : ∀ r, cq K m b tk qr t r (p + 1) = if r = Q then cq K m b tk qr t r p + 1 else cq K m b tk qr t r p := fun r => by
        by_cases z : r = Q
        · rw [if_pos z, z]
          exact ci_t (p := fq K m b tk qr t Q) ⟨q, eQ⟩
        · rw [if_neg z]
          exact ci_f (p := fq K m b tk qr t r) (fun y => z (by have := y.2; omega))
      have hmq : mq K m b tk qr t (p + 1) = max (mq K m b tk qr t p) (cq K m b tk qr t Q p + 1) := by
        unfold mq
        rw [step 0, step 1, step 2, step 3]
        rcases (by omega : Q = 0 ∨ Q = 1 ∨ Q = 2 ∨ Q = 3) with rfl | rfl | rfl | rfl <;> simp <;> omega
      have hmr : 0 ≤ mq K m b tk qr t p ∧ mq K m b tk qr t p ≤ p := by
        unfold mq
        omega
      have cQ := cq_rg (K := K) (m := m) (b := b) (tk := tk) (qr := qr) (t := t) (q := Q) (p := p)
      have v132 := v2 Q hQ
      refine ⟨(am_up I2 132 Q (iI (cq K m b tk qr t Q p + 1)), .int (iI Q)), ⟨fun c k hc => by try dsimp only; rw [up_c hc]; exact f2 c k hc, fun r hr => ?_, rfl⟩, ?_⟩
      · try dsimp only
        rw [step r]
        by_cases z : r = Q
        · rw [z, up_at, if_pos rfl]
        · rw [up_k z, if_neg z]
          exact v2 r hr
      · try dsimp only
        rw [cS, hmq, sg_97_8]
        · simp (disch := first | omega | assumption | exact cat_n | exact cat_i _ | exact cat_r _ | (simp (disch := omega) only [l_0, l_1, l_m1, l_2, l_3, l_4, l_5, l_6, l_7, l_8, l_9, l_10, l_16, l_20, l_40, l_48, l_99, l_200, l_999, l_9999, li_73, li_78, li_m1000000, li_90, li_251, li_400, li_2400, li_91, li_153, li_173, li_96, li_32, li_92, li_12, li_93, li_80, li_14, li_1000000000, li_30, li_11, li_24, li_13, li_97, li_64, li_1600, li_49, li_255, li_2147483647, li_12345, li_1103515245, li_59, li_57, li_122, li_1023, li_1000000, li_52, li_51, li_50, li_47, li_46, li_45, li_44, li_43, li_42, li_41, li_39, li_38, li_37, li_36, li_35, li_34, li_33, li_29, li_28, li_27, li_26, li_25, li_23, li_22, li_21, li_19, li_18, li_17, li_15, li_m8, li_m2, li_60, li_54, li_2907, li_151, li_127, oN, iI_add, iI_sub, iI_mul, iI_neg, Int.reduceAdd, Int.reduceSub, Int.reduceMul, Int.reduceNeg, Int.toNat_natCast, iI_lt, iI_le, iI_eq, iI_cl, true_or, or_true, false_or, or_false, true_and, and_true, not_true_eq_false, not_false_eq_true]; first | done | omega)) only [↓if_pos, ↓if_neg, Option.bind_some, Option.toList_some, Option.toList_none, List.cons_append, List.nil_append, l_0, l_1, l_m1, l_2, l_3, l_4, l_5, l_6, l_7, l_8, l_9, l_10, l_16, l_20, l_40, l_48, l_99, l_200, l_999, l_9999, li_73, li_78, li_m1000000, li_90, li_251, li_400, li_2400, li_91, li_153, li_173, li_96, li_32, li_92, li_12, li_93, li_80, li_14, li_1000000000, li_30, li_11, li_24, li_13, li_97, li_64, li_1600, li_49, li_255, li_2147483647, li_12345, li_1103515245, li_59, li_57, li_122, li_1023, li_1000000, li_52, li_51, li_50, li_47, li_46, li_45, li_44, li_43, li_42, li_41, li_39, li_38, li_37, li_36, li_35, li_34, li_33, li_29, li_28, li_27, li_26, li_25, li_23, li_22, li_21, li_19, li_18, li_17, li_15, li_m8, li_m2, li_60, li_54, li_2907, li_151, li_127, oN, iI_add, iI_sub, iI_mul, iI_neg, Int.reduceAdd, Int.reduceSub, Int.reduceMul, Int.reduceNeg, Int.toNat_natCast, iI_cl, sg_97_21, sg_97_36, et, v131, e92, v132, up_at, c_352]
        all_goals first | assumption | omega | exact cat_n | exact cat_i _ | exact cat_r _ | rfl
    · rw [bI_f q] at v131
      have step : ∀ r, cq K m b tk qr t r (p + 1) = cq K m b tk qr t r p := fun r => ci_f (p := fq K m b tk qr t r) (fun y => q y.1)
      have hmq : mq K m b tk qr t (p + 1) = mq K m b tk qr t p := by
        unfold mq
        rw [step 0, step 1, step 2, step 3]
      refine ⟨(I2, w), ⟨f2, fun r hr => by rw [step r]; exact v2 r hr, hw⟩, ?_⟩
      try dsimp only
      rw [cS, hmq, sg_97_8]
      · simp (disch := first | omega | assumption | exact cat_n | exact cat_i _ | exact cat_r _ | (simp (disch := omega) only [l_0, l_1, l_m1, l_2, l_3, l_4, l_5, l_6, l_7, l_8, l_9, l_10, l_16, l_20, l_40, l_48, l_99, l_200, l_999, l_9999, li_73, li_78, li_m1000000, li_90, li_251, li_400, li_2400, li_91, li_153, li_173, li_96, li_32, li_92, li_12, li_93, li_80, li_14, li_1000000000, li_30, li_11, li_24, li_13, li_97, li_64, li_1600, li_49, li_255, li_2147483647, li_12345, li_1103515245, li_59, li_57, li_122, li_1023, li_1000000, li_52, li_51, li_50, li_47, li_46, li_45, li_44, li_43, li_42, li_41, li_39, li_38, li_37, li_36, li_35, li_34, li_33, li_29, li_28, li_27, li_26, li_25, li_23, li_22, li_21, li_19, li_18, li_17, li_15, li_m8, li_m2, li_60, li_54, li_2907, li_151, li_127, oN, iI_add, iI_sub, iI_mul, iI_neg, Int.reduceAdd, Int.reduceSub, Int.reduceMul, Int.reduceNeg, Int.toNat_natCast, iI_lt, iI_le, iI_eq, iI_cl, true_or, or_true, false_or, or_false, true_and, and_true, not_true_eq_false, not_false_eq_true]; first | done | omega)) only [↓if_pos, ↓if_neg, Option.bind_some, Option.toList_some, Option.toList_none, List.cons_append, List.nil_append, l_0, l_1, l_m1, l_2, l_3, l_4, l_5, l_6, l_7, l_8, l_9, l_10, l_16, l_20, l_40, l_48, l_99, l_200, l_999, l_9999, li_73, li_78, li_m1000000, li_90, li_251, li_400, li_2400, li_91, li_153, li_173, li_96, li_32, li_92, li_12, li_93, li_80, li_14, li_1000000000, li_30, li_11, li_24, li_13, li_97, li_64, li_1600, li_49, li_255, li_2147483647, li_12345, li_1103515245, li_59, li_57, li_122, li_1023, li_1000000, li_52, li_51, li_50, li_47, li_46, li_45, li_44, li_43, li_42, li_41, li_39, li_38, li_37, li_36, li_35, li_34, li_33, li_29, li_28, li_27, li_26, li_25, li_23, li_22, li_21, li_19, li_18, li_17, li_15, li_m8, li_m2, li_60, li_54, li_2907, li_151, li_127, oN, iI_add, iI_sub, iI_mul, iI_neg, Int.reduceAdd, Int.reduceSub, Int.reduceMul, Int.reduceNeg, Int.toNat_natCast, iI_cl, et, v131]
      all_goals first | assumption | omega | exact cat_n | exact cat_i _ | exact cat_r _ | rfl) (by
    rintro ⟨I2, w⟩ ⟨f2, v2, hw⟩
    try dsimp only at f2 v2 hw
    have h2 := hF I2 f2
    have et := CS_tn h2 hb
    rw [eT] at et
    refine ⟨I2, ?_, f2⟩
    try dsimp only
    rw [sg_97_8]
    · simp (disch := first | omega | assumption | exact cat_n | exact cat_i _ | exact cat_r _ | (simp (disch := omega) only [l_0, l_1, l_m1, l_2, l_3, l_4, l_5, l_6, l_7, l_8, l_9, l_10, l_16, l_20, l_40, l_48, l_99, l_200, l_999, l_9999, li_73, li_78, li_m1000000, li_90, li_251, li_400, li_2400, li_91, li_153, li_173, li_96, li_32, li_92, li_12, li_93, li_80, li_14, li_1000000000, li_30, li_11, li_24, li_13, li_97, li_64, li_1600, li_49, li_255, li_2147483647, li_12345, li_1103515245, li_59, li_57, li_122, li_1023, li_1000000, li_52, li_51, li_50, li_47, li_46, li_45, li_44, li_43, li_42, li_41, li_39, li_38, li_37, li_36, li_35, li_34, li_33, li_29, li_28, li_27, li_26, li_25, li_23, li_22, li_21, li_19, li_18, li_17, li_15, li_m8, li_m2, li_60, li_54, li_2907, li_151, li_127, oN, iI_add, iI_sub, iI_mul, iI_neg, Int.reduceAdd, Int.reduceSub, Int.reduceMul, Int.reduceNeg, Int.toNat_natCast, iI_lt, iI_le, iI_eq, iI_cl, true_or, or_true, false_or, or_false, true_and, and_true, not_true_eq_false, not_false_eq_true]; first | done | omega)) only [↓if_pos, ↓if_neg, Option.bind_some, Option.toList_some, Option.toList_none, List.cons_append, List.nil_append, l_0, l_1, l_m1, l_2, l_3, l_4, l_5, l_6, l_7, l_8, l_9, l_10, l_16, l_20, l_40, l_48, l_99, l_200, l_999, l_9999, li_73, li_78, li_m1000000, li_90, li_251, li_400, li_2400, li_91, li_153, li_173, li_96, li_32, li_92, li_12, li_93, li_80, li_14, li_1000000000, li_30, li_11, li_24, li_13, li_97, li_64, li_1600, li_49, li_255, li_2147483647, li_12345, li_1103515245, li_59, li_57, li_122, li_1023, li_1000000, li_52, li_51, li_50, li_47, li_46, li_45, li_44, li_43, li_42, li_41, li_39, li_38, li_37, li_36, li_35, li_34, li_33, li_29, li_28, li_27, li_26, li_25, li_23, li_22, li_21, li_19, li_18, li_17, li_15, li_m8, li_m2, li_60, li_54, li_2907, li_151, li_127, oN, iI_add, iI_sub, iI_mul, iI_neg, Int.reduceAdd, Int.reduceSub, Int.reduceMul, Int.reduceNeg, Int.toNat_natCast, iI_cl, et]
      rfl
    all_goals first | assumption | omega | exact cat_n | exact cat_i _ | exact cat_r _ | rfl) (I1, .null) ⟨f1, fun q hq => v1 q hq, rfl⟩
  obtain ⟨I', e2, e3⟩ := L
  try dsimp only at e2
  have e0 : mq K m b tk qr t 0 = 0 := rfl
  rw [e0, c0] at e2
  refine ⟨I', ?_, e3⟩
  simp (disch := first | omega | assumption | exact cat_n | exact cat_i _ | exact cat_r _ | (simp (disch := omega) only [l_0, l_1, l_m1, l_2, l_3, l_4, l_5, l_6, l_7, l_8, l_9, l_10, l_16, l_20, l_40, l_48, l_99, l_200, l_999, l_9999, li_73, li_78, li_m1000000, li_90, li_251, li_400, li_2400, li_91, li_153, li_173, li_96, li_32, li_92, li_12, li_93, li_80, li_14, li_1000000000, li_30, li_11, li_24, li_13, li_97, li_64, li_1600, li_49, li_255, li_2147483647, li_12345, li_1103515245, li_59, li_57, li_122, li_1023, li_1000000, li_52, li_51, li_50, li_47, li_46, li_45, li_44, li_43, li_42, li_41, li_39, li_38, li_37, li_36, li_35, li_34, li_33, li_29, li_28, li_27, li_26, li_25, li_23, li_22, li_21, li_19, li_18, li_17, li_15, li_m8, li_m2, li_60, li_54, li_2907, li_151, li_127, oN, iI_add, iI_sub, iI_mul, iI_neg, Int.reduceAdd, Int.reduceSub, Int.reduceMul, Int.reduceNeg, Int.toNat_natCast, iI_lt, iI_le, iI_eq, iI_cl, true_or, or_true, false_or, or_false, true_and, and_true, not_true_eq_false, not_false_eq_true]; first | done | omega)) only [↓if_pos, ↓if_neg, Option.bind_some, Option.toList_some, Option.toList_none, List.cons_append, List.nil_append, l_0, l_1, l_m1, l_2, l_3, l_4, l_5, l_6, l_7, l_8, l_9, l_10, l_16, l_20, l_40, l_48, l_99, l_200, l_999, l_9999, li_73, li_78, li_m1000000, li_90, li_251, li_400, li_2400, li_91, li_153, li_173, li_96, li_32, li_92, li_12, li_93, li_80, li_14, li_1000000000, li_30, li_11, li_24, li_13, li_97, li_64, li_1600, li_49, li_255, li_2147483647, li_12345, li_1103515245, li_59, li_57, li_122, li_1023, li_1000000, li_52, li_51, li_50, li_47, li_46, li_45, li_44, li_43, li_42, li_41, li_39, li_38, li_37, li_36, li_35, li_34, li_33, li_29, li_28, li_27, li_26, li_25, li_23, li_22, li_21, li_19, li_18, li_17, li_15, li_m8, li_m2, li_60, li_54, li_2907, li_151, li_127, oN, iI_add, iI_sub, iI_mul, iI_neg, Int.reduceAdd, Int.reduceSub, Int.reduceMul, Int.reduceNeg, Int.toNat_natCast, iI_cl, cl_97, sg_97_e0, sg_97_4, e1, e2]
/-- the tick that tells most -/
noncomputable def tl (K : Sk) (m b : Nat) (tk qr : Nat → Int) : Nat := pb (mb K m b tk qr) 0 (kT K b - 1)
theorem k_96 (h : CS K I) (hs : SN K I m b tk qr) (hf : 0 < ci (fit K m b tk qr) (kT K b)) : ∃ I' : Nat → Nat → Int32, am_do X 96 [.ref 128, .ref (am_bd b)] (am_sh I J) = some (some (.int (iI 1)), am_sh I' J) ∧ (∀ c k, ¬ (c = 128 ∧ (k = 2 ∨ k = 3)) → c ≠ 131 → c ≠ 132 → I' c k = I c k) ∧ I' 128 2 = iI (tl K m b tk qr) ∧ I' 128 3 = iI (mb K m b tk qr (tl K m b tk qr)) := by
  have hn := K_n (CS_k h)
  have hb := hs.2.2.2.1
  obtain ⟨eT, T1, T2⟩ := K_T (CS_k h) hb
  obtain ⟨I1, e1, f1, v1⟩ := k_94 (X := X) (J := J) h hs
  have hci := ci_rg (p := fit K m b tk qr) (n := kT K b)
  have hF : ∀ I2 : Nat → Nat → Int32, (∀ c k, ¬ (c = 128 ∧ (k = 2 ∨ k = 3)) → c ≠ 132 → I2 c k = I1 c k) → CS K I2 := fun I2 f => by
    have h1 : CS K I1 := CS_fr h (fun c k w => f1 c k (fun y => by rw [y] at w; cases w))
    refine CS_fr h1 (fun c k q => f c k (fun z => ?_) (fun z => by rw [z] at q; cases q))
    obtain ⟨rfl, rfl | rfl⟩ := z
    · cases q
    · cases q
  have L := Lp1 (n := kT K b) (G := fun t (s : (Nat → Nat → Int32) × Value) => am_ev X amP_96 11 [.ref 128, .ref (am_bd b), .int (iI t), s.2] [] (am_sh s.1 J)) (Iv := fun t s => (∀ c k, ¬ (c = 128 ∧ (k = 2 ∨ k = 3)) → c ≠ 132 → s.1 c k = I1 c k) ∧ ((t = 0 ∧ s.1 128 3 = iI 49) ∨ ∃ r, t = r + 1 ∧ s.1 128 2 = iI (pb (mb K m b tk qr) 0 r : Nat) ∧ s.1 128 3 = iI (mb K m b tk qr (pb (mb K m b tk qr) 0 r))) ∧ s.2.category = 1) (P := fun r => ∃ I' : Nat → Nat → Int32, r = some (some (.int (iI 1)), am_sh I' J) ∧ (∀ c k, ¬ (c = 128 ∧ (k = 2 ∨ k = 3)) → c ≠ 132 → I' c k = I1 c k) ∧ I' 128 2 = iI (tl K m b tk qr) ∧ I' 128 3 = iI (mb K m b tk qr (tl K m b tk qr))) (by
    rintro t ⟨I2, w⟩ ht ⟨f2, v2, hw⟩
    right
    try dsimp only at f2 v2 hw
    have h2 := hF I2 f2
    have et := CS_tn h2 hb
    rw [eT] at et
    obtain ⟨I3, g1, g2⟩ := k_97 (X := X) (J := J) h2 hb (fun p hp => (f2 131 p (by omega) (by omega)).trans (v1 p hp)) (t := t) (by omega)
    have f3 : ∀ c k, ¬ (c = 128 ∧ (k = 2 ∨ k = 3)) → c ≠ 132 → I3 c k = I1 c k := fun c k q1 q2 => (g2 c k q2).trans (f2 c k q1 q2)
    have hr := mb_rg (K := K) (m := m) (b := b) (tk := tk) (qr := qr) (t := t)
    have upd : ∀ P2 : Nat, (∃ r, t + 1 = r + 1 ∧ P2 = pb (mb K m b tk qr) 0 r) → P2 = t → (∃ z : Int, I3 128 3 = iI z ∧ 0 ≤ z ∧ z ≤ 49 ∧ mb K m b tk qr t < z) → ∃ s' : (Nat → Nat → Int32) × Value, ((∀ c k, ¬ (c = 128 ∧ (k = 2 ∨ k = 3)) → c ≠ 132 → s'.1 c k = I1 c k) ∧ ((t + 1 = 0 ∧ s'.1 128 3 = iI 49) ∨ ∃ r, t + 1 = r + 1 ∧ s'.1 128 2 = iI (pb (mb K m b tk qr) 0 r : Nat) ∧ s'.1 128 3 = iI (mb K m b tk qr (pb (mb K m b tk qr) 0 r))) ∧ s'.2.category = 1) ∧ am_ev X amP_96 11 [.ref 128, .ref (am_bd b), .int (iI t), w] [] (am_sh I2 J) = am_ev X amP_96 11 [.ref 128, .ref (am_bd b), .int (iI (t + 1 : Nat)), s'.2] [] (am_sh s'.1 J) := by
      rintro P2 ⟨r, r1, r2⟩ r3 ⟨z, z1, z2, z3, z4⟩
      refine ⟨(am_up (am_up I3 128 3 (iI (mb K m b tk qr t))) 128 2 (iI t), .int (iI (mb K m b tk qr t))), ⟨fun c k q1 q2 => by try dsimp only; rw [up_ck (by omega), up_ck (by omega)]; exact f3 c k q1 q2, Or.inr ⟨r, r1, ?_, ?_⟩, rfl⟩, ?_⟩
      · try dsimp only
        rw [up_at, ← r2, r3]
      · try dsimp only
        rw [up_k (by omega), up_at, ← r2, r3]
      · try dsimp only
        rw [cS, sg_96_11]
        · simp (disch := first | omega | assumption | exact cat_n | exact cat_i _ | exact cat_r _ | (simp (disch := omega) only [l_0, l_1, l_m1, l_2, l_3, l_4, l_5, l_6, l_7, l_8, l_9, l_10, l_16, l_20, l_40, l_48, l_99, l_200, l_999, l_9999, li_73, li_78, li_m1000000, li_90, li_251, li_400, li_2400, li_91, li_153, li_173, li_96, li_32, li_92, li_12, li_93, li_80, li_14, li_1000000000, li_30, li_11, li_24, li_13, li_97, li_64, li_1600, li_49, li_255, li_2147483647, li_12345, li_1103515245, li_59, li_57, li_122, li_1023, li_1000000, li_52, li_51, li_50, li_47, li_46, li_45, li_44, li_43, li_42, li_41, li_39, li_38, li_37, li_36, li_35, li_34, li_33, li_29, li_28, li_27, li_26, li_25, li_23, li_22, li_21, li_19, li_18, li_17, li_15, li_m8, li_m2, li_60, li_54, li_2907, li_151, li_127, oN, iI_add, iI_sub, iI_mul, iI_neg, Int.reduceAdd, Int.reduceSub, Int.reduceMul, Int.reduceNeg, Int.toNat_natCast, iI_lt, iI_le, iI_eq, iI_cl, true_or, or_true, false_or, or_false, true_and, and_true, not_true_eq_false, not_false_eq_true]; first | done | omega)) only [↓if_pos, ↓if_neg, Option.bind_some, Option.toList_some, Option.toList_none, List.cons_append, List.nil_append, l_0, l_1, l_m1, l_2, l_3, l_4, l_5, l_6, l_7, l_8, l_9, l_10, l_16, l_20, l_40, l_48, l_99, l_200, l_999, l_9999, li_73, li_78, li_m1000000, li_90, li_251, li_400, li_2400, li_91, li_153, li_173, li_96, li_32, li_92, li_12, li_93, li_80, li_14, li_1000000000, li_30, li_11, li_24, li_13, li_97, li_64, li_1600, li_49, li_255, li_2147483647, li_12345, li_1103515245, li_59, li_57, li_122, li_1023, li_1000000, li_52, li_51, li_50, li_47, li_46, li_45, li_44, li_43, li_42, li_41, li_39, li_38, li_37, li_36, li_35, li_34, li_33, li_29, li_28, li_27, li_26, li_25, li_23, li_22, li_21, li_19, li_18, li_17, li_15, li_m8, li_m2, li_60, li_54, li_2907, li_151, li_127, oN, iI_add, iI_sub, iI_mul, iI_neg, Int.reduceAdd, Int.reduceSub, Int.reduceMul, Int.reduceNeg, Int.toNat_natCast, iI_cl, sg_96_19, et, g1, z1]
        all_goals first | assumption | omega | exact cat_n | exact cat_i _ | exact cat_r _ | rfl
    rcases v2 with ⟨i1, i2⟩ | ⟨r, i1, i2, i3⟩
    · subst i1
      exact upd 0 ⟨0, rfl, rfl⟩ rfl ⟨49, (g2 128 3 (by omega)).trans i2, by omega, by omega, by omega⟩
    · subst i1
      have hr2 := mb_rg (K := K) (m := m) (b := b) (tk := tk) (qr := qr) (t := pb (mb K m b tk qr) 0 r)
      by_cases q : mb K m b tk qr (r + 1) < mb K m b tk qr (pb (mb K m b tk qr) 0 r)
      · have q' : mb K m b tk qr (0 + r + 1) < mb K m b tk qr (pb (mb K m b tk qr) 0 r) := by rw [Nat.zero_add]; exact q
        refine upd (r + 1) ⟨r + 1, rfl, ?_⟩ rfl ⟨_, (g2 128 3 (by omega)).trans i3, by omega, by omega, q⟩
        rw [pb_t q']
        omega
      · have q' : ¬ mb K m b tk qr (0 + r + 1) < mb K m b tk qr (pb (mb K m b tk qr) 0 r) := by rw [Nat.zero_add]; exact q
        refine ⟨(I3, .int (iI (mb K m b tk qr (r + 1 : Nat)))), ⟨f3, Or.inr ⟨r + 1, rfl, ?_, ?_⟩, rfl⟩, ?_⟩
        · try dsimp only
          rw [pb_f q', g2 128 2 (by omega)]
          exact i2
        · try dsimp only
          rw [pb_f q', g2 128 3 (by omega)]
          exact i3
        · have i3' := (g2 128 3 (by omega)).trans i3
          try dsimp only
          rw [cS (r + 1), sg_96_11]
          · simp (disch := first | omega | assumption | exact cat_n | exact cat_i _ | exact cat_r _ | (simp (disch := omega) only [l_0, l_1, l_m1, l_2, l_3, l_4, l_5, l_6, l_7, l_8, l_9, l_10, l_16, l_20, l_40, l_48, l_99, l_200, l_999, l_9999, li_73, li_78, li_m1000000, li_90, li_251, li_400, li_2400, li_91, li_153, li_173, li_96, li_32, li_92, li_12, li_93, li_80, li_14, li_1000000000, li_30, li_11, li_24, li_13, li_97, li_64, li_1600, li_49, li_255, li_2147483647, li_12345, li_1103515245, li_59, li_57, li_122, li_1023, li_1000000, li_52, li_51, li_50, li_47, li_46, li_45, li_44, li_43, li_42, li_41, li_39, li_38, li_37, li_36, li_35, li_34, li_33, li_29, li_28, li_27, li_26, li_25, li_23, li_22, li_21, li_19, li_18, li_17, li_15, li_m8, li_m2, li_60, li_54, li_2907, li_151, li_127, oN, iI_add, iI_sub, iI_mul, iI_neg, Int.reduceAdd, Int.reduceSub, Int.reduceMul, Int.reduceNeg, Int.toNat_natCast, iI_lt, iI_le, iI_eq, iI_cl, true_or, or_true, false_or, or_false, true_and, and_true, not_true_eq_false, not_false_eq_true]; first | done | omega)) only [↓if_pos, ↓if_neg, Option.bind_some, Option.toList_some, Option.toList_none, List.cons_append, List.nil_append, l_0, l_1, l_m1, l_2, l_3, l_4, l_5, l_6, l_7, l_8, l_9, l_10, l_16, l_20, l_40, l_48, l_99, l_200, l_999, l_9999, li_73, li_78, li_m1000000, li_90, li_251, li_400, li_2400, li_91, li_153, li_173, li_96, li_32, li_92, li_12, li_93, li_80, li_14, li_1000000000, li_30, li_11, li_24, li_13, li_97, li_64, li_1600, li_49, li_255, li_2147483647, li_12345, li_1103515245, li_59, li_57, li_122, li_1023, li_1000000, li_52, li_51, li_50, li_47, li_46, li_45, li_44, li_43, li_42, li_41, li_39, li_38, li_37, li_36, li_35, li_34, li_33, li_29, li_28, li_27, li_26, li_25, li_23, li_22, li_21, li_19, li_18, li_17, li_15, li_m8, li_m2, li_60, li_54, li_2907, li_151, li_127, oN, iI_add, iI_sub, iI_mul, iI_neg, Int.reduceAdd, Int.reduceSub, Int.reduceMul, Int.reduceNeg, Int.toNat_natCast, iI_cl, sg_96_19, et, g1, i3']
          all_goals first | assumption | omega | exact cat_n | exact cat_i _ | exact cat_r _ | rfl) (by
    rintro ⟨I2, w⟩ ⟨f2, v2, hw⟩
    try dsimp only at f2 v2 hw
    have h2 := hF I2 f2
    have et := CS_tn h2 hb
    rw [eT] at et
    rcases v2 with ⟨i1, i2⟩ | ⟨r, i1, i2, i3⟩
    · omega
    · have er : r = kT K b - 1 := by omega
      subst er
      refine ⟨I2, ?_, f2, i2, i3⟩
      try dsimp only
      rw [sg_96_11]
      · simp (disch := first | omega | assumption | exact cat_n | exact cat_i _ | exact cat_r _ | (simp (disch := omega) only [l_0, l_1, l_m1, l_2, l_3, l_4, l_5, l_6, l_7, l_8, l_9, l_10, l_16, l_20, l_40, l_48, l_99, l_200, l_999, l_9999, li_73, li_78, li_m1000000, li_90, li_251, li_400, li_2400, li_91, li_153, li_173, li_96, li_32, li_92, li_12, li_93, li_80, li_14, li_1000000000, li_30, li_11, li_24, li_13, li_97, li_64, li_1600, li_49, li_255, li_2147483647, li_12345, li_1103515245, li_59, li_57, li_122, li_1023, li_1000000, li_52, li_51, li_50, li_47, li_46, li_45, li_44, li_43, li_42, li_41, li_39, li_38, li_37, li_36, li_35, li_34, li_33, li_29, li_28, li_27, li_26, li_25, li_23, li_22, li_21, li_19, li_18, li_17, li_15, li_m8, li_m2, li_60, li_54, li_2907, li_151, li_127, oN, iI_add, iI_sub, iI_mul, iI_neg, Int.reduceAdd, Int.reduceSub, Int.reduceMul, Int.reduceNeg, Int.toNat_natCast, iI_lt, iI_le, iI_eq, iI_cl, true_or, or_true, false_or, or_false, true_and, and_true, not_true_eq_false, not_false_eq_true]; first | done | omega)) only [↓if_pos, ↓if_neg, Option.bind_some, Option.toList_some, Option.toList_none, List.cons_append, List.nil_append, l_0, l_1, l_m1, l_2, l_3, l_4, l_5, l_6, l_7, l_8, l_9, l_10, l_16, l_20, l_40, l_48, l_99, l_200, l_999, l_9999, li_73, li_78, li_m1000000, li_90, li_251, li_400, li_2400, li_91, li_153, li_173, li_96, li_32, li_92, li_12, li_93, li_80, li_14, li_1000000000, li_30, li_11, li_24, li_13, li_97, li_64, li_1600, li_49, li_255, li_2147483647, li_12345, li_1103515245, li_59, li_57, li_122, li_1023, li_1000000, li_52, li_51, li_50, li_47, li_46, li_45, li_44, li_43, li_42, li_41, li_39, li_38, li_37, li_36, li_35, li_34, li_33, li_29, li_28, li_27, li_26, li_25, li_23, li_22, li_21, li_19, li_18, li_17, li_15, li_m8, li_m2, li_60, li_54, li_2907, li_151, li_127, oN, iI_add, iI_sub, iI_mul, iI_neg, Int.reduceAdd, Int.reduceSub, Int.reduceMul, Int.reduceNeg, Int.toNat_natCast, iI_cl, et]
      all_goals first | assumption | omega | exact cat_n | exact cat_i _ | exact cat_r _ | rfl) (am_up I1 128 3 (iI 49), .null) ⟨fun c k q1 q2 => by try dsimp only; rw [up_ck (by omega)], Or.inl ⟨rfl, by try dsimp only; rw [up_at]⟩, rfl⟩
  obtain ⟨I', e2, e3, e4⟩ := L
  try dsimp only at e2
  rw [c0] at e2
  refine ⟨I', ?_, fun c k q1 q2 q3 => (e3 c k q1 q3).trans (f1 c k q2), e4⟩
  simp (disch := first | omega | assumption | exact cat_n | exact cat_i _ | exact cat_r _ | (simp (disch := omega) only [l_0, l_1, l_m1, l_2, l_3, l_4, l_5, l_6, l_7, l_8, l_9, l_10, l_16, l_20, l_40, l_48, l_99, l_200, l_999, l_9999, li_73, li_78, li_m1000000, li_90, li_251, li_400, li_2400, li_91, li_153, li_173, li_96, li_32, li_92, li_12, li_93, li_80, li_14, li_1000000000, li_30, li_11, li_24, li_13, li_97, li_64, li_1600, li_49, li_255, li_2147483647, li_12345, li_1103515245, li_59, li_57, li_122, li_1023, li_1000000, li_52, li_51, li_50, li_47, li_46, li_45, li_44, li_43, li_42, li_41, li_39, li_38, li_37, li_36, li_35, li_34, li_33, li_29, li_28, li_27, li_26, li_25, li_23, li_22, li_21, li_19, li_18, li_17, li_15, li_m8, li_m2, li_60, li_54, li_2907, li_151, li_127, oN, iI_add, iI_sub, iI_mul, iI_neg, Int.reduceAdd, Int.reduceSub, Int.reduceMul, Int.reduceNeg, Int.toNat_natCast, iI_lt, iI_le, iI_eq, iI_cl, true_or, or_true, false_or, or_false, true_and, and_true, not_true_eq_false, not_false_eq_true]; first | done | omega)) only [↓if_pos, ↓if_neg, Option.bind_some, Option.toList_some, Option.toList_none, List.cons_append, List.nil_append, l_0, l_1, l_m1, l_2, l_3, l_4, l_5, l_6, l_7, l_8, l_9, l_10, l_16, l_20, l_40, l_48, l_99, l_200, l_999, l_9999, li_73, li_78, li_m1000000, li_90, li_251, li_400, li_2400, li_91, li_153, li_173, li_96, li_32, li_92, li_12, li_93, li_80, li_14, li_1000000000, li_30, li_11, li_24, li_13, li_97, li_64, li_1600, li_49, li_255, li_2147483647, li_12345, li_1103515245, li_59, li_57, li_122, li_1023, li_1000000, li_52, li_51, li_50, li_47, li_46, li_45, li_44, li_43, li_42, li_41, li_39, li_38, li_37, li_36, li_35, li_34, li_33, li_29, li_28, li_27, li_26, li_25, li_23, li_22, li_21, li_19, li_18, li_17, li_15, li_m8, li_m2, li_60, li_54, li_2907, li_151, li_127, oN, iI_add, iI_sub, iI_mul, iI_neg, Int.reduceAdd, Int.reduceSub, Int.reduceMul, Int.reduceNeg, Int.toNat_natCast, iI_cl, cl_96, sg_96_e0, sg_96_3, e1, e2]
end S70
