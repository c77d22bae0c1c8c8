/-! TIME GOES ON: the sky behind a tick; the class -/
noncomputable def dn (K : Sk) (C : Nat → Prop) : Nat → Sk
  | 0 => K
  | n + 1 => if bl (C n) = true then ks (dn K C n) n (rs (kf (dn K C n) n) 8 0) else dn K C n
def kTm (K : Sk) (t : Int) : Sk := (K.1, K.2.1, K.2.2.1, K.2.2.2.1, t)
section DN
variable {K : Sk} {C : Nat → Prop} {n : Nat}
theorem dn_t (h : C n) : dn K C (n + 1) = ks (dn K C n) n (rs (kf (dn K C n) n) 8 0) := by
  show (if bl (C n) = true then _ else _) = _
  rw [if_pos (bl_t h)]
theorem dn_f (h : ¬ C n) : dn K C (n + 1) = dn K C n := by
  show (if bl (C n) = true then _ else _) = _
  rw [bl_f h]
  rfl
theorem dn_c : kn (dn K C n) = kn K ∧ ke (dn K C n) = ke K ∧ kz (dn K C n) = kz K ∧ kt (dn K C n) = kt K := by
  induction n with
  | zero => exact ⟨rfl, rfl, rfl, rfl⟩
  | succ n ih =>
    by_cases q : C n
    · rw [dn_t q, ks_n, ks_e, ks_z, ks_t]; exact ih
    · rw [dn_f q]; exact ih
theorem dn_8 (o : Nat) : ∃ v : Int, kf (dn K C n) o = rs (kf K o) 8 v := by
  induction n with
  | zero =>
    refine ⟨kf K o 8, ?_⟩
    funext j
    show kf K o j = if j = 8 then _ else _
    split
    · rename_i z; rw [z]
    · rfl
  | succ n ih =>
    by_cases q : C n
    · rw [dn_t q]
      by_cases e : o = n
      · subst e
        obtain ⟨v, hv⟩ := ih
        refine ⟨0, ?_⟩
        rw [ks_b, hv]
        funext j
        show (if j = 8 then 0 else if j = 8 then v else _) = if j = 8 then 0 else _
        split
        · rfl
        · rfl
      · rw [ks_o e]; exact ih
    · rw [dn_f q]; exact ih
theorem dn_none (h : ∀ x, x < n → ¬ C x) : dn K C n = K := by
  induction n with
  | zero => rfl
  | succ n ih => rw [dn_f (h n (by omega)), ih (fun x hx => h x (by omega))]
theorem dn_ok (h : Kok K) (hn : n ≤ kn K) : Kok (dn K C n) := by
  obtain ⟨c1, c2, c3, c4⟩ := dn_c (K := K) (C := C) (n := n)
  refine ⟨by rw [c1]; exact h.1, fun b hb => ?_, by rw [c2]; exact h.2.2.1, by rw [c3]; exact h.2.2.2.1, by rw [c4]; exact h.2.2.2.2⟩
  rw [c1] at hb
  clear c1 c2 c3 c4
  induction n with
  | zero => exact K_f h hb
  | succ n ih =>
    have ih := ih (by omega)
    by_cases q : C n
    · rw [dn_t q]
      by_cases e : b = n
      · subst e
        rw [ks_b]
        exact u_ok ih (by omega) (by omega)
      · rw [ks_o e]; exact ih
    · rw [dn_f q]; exact ih
end DN
/-- what is kept: how many, the row -/
def kpm (m : Nat) : Nat := if m = 40 then 40 else m + 1
def kpl (m : Nat) (L : Nat → Int32) (t s : Int32) : Nat → Int32 := if m = 40 then (fun j => if j = 78 then t else if j = 79 then s else L (j + 2)) else (fun j => if j = 2 * m then t else if j = 2 * m + 1 then s else L j)
def KC (m : Nat) (L : Nat → Int32) (I : Nat → Nat → Int32) : Prop := I 16 6 = iI m ∧ m ≤ 40 ∧ ∀ j, j < 2 * m → I 18 j = L j
def KM (m : Nat) (L : Nat → Int32) (I : Nat → Nat → Int32) : Prop := I 148 2 = iI m ∧ m ≤ 40 ∧ ∀ j, j < 2 * m → I 148 (73 + j) = L j
/-- the set that crashes now; the sky behind the tick, what is kept then -/
noncomputable def g_s (K : Sk) : Int32 := st (crs K (ku K) (kt K)) (kn K)
noncomputable def g_K (K : Sk) : Sk := kTm (dn K (crs K (ku K) (kt K)) (kn K)) (kt K + 1)
noncomputable def gX (s : Sk × Nat × (Nat → Int32)) : Sk × Nat × (Nat → Int32) := if g_s s.1 = iI 0 then (g_K s.1, s.2) else (g_K s.1, kpm s.2.1, kpl s.2.1 s.2.2 (iI (kt s.1)) (g_s s.1))
noncomputable def gN : Nat → Sk × Nat × (Nat → Int32) → Sk × Nat × (Nat → Int32)
  | 0, s => s
  | n + 1, s => gX (gN n s)
theorem gX_1 (s : Sk × Nat × (Nat → Int32)) : (gX s).1 = g_K s.1 := by
  unfold gX
  split
  · rfl
  · rfl
theorem gX_z {s : Sk × Nat × (Nat → Int32)} (h : g_s s.1 = iI 0) : (gX s).2 = s.2 := by unfold gX; rw [if_pos h]
theorem gX_n {s : Sk × Nat × (Nat → Int32)} (h : ¬ g_s s.1 = iI 0) : (gX s).2 = (kpm s.2.1, kpl s.2.1 s.2.2 (iI (kt s.1)) (g_s s.1)) := by unfold gX; rw [if_neg h]
theorem gK_c (K : Sk) : kn (g_K K) = kn K ∧ ke (g_K K) = ke K ∧ kz (g_K K) = kz K ∧ kt (g_K K) = kt K + 1 := by
  obtain ⟨c1, c2, c3, c4⟩ := dn_c (K := K) (C := crs K (ku K) (kt K)) (n := kn K)
  exact ⟨c1, c2, c3, rfl⟩
theorem gN_c (n : Nat) (s : Sk × Nat × (Nat → Int32)) : kn (gN n s).1 = kn s.1 ∧ ke (gN n s).1 = ke s.1 ∧ kz (gN n s).1 = kz s.1 ∧ kt (gN n s).1 = kt s.1 + n := by
  induction n with
  | zero => exact ⟨rfl, rfl, rfl, (Int.add_zero _).symm⟩
  | succ n ih =>
    obtain ⟨c1, c2, c3, c4⟩ := gK_c (gN n s).1
    have e : (gN (n + 1) s).1 = g_K (gN n s).1 := gX_1 (gN n s)
    rw [e]
    obtain ⟨i1, i2, i3, i4⟩ := ih
    refine ⟨c1.trans i1, c2.trans i2, c3.trans i3, ?_⟩
    rw [c4, i4, cS]
    omega
section S88
variable {X : am_X} {K : Sk} {I I' : Nat → Nat → Int32} {J : Nat → Nat → Int64} {b : Nat}
theorem kTm_ok (h : Kok K) {t : Int} (t0 : 0 ≤ t) (t1 : t ≤ 9999) : Kok (kTm K t) := ⟨h.1, h.2.1, h.2.2.1, h.2.2.2.1, t0, t1⟩
theorem CS_T (h : CS K I) {t : Int} (t0 : 0 ≤ t) (t1 : t ≤ 9999) (e : ∀ c k, (c = 16 ∧ 2 ≤ k ∧ k ≤ 4) ∨ (19 ≤ c ∧ c ≤ 78) → I' c k = I c k) (e5 : I' 16 5 = iI t) : CS (kTm K t) I' := by
  have hk := K_n (CS_k h)
  refine ⟨kTm_ok (CS_k h) t0 t1, ?_, fun o ho => ?_⟩
  · rw [e 16 2 (by omega), e 16 3 (by omega), e 16 4 (by omega), e5]
    exact ⟨h.2.1.1, h.2.1.2.1, h.2.1.2.2.1, rfl⟩
  · have ho' : o < kn K := ho
    have hod := bd_eq (b := o) (by omega)
    have e' : ∀ j, j ≤ 5 → ∀ k, I' (am_bd o + j) k = I (am_bd o + j) k := fun j hj k => e _ k (by omega)
    have w : cr I' o = kf K o := (cr_congr (e' 1 (by omega))).trans (CS_r h ho')
    exact ⟨CB_congr e' (CS_B h ho'), w⟩
theorem C_up {K' : Sk} (h : CS K I) (g : rl_C I) (h' : CS K' I') (en : kn K' = kn K) (ee : ke K' = ke K) (ef : ∀ b, ∃ v : Int, kf K' b = rs (kf K b) 8 v) (e : ∀ c k, c = 80 ∨ c = 84 ∨ c = 85 ∨ c = 104 → I' c k = I c k) : rl_C I' := by
  rw [C_iff h']
  rw [C_iff h] at g
  simp only [e 84 _ (by omega), e 85 _ (by omega), e 80 _ (by omega), e 104 _ (by omega), en, ee]
  obtain ⟨g1, g2, g3⟩ := g
  refine ⟨fun a c hac hc => ?_, fun a c hac hc => ?_, g3⟩
  · obtain ⟨v, hv⟩ := ef a
    obtain ⟨w, hw⟩ := ef c
    rw [hv, hw, u_lf1, u_lf2, u_cl1, u_cl2]
    exact g1 a c hac hc
  · obtain ⟨v, hv⟩ := ef a
    obtain ⟨w, hw⟩ := ef c
    rw [hv, hw]
    exact g2 a c hac hc
theorem k_20 (h : CS K I) : ∃ I' : Nat → Nat → Int32, am_do X 20 [.ref 89] (am_sh I J) = some (some (.int (g_s K)), am_sh I' J) ∧ ∀ c k, ¬ (89 ≤ c ∧ c ≤ 94) → I' c k = I c k := by
  have hn := K_n (CS_k h)
  have ht := K_t (CS_k h)
  have hF : ∀ I1 : Nat → Nat → Int32, (∀ c k, ¬ (89 ≤ c ∧ c ≤ 94) → I1 c k = I c k) → CS K I1 := fun I1 f => CS_cg h (fun c k z => f c k (by omega))
  have L := Lp1 (n := kn K) (G := fun b (I1 : Nat → Nat → Int32) => am_ev X amP_20 7 [.ref 89, .int (iI b)] [] (am_sh I1 J)) (Iv := fun b I1 => (∀ c k, ¬ (89 ≤ c ∧ c ≤ 94) → I1 c k = I c k) ∧ I1 89 8 = st (ku K) (kn K) ∧ ∀ a, a < b → I1 90 a = st (ku K) (kn K)) (P := fun r => ∃ I' : Nat → Nat → Int32, r = some (some (.int (g_s K)), am_sh I' J) ∧ ∀ c k, ¬ (89 ≤ c ∧ c ≤ 94) → I' c k = I c k) (by
    rintro b I1 hb ⟨f1, v8, v9⟩
    right
    have h1 := hF I1 f1
    refine ⟨am_up I1 90 b (st (ku K) (kn K)), ⟨fun c k z => ?_, ?_, fun a ha => ?_⟩, ?_⟩
    · rw [up_ck (by omega)]; exact f1 c k z
    · rw [up_ck (by omega)]; exact v8
    · by_cases y : a = b
      · subst y; rw [up_at]
      · rw [up_k y]; exact v9 a (by omega)
    · try dsimp only
      rw [cS, sg_20_7]
      simp (disch := first | omega | assumption | exact cat_n | exact cat_i _ | exact cat_r _ | (simp (disch := omega) only [l_0, l_1, l_m1, l_2, l_3, l_4, l_5, l_6, l_7, l_8, l_9, l_10, l_16, l_20, l_40, l_48, l_99, l_200, l_999, l_9999, li_73, li_78, li_m1000000, li_90, li_251, li_400, li_2400, li_91, li_153, li_173, li_96, li_32, li_92, li_12, li_93, li_80, li_14, li_1000000000, li_30, li_11, li_24, li_13, li_97, li_64, li_1600, li_49, li_255, li_2147483647, li_12345, li_1103515245, li_59, li_57, li_122, li_1023, li_1000000, li_52, li_51, li_50, li_47, li_46, li_45, li_44, li_43, li_42, li_41, li_39, li_38, li_37, li_36, li_35, li_34, li_33, li_29, li_28, li_27, li_26, li_25, li_23, li_22, li_21, li_19, li_18, li_17, li_15, li_m8, li_m2, li_60, li_54, li_2907, li_151, li_127, oN, iI_add, iI_sub, iI_mul, iI_neg, Int.reduceAdd, Int.reduceSub, Int.reduceMul, Int.reduceNeg, Int.toNat_natCast, Int.reduceToNat, iI_lt, iI_le, iI_eq, iI_cl, true_or, or_true, false_or, or_false, true_and, and_true, not_true_eq_false, not_false_eq_true]; first | done | omega)) only [↓if_pos, ↓if_neg, Option.bind_some, Option.toList_some, Option.toList_none, List.cons_append, List.nil_append, l_0, l_1, l_m1, l_2, l_3, l_4, l_5, l_6, l_7, l_8, l_9, l_10, l_16, l_20, l_40, l_48, l_99, l_200, l_999, l_9999, li_73, li_78, li_m1000000, li_90, li_251, li_400, li_2400, li_91, li_153, li_173, li_96, li_32, li_92, li_12, li_93, li_80, li_14, li_1000000000, li_30, li_11, li_24, li_13, li_97, li_64, li_1600, li_49, li_255, li_2147483647, li_12345, li_1103515245, li_59, li_57, li_122, li_1023, li_1000000, li_52, li_51, li_50, li_47, li_46, li_45, li_44, li_43, li_42, li_41, li_39, li_38, li_37, li_36, li_35, li_34, li_33, li_29, li_28, li_27, li_26, li_25, li_23, li_22, li_21, li_19, li_18, li_17, li_15, li_m8, li_m2, li_60, li_54, li_2907, li_151, li_127, oN, iI_add, iI_sub, iI_mul, iI_neg, Int.reduceAdd, Int.reduceSub, Int.reduceMul, Int.reduceNeg, Int.toNat_natCast, Int.reduceToNat, iI_cl, CS_n h1, v8]) (by
    rintro I1 ⟨f1, v8, v9⟩
    have h1 := hF I1 f1
    obtain ⟨I2, p2, f2, a2⟩ := k_17 (X := X) (J := J) h1 (A := ku K) (mt := fun _ => ku K) v8 v9
    have f2' : ∀ c k, ¬ (89 ≤ c ∧ c ≤ 94) → I2 c k = I c k := fun c k z => (f2 c k (by omega)).trans (f1 c k z)
    have h2 := hF I2 f2'
    obtain ⟨I3, p3, f3⟩ := k_21 (X := X) (J := J) h2 a2 (t := kt K) (by omega) (by omega) (fun x hx => hx.1) (fun a b _ _ _ q1 q2 => absurd q1 q2)
    refine ⟨I3, ?_, fun c k z => (f3 c k (by omega)).trans (f2' c k z)⟩
    try dsimp only
    rw [sg_20_7]
    simp (disch := first | omega | assumption | exact cat_n | exact cat_i _ | exact cat_r _ | (simp (disch := omega) only [l_0, l_1, l_m1, l_2, l_3, l_4, l_5, l_6, l_7, l_8, l_9, l_10, l_16, l_20, l_40, l_48, l_99, l_200, l_999, l_9999, li_73, li_78, li_m1000000, li_90, li_251, li_400, li_2400, li_91, li_153, li_173, li_96, li_32, li_92, li_12, li_93, li_80, li_14, li_1000000000, li_30, li_11, li_24, li_13, li_97, li_64, li_1600, li_49, li_255, li_2147483647, li_12345, li_1103515245, li_59, li_57, li_122, li_1023, li_1000000, li_52, li_51, li_50, li_47, li_46, li_45, li_44, li_43, li_42, li_41, li_39, li_38, li_37, li_36, li_35, li_34, li_33, li_29, li_28, li_27, li_26, li_25, li_23, li_22, li_21, li_19, li_18, li_17, li_15, li_m8, li_m2, li_60, li_54, li_2907, li_151, li_127, oN, iI_add, iI_sub, iI_mul, iI_neg, Int.reduceAdd, Int.reduceSub, Int.reduceMul, Int.reduceNeg, Int.toNat_natCast, Int.reduceToNat, iI_lt, iI_le, iI_eq, iI_cl, true_or, or_true, false_or, or_false, true_and, and_true, not_true_eq_false, not_false_eq_true]; first | done | omega)) only [↓if_pos, ↓if_neg, Option.bind_some, Option.toList_some, Option.toList_none, List.cons_append, List.nil_append, l_0, l_1, l_m1, l_2, l_3, l_4, l_5, l_6, l_7, l_8, l_9, l_10, l_16, l_20, l_40, l_48, l_99, l_200, l_999, l_9999, li_73, li_78, li_m1000000, li_90, li_251, li_400, li_2400, li_91, li_153, li_173, li_96, li_32, li_92, li_12, li_93, li_80, li_14, li_1000000000, li_30, li_11, li_24, li_13, li_97, li_64, li_1600, li_49, li_255, li_2147483647, li_12345, li_1103515245, li_59, li_57, li_122, li_1023, li_1000000, li_52, li_51, li_50, li_47, li_46, li_45, li_44, li_43, li_42, li_41, li_39, li_38, li_37, li_36, li_35, li_34, li_33, li_29, li_28, li_27, li_26, li_25, li_23, li_22, li_21, li_19, li_18, li_17, li_15, li_m8, li_m2, li_60, li_54, li_2907, li_151, li_127, oN, iI_add, iI_sub, iI_mul, iI_neg, Int.reduceAdd, Int.reduceSub, Int.reduceMul, Int.reduceNeg, Int.toNat_natCast, Int.reduceToNat, iI_cl, CS_n h1, p2, sg_20_22, CS_t h2, p3, sg_20_27]
    rfl) (am_up I 89 8 (st (ku K) (kn K))) ⟨fun c k z => up_ck (by omega), up_at _ _ _ _, fun a ha => by omega⟩
  obtain ⟨I', p1, p2⟩ := L
  try dsimp only at p1
  rw [c0] at p1
  refine ⟨I', ?_, p2⟩
  simp (disch := first | omega | assumption | exact cat_n | exact cat_i _ | exact cat_r _ | (simp (disch := omega) only [l_0, l_1, l_m1, l_2, l_3, l_4, l_5, l_6, l_7, l_8, l_9, l_10, l_16, l_20, l_40, l_48, l_99, l_200, l_999, l_9999, li_73, li_78, li_m1000000, li_90, li_251, li_400, li_2400, li_91, li_153, li_173, li_96, li_32, li_92, li_12, li_93, li_80, li_14, li_1000000000, li_30, li_11, li_24, li_13, li_97, li_64, li_1600, li_49, li_255, li_2147483647, li_12345, li_1103515245, li_59, li_57, li_122, li_1023, li_1000000, li_52, li_51, li_50, li_47, li_46, li_45, li_44, li_43, li_42, li_41, li_39, li_38, li_37, li_36, li_35, li_34, li_33, li_29, li_28, li_27, li_26, li_25, li_23, li_22, li_21, li_19, li_18, li_17, li_15, li_m8, li_m2, li_60, li_54, li_2907, li_151, li_127, oN, iI_add, iI_sub, iI_mul, iI_neg, Int.reduceAdd, Int.reduceSub, Int.reduceMul, Int.reduceNeg, Int.toNat_natCast, Int.reduceToNat, iI_lt, iI_le, iI_eq, iI_cl, true_or, or_true, false_or, or_false, true_and, and_true, not_true_eq_false, not_false_eq_true]; first | done | omega)) only [↓if_pos, ↓if_neg, Option.bind_some, Option.toList_some, Option.toList_none, List.cons_append, List.nil_append, l_0, l_1, l_m1, l_2, l_3, l_4, l_5, l_6, l_7, l_8, l_9, l_10, l_16, l_20, l_40, l_48, l_99, l_200, l_999, l_9999, li_73, li_78, li_m1000000, li_90, li_251, li_400, li_2400, li_91, li_153, li_173, li_96, li_32, li_92, li_12, li_93, li_80, li_14, li_1000000000, li_30, li_11, li_24, li_13, li_97, li_64, li_1600, li_49, li_255, li_2147483647, li_12345, li_1103515245, li_59, li_57, li_122, li_1023, li_1000000, li_52, li_51, li_50, li_47, li_46, li_45, li_44, li_43, li_42, li_41, li_39, li_38, li_37, li_36, li_35, li_34, li_33, li_29, li_28, li_27, li_26, li_25, li_23, li_22, li_21, li_19, li_18, li_17, li_15, li_m8, li_m2, li_60, li_54, li_2907, li_151, li_127, oN, iI_add, iI_sub, iI_mul, iI_neg, Int.reduceAdd, Int.reduceSub, Int.reduceMul, Int.reduceNeg, Int.toNat_natCast, Int.reduceToNat, iI_cl, cl_20, sg_20_e0, sg_20_4, k_102 h, p1]
set_option maxHeartbeats 1000000 in
theorem k_107 {C : Nat → Prop} {m : Nat} {L : Nat → Int32} (h : CS K I) (hk : KC m L I) : ∃ I' : Nat → Nat → Int32, am_do X 107 [.ref 16, .int (st C (kn K))] (am_sh I J) = some (none, am_sh I' J) ∧ CS (dn K C (kn K)) I' ∧ KC (kpm m) (kpl m L (iI (kt K)) (st C (kn K))) I' ∧ ∀ c k, ¬ (c = 16 ∧ k = 6) → c ≠ 18 → ¬ (19 ≤ c ∧ c ≤ 78 ∧ (c - 19) % 6 = 1 ∧ k = 8) → I' c k = I c k := by
  have hn := K_n (CS_k h)
  have B := Lp1 (n := kn K) (G := fun b (I1 : Nat → Nat → Int32) => am_ev X amP_107 2 [.ref 16, .int (st C (kn K)), .int (iI b)] [] (am_sh I1 J)) (Iv := fun b I1 => CS (dn K C b) I1 ∧ ∀ c k, ¬ (19 ≤ c ∧ c ≤ 78 ∧ (c - 19) % 6 = 1 ∧ k = 8) → I1 c k = I c k) (P := fun r => ∃ I' : Nat → Nat → Int32, r = some (none, am_sh I' J) ∧ CS (dn K C (kn K)) I' ∧ KC (kpm m) (kpl m L (iI (kt K)) (st C (kn K))) I' ∧ ∀ c k, ¬ (c = 16 ∧ k = 6) → c ≠ 18 → ¬ (19 ≤ c ∧ c ≤ 78 ∧ (c - 19) % 6 = 1 ∧ k = 8) → I' c k = I c k) (by
    rintro b I1 hb ⟨h1, f1⟩
    right
    obtain ⟨c1, c2', c3, c4⟩ := dn_c (K := K) (C := C) (n := b)
    have en : I1 16 2 = iI (kn K) := (f1 16 2 (by omega)).trans (CS_n h)
    have hbd := bd_eq (b := b) (by omega)
    by_cases q : C b
    · refine ⟨am_up I1 (am_bd b + 1) 8 (iI 0), ⟨?_, fun c k z => ?_⟩, ?_⟩
      · rw [dn_t q]
        exact CS_u8 h1 (by rw [c1]; exact hb) (by omega) (by omega) (fun c k z1 z2 => up_ck (by omega)) (up_at _ _ _ _)
      · rw [up_ck (by omega)]; exact f1 c k z
      · try dsimp only
        rw [cS, sg_107_2, en]
        simp (disch := first | omega | assumption | exact cat_n | exact cat_i _ | exact cat_r _ | (simp (disch := omega) only [l_0, l_1, l_m1, l_2, l_3, l_4, l_5, l_6, l_7, l_8, l_9, l_10, l_16, l_20, l_40, l_48, l_99, l_200, l_999, l_9999, li_73, li_78, li_m1000000, li_90, li_251, li_400, li_2400, li_91, li_153, li_173, li_96, li_32, li_92, li_12, li_93, li_80, li_14, li_1000000000, li_30, li_11, li_24, li_13, li_97, li_64, li_1600, li_49, li_255, li_2147483647, li_12345, li_1103515245, li_59, li_57, li_122, li_1023, li_1000000, li_52, li_51, li_50, li_47, li_46, li_45, li_44, li_43, li_42, li_41, li_39, li_38, li_37, li_36, li_35, li_34, li_33, li_29, li_28, li_27, li_26, li_25, li_23, li_22, li_21, li_19, li_18, li_17, li_15, li_m8, li_m2, li_60, li_54, li_2907, li_151, li_127, oN, iI_add, iI_sub, iI_mul, iI_neg, Int.reduceAdd, Int.reduceSub, Int.reduceMul, Int.reduceNeg, Int.toNat_natCast, Int.reduceToNat, iI_lt, iI_le, iI_eq, iI_cl, true_or, or_true, false_or, or_false, true_and, and_true, not_true_eq_false, not_false_eq_true]; first | done | omega)) only [↓if_pos, ↓if_neg, Option.bind_some, Option.toList_some, Option.toList_none, List.cons_append, List.nil_append, l_0, l_1, l_m1, l_2, l_3, l_4, l_5, l_6, l_7, l_8, l_9, l_10, l_16, l_20, l_40, l_48, l_99, l_200, l_999, l_9999, li_73, li_78, li_m1000000, li_90, li_251, li_400, li_2400, li_91, li_153, li_173, li_96, li_32, li_92, li_12, li_93, li_80, li_14, li_1000000000, li_30, li_11, li_24, li_13, li_97, li_64, li_1600, li_49, li_255, li_2147483647, li_12345, li_1103515245, li_59, li_57, li_122, li_1023, li_1000000, li_52, li_51, li_50, li_47, li_46, li_45, li_44, li_43, li_42, li_41, li_39, li_38, li_37, li_36, li_35, li_34, li_33, li_29, li_28, li_27, li_26, li_25, li_23, li_22, li_21, li_19, li_18, li_17, li_15, li_m8, li_m2, li_60, li_54, li_2907, li_151, li_127, oN, iI_add, iI_sub, iI_mul, iI_neg, Int.reduceAdd, Int.reduceSub, Int.reduceMul, Int.reduceNeg, Int.toNat_natCast, Int.reduceToNat, iI_cl, st_at (p := C) (n := kn K) (k := b) (by omega) hb q]
    · refine ⟨I1, ⟨?_, f1⟩, ?_⟩
      · rw [dn_f q]; exact h1
      · try dsimp only
        rw [cS, sg_107_2, en]
        simp (disch := first | omega | assumption | exact cat_n | exact cat_i _ | exact cat_r _ | (simp (disch := omega) only [l_0, l_1, l_m1, l_2, l_3, l_4, l_5, l_6, l_7, l_8, l_9, l_10, l_16, l_20, l_40, l_48, l_99, l_200, l_999, l_9999, li_73, li_78, li_m1000000, li_90, li_251, li_400, li_2400, li_91, li_153, li_173, li_96, li_32, li_92, li_12, li_93, li_80, li_14, li_1000000000, li_30, li_11, li_24, li_13, li_97, li_64, li_1600, li_49, li_255, li_2147483647, li_12345, li_1103515245, li_59, li_57, li_122, li_1023, li_1000000, li_52, li_51, li_50, li_47, li_46, li_45, li_44, li_43, li_42, li_41, li_39, li_38, li_37, li_36, li_35, li_34, li_33, li_29, li_28, li_27, li_26, li_25, li_23, li_22, li_21, li_19, li_18, li_17, li_15, li_m8, li_m2, li_60, li_54, li_2907, li_151, li_127, oN, iI_add, iI_sub, iI_mul, iI_neg, Int.reduceAdd, Int.reduceSub, Int.reduceMul, Int.reduceNeg, Int.toNat_natCast, Int.reduceToNat, iI_lt, iI_le, iI_eq, iI_cl, true_or, or_true, false_or, or_false, true_and, and_true, not_true_eq_false, not_false_eq_true]; first | done | omega)) only [↓if_pos, ↓if_neg, Option.bind_some, Option.toList_some, Option.toList_none, List.cons_append, List.nil_append, l_0, l_1, l_m1, l_2, l_3, l_4, l_5, l_6, l_7, l_8, l_9, l_10, l_16, l_20, l_40, l_48, l_99, l_200, l_999, l_9999, li_73, li_78, li_m1000000, li_90, li_251, li_400, li_2400, li_91, li_153, li_173, li_96, li_32, li_92, li_12, li_93, li_80, li_14, li_1000000000, li_30, li_11, li_24, li_13, li_97, li_64, li_1600, li_49, li_255, li_2147483647, li_12345, li_1103515245, li_59, li_57, li_122, li_1023, li_1000000, li_52, li_51, li_50, li_47, li_46, li_45, li_44, li_43, li_42, li_41, li_39, li_38, li_37, li_36, li_35, li_34, li_33, li_29, li_28, li_27, li_26, li_25, li_23, li_22, li_21, li_19, li_18, li_17, li_15, li_m8, li_m2, li_60, li_54, li_2907, li_151, li_127, oN, iI_add, iI_sub, iI_mul, iI_neg, Int.reduceAdd, Int.reduceSub, Int.reduceMul, Int.reduceNeg, Int.toNat_natCast, Int.reduceToNat, iI_cl, st_no (p := C) (n := kn K) (k := b) (by omega) (by omega) (fun z => q z.2)]) (by
    rintro I1 ⟨h1, f1⟩
    obtain ⟨c1, c2', c3, c4⟩ := dn_c (K := K) (C := C) (n := kn K)
    have en : I1 16 2 = iI (kn K) := (f1 16 2 (by omega)).trans (CS_n h)
    have e5 : I1 16 5 = iI (kt K) := (f1 16 5 (by omega)).trans (CS_t h)
    obtain ⟨k1, k2, k3⟩ := hk
    have e6 : I1 16 6 = iI m := (f1 16 6 (by omega)).trans k1
    have r2 : ∀ j, j < 2 * m → I1 18 j = L j := fun j hj => (f1 18 j (by omega)).trans (k3 j hj)
    have fin : ∀ I' : Nat → Nat → Int32, (∀ c k, ¬ (c = 16 ∧ k = 6) → c ≠ 18 → I' c k = I1 c k) → CS (dn K C (kn K)) I' ∧ ∀ c k, ¬ (c = 16 ∧ k = 6) → c ≠ 18 → ¬ (19 ≤ c ∧ c ≤ 78 ∧ (c - 19) % 6 = 1 ∧ k = 8) → I' c k = I c k := fun I' z => ⟨CS_cg h1 (fun c k y => z c k (by omega) (by omega)), fun c k y1 y2 y3 => (z c k y1 y2).trans (f1 c k y3)⟩
    by_cases q : m = 40
    · subst q
      obtain ⟨F, hF⟩ : ∃ F : Nat → Nat → Int32, F = (fun c k => if c = 18 then (if (0 : Int32).toNatClampNeg ≤ k ∧ k < (0 : Int32).toNatClampNeg + (78 : Int32).toNatClampNeg then I1 18 ((2 : Int32).toNatClampNeg + (k - (0 : Int32).toNatClampNeg)) else I1 c k) else I1 c k) := ⟨_, rfl⟩
      have F1 : ∀ c k, c ≠ 18 → F c k = I1 c k := fun c k z => by rw [hF]; show (if c = 18 then _ else _) = _; rw [if_neg z]
      have F2 : ∀ k, k < 78 → F 18 k = I1 18 (k + 2) := fun k z => by
        rw [hF]
        show (if 18 = 18 then (if 0 ≤ k ∧ k < 0 + 78 then I1 18 (2 + (k - 0)) else _) else _) = _
        rw [if_pos rfl, if_pos (by omega), show 2 + (k - 0) = k + 2 by omega]
      have g6 : F 16 6 = iI 40 := (F1 16 6 (by omega)).trans e6
      have g5 : F 16 5 = iI (kt K) := (F1 16 5 (by omega)).trans e5
      have v6 : am_up F 16 6 (iI 39) 16 6 = iI 39 := up_at _ _ _ _
      have v5 : am_up F 16 6 (iI 39) 16 5 = iI (kt K) := (up_k (by omega)).trans g5
      have w6 : ∀ x j, am_up (am_up F 16 6 (iI 39)) 18 j x 16 6 = iI 39 := fun x j => (up_ck (by omega)).trans v6
      have y6 : ∀ x j x' j', am_up (am_up (am_up F 16 6 (iI 39)) 18 j x) 18 j' x' 16 6 = iI 39 := fun x j x' j' => (up_ck (by omega)).trans (w6 x j)
      obtain ⟨z1, z2⟩ := fin (am_up (am_up (am_up (am_up F 16 6 (iI 39)) 18 78 (iI (kt K))) 18 79 (st C (kn K))) 16 6 (iI 40)) (fun c k y1 y2 => by rw [up_ck (by omega), up_ck (by omega), up_ck (by omega), up_ck (by omega), F1 c k y2])
      refine ⟨_, ?_, z1, ⟨up_at _ _ _ _, by unfold kpm; rw [if_pos rfl]; omega, fun j hj => ?_⟩, z2⟩
      · have c40 : iI ((40 : Nat) : Int) = iI 40 := rfl
        rw [c40] at e6
        try dsimp only
        rw [sg_107_2, en, e6]
        simp only [← hF]
        simp (disch := first | omega | assumption | exact cat_n | exact cat_i _ | exact cat_r _ | (simp (disch := omega) only [l_0, l_1, l_m1, l_2, l_3, l_4, l_5, l_6, l_7, l_8, l_9, l_10, l_16, l_20, l_40, l_48, l_99, l_200, l_999, l_9999, li_73, li_78, li_m1000000, li_90, li_251, li_400, li_2400, li_91, li_153, li_173, li_96, li_32, li_92, li_12, li_93, li_80, li_14, li_1000000000, li_30, li_11, li_24, li_13, li_97, li_64, li_1600, li_49, li_255, li_2147483647, li_12345, li_1103515245, li_59, li_57, li_122, li_1023, li_1000000, li_52, li_51, li_50, li_47, li_46, li_45, li_44, li_43, li_42, li_41, li_39, li_38, li_37, li_36, li_35, li_34, li_33, li_29, li_28, li_27, li_26, li_25, li_23, li_22, li_21, li_19, li_18, li_17, li_15, li_m8, li_m2, li_60, li_54, li_2907, li_151, li_127, oN, iI_add, iI_sub, iI_mul, iI_neg, Int.reduceAdd, Int.reduceSub, Int.reduceMul, Int.reduceNeg, Int.toNat_natCast, Int.reduceToNat, iI_lt, iI_le, iI_eq, iI_cl, true_or, or_true, false_or, or_false, true_and, and_true, not_true_eq_false, not_false_eq_true]; first | done | omega)) only [↓if_pos, ↓if_neg, Option.bind_some, Option.toList_some, Option.toList_none, List.cons_append, List.nil_append, l_0, l_1, l_m1, l_2, l_3, l_4, l_5, l_6, l_7, l_8, l_9, l_10, l_16, l_20, l_40, l_48, l_99, l_200, l_999, l_9999, li_73, li_78, li_m1000000, li_90, li_251, li_400, li_2400, li_91, li_153, li_173, li_96, li_32, li_92, li_12, li_93, li_80, li_14, li_1000000000, li_30, li_11, li_24, li_13, li_97, li_64, li_1600, li_49, li_255, li_2147483647, li_12345, li_1103515245, li_59, li_57, li_122, li_1023, li_1000000, li_52, li_51, li_50, li_47, li_46, li_45, li_44, li_43, li_42, li_41, li_39, li_38, li_37, li_36, li_35, li_34, li_33, li_29, li_28, li_27, li_26, li_25, li_23, li_22, li_21, li_19, li_18, li_17, li_15, li_m8, li_m2, li_60, li_54, li_2907, li_151, li_127, oN, iI_add, iI_sub, iI_mul, iI_neg, Int.reduceAdd, Int.reduceSub, Int.reduceMul, Int.reduceNeg, Int.toNat_natCast, Int.reduceToNat, iI_cl, e6, e5, g6, v6, v5, w6, y6]
        all_goals rfl
      · have : kpm 40 = 40 := rfl
        rw [this] at hj
        unfold kpl
        rw [if_pos rfl, up_ck (by omega)]
        by_cases a1 : j = 79
        · subst a1
          rw [up_at]
          rfl
        · rw [up_k a1]
          by_cases a2 : j = 78
          · subst a2
            rw [up_at]
            rfl
          · rw [up_k a2, up_ck (by omega), F2 j (by omega), r2 _ (by omega)]
            show _ = if j = 78 then _ else if j = 79 then _ else _
            rw [if_neg a2, if_neg a1]
    · have q1 : m < 40 := by omega
      have w6 : ∀ x j, am_up I1 18 j x 16 6 = iI m := fun x j => (up_ck (by omega)).trans e6
      have y6 : ∀ x j x' j', am_up (am_up I1 18 j x) 18 j' x' 16 6 = iI m := fun x j x' j' => (up_ck (by omega)).trans (w6 x j)
      have n1 : (2 * (m : Int)).toNat = 2 * m := by omega
      have n2 : (2 * (m : Int) + 1).toNat = 2 * m + 1 := by omega
      obtain ⟨z1, z2⟩ := fin (am_up (am_up (am_up I1 18 (2 * m) (iI (kt K))) 18 (2 * m + 1) (st C (kn K))) 16 6 (iI ((m : Int) + 1))) (fun c k y1 y2 => by rw [up_ck (by omega), up_ck (by omega), up_ck (by omega)])
      have ekm : kpm m = m + 1 := by unfold kpm; rw [if_neg q]
      refine ⟨_, ?_, z1, ⟨?_, by omega, fun j hj => ?_⟩, z2⟩
      · try dsimp only
        rw [sg_107_2, en, e6]
        simp only [w6, y6, e5]
        simp (disch := first | omega | assumption | exact cat_n | exact cat_i _ | exact cat_r _ | (simp (disch := omega) only [l_0, l_1, l_m1, l_2, l_3, l_4, l_5, l_6, l_7, l_8, l_9, l_10, l_16, l_20, l_40, l_48, l_99, l_200, l_999, l_9999, li_73, li_78, li_m1000000, li_90, li_251, li_400, li_2400, li_91, li_153, li_173, li_96, li_32, li_92, li_12, li_93, li_80, li_14, li_1000000000, li_30, li_11, li_24, li_13, li_97, li_64, li_1600, li_49, li_255, li_2147483647, li_12345, li_1103515245, li_59, li_57, li_122, li_1023, li_1000000, li_52, li_51, li_50, li_47, li_46, li_45, li_44, li_43, li_42, li_41, li_39, li_38, li_37, li_36, li_35, li_34, li_33, li_29, li_28, li_27, li_26, li_25, li_23, li_22, li_21, li_19, li_18, li_17, li_15, li_m8, li_m2, li_60, li_54, li_2907, li_151, li_127, oN, iI_add, iI_sub, iI_mul, iI_neg, Int.reduceAdd, Int.reduceSub, Int.reduceMul, Int.reduceNeg, Int.toNat_natCast, Int.reduceToNat, iI_lt, iI_le, iI_eq, iI_cl, true_or, or_true, false_or, or_false, true_and, and_true, not_true_eq_false, not_false_eq_true]; first | done | omega)) only [↓if_pos, ↓if_neg, Option.bind_some, Option.toList_some, Option.toList_none, List.cons_append, List.nil_append, l_0, l_1, l_m1, l_2, l_3, l_4, l_5, l_6, l_7, l_8, l_9, l_10, l_16, l_20, l_40, l_48, l_99, l_200, l_999, l_9999, li_73, li_78, li_m1000000, li_90, li_251, li_400, li_2400, li_91, li_153, li_173, li_96, li_32, li_92, li_12, li_93, li_80, li_14, li_1000000000, li_30, li_11, li_24, li_13, li_97, li_64, li_1600, li_49, li_255, li_2147483647, li_12345, li_1103515245, li_59, li_57, li_122, li_1023, li_1000000, li_52, li_51, li_50, li_47, li_46, li_45, li_44, li_43, li_42, li_41, li_39, li_38, li_37, li_36, li_35, li_34, li_33, li_29, li_28, li_27, li_26, li_25, li_23, li_22, li_21, li_19, li_18, li_17, li_15, li_m8, li_m2, li_60, li_54, li_2907, li_151, li_127, oN, iI_add, iI_sub, iI_mul, iI_neg, Int.reduceAdd, Int.reduceSub, Int.reduceMul, Int.reduceNeg, Int.toNat_natCast, Int.reduceToNat, iI_cl, n1, n2]
      · rw [up_at, ekm]; rfl
      · rw [ekm] at hj
        unfold kpl
        rw [if_neg q, up_ck (by omega)]
        by_cases a1 : j = 2 * m + 1
        · subst a1
          rw [up_at]
          show _ = if 2 * m + 1 = 2 * m then _ else if 2 * m + 1 = 2 * m + 1 then _ else _
          rw [if_neg (by omega), if_pos rfl]
        · rw [up_k a1]
          by_cases a2 : j = 2 * m
          · subst a2
            rw [up_at]
            show _ = if 2 * m = 2 * m then _ else _
            rw [if_pos rfl]
          · rw [up_k a2, r2 _ (by omega)]
            show _ = if j = 2 * m then _ else if j = 2 * m + 1 then _ else _
            rw [if_neg a2, if_neg a1]) I ⟨h, fun _ _ _ => rfl⟩
  obtain ⟨I', p1, p2⟩ := B
  try dsimp only at p1
  rw [c0] at p1
  refine ⟨I', ?_, p2⟩
  simp (disch := first | omega | assumption | exact cat_n | exact cat_i _ | exact cat_r _ | (simp (disch := omega) only [l_0, l_1, l_m1, l_2, l_3, l_4, l_5, l_6, l_7, l_8, l_9, l_10, l_16, l_20, l_40, l_48, l_99, l_200, l_999, l_9999, li_73, li_78, li_m1000000, li_90, li_251, li_400, li_2400, li_91, li_153, li_173, li_96, li_32, li_92, li_12, li_93, li_80, li_14, li_1000000000, li_30, li_11, li_24, li_13, li_97, li_64, li_1600, li_49, li_255, li_2147483647, li_12345, li_1103515245, li_59, li_57, li_122, li_1023, li_1000000, li_52, li_51, li_50, li_47, li_46, li_45, li_44, li_43, li_42, li_41, li_39, li_38, li_37, li_36, li_35, li_34, li_33, li_29, li_28, li_27, li_26, li_25, li_23, li_22, li_21, li_19, li_18, li_17, li_15, li_m8, li_m2, li_60, li_54, li_2907, li_151, li_127, oN, iI_add, iI_sub, iI_mul, iI_neg, Int.reduceAdd, Int.reduceSub, Int.reduceMul, Int.reduceNeg, Int.toNat_natCast, Int.reduceToNat, iI_lt, iI_le, iI_eq, iI_cl, true_or, or_true, false_or, or_false, true_and, and_true, not_true_eq_false, not_false_eq_true]; first | done | omega)) only [↓if_pos, ↓if_neg, Option.bind_some, Option.toList_some, Option.toList_none, List.cons_append, List.nil_append, l_0, l_1, l_m1, l_2, l_3, l_4, l_5, l_6, l_7, l_8, l_9, l_10, l_16, l_20, l_40, l_48, l_99, l_200, l_999, l_9999, li_73, li_78, li_m1000000, li_90, li_251, li_400, li_2400, li_91, li_153, li_173, li_96, li_32, li_92, li_12, li_93, li_80, li_14, li_1000000000, li_30, li_11, li_24, li_13, li_97, li_64, li_1600, li_49, li_255, li_2147483647, li_12345, li_1103515245, li_59, li_57, li_122, li_1023, li_1000000, li_52, li_51, li_50, li_47, li_46, li_45, li_44, li_43, li_42, li_41, li_39, li_38, li_37, li_36, li_35, li_34, li_33, li_29, li_28, li_27, li_26, li_25, li_23, li_22, li_21, li_19, li_18, li_17, li_15, li_m8, li_m2, li_60, li_54, li_2907, li_151, li_127, oN, iI_add, iI_sub, iI_mul, iI_neg, Int.reduceAdd, Int.reduceSub, Int.reduceMul, Int.reduceNeg, Int.toNat_natCast, Int.reduceToNat, iI_cl, cl_107, sg_107_e0, p1]
/-- the class lets ticks go -/
theorem k_10 {m : Nat} {L : Nat → Int32} (h : CS K I) (hC : rl_C I) (hk : KC m L I) {n : Nat} (hn : kt K + n ≤ 9999) : ∃ I' : Nat → Nat → Int32, am_do X 10 [.ref 106, .int (iI n)] (am_sh I J) = some (none, am_sh I' J) ∧ CS (gN n (K, m, L)).1 I' ∧ rl_C I' ∧ KC (gN n (K, m, L)).2.1 (gN n (K, m, L)).2.2 I' ∧ ∀ c k, ¬ (c = 16 ∧ (k = 5 ∨ k = 6)) → c ≠ 18 → ¬ (19 ≤ c ∧ c ≤ 78 ∧ (c - 19) % 6 = 1 ∧ k = 8) → ¬ (89 ≤ c ∧ c ≤ 94) → I' c k = I c k := by
  have ht := K_t (CS_k h)
  have B := Lp1 (n := n) (G := fun j (s : (Nat → Nat → Int32) × Value) => am_ev X amP_10 2 [.ref 106, .int (iI n), .int (iI j), s.2] [] (am_sh s.1 J)) (Iv := fun j s => (CS (gN j (K, m, L)).1 s.1 ∧ rl_C s.1 ∧ KC (gN j (K, m, L)).2.1 (gN j (K, m, L)).2.2 s.1 ∧ ∀ c k, ¬ (c = 16 ∧ (k = 5 ∨ k = 6)) → c ≠ 18 → ¬ (19 ≤ c ∧ c ≤ 78 ∧ (c - 19) % 6 = 1 ∧ k = 8) → ¬ (89 ≤ c ∧ c ≤ 94) → s.1 c k = I c k) ∧ s.2.category = 1) (P := fun r => ∃ I' : Nat → Nat → Int32, r = some (none, am_sh I' J) ∧ CS (gN n (K, m, L)).1 I' ∧ rl_C I' ∧ KC (gN n (K, m, L)).2.1 (gN n (K, m, L)).2.2 I' ∧ ∀ c k, ¬ (c = 16 ∧ (k = 5 ∨ k = 6)) → c ≠ 18 → ¬ (19 ≤ c ∧ c ≤ 78 ∧ (c - 19) % 6 = 1 ∧ k = 8) → ¬ (89 ≤ c ∧ c ≤ 94) → I' c k = I c k) (by
    rintro j ⟨I1, w⟩ hj ⟨⟨h1, C1, kk, f1⟩, hw⟩
    right
    try dsimp only at h1 C1 kk f1 hw
    have gc := gN_c j (K, m, L)
    have gx : gN (j + 1) (K, m, L) = gX (gN j (K, m, L)) := rfl
    generalize gN j (K, m, L) = s at *
    obtain ⟨s1, sm, sL⟩ := s
    try dsimp only at h1 C1 kk f1 gc
    obtain ⟨-, -, -, gt⟩ := gc
    obtain ⟨I2, p2, f2⟩ := k_20 (X := X) (J := J) h1
    have h2 : CS s1 I2 := CS_cg h1 (fun c k z => f2 c k (by omega))
    have C2 : rl_C I2 := C_cg h1 C1 h2 (fun c k z => f2 c k (by omega))
    have k2' : KC sm sL I2 := ⟨(f2 16 6 (by omega)).trans kk.1, kk.2.1, fun i hi => (f2 18 i (by omega)).trans (kk.2.2 i hi)⟩
    have t1 := CS_t h1
    by_cases q : g_s s1 = iI 0
    · have hz := (st_zi (by have := K_n (CS_k h1); omega)).mp q
      have ed : g_K s1 = kTm s1 (kt s1 + 1) := by unfold g_K; rw [dn_none hz]
      have t2 := CS_t h2
      have h3 : CS (g_K s1) (am_up I2 16 5 (iI (kt s1 + 1))) := by
        rw [ed]
        exact CS_T h2 (by omega) (by omega) (fun c k z => up_ck (by omega)) (up_at _ _ _ _)
      refine ⟨(am_up I2 16 5 (iI (kt s1 + 1)), .int (iI 0)), ⟨⟨?_, ?_, ?_, fun c k z1 z2 z3 z4 => ?_⟩, rfl⟩, ?_⟩
      · rw [gx, gX_1]; exact h3
      · exact C_up h2 C2 h3 (by rw [ed]; rfl) (by rw [ed]; rfl) (fun b => ⟨kf s1 b 8, by
          rw [ed]
          funext i
          show kf s1 b i = if i = 8 then _ else _
          split
          · rename_i z; rw [z]
          · rfl⟩) (fun c k z => up_ck (by omega))
      · rw [gx, gX_z q]
        show KC sm sL (am_up I2 16 5 (iI (kt s1 + 1)))
        refine ⟨(up_k (by omega)).trans k2'.1, k2'.2.1, fun i hi => (up_ck (by omega)).trans (k2'.2.2 i hi)⟩
      · try dsimp only
        rw [up_ck (by omega), f2 c k z4]; exact f1 c k z1 z2 z3 z4
      · rw [q] at p2
        try dsimp only
        rw [cS, sg_10_2, t1]
        · simp (disch := first | omega | assumption | exact cat_n | exact cat_i _ | exact cat_r _ | (simp (disch := omega) only [l_0, l_1, l_m1, l_2, l_3, l_4, l_5, l_6, l_7, l_8, l_9, l_10, l_16, l_20, l_40, l_48, l_99, l_200, l_999, l_9999, li_73, li_78, li_m1000000, li_90, li_251, li_400, li_2400, li_91, li_153, li_173, li_96, li_32, li_92, li_12, li_93, li_80, li_14, li_1000000000, li_30, li_11, li_24, li_13, li_97, li_64, li_1600, li_49, li_255, li_2147483647, li_12345, li_1103515245, li_59, li_57, li_122, li_1023, li_1000000, li_52, li_51, li_50, li_47, li_46, li_45, li_44, li_43, li_42, li_41, li_39, li_38, li_37, li_36, li_35, li_34, li_33, li_29, li_28, li_27, li_26, li_25, li_23, li_22, li_21, li_19, li_18, li_17, li_15, li_m8, li_m2, li_60, li_54, li_2907, li_151, li_127, oN, iI_add, iI_sub, iI_mul, iI_neg, Int.reduceAdd, Int.reduceSub, Int.reduceMul, Int.reduceNeg, Int.toNat_natCast, Int.reduceToNat, iI_lt, iI_le, iI_eq, iI_cl, true_or, or_true, false_or, or_false, true_and, and_true, not_true_eq_false, not_false_eq_true]; first | done | omega)) only [↓if_pos, ↓if_neg, Option.bind_some, Option.toList_some, Option.toList_none, List.cons_append, List.nil_append, l_0, l_1, l_m1, l_2, l_3, l_4, l_5, l_6, l_7, l_8, l_9, l_10, l_16, l_20, l_40, l_48, l_99, l_200, l_999, l_9999, li_73, li_78, li_m1000000, li_90, li_251, li_400, li_2400, li_91, li_153, li_173, li_96, li_32, li_92, li_12, li_93, li_80, li_14, li_1000000000, li_30, li_11, li_24, li_13, li_97, li_64, li_1600, li_49, li_255, li_2147483647, li_12345, li_1103515245, li_59, li_57, li_122, li_1023, li_1000000, li_52, li_51, li_50, li_47, li_46, li_45, li_44, li_43, li_42, li_41, li_39, li_38, li_37, li_36, li_35, li_34, li_33, li_29, li_28, li_27, li_26, li_25, li_23, li_22, li_21, li_19, li_18, li_17, li_15, li_m8, li_m2, li_60, li_54, li_2907, li_151, li_127, oN, iI_add, iI_sub, iI_mul, iI_neg, Int.reduceAdd, Int.reduceSub, Int.reduceMul, Int.reduceNeg, Int.toNat_natCast, Int.reduceToNat, iI_cl, p2, sg_10_13, t2]
        all_goals assumption
    · obtain ⟨I3, p3, h3, k3, f3⟩ := k_107 (X := X) (J := J) (C := crs s1 (ku s1) (kt s1)) h2 k2'
      obtain ⟨e1, e2, e3, e4⟩ := dn_c (K := s1) (C := crs s1 (ku s1) (kt s1)) (n := kn s1)
      have t3 := CS_t h3
      rw [e4] at t3
      have h4 : CS (g_K s1) (am_up I3 16 5 (iI (kt s1 + 1))) := CS_T h3 (by omega) (by omega) (fun c k z => up_ck (by omega)) (up_at _ _ _ _)
      refine ⟨(am_up I3 16 5 (iI (kt s1 + 1)), .int (g_s s1)), ⟨⟨?_, ?_, ?_, fun c k z1 z2 z3 z4 => ?_⟩, rfl⟩, ?_⟩
      · rw [gx, gX_1]; exact h4
      · exact C_up h2 C2 h4 e1 e2 (fun b => dn_8 b) (fun c k z => (up_ck (a := c) (b := k) (by omega)).trans (f3 c k (by omega) (by omega) (by omega)))
      · rw [gx, gX_n q]
        show KC (kpm sm) (kpl sm sL (iI (kt s1)) (g_s s1)) (am_up I3 16 5 (iI (kt s1 + 1)))
        refine ⟨(up_k (by omega)).trans k3.1, k3.2.1, fun i hi => (up_ck (by omega)).trans (k3.2.2 i hi)⟩
      · try dsimp only
        rw [up_ck (by omega), f3 c k (by omega) z2 z3, f2 c k z4]; exact f1 c k z1 z2 z3 z4
      · have p3' : am_do X 107 [.ref 16, .int (g_s s1)] (am_sh I2 J) = some (none, am_sh I3 J) := p3
        try dsimp only
        rw [cS, sg_10_2, t1]
        · simp (disch := first | omega | assumption | exact cat_n | exact cat_i _ | exact cat_r _ | (simp (disch := omega) only [l_0, l_1, l_m1, l_2, l_3, l_4, l_5, l_6, l_7, l_8, l_9, l_10, l_16, l_20, l_40, l_48, l_99, l_200, l_999, l_9999, li_73, li_78, li_m1000000, li_90, li_251, li_400, li_2400, li_91, li_153, li_173, li_96, li_32, li_92, li_12, li_93, li_80, li_14, li_1000000000, li_30, li_11, li_24, li_13, li_97, li_64, li_1600, li_49, li_255, li_2147483647, li_12345, li_1103515245, li_59, li_57, li_122, li_1023, li_1000000, li_52, li_51, li_50, li_47, li_46, li_45, li_44, li_43, li_42, li_41, li_39, li_38, li_37, li_36, li_35, li_34, li_33, li_29, li_28, li_27, li_26, li_25, li_23, li_22, li_21, li_19, li_18, li_17, li_15, li_m8, li_m2, li_60, li_54, li_2907, li_151, li_127, oN, iI_add, iI_sub, iI_mul, iI_neg, Int.reduceAdd, Int.reduceSub, Int.reduceMul, Int.reduceNeg, Int.toNat_natCast, Int.reduceToNat, iI_lt, iI_le, iI_eq, iI_cl, true_or, or_true, false_or, or_false, true_and, and_true, not_true_eq_false, not_false_eq_true]; first | done | omega)) only [↓if_pos, ↓if_neg, Option.bind_some, Option.toList_some, Option.toList_none, List.cons_append, List.nil_append, l_0, l_1, l_m1, l_2, l_3, l_4, l_5, l_6, l_7, l_8, l_9, l_10, l_16, l_20, l_40, l_48, l_99, l_200, l_999, l_9999, li_73, li_78, li_m1000000, li_90, li_251, li_400, li_2400, li_91, li_153, li_173, li_96, li_32, li_92, li_12, li_93, li_80, li_14, li_1000000000, li_30, li_11, li_24, li_13, li_97, li_64, li_1600, li_49, li_255, li_2147483647, li_12345, li_1103515245, li_59, li_57, li_122, li_1023, li_1000000, li_52, li_51, li_50, li_47, li_46, li_45, li_44, li_43, li_42, li_41, li_39, li_38, li_37, li_36, li_35, li_34, li_33, li_29, li_28, li_27, li_26, li_25, li_23, li_22, li_21, li_19, li_18, li_17, li_15, li_m8, li_m2, li_60, li_54, li_2907, li_151, li_127, oN, iI_add, iI_sub, iI_mul, iI_neg, Int.reduceAdd, Int.reduceSub, Int.reduceMul, Int.reduceNeg, Int.toNat_natCast, Int.reduceToNat, iI_cl, p2, sg_10_13, q, p3', sg_10_20, t3]
        all_goals assumption) (by
    rintro ⟨I1, w⟩ ⟨⟨h1, C1, kk, f1⟩, hw⟩
    try dsimp only at h1 C1 kk f1 hw
    refine ⟨I1, ?_, h1, C1, kk, f1⟩
    try dsimp only
    rw [sg_10_2]
    · simp (disch := first | omega | assumption | exact cat_n | exact cat_i _ | exact cat_r _ | (simp (disch := omega) only [l_0, l_1, l_m1, l_2, l_3, l_4, l_5, l_6, l_7, l_8, l_9, l_10, l_16, l_20, l_40, l_48, l_99, l_200, l_999, l_9999, li_73, li_78, li_m1000000, li_90, li_251, li_400, li_2400, li_91, li_153, li_173, li_96, li_32, li_92, li_12, li_93, li_80, li_14, li_1000000000, li_30, li_11, li_24, li_13, li_97, li_64, li_1600, li_49, li_255, li_2147483647, li_12345, li_1103515245, li_59, li_57, li_122, li_1023, li_1000000, li_52, li_51, li_50, li_47, li_46, li_45, li_44, li_43, li_42, li_41, li_39, li_38, li_37, li_36, li_35, li_34, li_33, li_29, li_28, li_27, li_26, li_25, li_23, li_22, li_21, li_19, li_18, li_17, li_15, li_m8, li_m2, li_60, li_54, li_2907, li_151, li_127, oN, iI_add, iI_sub, iI_mul, iI_neg, Int.reduceAdd, Int.reduceSub, Int.reduceMul, Int.reduceNeg, Int.toNat_natCast, Int.reduceToNat, iI_lt, iI_le, iI_eq, iI_cl, true_or, or_true, false_or, or_false, true_and, and_true, not_true_eq_false, not_false_eq_true]; first | done | omega)) only [↓if_pos, ↓if_neg, Option.bind_some, Option.toList_some, Option.toList_none, List.cons_append, List.nil_append, l_0, l_1, l_m1, l_2, l_3, l_4, l_5, l_6, l_7, l_8, l_9, l_10, l_16, l_20, l_40, l_48, l_99, l_200, l_999, l_9999, li_73, li_78, li_m1000000, li_90, li_251, li_400, li_2400, li_91, li_153, li_173, li_96, li_32, li_92, li_12, li_93, li_80, li_14, li_1000000000, li_30, li_11, li_24, li_13, li_97, li_64, li_1600, li_49, li_255, li_2147483647, li_12345, li_1103515245, li_59, li_57, li_122, li_1023, li_1000000, li_52, li_51, li_50, li_47, li_46, li_45, li_44, li_43, li_42, li_41, li_39, li_38, li_37, li_36, li_35, li_34, li_33, li_29, li_28, li_27, li_26, li_25, li_23, li_22, li_21, li_19, li_18, li_17, li_15, li_m8, li_m2, li_60, li_54, li_2907, li_151, li_127, oN, iI_add, iI_sub, iI_mul, iI_neg, Int.reduceAdd, Int.reduceSub, Int.reduceMul, Int.reduceNeg, Int.toNat_natCast, Int.reduceToNat, iI_cl]
    all_goals assumption) (I, .null) ⟨⟨h, hC, hk, fun _ _ _ _ _ _ => rfl⟩, cat_n⟩
  obtain ⟨I', p1, p2⟩ := B
  try dsimp only at p1
  rw [c0] at p1
  refine ⟨I', ?_, p2⟩
  simp (disch := first | omega | assumption | exact cat_n | exact cat_i _ | exact cat_r _ | (simp (disch := omega) only [l_0, l_1, l_m1, l_2, l_3, l_4, l_5, l_6, l_7, l_8, l_9, l_10, l_16, l_20, l_40, l_48, l_99, l_200, l_999, l_9999, li_73, li_78, li_m1000000, li_90, li_251, li_400, li_2400, li_91, li_153, li_173, li_96, li_32, li_92, li_12, li_93, li_80, li_14, li_1000000000, li_30, li_11, li_24, li_13, li_97, li_64, li_1600, li_49, li_255, li_2147483647, li_12345, li_1103515245, li_59, li_57, li_122, li_1023, li_1000000, li_52, li_51, li_50, li_47, li_46, li_45, li_44, li_43, li_42, li_41, li_39, li_38, li_37, li_36, li_35, li_34, li_33, li_29, li_28, li_27, li_26, li_25, li_23, li_22, li_21, li_19, li_18, li_17, li_15, li_m8, li_m2, li_60, li_54, li_2907, li_151, li_127, oN, iI_add, iI_sub, iI_mul, iI_neg, Int.reduceAdd, Int.reduceSub, Int.reduceMul, Int.reduceNeg, Int.toNat_natCast, Int.reduceToNat, iI_lt, iI_le, iI_eq, iI_cl, true_or, or_true, false_or, or_false, true_and, and_true, not_true_eq_false, not_false_eq_true]; first | done | omega)) only [↓if_pos, ↓if_neg, Option.bind_some, Option.toList_some, Option.toList_none, List.cons_append, List.nil_append, l_0, l_1, l_m1, l_2, l_3, l_4, l_5, l_6, l_7, l_8, l_9, l_10, l_16, l_20, l_40, l_48, l_99, l_200, l_999, l_9999, li_73, li_78, li_m1000000, li_90, li_251, li_400, li_2400, li_91, li_153, li_173, li_96, li_32, li_92, li_12, li_93, li_80, li_14, li_1000000000, li_30, li_11, li_24, li_13, li_97, li_64, li_1600, li_49, li_255, li_2147483647, li_12345, li_1103515245, li_59, li_57, li_122, li_1023, li_1000000, li_52, li_51, li_50, li_47, li_46, li_45, li_44, li_43, li_42, li_41, li_39, li_38, li_37, li_36, li_35, li_34, li_33, li_29, li_28, li_27, li_26, li_25, li_23, li_22, li_21, li_19, li_18, li_17, li_15, li_m8, li_m2, li_60, li_54, li_2907, li_151, li_127, oN, iI_add, iI_sub, iI_mul, iI_neg, Int.reduceAdd, Int.reduceSub, Int.reduceMul, Int.reduceNeg, Int.toNat_natCast, Int.reduceToNat, iI_cl, cl_10, sg_10_e0, p1]
end S88
