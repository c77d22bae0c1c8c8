/-! SIEVES -/
section FG2
variable {f g : Nat → Int} {e : Int}
theorem mul_ab {u v : Int} {a b : Nat} (h1 : u.natAbs ≤ a) (h2 : v.natAbs ≤ b) : (u * v).natAbs ≤ a * b := by
  rw [Int.natAbs_mul]
  exact Nat.mul_le_mul h1 h2
theorem ps_ln_rg (okf : ps_ok f) (okg : ps_ok g) {s : Int} (h0 : 0 ≤ s) (h1 : s < f 2) : (ps_ln f g s).natAbs ≤ 6400 := by
  have r := ps_rg okf h0 h1
  have t := okg.2.2.2.2.1
  have a1 := mul_ab (u := 16 - g 5) (v := ps_z f s) (a := 16) (b := 200) (by omega) r.2.2
  unfold ps_ln
  split
  · have := mul_ab (u := g 5) (v := ps_y f s) (a := 16) (b := 200) (by omega) r.2.1
    omega
  · split
    · have := mul_ab (u := g 5) (v := - ps_x f s) (a := 16) (b := 200) (by omega) (by omega)
      omega
    · split
      · have := mul_ab (u := g 5) (v := - ps_y f s) (a := 16) (b := 200) (by omega) (by omega)
        omega
      · have := mul_ab (u := g 5) (v := ps_x f s) (a := 16) (b := 200) (by omega) r.1
        omega
theorem in_mod (ok : ps_ok f) (t : Nat) : ps_in e f g t ↔ ps_in e f g (t % (f 2).toNat : Nat) := by
  have h := ok.2.1
  unfold ps_in
  rw [show ((t % (f 2).toNat : Nat) : Int) = (t : Int) % f 2 by
    rw [Int.natCast_emod]
    congr 1
    omega, ps_sm]
noncomputable def svv (e : Int) (f g : Nat → Int) : Int := if bl (ps_off e f g) = true then 1 else if bl ((∀ t : Nat, (t : Int) < f 2 → ¬ ps_in e f g t) ∨ (∀ t : Nat, (t : Int) < g 2 → ¬ ps_in e g f t)) = true then 2 else if bl (∀ t : Nat, t < ps_cy f g → ¬ (ps_in e f g t ∧ ps_in e g f t)) = true then 3 else 0
theorem svv_1 (h : ps_off e f g) : svv e f g = 1 := by unfold svv; rw [if_pos (bl_t h)]
theorem svv_2 (h : ¬ ps_off e f g) (h2 : (∀ t : Nat, (t : Int) < f 2 → ¬ ps_in e f g t) ∨ (∀ t : Nat, (t : Int) < g 2 → ¬ ps_in e g f t)) : svv e f g = 2 := by
  unfold svv
  rw [if_neg (by rw [bl_iff]; exact h), if_pos (bl_t h2)]
theorem svv_3 (h : ¬ ps_off e f g) (h2 : ¬ ((∀ t : Nat, (t : Int) < f 2 → ¬ ps_in e f g t) ∨ (∀ t : Nat, (t : Int) < g 2 → ¬ ps_in e g f t))) (h3 : ∀ t : Nat, t < ps_cy f g → ¬ (ps_in e f g t ∧ ps_in e g f t)) : svv e f g = 3 := by
  unfold svv
  rw [if_neg (by rw [bl_iff]; exact h), if_neg (by rw [bl_iff]; exact h2), if_pos (bl_t h3)]
theorem svv_0 (h : ¬ ps_off e f g) (h2 : ¬ ((∀ t : Nat, (t : Int) < f 2 → ¬ ps_in e f g t) ∨ (∀ t : Nat, (t : Int) < g 2 → ¬ ps_in e g f t))) (h3 : ¬ ∀ t : Nat, t < ps_cy f g → ¬ (ps_in e f g t ∧ ps_in e g f t)) : svv e f g = 0 := by
  unfold svv
  rw [if_neg (by rw [bl_iff]; exact h), if_neg (by rw [bl_iff]; exact h2), if_neg (by rw [bl_iff]; exact h3)]
theorem nall {n : Nat} {p : Nat → Prop} (h : ¬ ∀ t : Nat, t < n → ¬ p t) : ∃ t, t < n ∧ p t := by
  apply Classical.byContradiction
  intro q
  exact h (fun t h1 h2 => q ⟨t, h1, h2⟩)
theorem nallI {n : Int} {p : Nat → Prop} (h : ¬ ∀ t : Nat, (t : Int) < n → ¬ p t) : ∃ t : Nat, (t : Int) < n ∧ p t := by
  apply Classical.byContradiction
  intro q
  exact h (fun t h1 h2 => q ⟨t, h1, h2⟩)
theorem sv_iff {v : Int} : sv_is e f g v ↔ v = svv e f g := by
  unfold sv_is
  by_cases h : ps_off e f g
  · rw [svv_1 h]
    constructor
    · rintro (⟨h1, -⟩ | ⟨h1, -⟩)
      · exact h1
      · exact absurd h h1
    · intro hv
      exact Or.inl ⟨hv, h⟩
  · by_cases h2 : (∀ t : Nat, (t : Int) < f 2 → ¬ ps_in e f g t) ∨ (∀ t : Nat, (t : Int) < g 2 → ¬ ps_in e g f t)
    · rw [svv_2 h h2]
      constructor
      · rintro (⟨-, h1⟩ | ⟨-, ⟨hv, -⟩ | ⟨⟨t, t1, t2⟩, ⟨u, u1, u2⟩, -⟩⟩)
        · exact absurd h1 h
        · exact hv
        · rcases h2 with h2 | h2
          · exact absurd t2 (h2 t t1)
          · exact absurd u2 (h2 u u1)
      · intro hv
        exact Or.inr ⟨h, Or.inl ⟨hv, h2⟩⟩
    · have x1 := nallI (fun z => h2 (Or.inl z))
      have x2 := nallI (fun z => h2 (Or.inr z))
      by_cases h3 : ∀ t : Nat, t < ps_cy f g → ¬ (ps_in e f g t ∧ ps_in e g f t)
      · rw [svv_3 h h2 h3]
        constructor
        · rintro (⟨-, h1⟩ | ⟨-, ⟨-, hv⟩ | ⟨-, -, ⟨hv, -⟩ | ⟨-, t, t1, t2⟩⟩⟩)
          · exact absurd h1 h
          · exact absurd hv h2
          · exact hv
          · exact absurd t2 (h3 t t1)
        · intro hv
          exact Or.inr ⟨h, Or.inr ⟨x1, x2, Or.inl ⟨hv, h3⟩⟩⟩
      · rw [svv_0 h h2 h3]
        constructor
        · rintro (⟨-, h1⟩ | ⟨-, ⟨-, hv⟩ | ⟨-, -, ⟨-, hv⟩ | ⟨hv, -⟩⟩⟩)
          · exact absurd h1 h
          · exact absurd hv h2
          · exact absurd hv h3
          · exact hv
        · intro hv
          obtain ⟨t, t1, t2⟩ := nall (n := ps_cy f g) (p := fun t => ps_in e f g t ∧ ps_in e g f t) h3
          exact Or.inr ⟨h, Or.inr ⟨x1, x2, Or.inr ⟨hv, t, t1, t2.1, t2.2⟩⟩⟩
theorem svv_com : svv e f g = svv e g f := by
  have h1 : ps_off e f g = ps_off e g f := propext off_com
  have h2 : ((∀ t : Nat, (t : Int) < f 2 → ¬ ps_in e f g t) ∨ (∀ t : Nat, (t : Int) < g 2 → ¬ ps_in e g f t)) = ((∀ t : Nat, (t : Int) < g 2 → ¬ ps_in e g f t) ∨ (∀ t : Nat, (t : Int) < f 2 → ¬ ps_in e f g t)) := propext Or.comm
  have h3 : (∀ t : Nat, t < ps_cy f g → ¬ (ps_in e f g t ∧ ps_in e g f t)) = (∀ t : Nat, t < ps_cy g f → ¬ (ps_in e g f t ∧ ps_in e f g t)) := by
    rw [ps_cy_com]
    exact propext ⟨fun h t ht z => h t ht ⟨z.2, z.1⟩, fun h t ht z => h t ht ⟨z.2, z.1⟩⟩
  unfold svv
  rw [h1, h2, h3]
theorem svv_rg : 0 ≤ svv e f g ∧ svv e f g ≤ 3 := by
  unfold svv
  split
  · omega
  · split
    · omega
    · split
      · omega
      · omega
end FG2
/-- the ticks of a body's turn -/
def kT (K : Sk) (b : Nat) : Nat := (kf K b 2).toNat
def wi (K : Sk) (a b t : Nat) : Prop := ps_in (ke K) (kf K a) (kf K b) t
def wb2 (K : Sk) (a b t : Nat) : Prop := wi K a b t ∧ wi K b a t
section S38
variable {X : am_X} {K : Sk} {I : Nat → Nat → Int32} {J : Nat → Nat → Int64} {a b o : Nat}
theorem K_T (h : Kok K) (hb : b < kn K) : kf K b 2 = kT K b ∧ 2 ≤ kT K b ∧ kT K b ≤ 48 := by
  have := K_rg h hb
  unfold kT
  omega
theorem k_83 (h : CS K I) (ha : a < kn K) (hb : b < kn K) {t : Nat} (ht : t ≤ 10000) : am_do X 83 [.ref 79, .ref (am_bd a), .ref (am_bd b), .int (iI t)] (am_sh I J) = some (some (.int (bI (wi K a b t))), am_sh I J) := by
  have hn := K_n (CS_k h)
  have he := K_e (CS_k h)
  have s1 := K_s (CS_k h) ha t
  have r := ps_ln_rg (K_f (CS_k h) ha) (K_f (CS_k h) hb) s1.1 s1.2
  by_cases q : wi K a b t
  · rw [bI_t q]
    unfold wi ps_in at q
    simp (disch := first | omega | assumption | exact cat_n | exact cat_i _ | exact cat_r _ | (simp (disch := omega) only [l_0, l_1, l_m1, l_2, l_3, l_4, l_5, l_6, l_7, l_8, l_9, l_10, l_16, l_20, l_40, l_48, l_99, l_200, l_999, l_9999, li_73, li_78, li_m1000000, li_90, li_251, li_400, li_2400, li_91, li_153, li_173, li_96, li_32, li_92, li_12, li_93, li_80, li_14, li_1000000000, li_30, li_11, li_24, li_13, li_97, li_64, li_1600, li_49, li_255, li_2147483647, li_12345, li_1103515245, li_59, li_57, li_122, li_1023, li_1000000, li_52, li_51, li_50, li_47, li_46, li_45, li_44, li_43, li_42, li_41, li_39, li_38, li_37, li_36, li_35, li_34, li_33, li_29, li_28, li_27, li_26, li_25, li_23, li_22, li_21, li_19, li_18, li_17, li_15, li_m8, li_m2, li_60, li_54, li_2907, li_151, li_127, oN, iI_add, iI_sub, iI_mul, iI_neg, Int.reduceAdd, Int.reduceSub, Int.reduceMul, Int.reduceNeg, Int.toNat_natCast, iI_lt, iI_le, iI_eq, iI_cl, true_or, or_true, false_or, or_false, true_and, and_true, not_true_eq_false, not_false_eq_true]; first | done | omega)) only [↓if_pos, ↓if_neg, Option.bind_some, Option.toList_some, Option.toList_none, List.cons_append, List.nil_append, l_0, l_1, l_m1, l_2, l_3, l_4, l_5, l_6, l_7, l_8, l_9, l_10, l_16, l_20, l_40, l_48, l_99, l_200, l_999, l_9999, li_73, li_78, li_m1000000, li_90, li_251, li_400, li_2400, li_91, li_153, li_173, li_96, li_32, li_92, li_12, li_93, li_80, li_14, li_1000000000, li_30, li_11, li_24, li_13, li_97, li_64, li_1600, li_49, li_255, li_2147483647, li_12345, li_1103515245, li_59, li_57, li_122, li_1023, li_1000000, li_52, li_51, li_50, li_47, li_46, li_45, li_44, li_43, li_42, li_41, li_39, li_38, li_37, li_36, li_35, li_34, li_33, li_29, li_28, li_27, li_26, li_25, li_23, li_22, li_21, li_19, li_18, li_17, li_15, li_m8, li_m2, li_60, li_54, li_2907, li_151, li_127, oN, iI_add, iI_sub, iI_mul, iI_neg, Int.reduceAdd, Int.reduceSub, Int.reduceMul, Int.reduceNeg, Int.toNat_natCast, iI_cl, cl_83, sg_83_e0, sg_83_5, sg_83_6, sg_83_7, k_30 h, k_37 h, c_351, CS_e h]
  · rw [bI_f q]
    unfold wi ps_in at q
    simp (disch := first | omega | assumption | exact cat_n | exact cat_i _ | exact cat_r _ | (simp (disch := omega) only [l_0, l_1, l_m1, l_2, l_3, l_4, l_5, l_6, l_7, l_8, l_9, l_10, l_16, l_20, l_40, l_48, l_99, l_200, l_999, l_9999, li_73, li_78, li_m1000000, li_90, li_251, li_400, li_2400, li_91, li_153, li_173, li_96, li_32, li_92, li_12, li_93, li_80, li_14, li_1000000000, li_30, li_11, li_24, li_13, li_97, li_64, li_1600, li_49, li_255, li_2147483647, li_12345, li_1103515245, li_59, li_57, li_122, li_1023, li_1000000, li_52, li_51, li_50, li_47, li_46, li_45, li_44, li_43, li_42, li_41, li_39, li_38, li_37, li_36, li_35, li_34, li_33, li_29, li_28, li_27, li_26, li_25, li_23, li_22, li_21, li_19, li_18, li_17, li_15, li_m8, li_m2, li_60, li_54, li_2907, li_151, li_127, oN, iI_add, iI_sub, iI_mul, iI_neg, Int.reduceAdd, Int.reduceSub, Int.reduceMul, Int.reduceNeg, Int.toNat_natCast, iI_lt, iI_le, iI_eq, iI_cl, true_or, or_true, false_or, or_false, true_and, and_true, not_true_eq_false, not_false_eq_true]; first | done | omega)) only [↓if_pos, ↓if_neg, Option.bind_some, Option.toList_some, Option.toList_none, List.cons_append, List.nil_append, l_0, l_1, l_m1, l_2, l_3, l_4, l_5, l_6, l_7, l_8, l_9, l_10, l_16, l_20, l_40, l_48, l_99, l_200, l_999, l_9999, li_73, li_78, li_m1000000, li_90, li_251, li_400, li_2400, li_91, li_153, li_173, li_96, li_32, li_92, li_12, li_93, li_80, li_14, li_1000000000, li_30, li_11, li_24, li_13, li_97, li_64, li_1600, li_49, li_255, li_2147483647, li_12345, li_1103515245, li_59, li_57, li_122, li_1023, li_1000000, li_52, li_51, li_50, li_47, li_46, li_45, li_44, li_43, li_42, li_41, li_39, li_38, li_37, li_36, li_35, li_34, li_33, li_29, li_28, li_27, li_26, li_25, li_23, li_22, li_21, li_19, li_18, li_17, li_15, li_m8, li_m2, li_60, li_54, li_2907, li_151, li_127, oN, iI_add, iI_sub, iI_mul, iI_neg, Int.reduceAdd, Int.reduceSub, Int.reduceMul, Int.reduceNeg, Int.toNat_natCast, iI_cl, cl_83, sg_83_e0, sg_83_5, sg_83_6, sg_83_7, k_30 h, k_37 h, c_351, CS_e h]
theorem k_84 (h : CS K I) (ha : a < kn K) (hb : b < kn K) {w : Nat} (hw : w = 81 ∨ w = 82) : ∃ I' : Nat → Nat → Int32, am_do X 84 [.ref 79, .ref w, .ref (am_bd a), .ref (am_bd b)] (am_sh I J) = some (some (.int (iI (ci (wi K a b) (kT K a)))), am_sh I' J) ∧ (∀ c k, c ≠ w → I' c k = I c k) ∧ ∀ t, t < kT K a → I' w t = bI (wi K a b t) := by
  have hn := K_n (CS_k h)
  obtain ⟨eT, T1, T2⟩ := K_T (CS_k h) ha
  have hwK : am_K w = (21, 48) := by
    rcases hw with rfl | rfl
    · exact (am_Kc (by omega)).trans rfl
    · exact (am_Kc (by omega)).trans rfl
  have hw1 : w < 162 := by omega
  have L := Lp1 (n := kT K a) (G := fun k (I1 : Nat → Nat → Int32) => am_ev X amP_84 7 [.ref 79, .ref w, .ref (am_bd a), .ref (am_bd b), .int (iI (ci (wi K a b) k)), .int (iI (kT K a)), .int (iI k)] [] (am_sh I1 J)) (Iv := fun k I1 => (∀ c k, c ≠ w → I1 c k = I c k) ∧ ∀ t, t < k → I1 w t = bI (wi K a b t)) (P := fun r => ∃ I' : Nat → Nat → Int32, r = some (some (.int (iI (ci (wi K a b) (kT K a)))), am_sh I' J) ∧ (∀ c k, c ≠ w → I' c k = I c k) ∧ ∀ t, t < kT K a → I' w t = bI (wi K a b t)) (by
    intro k I1 hk ⟨f1, f2⟩
    right
    have h1 : CS K I1 := CS_fr h (fun c k q => f1 c k (fun z => by
      rw [z] at q
      rcases hw with rfl | rfl
      · cases q
      · cases q))
    refine ⟨am_up I1 w k (bI (wi K a b k)), ⟨fun c j hc => by rw [up_ck (by omega)]; exact f1 c j hc, fun t ht => ?_⟩, ?_⟩
    · by_cases e : t = k
      · subst e; rw [up_at]
      · rw [up_ck (by omega)]
        exact f2 t (by omega)
    · try dsimp only
      rw [cS]
      by_cases q : wi K a b k
      · rw [ci_t q]
        have hz : (iI 1 : Int32) = 0 ∨ (iI 1 : Int32) = 1 := Or.inr rfl
        rw [bI_t q, sg_84_7]
        · have h83 := k_83 (X := X) (J := J) h1 ha hb (t := k) (by omega)
          rw [bI_t q] at h83
          simp (disch := first | omega | assumption | exact cat_n | exact cat_i _ | exact cat_r _ | (simp (disch := omega) only [l_0, l_1, l_m1, l_2, l_3, l_4, l_5, l_6, l_7, l_8, l_9, l_10, l_16, l_20, l_40, l_48, l_99, l_200, l_999, l_9999, li_73, li_78, li_m1000000, li_90, li_251, li_400, li_2400, li_91, li_153, li_173, li_96, li_32, li_92, li_12, li_93, li_80, li_14, li_1000000000, li_30, li_11, li_24, li_13, li_97, li_64, li_1600, li_49, li_255, li_2147483647, li_12345, li_1103515245, li_59, li_57, li_122, li_1023, li_1000000, li_52, li_51, li_50, li_47, li_46, li_45, li_44, li_43, li_42, li_41, li_39, li_38, li_37, li_36, li_35, li_34, li_33, li_29, li_28, li_27, li_26, li_25, li_23, li_22, li_21, li_19, li_18, li_17, li_15, li_m8, li_m2, li_60, li_54, li_2907, li_151, li_127, oN, iI_add, iI_sub, iI_mul, iI_neg, Int.reduceAdd, Int.reduceSub, Int.reduceMul, Int.reduceNeg, Int.toNat_natCast, iI_lt, iI_le, iI_eq, iI_cl, true_or, or_true, false_or, or_false, true_and, and_true, not_true_eq_false, not_false_eq_true]; first | done | omega)) only [↓if_pos, ↓if_neg, Option.bind_some, Option.toList_some, Option.toList_none, List.cons_append, List.nil_append, l_0, l_1, l_m1, l_2, l_3, l_4, l_5, l_6, l_7, l_8, l_9, l_10, l_16, l_20, l_40, l_48, l_99, l_200, l_999, l_9999, li_73, li_78, li_m1000000, li_90, li_251, li_400, li_2400, li_91, li_153, li_173, li_96, li_32, li_92, li_12, li_93, li_80, li_14, li_1000000000, li_30, li_11, li_24, li_13, li_97, li_64, li_1600, li_49, li_255, li_2147483647, li_12345, li_1103515245, li_59, li_57, li_122, li_1023, li_1000000, li_52, li_51, li_50, li_47, li_46, li_45, li_44, li_43, li_42, li_41, li_39, li_38, li_37, li_36, li_35, li_34, li_33, li_29, li_28, li_27, li_26, li_25, li_23, li_22, li_21, li_19, li_18, li_17, li_15, li_m8, li_m2, li_60, li_54, li_2907, li_151, li_127, oN, iI_add, iI_sub, iI_mul, iI_neg, Int.reduceAdd, Int.reduceSub, Int.reduceMul, Int.reduceNeg, Int.toNat_natCast, iI_cl, sg_84_17, h83, up_at]
        all_goals first | assumption | omega | exact cat_n | exact cat_i _ | exact cat_r _ | rfl
      · rw [ci_f q]
        have hz : (iI 0 : Int32) = 0 ∨ (iI 0 : Int32) = 1 := Or.inl rfl
        rw [bI_f q, sg_84_7]
        · have h83 := k_83 (X := X) (J := J) h1 ha hb (t := k) (by omega)
          rw [bI_f q] at h83
          simp (disch := first | omega | assumption | exact cat_n | exact cat_i _ | exact cat_r _ | (simp (disch := omega) only [l_0, l_1, l_m1, l_2, l_3, l_4, l_5, l_6, l_7, l_8, l_9, l_10, l_16, l_20, l_40, l_48, l_99, l_200, l_999, l_9999, li_73, li_78, li_m1000000, li_90, li_251, li_400, li_2400, li_91, li_153, li_173, li_96, li_32, li_92, li_12, li_93, li_80, li_14, li_1000000000, li_30, li_11, li_24, li_13, li_97, li_64, li_1600, li_49, li_255, li_2147483647, li_12345, li_1103515245, li_59, li_57, li_122, li_1023, li_1000000, li_52, li_51, li_50, li_47, li_46, li_45, li_44, li_43, li_42, li_41, li_39, li_38, li_37, li_36, li_35, li_34, li_33, li_29, li_28, li_27, li_26, li_25, li_23, li_22, li_21, li_19, li_18, li_17, li_15, li_m8, li_m2, li_60, li_54, li_2907, li_151, li_127, oN, iI_add, iI_sub, iI_mul, iI_neg, Int.reduceAdd, Int.reduceSub, Int.reduceMul, Int.reduceNeg, Int.toNat_natCast, iI_lt, iI_le, iI_eq, iI_cl, true_or, or_true, false_or, or_false, true_and, and_true, not_true_eq_false, not_false_eq_true]; first | done | omega)) only [↓if_pos, ↓if_neg, Option.bind_some, Option.toList_some, Option.toList_none, List.cons_append, List.nil_append, l_0, l_1, l_m1, l_2, l_3, l_4, l_5, l_6, l_7, l_8, l_9, l_10, l_16, l_20, l_40, l_48, l_99, l_200, l_999, l_9999, li_73, li_78, li_m1000000, li_90, li_251, li_400, li_2400, li_91, li_153, li_173, li_96, li_32, li_92, li_12, li_93, li_80, li_14, li_1000000000, li_30, li_11, li_24, li_13, li_97, li_64, li_1600, li_49, li_255, li_2147483647, li_12345, li_1103515245, li_59, li_57, li_122, li_1023, li_1000000, li_52, li_51, li_50, li_47, li_46, li_45, li_44, li_43, li_42, li_41, li_39, li_38, li_37, li_36, li_35, li_34, li_33, li_29, li_28, li_27, li_26, li_25, li_23, li_22, li_21, li_19, li_18, li_17, li_15, li_m8, li_m2, li_60, li_54, li_2907, li_151, li_127, oN, iI_add, iI_sub, iI_mul, iI_neg, Int.reduceAdd, Int.reduceSub, Int.reduceMul, Int.reduceNeg, Int.toNat_natCast, iI_cl, sg_84_17, h83, up_at, Int.add_zero]
        all_goals first | assumption | omega | exact cat_n | exact cat_i _ | exact cat_r _ | rfl) (by
    intro I1 ⟨f1, f2⟩
    refine ⟨I1, ?_, f1, f2⟩
    try dsimp only
    rw [sg_84_7]
    · simp (disch := first | omega | assumption | exact cat_n | exact cat_i _ | exact cat_r _ | (simp (disch := omega) only [l_0, l_1, l_m1, l_2, l_3, l_4, l_5, l_6, l_7, l_8, l_9, l_10, l_16, l_20, l_40, l_48, l_99, l_200, l_999, l_9999, li_73, li_78, li_m1000000, li_90, li_251, li_400, li_2400, li_91, li_153, li_173, li_96, li_32, li_92, li_12, li_93, li_80, li_14, li_1000000000, li_30, li_11, li_24, li_13, li_97, li_64, li_1600, li_49, li_255, li_2147483647, li_12345, li_1103515245, li_59, li_57, li_122, li_1023, li_1000000, li_52, li_51, li_50, li_47, li_46, li_45, li_44, li_43, li_42, li_41, li_39, li_38, li_37, li_36, li_35, li_34, li_33, li_29, li_28, li_27, li_26, li_25, li_23, li_22, li_21, li_19, li_18, li_17, li_15, li_m8, li_m2, li_60, li_54, li_2907, li_151, li_127, oN, iI_add, iI_sub, iI_mul, iI_neg, Int.reduceAdd, Int.reduceSub, Int.reduceMul, Int.reduceNeg, Int.toNat_natCast, iI_lt, iI_le, iI_eq, iI_cl, true_or, or_true, false_or, or_false, true_and, and_true, not_true_eq_false, not_false_eq_true]; first | done | omega)) only [↓if_pos, ↓if_neg, Option.bind_some, Option.toList_some, Option.toList_none, List.cons_append, List.nil_append, l_0, l_1, l_m1, l_2, l_3, l_4, l_5, l_6, l_7, l_8, l_9, l_10, l_16, l_20, l_40, l_48, l_99, l_200, l_999, l_9999, li_73, li_78, li_m1000000, li_90, li_251, li_400, li_2400, li_91, li_153, li_173, li_96, li_32, li_92, li_12, li_93, li_80, li_14, li_1000000000, li_30, li_11, li_24, li_13, li_97, li_64, li_1600, li_49, li_255, li_2147483647, li_12345, li_1103515245, li_59, li_57, li_122, li_1023, li_1000000, li_52, li_51, li_50, li_47, li_46, li_45, li_44, li_43, li_42, li_41, li_39, li_38, li_37, li_36, li_35, li_34, li_33, li_29, li_28, li_27, li_26, li_25, li_23, li_22, li_21, li_19, li_18, li_17, li_15, li_m8, li_m2, li_60, li_54, li_2907, li_151, li_127, oN, iI_add, iI_sub, iI_mul, iI_neg, Int.reduceAdd, Int.reduceSub, Int.reduceMul, Int.reduceNeg, Int.toNat_natCast, iI_cl]
    all_goals first | assumption | omega | exact cat_n | exact cat_i _ | exact cat_r _ | rfl) I ⟨fun _ _ _ => rfl, fun t ht => by omega⟩
  obtain ⟨I', e1, e2⟩ := L
  refine ⟨I', ?_, e2⟩
  try dsimp only at e1
  rw [ci_0, c0] at e1
  have eT2 := CS_tn h ha
  rw [eT] at eT2
  simp (disch := first | omega | assumption | exact cat_n | exact cat_i _ | exact cat_r _ | (simp (disch := omega) only [l_0, l_1, l_m1, l_2, l_3, l_4, l_5, l_6, l_7, l_8, l_9, l_10, l_16, l_20, l_40, l_48, l_99, l_200, l_999, l_9999, li_73, li_78, li_m1000000, li_90, li_251, li_400, li_2400, li_91, li_153, li_173, li_96, li_32, li_92, li_12, li_93, li_80, li_14, li_1000000000, li_30, li_11, li_24, li_13, li_97, li_64, li_1600, li_49, li_255, li_2147483647, li_12345, li_1103515245, li_59, li_57, li_122, li_1023, li_1000000, li_52, li_51, li_50, li_47, li_46, li_45, li_44, li_43, li_42, li_41, li_39, li_38, li_37, li_36, li_35, li_34, li_33, li_29, li_28, li_27, li_26, li_25, li_23, li_22, li_21, li_19, li_18, li_17, li_15, li_m8, li_m2, li_60, li_54, li_2907, li_151, li_127, oN, iI_add, iI_sub, iI_mul, iI_neg, Int.reduceAdd, Int.reduceSub, Int.reduceMul, Int.reduceNeg, Int.toNat_natCast, iI_lt, iI_le, iI_eq, iI_cl, true_or, or_true, false_or, or_false, true_and, and_true, not_true_eq_false, not_false_eq_true]; first | done | omega)) only [↓if_pos, ↓if_neg, Option.bind_some, Option.toList_some, Option.toList_none, List.cons_append, List.nil_append, l_0, l_1, l_m1, l_2, l_3, l_4, l_5, l_6, l_7, l_8, l_9, l_10, l_16, l_20, l_40, l_48, l_99, l_200, l_999, l_9999, li_73, li_78, li_m1000000, li_90, li_251, li_400, li_2400, li_91, li_153, li_173, li_96, li_32, li_92, li_12, li_93, li_80, li_14, li_1000000000, li_30, li_11, li_24, li_13, li_97, li_64, li_1600, li_49, li_255, li_2147483647, li_12345, li_1103515245, li_59, li_57, li_122, li_1023, li_1000000, li_52, li_51, li_50, li_47, li_46, li_45, li_44, li_43, li_42, li_41, li_39, li_38, li_37, li_36, li_35, li_34, li_33, li_29, li_28, li_27, li_26, li_25, li_23, li_22, li_21, li_19, li_18, li_17, li_15, li_m8, li_m2, li_60, li_54, li_2907, li_151, li_127, oN, iI_add, iI_sub, iI_mul, iI_neg, Int.reduceAdd, Int.reduceSub, Int.reduceMul, Int.reduceNeg, Int.toNat_natCast, iI_cl, cl_84, sg_84_e0, eT2, e1]
end S38
