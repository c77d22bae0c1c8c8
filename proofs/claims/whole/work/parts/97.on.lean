/-! op on (51) -/
set_option maxHeartbeats 1000000 in
/-- 51 on -/
theorem op_51 {X : am_X} (hX : X 0 = am_X00 0) : am_Same X Rl_ 206 346 [] := by
  intro n I J hn h
  obtain ⟨hc, hm⟩ := Rl_K h
  have hk := K_n (CS_k hc)
  obtain ⟨t1, t2, t3, t4⟩ := R_T h
  obtain ⟨L, eL⟩ : ∃ L : Nat, (I 1 1).toInt = L := ⟨(I 1 1).toInt.toNat, by omega⟩
  have e11 : I 1 1 = iI L := iI_of eL
  have e12 : I 139 12 = iI L := t1.trans e11
  have tp : TP (fun k => (I 2 k).toInt) L I := ⟨e11, by omega, fun k hk => ⟨(iI_to _).symm, (t4 k (by omega)).2⟩⟩
  have tm : TM (fun k => (I 2 k).toInt) L I := ⟨by omega, fun k hk => ⟨(t4 k (by omega)).1.trans (iI_to _).symm, (t4 k (by omega)).2⟩⟩
  generalize hT : (fun k => (I 2 k).toInt) = T at *
  have e0 : I 139 0 = I 16 1 := (R_S h).2.1
  -- a refusal
  have ref : ∀ I1 : Nat → Nat → Int32, (∀ c k, c ≠ 135 → I1 c k = I c k) → am_do X 206 [.ref 0] (am_sh I J) = some (some (.int (iI 0)), am_sh (rf1 (am_up I1 1 1 (iI 0)) 5) J) → am_do X 345 [.ref 139, .int (iI L)] (am_sh (am_up (rf1 (am_up I1 1 1 (iI 0)) 5) 139 12 (iI 0)) J) = some (some (.int (iI 0)), am_sh (am_up (rf1 (am_up I1 1 1 (iI 0)) 5) 139 12 (iI 0)) J) → ∃ (v : Int32) (I1 : Nat → Nat → Int32) (J1 : Nat → Nat → Int64) (I2 : Nat → Nat → Int32) (J2 : Nat → Nat → Int64), am_do X 206 [.ref 0] (am_sh I J) = some (some (.int v), am_sh I1 J1) ∧ am_do X 346 [.ref 139] (am_sh I1 J1) = some (some (.int v), am_sh I2 J2) ∧ Rl_ (n + 1) I2 J2 := by
    intro I1 f1 p1 p2
    generalize hI2 : rf1 (am_up I1 1 1 (iI 0)) 5 = I2 at *
    have c219 := c_219 X (am_up I2 139 12 (iI 0)) J (k := 5) (by omega)
    rw [show ((5 : Nat) : Int) = 5 from rfl, l_0] at c219
    have e12' : I2 139 12 = iI L := by rw [← hI2, rf1_ne (by omega), up_ck (by omega), f1 _ _ (by omega)]; exact e12
    generalize hI3 : rf2 (am_up I2 139 12 (iI 0)) 5 = I3 at *
    refine ⟨iI 0, I2, J, I3, J, p1, ?_, ?_⟩
    · simp (disch := first | omega | assumption | exact cat_n | exact cat_i _ | exact cat_r _ | (simp (disch := omega) only [l_0, l_1, l_m1, l_2, l_3, l_4, l_5, l_6, l_7, l_8, l_9, l_10, l_16, l_20, l_40, l_48, l_99, l_200, l_999, l_9999, li_73, li_78, li_m1000000, li_90, li_251, li_400, li_2400, li_91, li_153, li_173, li_96, li_32, li_92, li_12, li_93, li_80, li_14, li_1000000000, li_30, li_11, li_24, li_13, li_97, li_64, li_1600, li_49, li_255, li_2147483647, li_12345, li_1103515245, li_59, li_57, li_122, li_1023, li_1000000, li_52, li_51, li_50, li_47, li_46, li_45, li_44, li_43, li_42, li_41, li_39, li_38, li_37, li_36, li_35, li_34, li_33, li_29, li_28, li_27, li_26, li_25, li_23, li_22, li_21, li_19, li_18, li_17, li_15, li_m8, li_m2, li_60, li_54, li_2907, li_151, li_127, oN, iI_add, iI_sub, iI_mul, iI_neg, Int.reduceAdd, Int.reduceSub, Int.reduceMul, Int.reduceNeg, Int.toNat_natCast, Int.reduceToNat, iI_lt, iI_le, iI_eq, iI_cl, true_or, or_true, false_or, or_false, true_and, and_true, not_true_eq_false, not_false_eq_true]; first | done | omega)) only [↓if_pos, ↓if_neg, Option.bind_some, Option.toList_some, Option.toList_none, List.cons_append, List.nil_append, l_0, l_1, l_m1, l_2, l_3, l_4, l_5, l_6, l_7, l_8, l_9, l_10, l_16, l_20, l_40, l_48, l_99, l_200, l_999, l_9999, li_73, li_78, li_m1000000, li_90, li_251, li_400, li_2400, li_91, li_153, li_173, li_96, li_32, li_92, li_12, li_93, li_80, li_14, li_1000000000, li_30, li_11, li_24, li_13, li_97, li_64, li_1600, li_49, li_255, li_2147483647, li_12345, li_1103515245, li_59, li_57, li_122, li_1023, li_1000000, li_52, li_51, li_50, li_47, li_46, li_45, li_44, li_43, li_42, li_41, li_39, li_38, li_37, li_36, li_35, li_34, li_33, li_29, li_28, li_27, li_26, li_25, li_23, li_22, li_21, li_19, li_18, li_17, li_15, li_m8, li_m2, li_60, li_54, li_2907, li_151, li_127, oN, iI_add, iI_sub, iI_mul, iI_neg, Int.reduceAdd, Int.reduceSub, Int.reduceMul, Int.reduceNeg, Int.toNat_natCast, Int.reduceToNat, iI_cl, cl_346, sg_346_e0, cl_223, sg_223_e0, e12', sg_346_2, p2, sg_346_6, c219]
      rw [sg_346_10 (x4 := iI 0) (z0 := Or.inl rfl)]
      all_goals first | assumption | omega | exact cat_n | exact cat_i _ | exact cat_r _ | rfl
    · have hr := Rl_ref (k := 5) (by omega) h
      refine Rl_T0 hr (fun c j w1 w2 w0 => ?_) ?_ ?_
      · have w3 : c ≠ 135 := fun z => by subst z; cases w0
        rw [← hI3, ← hI2]
        unfold rf2 rf1
        by_cases w4 : c = 146 ∧ j = 5
        · obtain ⟨rfl, rfl⟩ := w4
          rw [up_at, up_at, up_ck (by omega), up_ck (by omega), up_ck (by omega), up_ck (by omega), f1 _ _ (by omega)]
        · by_cases w5 : c = 138 ∧ j = 5
          · obtain ⟨rfl, rfl⟩ := w5
            rw [up_ck (by omega), up_ck (by omega), up_at, up_ck (by omega), up_ck (by omega), up_at, f1 _ _ (by omega)]
          · rw [up_ck (by omega), up_ck (by omega), up_ck (by omega), up_ck (by omega), up_ck (by omega), up_ck (by omega), f1 c j w3]
      · rw [← hI3, ← hI2]
        unfold rf2 rf1
        rw [up_ck (by omega), up_ck (by omega), up_ck (by omega), up_at]
      · rw [← hI3]
        unfold rf2
        rw [up_ck (by omega), up_at]
  have c208 : ∀ I1 : Nat → Nat → Int32, am_do X 208 [.ref 0, .int (iI 5)] (am_sh I1 J) = some (some (.int (iI (-1))), am_sh (rf1 I1 5) J) := fun I1 => c_208 X I1 J (k := 5) (by omega)
  have told : I 16 1 = iI 0 ∨ I 16 1 = iI 1 := (R_S h).1
  rcases told with t | t
  · refine ref I (fun _ _ _ => rfl) ?_ ?_
    · simp (disch := first | omega | assumption | exact cat_n | exact cat_i _ | exact cat_r _ | (simp (disch := omega) only [l_0, l_1, l_m1, l_2, l_3, l_4, l_5, l_6, l_7, l_8, l_9, l_10, l_16, l_20, l_40, l_48, l_99, l_200, l_999, l_9999, li_73, li_78, li_m1000000, li_90, li_251, li_400, li_2400, li_91, li_153, li_173, li_96, li_32, li_92, li_12, li_93, li_80, li_14, li_1000000000, li_30, li_11, li_24, li_13, li_97, li_64, li_1600, li_49, li_255, li_2147483647, li_12345, li_1103515245, li_59, li_57, li_122, li_1023, li_1000000, li_52, li_51, li_50, li_47, li_46, li_45, li_44, li_43, li_42, li_41, li_39, li_38, li_37, li_36, li_35, li_34, li_33, li_29, li_28, li_27, li_26, li_25, li_23, li_22, li_21, li_19, li_18, li_17, li_15, li_m8, li_m2, li_60, li_54, li_2907, li_151, li_127, oN, iI_add, iI_sub, iI_mul, iI_neg, Int.reduceAdd, Int.reduceSub, Int.reduceMul, Int.reduceNeg, Int.toNat_natCast, Int.reduceToNat, iI_lt, iI_le, iI_eq, iI_cl, true_or, or_true, false_or, or_false, true_and, and_true, not_true_eq_false, not_false_eq_true]; first | done | omega)) only [↓if_pos, ↓if_neg, Option.bind_some, Option.toList_some, Option.toList_none, List.cons_append, List.nil_append, l_0, l_1, l_m1, l_2, l_3, l_4, l_5, l_6, l_7, l_8, l_9, l_10, l_16, l_20, l_40, l_48, l_99, l_200, l_999, l_9999, li_73, li_78, li_m1000000, li_90, li_251, li_400, li_2400, li_91, li_153, li_173, li_96, li_32, li_92, li_12, li_93, li_80, li_14, li_1000000000, li_30, li_11, li_24, li_13, li_97, li_64, li_1600, li_49, li_255, li_2147483647, li_12345, li_1103515245, li_59, li_57, li_122, li_1023, li_1000000, li_52, li_51, li_50, li_47, li_46, li_45, li_44, li_43, li_42, li_41, li_39, li_38, li_37, li_36, li_35, li_34, li_33, li_29, li_28, li_27, li_26, li_25, li_23, li_22, li_21, li_19, li_18, li_17, li_15, li_m8, li_m2, li_60, li_54, li_2907, li_151, li_127, oN, iI_add, iI_sub, iI_mul, iI_neg, Int.reduceAdd, Int.reduceSub, Int.reduceMul, Int.reduceNeg, Int.toNat_natCast, Int.reduceToNat, iI_cl, cl_206, sg_206_e0, sg_206_37, t, c208]
    · have s0 : am_up (rf1 (am_up I 1 1 (iI 0)) 5) 139 12 (iI 0) 139 0 = iI 0 := by
        rw [up_k (by omega), rf1_ne (by omega), up_ck (by omega), e0, t]
      rw [cl_345, sg_345_e0, s0]
      simp (disch := first | omega | assumption | exact cat_n | exact cat_i _ | exact cat_r _ | (simp (disch := omega) only [l_0, l_1, l_m1, l_2, l_3, l_4, l_5, l_6, l_7, l_8, l_9, l_10, l_16, l_20, l_40, l_48, l_99, l_200, l_999, l_9999, li_73, li_78, li_m1000000, li_90, li_251, li_400, li_2400, li_91, li_153, li_173, li_96, li_32, li_92, li_12, li_93, li_80, li_14, li_1000000000, li_30, li_11, li_24, li_13, li_97, li_64, li_1600, li_49, li_255, li_2147483647, li_12345, li_1103515245, li_59, li_57, li_122, li_1023, li_1000000, li_52, li_51, li_50, li_47, li_46, li_45, li_44, li_43, li_42, li_41, li_39, li_38, li_37, li_36, li_35, li_34, li_33, li_29, li_28, li_27, li_26, li_25, li_23, li_22, li_21, li_19, li_18, li_17, li_15, li_m8, li_m2, li_60, li_54, li_2907, li_151, li_127, oN, iI_add, iI_sub, iI_mul, iI_neg, Int.reduceAdd, Int.reduceSub, Int.reduceMul, Int.reduceNeg, Int.toNat_natCast, Int.reduceToNat, iI_lt, iI_le, iI_eq, iI_cl, true_or, or_true, false_or, or_false, true_and, and_true, not_true_eq_false, not_false_eq_true]; first | done | omega)) only [↓if_pos, ↓if_neg, Option.bind_some, Option.toList_some, Option.toList_none, List.cons_append, List.nil_append, l_0, l_1, l_m1, l_2, l_3, l_4, l_5, l_6, l_7, l_8, l_9, l_10, l_16, l_20, l_40, l_48, l_99, l_200, l_999, l_9999, li_73, li_78, li_m1000000, li_90, li_251, li_400, li_2400, li_91, li_153, li_173, li_96, li_32, li_92, li_12, li_93, li_80, li_14, li_1000000000, li_30, li_11, li_24, li_13, li_97, li_64, li_1600, li_49, li_255, li_2147483647, li_12345, li_1103515245, li_59, li_57, li_122, li_1023, li_1000000, li_52, li_51, li_50, li_47, li_46, li_45, li_44, li_43, li_42, li_41, li_39, li_38, li_37, li_36, li_35, li_34, li_33, li_29, li_28, li_27, li_26, li_25, li_23, li_22, li_21, li_19, li_18, li_17, li_15, li_m8, li_m2, li_60, li_54, li_2907, li_151, li_127, oN, iI_add, iI_sub, iI_mul, iI_neg, Int.reduceAdd, Int.reduceSub, Int.reduceMul, Int.reduceNeg, Int.toNat_natCast, Int.reduceToNat, iI_cl]
  obtain ⟨I1, p1, f1⟩ := k_74 (X := X) (J := J) hX hc tp
  by_cases q : img (kI I) T L
  · rw [bI_t q] at p1
    have t0 : I 16 1 ≠ 0 := fun w => by
      rw [t] at w
      exact absurd w (by decide)
    have hc1 : CS (kI I) I1 := CS_cg hc (fun c k z => f1 c k (by omega))
    have tp1 : TP T L I1 := ⟨(f1 _ _ (by omega)).trans tp.1, tp.2.1, fun k hk => by rw [f1 _ _ (by omega)]; exact tp.2.2 k hk⟩
    obtain ⟨I2, p2, c2, f2⟩ := k_77 (X := X) (J := J) hX hc1 tp1 q
    obtain ⟨⟨v1, v2⟩, -, -⟩ := R_V h
    obtain ⟨v, ev⟩ : ∃ v : Int, (I 16 8).toInt = v := ⟨_, rfl⟩
    rw [ev] at v1 v2
    have e8 : I2 16 8 = iI v := ((f2 16 8 (by omega) (by omega) (by omega)).trans (f1 16 8 (by omega))).trans (iI_of ev)
    obtain ⟨I3, hI3⟩ : ∃ I3, am_up (am_up (am_up I2 106 5 (iI 0)) 106 6 (iI 0)) 16 6 (iI 0) = I3 := ⟨_, rfl⟩
    have f3 : ∀ c k, ¬ (c = 106 ∧ (k = 5 ∨ k = 6)) → ¬ (c = 16 ∧ k = 6) → I3 c k = I2 c k := fun c k z1 z2 => by rw [← hI3, up_ck (by omega), up_ck (by omega), up_ck (by omega)]
    obtain ⟨I4, p4, j8, jA, jF⟩ := k_2 (X := X) (J := J) (I := I3) ((f3 _ _ (by omega) (by omega)).trans e8) (by omega) (by omega)
    have c4 : CS (kim (kI I) T) I4 := CS_cg c2 (fun c k z => by rw [jF c k (by omega) (by omega) (by omega), f3 c k (by omega) (by omega)])
    have u5 : I4 106 5 = iI 0 := by rw [jF _ _ (by omega) (by omega) (by omega), ← hI3, up_ck (by omega), up_k (by omega), up_at]
    have u6 : I4 106 6 = iI 0 := by rw [jF _ _ (by omega) (by omega) (by omega), ← hI3, up_ck (by omega), up_at]
    have k6 : I4 16 6 = iI 0 := by rw [jF _ _ (by omega) (by omega) (by omega), ← hI3, up_at]
    have F4 : ∀ c k, ¬ (c = 16 ∧ (k = 3 ∨ k = 6 ∨ k = 8)) → c ≠ 135 → ¬ (19 ≤ c ∧ c ≤ 78 ∧ ¬ ((c - 19) % 6 = 0 ∧ k = 0)) → ¬ (c = 106 ∧ (k = 5 ∨ k = 6)) → c ≠ 80 → c ≠ 84 → I4 c k = I c k := fun c k z1 z2 z3 z4 z5 z6 => by rw [jF c k (by omega) z5 z6, f3 c k z4 (by omega), f2 c k (by omega) z2 z3, f1 c k z2]
    have M4 : ∀ c k, 138 ≤ c → I4 c k = I c k := fun c k z => F4 c k (by omega) (by omega) (by omega) (by omega) (by omega) (by omega)
    -- the tape is emptied
    obtain ⟨I5, hI5⟩ : ∃ I5, am_up I4 1 1 (iI 0) = I5 := ⟨_, rfl⟩
    have f5 : ∀ c k, ¬ (c = 1 ∧ k = 1) → I5 c k = I4 c k := fun c k z => by rw [← hI5, up_ck (by omega)]
    -- the model
    obtain ⟨I6, hI6⟩ : ∃ I6, am_up I5 139 12 (iI 0) = I6 := ⟨_, rfl⟩
    have f6 : ∀ c k, ¬ (c = 1 ∧ k = 1) → ¬ (c = 139 ∧ k = 12) → I6 c k = I4 c k := fun c k z1 z2 => by rw [← hI6, up_ck (by omega), f5 c k z1]
    have m6 : MS (kI I) I6 := MS_cg hm (fun c k z => by rw [f6 c k (by omega) (by omega), M4 c k (by omega)])
    have tm6 : TM T L I6 := ⟨tm.1, fun k hk => by rw [f6 _ _ (by omega) (by omega), M4 _ _ (by omega)]; exact tm.2 k hk⟩
    have e06 : I6 139 0 = iI 1 := by rw [f6 _ _ (by omega) (by omega), M4 _ _ (by omega), e0, t]
    have p6 := m_345 (X := X) (J := J) m6 tm6 e06
    rw [bI_t q] at p6
    have hL := q.1
    obtain ⟨I7, p7, m7, ⟨x2, x24⟩, f7⟩ := m_346 (X := X) (J := J) m6 tm6 q (kim_ok (CS_k hc) q tp) (x1 := iI L)
    rw [c0] at p7
    -- in step but for the tape
    obtain ⟨I8, hI8⟩ : ∃ I8, am_up (am_up I7 1 1 (I 1 1)) 139 12 (I 139 12) = I8 := ⟨_, rfl⟩
    have f8 : ∀ c k, ¬ (c = 1 ∧ k = 1) → ¬ (c = 139 ∧ k = 12) → I8 c k = I7 c k := fun c k z1 z2 => by rw [← hI8, up_ck (by omega), up_ck (by omega)]
    have lo : ∀ c k, c ≤ 138 → ¬ (c = 1 ∧ k = 1) → I8 c k = I4 c k := fun c k z1 z2 => by rw [f8 c k z2 (by omega), f7 c k (by omega) (by omega) (by omega), f6 c k z2 (by omega)]
    have F8 : ∀ c k, ¬ (c = 1 ∧ k = 1) → ¬ (c = 139 ∧ (k = 12 ∨ k = 24)) → c ≠ 148 → c ≠ 150 → I8 c k = I4 c k := fun c k z1 z2 z3 z4 => by rw [f8 c k z1 (by omega), f7 c k z3 z4 (by omega), f6 c k z1 (by omega)]
    have c8 : CS (kim (kI I) T) I8 := CS_cg c4 (fun c k z => lo c k (by omega) (by omega))
    have m8 : MS (kim (kI I) T) I8 := MS_cg m7 (fun c k z => f8 c k (by omega) (by omega))
    have C4 : rl_C I4 := C_all c4 jA (fun k hk => by
      rw [F4 _ _ (by omega) (by omega) (by omega) (by omega) (by omega) (by omega)]
      exact (R_C h).2.2 k hk)
    have R8 : Rl_ (n + 1) I8 J := by
      refine Rl_act2 h hn t0 (fun c k z => ?_) (D_congr ?_ ?_ (R_D h)) c8 m8 ?_ ?_ (C_cg c4 C4 c8 (fun c k z => lo c k (by omega) (by omega))) ?_
      · by_cases y1 : c = 1 ∧ k = 1
        · obtain ⟨rfl, rfl⟩ := y1
          rw [← hI8, up_ck (by omega), up_at]
        · by_cases y2 : c = 139 ∧ k = 12
          · obtain ⟨rfl, rfl⟩ := y2
            rw [← hI8, up_at]
          · unfold AF2 AF at z
            rw [F8 c k y1 (by omega) (by omega) (by omega)]
            exact F4 c k (by omega) (by omega) (by omega) (by omega) (by omega) (by omega)
      · rw [F8 _ _ (by omega) (by omega) (by omega) (by omega), F4 _ _ (by omega) (by omega) (by omega) (by omega) (by omega) (by omega)]
      · rw [F8 _ _ (by omega) (by omega) (by omega) (by omega), F4 _ _ (by omega) (by omega) (by omega) (by omega) (by omega) (by omega)]
      · refine KP_of (m := 0) (L := fun _ => 0) ⟨?_, by omega, fun j hj => by omega⟩ ⟨?_, by omega, fun j hj => by omega⟩
        · rw [lo _ _ (by omega) (by omega), k6]; rfl
        · rw [f8 _ _ (by omega) (by omega), x2]; rfl
      · have w6 : I8 106 6 = iI 0 := (lo _ _ (by omega) (by omega)).trans u6
        have w5 : I8 106 5 = iI 0 := (lo _ _ (by omega) (by omega)).trans u5
        have w24 : I8 139 24 = iI 0 := (f8 _ _ (by omega) (by omega)).trans x24
        have eu : un I8 = 0 := by unfold un; rw [w6]; rfl
        have eo : uo I8 = 0 := by unfold uo; rw [w5]; rfl
        unfold rl_U
        rw [eu, eo, w6, w5, w24]
        exact ⟨rfl, ⟨rfl, by omega⟩, ⟨rfl, by omega⟩, fun v hv => by omega⟩
      · rw [lo _ _ (by omega) (by omega), j8, ev]
    refine ⟨iI 1, I5, J, I7, J, ?_, ?_, Rl_T0 R8 (fun c j w1 w2 _ => (f8 c j w1 w2).symm) ?_ ?_⟩
    · have e1 : am_do X 1 [.ref 106] (am_sh I2 J) = some (none, am_sh I4 J) := by
        simp (disch := first | omega | assumption | exact cat_n | exact cat_i _ | exact cat_r _ | (simp (disch := omega) only [l_0, l_1, l_m1, l_2, l_3, l_4, l_5, l_6, l_7, l_8, l_9, l_10, l_16, l_20, l_40, l_48, l_99, l_200, l_999, l_9999, li_73, li_78, li_m1000000, li_90, li_251, li_400, li_2400, li_91, li_153, li_173, li_96, li_32, li_92, li_12, li_93, li_80, li_14, li_1000000000, li_30, li_11, li_24, li_13, li_97, li_64, li_1600, li_49, li_255, li_2147483647, li_12345, li_1103515245, li_59, li_57, li_122, li_1023, li_1000000, li_52, li_51, li_50, li_47, li_46, li_45, li_44, li_43, li_42, li_41, li_39, li_38, li_37, li_36, li_35, li_34, li_33, li_29, li_28, li_27, li_26, li_25, li_23, li_22, li_21, li_19, li_18, li_17, li_15, li_m8, li_m2, li_60, li_54, li_2907, li_151, li_127, oN, iI_add, iI_sub, iI_mul, iI_neg, Int.reduceAdd, Int.reduceSub, Int.reduceMul, Int.reduceNeg, Int.toNat_natCast, Int.reduceToNat, iI_lt, iI_le, iI_eq, iI_cl, true_or, or_true, false_or, or_false, true_and, and_true, not_true_eq_false, not_false_eq_true]; first | done | omega)) only [↓if_pos, ↓if_neg, Option.bind_some, Option.toList_some, Option.toList_none, List.cons_append, List.nil_append, l_0, l_1, l_m1, l_2, l_3, l_4, l_5, l_6, l_7, l_8, l_9, l_10, l_16, l_20, l_40, l_48, l_99, l_200, l_999, l_9999, li_73, li_78, li_m1000000, li_90, li_251, li_400, li_2400, li_91, li_153, li_173, li_96, li_32, li_92, li_12, li_93, li_80, li_14, li_1000000000, li_30, li_11, li_24, li_13, li_97, li_64, li_1600, li_49, li_255, li_2147483647, li_12345, li_1103515245, li_59, li_57, li_122, li_1023, li_1000000, li_52, li_51, li_50, li_47, li_46, li_45, li_44, li_43, li_42, li_41, li_39, li_38, li_37, li_36, li_35, li_34, li_33, li_29, li_28, li_27, li_26, li_25, li_23, li_22, li_21, li_19, li_18, li_17, li_15, li_m8, li_m2, li_60, li_54, li_2907, li_151, li_127, oN, iI_add, iI_sub, iI_mul, iI_neg, Int.reduceAdd, Int.reduceSub, Int.reduceMul, Int.reduceNeg, Int.toNat_natCast, Int.reduceToNat, iI_cl, cl_1, sg_1_e0, sg_1_12, hI3, p4]
      simp (disch := first | omega | assumption | exact cat_n | exact cat_i _ | exact cat_r _ | (simp (disch := omega) only [l_0, l_1, l_m1, l_2, l_3, l_4, l_5, l_6, l_7, l_8, l_9, l_10, l_16, l_20, l_40, l_48, l_99, l_200, l_999, l_9999, li_73, li_78, li_m1000000, li_90, li_251, li_400, li_2400, li_91, li_153, li_173, li_96, li_32, li_92, li_12, li_93, li_80, li_14, li_1000000000, li_30, li_11, li_24, li_13, li_97, li_64, li_1600, li_49, li_255, li_2147483647, li_12345, li_1103515245, li_59, li_57, li_122, li_1023, li_1000000, li_52, li_51, li_50, li_47, li_46, li_45, li_44, li_43, li_42, li_41, li_39, li_38, li_37, li_36, li_35, li_34, li_33, li_29, li_28, li_27, li_26, li_25, li_23, li_22, li_21, li_19, li_18, li_17, li_15, li_m8, li_m2, li_60, li_54, li_2907, li_151, li_127, oN, iI_add, iI_sub, iI_mul, iI_neg, Int.reduceAdd, Int.reduceSub, Int.reduceMul, Int.reduceNeg, Int.toNat_natCast, Int.reduceToNat, iI_lt, iI_le, iI_eq, iI_cl, true_or, or_true, false_or, or_false, true_and, and_true, not_true_eq_false, not_false_eq_true]; first | done | omega)) only [↓if_pos, ↓if_neg, Option.bind_some, Option.toList_some, Option.toList_none, List.cons_append, List.nil_append, l_0, l_1, l_m1, l_2, l_3, l_4, l_5, l_6, l_7, l_8, l_9, l_10, l_16, l_20, l_40, l_48, l_99, l_200, l_999, l_9999, li_73, li_78, li_m1000000, li_90, li_251, li_400, li_2400, li_91, li_153, li_173, li_96, li_32, li_92, li_12, li_93, li_80, li_14, li_1000000000, li_30, li_11, li_24, li_13, li_97, li_64, li_1600, li_49, li_255, li_2147483647, li_12345, li_1103515245, li_59, li_57, li_122, li_1023, li_1000000, li_52, li_51, li_50, li_47, li_46, li_45, li_44, li_43, li_42, li_41, li_39, li_38, li_37, li_36, li_35, li_34, li_33, li_29, li_28, li_27, li_26, li_25, li_23, li_22, li_21, li_19, li_18, li_17, li_15, li_m8, li_m2, li_60, li_54, li_2907, li_151, li_127, oN, iI_add, iI_sub, iI_mul, iI_neg, Int.reduceAdd, Int.reduceSub, Int.reduceMul, Int.reduceNeg, Int.toNat_natCast, Int.reduceToNat, iI_cl, cl_206, sg_206_e0, sg_206_11, sg_206_25, sg_206_28, t, p1, p2, e1]
      rw [hI5]
    · have e12' : I5 139 12 = iI L := by rw [f5 _ _ (by omega), M4 _ _ (by omega)]; exact e12
      have e145 : I6 145 0 = iI (T 0) := (tm6.2 0 (by omega)).1
      simp (disch := first | omega | assumption | exact cat_n | exact cat_i _ | exact cat_r _ | (simp (disch := omega) only [l_0, l_1, l_m1, l_2, l_3, l_4, l_5, l_6, l_7, l_8, l_9, l_10, l_16, l_20, l_40, l_48, l_99, l_200, l_999, l_9999, li_73, li_78, li_m1000000, li_90, li_251, li_400, li_2400, li_91, li_153, li_173, li_96, li_32, li_92, li_12, li_93, li_80, li_14, li_1000000000, li_30, li_11, li_24, li_13, li_97, li_64, li_1600, li_49, li_255, li_2147483647, li_12345, li_1103515245, li_59, li_57, li_122, li_1023, li_1000000, li_52, li_51, li_50, li_47, li_46, li_45, li_44, li_43, li_42, li_41, li_39, li_38, li_37, li_36, li_35, li_34, li_33, li_29, li_28, li_27, li_26, li_25, li_23, li_22, li_21, li_19, li_18, li_17, li_15, li_m8, li_m2, li_60, li_54, li_2907, li_151, li_127, oN, iI_add, iI_sub, iI_mul, iI_neg, Int.reduceAdd, Int.reduceSub, Int.reduceMul, Int.reduceNeg, Int.toNat_natCast, Int.reduceToNat, iI_lt, iI_le, iI_eq, iI_cl, true_or, or_true, false_or, or_false, true_and, and_true, not_true_eq_false, not_false_eq_true]; first | done | omega)) only [↓if_pos, ↓if_neg, Option.bind_some, Option.toList_some, Option.toList_none, List.cons_append, List.nil_append, l_0, l_1, l_m1, l_2, l_3, l_4, l_5, l_6, l_7, l_8, l_9, l_10, l_16, l_20, l_40, l_48, l_99, l_200, l_999, l_9999, li_73, li_78, li_m1000000, li_90, li_251, li_400, li_2400, li_91, li_153, li_173, li_96, li_32, li_92, li_12, li_93, li_80, li_14, li_1000000000, li_30, li_11, li_24, li_13, li_97, li_64, li_1600, li_49, li_255, li_2147483647, li_12345, li_1103515245, li_59, li_57, li_122, li_1023, li_1000000, li_52, li_51, li_50, li_47, li_46, li_45, li_44, li_43, li_42, li_41, li_39, li_38, li_37, li_36, li_35, li_34, li_33, li_29, li_28, li_27, li_26, li_25, li_23, li_22, li_21, li_19, li_18, li_17, li_15, li_m8, li_m2, li_60, li_54, li_2907, li_151, li_127, oN, iI_add, iI_sub, iI_mul, iI_neg, Int.reduceAdd, Int.reduceSub, Int.reduceMul, Int.reduceNeg, Int.toNat_natCast, Int.reduceToNat, iI_cl, cl_346, sg_346_e0, cl_223, sg_223_e0, e12', hI6, sg_346_2, p6, sg_346_6, e145, p7]
    · rw [f7 _ _ (by omega) (by omega) (by omega), ← hI6, up_ck (by omega), ← hI5, up_at]
    · rw [f7 _ _ (by omega) (by omega) (by omega), ← hI6, up_at]
  · rw [bI_f q] at p1
    refine ref I1 f1 ?_ ?_
    · simp (disch := first | omega | assumption | exact cat_n | exact cat_i _ | exact cat_r _ | (simp (disch := omega) only [l_0, l_1, l_m1, l_2, l_3, l_4, l_5, l_6, l_7, l_8, l_9, l_10, l_16, l_20, l_40, l_48, l_99, l_200, l_999, l_9999, li_73, li_78, li_m1000000, li_90, li_251, li_400, li_2400, li_91, li_153, li_173, li_96, li_32, li_92, li_12, li_93, li_80, li_14, li_1000000000, li_30, li_11, li_24, li_13, li_97, li_64, li_1600, li_49, li_255, li_2147483647, li_12345, li_1103515245, li_59, li_57, li_122, li_1023, li_1000000, li_52, li_51, li_50, li_47, li_46, li_45, li_44, li_43, li_42, li_41, li_39, li_38, li_37, li_36, li_35, li_34, li_33, li_29, li_28, li_27, li_26, li_25, li_23, li_22, li_21, li_19, li_18, li_17, li_15, li_m8, li_m2, li_60, li_54, li_2907, li_151, li_127, oN, iI_add, iI_sub, iI_mul, iI_neg, Int.reduceAdd, Int.reduceSub, Int.reduceMul, Int.reduceNeg, Int.toNat_natCast, Int.reduceToNat, iI_lt, iI_le, iI_eq, iI_cl, true_or, or_true, false_or, or_false, true_and, and_true, not_true_eq_false, not_false_eq_true]; first | done | omega)) only [↓if_pos, ↓if_neg, Option.bind_some, Option.toList_some, Option.toList_none, List.cons_append, List.nil_append, l_0, l_1, l_m1, l_2, l_3, l_4, l_5, l_6, l_7, l_8, l_9, l_10, l_16, l_20, l_40, l_48, l_99, l_200, l_999, l_9999, li_73, li_78, li_m1000000, li_90, li_251, li_400, li_2400, li_91, li_153, li_173, li_96, li_32, li_92, li_12, li_93, li_80, li_14, li_1000000000, li_30, li_11, li_24, li_13, li_97, li_64, li_1600, li_49, li_255, li_2147483647, li_12345, li_1103515245, li_59, li_57, li_122, li_1023, li_1000000, li_52, li_51, li_50, li_47, li_46, li_45, li_44, li_43, li_42, li_41, li_39, li_38, li_37, li_36, li_35, li_34, li_33, li_29, li_28, li_27, li_26, li_25, li_23, li_22, li_21, li_19, li_18, li_17, li_15, li_m8, li_m2, li_60, li_54, li_2907, li_151, li_127, oN, iI_add, iI_sub, iI_mul, iI_neg, Int.reduceAdd, Int.reduceSub, Int.reduceMul, Int.reduceNeg, Int.toNat_natCast, Int.reduceToNat, iI_cl, cl_206, sg_206_e0, sg_206_11, sg_206_37, t, p1, c208]
    · have g6 : ∀ c k, 139 ≤ c → c ≠ 146 → ¬ (c = 139 ∧ k = 12) → am_up (rf1 (am_up I1 1 1 (iI 0)) 5) 139 12 (iI 0) c k = I c k := fun c k z1 z2 z3 => by rw [up_ck (by omega), rf1_ne (by omega), up_ck (by omega), f1 _ _ (by omega)]
      have m6 : MS (kI I) (am_up (rf1 (am_up I1 1 1 (iI 0)) 5) 139 12 (iI 0)) := MS_cg hm (fun c k z => g6 c k (by omega) (by omega) (by omega))
      have p6 := m_345 (X := X) (J := J) m6 (tp := T) (L := L) ⟨tm.1, fun k hk => by rw [g6 _ _ (by omega) (by omega) (by omega)]; exact tm.2 k hk⟩ (by rw [g6 _ _ (by omega) (by omega) (by omega), e0, t])
      rw [bI_f q] at p6
      exact p6
