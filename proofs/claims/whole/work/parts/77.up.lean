/-! ACTS up (43), gap (44) -/
theorem BGc_cg {I I1 I' : Nat → Nat → Int32} (h : BGc I I1) (e1 : ∀ s, s < 20 → ∀ k, I' (108 + s) k = I1 (108 + s) k) (e5 : I' 106 5 = I1 106 5) (e6 : I' 106 6 = I1 106 6) : BGc I I' := by
  have hs : (uo I + un I) % 20 < 20 := Nat.mod_lt _ (by omega)
  unfold BGc at h ⊢
  rw [e5, e6, funext (e1 _ hs)]
  refine ⟨h.1, fun s z1 z2 k => ?_, h.2.2⟩
  rw [e1 s z1 k]
  exact h.2.1 s z1 z2 k
theorem BGm_cg {I I1 I' : Nat → Nat → Int32} (h : BGm I I1) (e1 : ∀ k, I' 149 k = I1 149 k) (e2 : I' 139 24 = I1 139 24) : BGm I I' := by
  unfold BGm at h ⊢
  rw [e2, funext e1]
  exact h
theorem R_KP {n : Nat} {I : Nat → Nat → Int32} {J : Nat → Nat → Int64} (g : Rl_ n I J) : KP I := by
  obtain ⟨-, -, -, -, -, -, s5, s6, -, -⟩ := R_S g
  exact ⟨s5, (R_CW g).2.2.2.2.1, s6⟩
theorem KP_cg {I I' : Nat → Nat → Int32} (h : KP I) (e1 : I' 16 6 = I 16 6) (e2 : ∀ k, I' 18 k = I 18 k) (e3 : ∀ k, k = 2 ∨ 73 ≤ k → I' 148 k = I 148 k) : KP I' := by
  obtain ⟨h1, h2, h3⟩ := h
  unfold KP
  rw [e1, e3 2 (by omega)]
  refine ⟨h1, h2, fun j hj => ?_⟩
  rw [e3 (73 + j) (by omega), e2]
  exact h3 j hj
/-! UP alone is anew: places stay -/
section UP8
variable {f g : Nat → Int} {v e : Int}
theorem u_far1 : ps_far (rs f 8 v) g = ps_far f g := rfl
theorem u_far2 : ps_far g (rs f 8 v) = ps_far g f := rfl
theorem u_cy1 : ps_cy (rs f 8 v) g = ps_cy f g := rfl
theorem u_cy2 : ps_cy g (rs f 8 v) = ps_cy g f := rfl
theorem u_ct1 (n : Nat) : ps_ct (rs f 8 v) g n = ps_ct f g n := by
  induction n with
  | zero => rfl
  | succ n ih =>
    show (if _ then _ else _) = (if _ then _ else _)
    rw [ih, u_far1]
theorem u_ct2 (n : Nat) : ps_ct g (rs f 8 v) n = ps_ct g f n := by
  induction n with
  | zero => rfl
  | succ n ih =>
    show (if _ then _ else _) = (if _ then _ else _)
    rw [ih, u_far2]
theorem u_cl1 : ps_cl (rs f 8 v) g = ps_cl f g := by unfold ps_cl; rw [u_ct1, u_cy1]
theorem u_cl2 : ps_cl g (rs f 8 v) = ps_cl g f := by unfold ps_cl; rw [u_ct2, u_cy2]
theorem u_lf1 : ps_lf (rs f 8 v) g = ps_lf f g := by unfold ps_lf; rw [u_cl1, u_far1]
theorem u_lf2 : ps_lf g (rs f 8 v) = ps_lf g f := by unfold ps_lf; rw [u_cl2, u_far2]
theorem u_sv1 {w : Int} (h : sv_is e f g w) : sv_is e (rs f 8 v) g w := h
theorem u_sv2 {w : Int} (h : sv_is e g f w) : sv_is e g (rs f 8 v) w := h
theorem u_ok (h : ps_ok f) (v0 : 0 ≤ v) (v1 : v ≤ 1) : ps_ok (rs f 8 v) := by
  obtain ⟨h1, h2, h3, h4, h5, h6, h7, h8⟩ := h
  exact ⟨h1, h2, h3, h4, h5, h6, h7, v0, v1⟩
end UP8
section S77
variable {X : am_X} {K : Sk} {I I' : Nat → Nat → Int32} {J : Nat → Nat → Int64} {b : Nat} {v : Int}
theorem CS_u8 (h : CS K I) (hb : b < kn K) (v0 : 0 ≤ v) (v1 : v ≤ 1) (e : ∀ c k, (c = 16 ∧ 2 ≤ k ∧ k ≤ 5) ∨ (19 ≤ c ∧ c ≤ 78) → ¬ (c = am_bd b + 1 ∧ k = 8) → I' c k = I c k) (e8 : I' (am_bd b + 1) 8 = iI v) : CS (ks K b (rs (kf K b) 8 v)) I' := by
  have hk := K_n (CS_k h)
  have hbd := bd_eq (b := b) (by omega)
  refine ⟨ks_ok (CS_k h) (u_ok (K_f (CS_k h) hb) v0 v1), ?_, fun o ho => ?_⟩
  · rw [e 16 2 (by omega) (by omega), e 16 3 (by omega) (by omega), e 16 4 (by omega) (by omega), e 16 5 (by omega) (by omega)]
    exact h.2.1
  · have ho' : o < kn K := ho
    have hod := bd_eq (b := o) (by omega)
    by_cases y : o = b
    · subst y
      have er : cr I' o = rs (kf K o) 8 v := by
        rw [← CS_r h hb]
        funext k
        unfold rs cr
        by_cases z : k = 8
        · subst z
          rw [if_pos (by omega), if_pos rfl, e8, to_iI (by omega) (by omega)]
        · rw [if_neg z]
          by_cases z2 : k < 9
          · rw [if_pos z2, if_pos z2, e _ k (by omega) (by omega)]
          · rw [if_neg z2, if_neg z2]
      rw [ks_b]
      refine ⟨?_, er⟩
      obtain ⟨c1, c2, c3⟩ := CS_B h hb
      refine ⟨by rw [er]; exact u_ok (K_f (CS_k h) hb) v0 v1, ?_, fun s hs => ?_⟩
      · rw [e _ 1 (by omega) (by omega), er, c2, CS_r h hb]
        rfl
      · rw [er] at hs ⊢
        rw [e _ s (by omega) (by omega), e _ s (by omega) (by omega), e _ s (by omega) (by omega), e _ s (by omega) (by omega)]
        have := c3 s (by rw [CS_r h hb]; exact hs)
        rw [CS_r h hb] at this
        exact this
    · rw [ks_o y]
      have e' : ∀ j, j ≤ 5 → ∀ k, I' (am_bd o + j) k = I (am_bd o + j) k := fun j hj k => e _ k (by omega) (by omega)
      exact ⟨CB_congr e' (CS_B h ho'), (cr_congr (e' 1 (by omega))).trans (CS_r h ho')⟩
theorem MS_u8 (h : MS K I) (hb : b < kn K) (v0 : 0 ≤ v) (v1 : v ≤ 1) : MS (ks K b (rs (kf K b) 8 v)) (am_up I 148 (7 * b + 9) (iI v)) := by
  have hk := K_n (MS_k h)
  have m := MP_set (MS_MP h hb) (k := 6) (by omega) (v := v) (u_ok (K_f (MS_k h) hb) v0 v1) (by omega) (by omega)
  obtain ⟨-, m2, m3, m4⟩ := m
  refine ⟨ks_ok (MS_k h) (u_ok (K_f (MS_k h) hb) v0 v1), m2, fun o ho => ?_⟩
  by_cases y : o = b
  · subst y
    rw [ks_b]
    refine ⟨m3, ?_⟩
    have g := MS_g h hb
    have m3' : mr (am_up I 148 (7 * o + 9) (iI v)) o = rs (kf K o) 8 v := m3
    unfold mg at g ⊢
    rw [m3']
    rw [MS_r h hb] at g
    intro t ht
    have := g t ht
    rw [up_ck (by omega), up_ck (by omega), up_ck (by omega), up_ck (by omega)]
    exact this
  · rw [ks_o y]
    exact m4 o ho y
theorem C_u8 (h : CS K I) (hb : b < kn K) (g : rl_C I) (h' : CS (ks K b (rs (kf K b) 8 v)) I') (e84 : ∀ k, I' 84 k = I 84 k) (e85 : ∀ k, I' 85 k = I 85 k) (e80 : ∀ k, I' 80 k = I 80 k) (e104 : ∀ k, I' 104 k = I 104 k) : rl_C I' := by
  rw [C_iff h']
  rw [C_iff h] at g
  simp only [e84, e85, e80, e104]
  obtain ⟨g1, g2, g3⟩ := g
  refine ⟨fun a c hac hc => ?_, fun a c hac hc => ?_, g3⟩
  · have g1' := g1 a c hac hc
    by_cases y1 : a = b
    · subst y1
      rw [ks_b, ks_o (by omega), u_lf1, u_cl1]
      exact g1'
    · by_cases y2 : c = b
      · subst y2
        rw [ks_b, ks_o (by omega), u_lf2, u_cl2]
        exact g1'
      · rw [ks_o y1, ks_o y2]
        exact g1'
  · have g2' := g2 a c hac hc
    rcases g2' with z | ⟨w, z1, z2⟩
    · exact Or.inl z
    · refine Or.inr ⟨w, z1, ?_⟩
      rw [ks_e]
      by_cases y1 : a = b
      · subst y1
        rw [ks_b, ks_o (by omega)]
        exact u_sv1 z2
      · by_cases y2 : c = b
        · subst y2
          rw [ks_b, ks_o (by omega)]
          exact u_sv2 z2
        · rw [ks_o y1, ks_o y2]
          exact z2
end S77
/-- told, if a body is known -/
theorem R_told {n : Nat} {I : Nat → Nat → Int32} {J : Nat → Nat → Int64} (g : Rl_ n I J) (h : 0 < kn (kI I)) : I 16 1 ≠ 0 := by
  intro z
  have hc := (Rl_K g).1
  have hk := K_n (CS_k hc)
  have := ((R_S g).2.2.2.2.2.2.2.2.1 z).1
  rw [CS_n hc] at this
  have k0 : (iI (kn (kI I) : Int)).toInt = 0 := by rw [this]; rfl
  rw [to_iI (by omega) (by omega)] at k0
  omega
set_option maxHeartbeats 1000000 in
/-- 43 up -/
theorem op_43 (X : am_X) (a1 a2 : Int32) (ha : a2 = 0 ∨ a2 = 1) : am_Same X Rl_ 198 333 [.int a1, .int a2] := by
  obtain ⟨y, y1, y2, rfl⟩ := iI_ex a1
  obtain ⟨v, v0, v1, rfl⟩ : ∃ v : Int, 0 ≤ v ∧ v ≤ 1 ∧ a2 = iI v := by
    rcases ha with rfl | rfl
    · exact ⟨0, by omega, by omega, rfl⟩
    · exact ⟨1, by omega, by omega, rfl⟩
  intro n I J hn h
  obtain ⟨hc, hm⟩ := Rl_K h
  have hk := K_n (CS_k hc)
  have c208 := c_208 X I J (k := 2) (by omega)
  rw [show ((2 : Nat) : Int) = 2 from rfl, l_m1] at c208
  have c219 := c_219 X (rf1 I 2) J (k := 2) (by omega)
  rw [show ((2 : Nat) : Int) = 2 from rfl, l_0] at c219
  have mr1 : MS (kI I) (rf1 I 2) := MS_cg hm (fun c k z => rf1_ne (by omega))
  by_cases q : 0 ≤ y ∧ y < kn (kI I)
  · obtain ⟨b, rfl⟩ : ∃ b : Nat, y = b := ⟨y.toNat, by omega⟩
    have hb : b < kn (kI I) := by omega
    have hbd := bd_eq (b := b) (by omega)
    have r8 := (K_rg (CS_k hc) hb).2.2.2.2.2.2.2
    have e101 : am_do X 101 [.ref 16, .int (iI b)] (am_sh I J) = some (some (.int (iI (kf (kI I) b 8))), am_sh I J) := by
      by_cases z : kf (kI I) b 8 = 1
      · rw [z]; exact k_101t hc ⟨hb, z⟩
      · rw [show kf (kI I) b 8 = 0 by omega]
        exact k_101d hc hb (fun w => z w.2)
    have e243 : ∀ I1 : Nat → Nat → Int32, MS (kI I) I1 → am_do X 243 [.ref 139, .int (iI b)] (am_sh I1 J) = some (some (.int (iI (kf (kI I) b 8))), am_sh I1 J) := fun I1 m1 => by
      by_cases z : kf (kI I) b 8 = 1
      · simp (disch := first | omega | assumption | exact cat_n | exact cat_i _ | exact cat_r _ | (simp (disch := omega) only [l_0, l_1, l_m1, l_2, l_3, l_4, l_5, l_6, l_7, l_8, l_9, l_10, l_16, l_20, l_40, l_48, l_99, l_200, l_999, l_9999, li_73, li_78, li_m1000000, li_90, li_251, li_400, li_2400, li_91, li_153, li_173, li_96, li_32, li_92, li_12, li_93, li_80, li_14, li_1000000000, li_30, li_11, li_24, li_13, li_97, li_64, li_1600, li_49, li_255, li_2147483647, li_12345, li_1103515245, li_59, li_57, li_122, li_1023, li_1000000, li_52, li_51, li_50, li_47, li_46, li_45, li_44, li_43, li_42, li_41, li_39, li_38, li_37, li_36, li_35, li_34, li_33, li_29, li_28, li_27, li_26, li_25, li_23, li_22, li_21, li_19, li_18, li_17, li_15, li_m8, li_m2, li_60, li_54, li_2907, li_151, li_127, oN, iI_add, iI_sub, iI_mul, iI_neg, Int.reduceAdd, Int.reduceSub, Int.reduceMul, Int.reduceNeg, Int.toNat_natCast, iI_lt, iI_le, iI_eq, iI_cl, true_or, or_true, false_or, or_false, true_and, and_true, not_true_eq_false, not_false_eq_true]; first | done | omega)) only [↓if_pos, ↓if_neg, Option.bind_some, Option.toList_some, Option.toList_none, List.cons_append, List.nil_append, l_0, l_1, l_m1, l_2, l_3, l_4, l_5, l_6, l_7, l_8, l_9, l_10, l_16, l_20, l_40, l_48, l_99, l_200, l_999, l_9999, li_73, li_78, li_m1000000, li_90, li_251, li_400, li_2400, li_91, li_153, li_173, li_96, li_32, li_92, li_12, li_93, li_80, li_14, li_1000000000, li_30, li_11, li_24, li_13, li_97, li_64, li_1600, li_49, li_255, li_2147483647, li_12345, li_1103515245, li_59, li_57, li_122, li_1023, li_1000000, li_52, li_51, li_50, li_47, li_46, li_45, li_44, li_43, li_42, li_41, li_39, li_38, li_37, li_36, li_35, li_34, li_33, li_29, li_28, li_27, li_26, li_25, li_23, li_22, li_21, li_19, li_18, li_17, li_15, li_m8, li_m2, li_60, li_54, li_2907, li_151, li_127, oN, iI_add, iI_sub, iI_mul, iI_neg, Int.reduceAdd, Int.reduceSub, Int.reduceMul, Int.reduceNeg, Int.toNat_natCast, iI_cl, cl_243, sg_243_e0, sg_243_4, m_241_6 m1, z]
      · have z0 : kf (kI I) b 8 = 0 := by omega
        simp (disch := first | omega | assumption | exact cat_n | exact cat_i _ | exact cat_r _ | (simp (disch := omega) only [l_0, l_1, l_m1, l_2, l_3, l_4, l_5, l_6, l_7, l_8, l_9, l_10, l_16, l_20, l_40, l_48, l_99, l_200, l_999, l_9999, li_73, li_78, li_m1000000, li_90, li_251, li_400, li_2400, li_91, li_153, li_173, li_96, li_32, li_92, li_12, li_93, li_80, li_14, li_1000000000, li_30, li_11, li_24, li_13, li_97, li_64, li_1600, li_49, li_255, li_2147483647, li_12345, li_1103515245, li_59, li_57, li_122, li_1023, li_1000000, li_52, li_51, li_50, li_47, li_46, li_45, li_44, li_43, li_42, li_41, li_39, li_38, li_37, li_36, li_35, li_34, li_33, li_29, li_28, li_27, li_26, li_25, li_23, li_22, li_21, li_19, li_18, li_17, li_15, li_m8, li_m2, li_60, li_54, li_2907, li_151, li_127, oN, iI_add, iI_sub, iI_mul, iI_neg, Int.reduceAdd, Int.reduceSub, Int.reduceMul, Int.reduceNeg, Int.toNat_natCast, iI_lt, iI_le, iI_eq, iI_cl, true_or, or_true, false_or, or_false, true_and, and_true, not_true_eq_false, not_false_eq_true]; first | done | omega)) only [↓if_pos, ↓if_neg, Option.bind_some, Option.toList_some, Option.toList_none, List.cons_append, List.nil_append, l_0, l_1, l_m1, l_2, l_3, l_4, l_5, l_6, l_7, l_8, l_9, l_10, l_16, l_20, l_40, l_48, l_99, l_200, l_999, l_9999, li_73, li_78, li_m1000000, li_90, li_251, li_400, li_2400, li_91, li_153, li_173, li_96, li_32, li_92, li_12, li_93, li_80, li_14, li_1000000000, li_30, li_11, li_24, li_13, li_97, li_64, li_1600, li_49, li_255, li_2147483647, li_12345, li_1103515245, li_59, li_57, li_122, li_1023, li_1000000, li_52, li_51, li_50, li_47, li_46, li_45, li_44, li_43, li_42, li_41, li_39, li_38, li_37, li_36, li_35, li_34, li_33, li_29, li_28, li_27, li_26, li_25, li_23, li_22, li_21, li_19, li_18, li_17, li_15, li_m8, li_m2, li_60, li_54, li_2907, li_151, li_127, oN, iI_add, iI_sub, iI_mul, iI_neg, Int.reduceAdd, Int.reduceSub, Int.reduceMul, Int.reduceNeg, Int.toNat_natCast, iI_cl, cl_243, sg_243_e0, sg_243_4, m_241_6 m1, z0]
    by_cases q1 : kf (kI I) b 8 = v
    · refine ⟨iI 0, rf1 I 2, J, rf2 (rf1 I 2) 2, J, ?_, ?_, Rl_ref (k := 2) (by omega) h⟩
      · simp (disch := first | omega | assumption | exact cat_n | exact cat_i _ | exact cat_r _ | (simp (disch := omega) only [l_0, l_1, l_m1, l_2, l_3, l_4, l_5, l_6, l_7, l_8, l_9, l_10, l_16, l_20, l_40, l_48, l_99, l_200, l_999, l_9999, li_73, li_78, li_m1000000, li_90, li_251, li_400, li_2400, li_91, li_153, li_173, li_96, li_32, li_92, li_12, li_93, li_80, li_14, li_1000000000, li_30, li_11, li_24, li_13, li_97, li_64, li_1600, li_49, li_255, li_2147483647, li_12345, li_1103515245, li_59, li_57, li_122, li_1023, li_1000000, li_52, li_51, li_50, li_47, li_46, li_45, li_44, li_43, li_42, li_41, li_39, li_38, li_37, li_36, li_35, li_34, li_33, li_29, li_28, li_27, li_26, li_25, li_23, li_22, li_21, li_19, li_18, li_17, li_15, li_m8, li_m2, li_60, li_54, li_2907, li_151, li_127, oN, iI_add, iI_sub, iI_mul, iI_neg, Int.reduceAdd, Int.reduceSub, Int.reduceMul, Int.reduceNeg, Int.toNat_natCast, iI_lt, iI_le, iI_eq, iI_cl, true_or, or_true, false_or, or_false, true_and, and_true, not_true_eq_false, not_false_eq_true]; first | done | omega)) only [↓if_pos, ↓if_neg, Option.bind_some, Option.toList_some, Option.toList_none, List.cons_append, List.nil_append, l_0, l_1, l_m1, l_2, l_3, l_4, l_5, l_6, l_7, l_8, l_9, l_10, l_16, l_20, l_40, l_48, l_99, l_200, l_999, l_9999, li_73, li_78, li_m1000000, li_90, li_251, li_400, li_2400, li_91, li_153, li_173, li_96, li_32, li_92, li_12, li_93, li_80, li_14, li_1000000000, li_30, li_11, li_24, li_13, li_97, li_64, li_1600, li_49, li_255, li_2147483647, li_12345, li_1103515245, li_59, li_57, li_122, li_1023, li_1000000, li_52, li_51, li_50, li_47, li_46, li_45, li_44, li_43, li_42, li_41, li_39, li_38, li_37, li_36, li_35, li_34, li_33, li_29, li_28, li_27, li_26, li_25, li_23, li_22, li_21, li_19, li_18, li_17, li_15, li_m8, li_m2, li_60, li_54, li_2907, li_151, li_127, oN, iI_add, iI_sub, iI_mul, iI_neg, Int.reduceAdd, Int.reduceSub, Int.reduceMul, Int.reduceNeg, Int.toNat_natCast, iI_cl, cl_198, sg_198_e0, sg_198_4, sg_198_9, sg_198_14, k_99t hc, e101, q1, c208]
      · have := e243 _ mr1
        simp (disch := first | omega | assumption | exact cat_n | exact cat_i _ | exact cat_r _ | (simp (disch := omega) only [l_0, l_1, l_m1, l_2, l_3, l_4, l_5, l_6, l_7, l_8, l_9, l_10, l_16, l_20, l_40, l_48, l_99, l_200, l_999, l_9999, li_73, li_78, li_m1000000, li_90, li_251, li_400, li_2400, li_91, li_153, li_173, li_96, li_32, li_92, li_12, li_93, li_80, li_14, li_1000000000, li_30, li_11, li_24, li_13, li_97, li_64, li_1600, li_49, li_255, li_2147483647, li_12345, li_1103515245, li_59, li_57, li_122, li_1023, li_1000000, li_52, li_51, li_50, li_47, li_46, li_45, li_44, li_43, li_42, li_41, li_39, li_38, li_37, li_36, li_35, li_34, li_33, li_29, li_28, li_27, li_26, li_25, li_23, li_22, li_21, li_19, li_18, li_17, li_15, li_m8, li_m2, li_60, li_54, li_2907, li_151, li_127, oN, iI_add, iI_sub, iI_mul, iI_neg, Int.reduceAdd, Int.reduceSub, Int.reduceMul, Int.reduceNeg, Int.toNat_natCast, iI_lt, iI_le, iI_eq, iI_cl, true_or, or_true, false_or, or_false, true_and, and_true, not_true_eq_false, not_false_eq_true]; first | done | omega)) only [↓if_pos, ↓if_neg, Option.bind_some, Option.toList_some, Option.toList_none, List.cons_append, List.nil_append, l_0, l_1, l_m1, l_2, l_3, l_4, l_5, l_6, l_7, l_8, l_9, l_10, l_16, l_20, l_40, l_48, l_99, l_200, l_999, l_9999, li_73, li_78, li_m1000000, li_90, li_251, li_400, li_2400, li_91, li_153, li_173, li_96, li_32, li_92, li_12, li_93, li_80, li_14, li_1000000000, li_30, li_11, li_24, li_13, li_97, li_64, li_1600, li_49, li_255, li_2147483647, li_12345, li_1103515245, li_59, li_57, li_122, li_1023, li_1000000, li_52, li_51, li_50, li_47, li_46, li_45, li_44, li_43, li_42, li_41, li_39, li_38, li_37, li_36, li_35, li_34, li_33, li_29, li_28, li_27, li_26, li_25, li_23, li_22, li_21, li_19, li_18, li_17, li_15, li_m8, li_m2, li_60, li_54, li_2907, li_151, li_127, oN, iI_add, iI_sub, iI_mul, iI_neg, Int.reduceAdd, Int.reduceSub, Int.reduceMul, Int.reduceNeg, Int.toNat_natCast, iI_cl, cl_333, sg_333_e0, sg_333_3, sg_333_7, sg_333_12, m_256t mr1, this, q1, c219]
    · obtain ⟨I1, p1, b1, b2, b3⟩ := k_4 (X := X) h hn
      generalize hI2 : am_up I1 (am_bd b + 1) 8 (iI v) = I2
      have f2 : ∀ c k, ¬ (c = am_bd b + 1 ∧ k = 8) → I2 c k = I1 c k := fun c k z => by rw [← hI2, up_ck (by omega)]
      have f28 : I2 (am_bd b + 1) 8 = iI v := by rw [← hI2, up_at]
      have m2 : MS (kI I) I2 := MS_cg hm (fun c k z => by rw [f2 c k (by omega), b3 c k (by omega) (by omega) (by omega)])
      obtain ⟨I3, p3, d1, d2⟩ := m_244a (X := X) (I1 := I2) h (by rw [f2 _ _ (by omega), b3 _ _ (by omega) (by omega) (by omega)]) (fun k => by rw [f2 _ _ (by omega), b3 _ _ (by omega) (by omega) (by omega)]) (fun k => by rw [f2 _ _ (by omega), b3 _ _ (by omega) (by omega) (by omega)])
      have m3 : MS (kI I) I3 := MS_cg m2 (fun c k z => d2 c k (by omega) (by omega))
      have m4 := MS_u8 m3 hb v0 v1
      generalize hI4 : am_up I3 148 (7 * b + 9) (iI v) = I4
      rw [hI4] at m4
      have f4 : ∀ c k, ¬ (c = 148 ∧ k = 7 * b + 9) → I4 c k = I3 c k := fun c k z => by rw [← hI4, up_ck (by omega)]
      have F : ∀ c k, ¬ (108 ≤ c ∧ c ≤ 127) → ¬ (c = 16 ∧ k = 8) → ¬ (c = 106 ∧ (k = 5 ∨ k = 6)) → ¬ (c = am_bd b + 1 ∧ k = 8) → ¬ (c = 139 ∧ k = 24) → c ≠ 149 → ¬ (c = 148 ∧ k = 7 * b + 9) → I4 c k = I c k := fun c k z1 z2 z3 z4 z5 z6 z7 => by
        rw [f4 c k z7, d2 c k z5 z6, f2 c k z4, b3 c k z1 z2 z3]
      have c4 : CS (ks (kI I) b (rs (kf (kI I) b) 8 v)) I4 := CS_u8 hc hb v0 v1 (fun c k z1 z2 => F c k (by omega) (by omega) (by omega) z2 (by omega) (by omega) (by omega)) (by rw [f4 _ _ (by omega), d2 _ _ (by omega) (by omega), f28])
      refine ⟨iI 1, I2, J, I4, J, ?_, ?_, Rl_act h hn (R_told h (by omega)) (fun c k z => ?_) c4 m4 (KP_cg (R_KP h) ?_ (fun k => ?_) (fun k z => ?_)) (U_act h (BGc_cg b1 (fun s hs k => ?_) ?_ ?_) (BGm_cg d1 (fun k => ?_) ?_) ?_ (fun k => ?_) (fun k => ?_)) (C_u8 hc hb (R_C h) c4 (fun k => ?_) (fun k => ?_) (fun k => ?_) (fun k => ?_)) ?_⟩
      · have e7 : am_do X 7 [.ref 106, .int (iI b), .int (iI v)] (am_sh I J) = some (none, am_sh I2 J) := by
          rw [← hI2]
          by_cases z : v = 0
          · subst z
            simp (disch := first | omega | assumption | exact cat_n | exact cat_i _ | exact cat_r _ | (simp (disch := omega) only [l_0, l_1, l_m1, l_2, l_3, l_4, l_5, l_6, l_7, l_8, l_9, l_10, l_16, l_20, l_40, l_48, l_99, l_200, l_999, l_9999, li_73, li_78, li_m1000000, li_90, li_251, li_400, li_2400, li_91, li_153, li_173, li_96, li_32, li_92, li_12, li_93, li_80, li_14, li_1000000000, li_30, li_11, li_24, li_13, li_97, li_64, li_1600, li_49, li_255, li_2147483647, li_12345, li_1103515245, li_59, li_57, li_122, li_1023, li_1000000, li_52, li_51, li_50, li_47, li_46, li_45, li_44, li_43, li_42, li_41, li_39, li_38, li_37, li_36, li_35, li_34, li_33, li_29, li_28, li_27, li_26, li_25, li_23, li_22, li_21, li_19, li_18, li_17, li_15, li_m8, li_m2, li_60, li_54, li_2907, li_151, li_127, oN, iI_add, iI_sub, iI_mul, iI_neg, Int.reduceAdd, Int.reduceSub, Int.reduceMul, Int.reduceNeg, Int.toNat_natCast, iI_lt, iI_le, iI_eq, iI_cl, true_or, or_true, false_or, or_false, true_and, and_true, not_true_eq_false, not_false_eq_true]; first | done | omega)) only [↓if_pos, ↓if_neg, Option.bind_some, Option.toList_some, Option.toList_none, List.cons_append, List.nil_append, l_0, l_1, l_m1, l_2, l_3, l_4, l_5, l_6, l_7, l_8, l_9, l_10, l_16, l_20, l_40, l_48, l_99, l_200, l_999, l_9999, li_73, li_78, li_m1000000, li_90, li_251, li_400, li_2400, li_91, li_153, li_173, li_96, li_32, li_92, li_12, li_93, li_80, li_14, li_1000000000, li_30, li_11, li_24, li_13, li_97, li_64, li_1600, li_49, li_255, li_2147483647, li_12345, li_1103515245, li_59, li_57, li_122, li_1023, li_1000000, li_52, li_51, li_50, li_47, li_46, li_45, li_44, li_43, li_42, li_41, li_39, li_38, li_37, li_36, li_35, li_34, li_33, li_29, li_28, li_27, li_26, li_25, li_23, li_22, li_21, li_19, li_18, li_17, li_15, li_m8, li_m2, li_60, li_54, li_2907, li_151, li_127, oN, iI_add, iI_sub, iI_mul, iI_neg, Int.reduceAdd, Int.reduceSub, Int.reduceMul, Int.reduceNeg, Int.toNat_natCast, iI_cl, cl_7, sg_7_e0, sg_7_2, p1]
          · obtain rfl : v = 1 := by omega
            simp (disch := first | omega | assumption | exact cat_n | exact cat_i _ | exact cat_r _ | (simp (disch := omega) only [l_0, l_1, l_m1, l_2, l_3, l_4, l_5, l_6, l_7, l_8, l_9, l_10, l_16, l_20, l_40, l_48, l_99, l_200, l_999, l_9999, li_73, li_78, li_m1000000, li_90, li_251, li_400, li_2400, li_91, li_153, li_173, li_96, li_32, li_92, li_12, li_93, li_80, li_14, li_1000000000, li_30, li_11, li_24, li_13, li_97, li_64, li_1600, li_49, li_255, li_2147483647, li_12345, li_1103515245, li_59, li_57, li_122, li_1023, li_1000000, li_52, li_51, li_50, li_47, li_46, li_45, li_44, li_43, li_42, li_41, li_39, li_38, li_37, li_36, li_35, li_34, li_33, li_29, li_28, li_27, li_26, li_25, li_23, li_22, li_21, li_19, li_18, li_17, li_15, li_m8, li_m2, li_60, li_54, li_2907, li_151, li_127, oN, iI_add, iI_sub, iI_mul, iI_neg, Int.reduceAdd, Int.reduceSub, Int.reduceMul, Int.reduceNeg, Int.toNat_natCast, iI_lt, iI_le, iI_eq, iI_cl, true_or, or_true, false_or, or_false, true_and, and_true, not_true_eq_false, not_false_eq_true]; first | done | omega)) only [↓if_pos, ↓if_neg, Option.bind_some, Option.toList_some, Option.toList_none, List.cons_append, List.nil_append, l_0, l_1, l_m1, l_2, l_3, l_4, l_5, l_6, l_7, l_8, l_9, l_10, l_16, l_20, l_40, l_48, l_99, l_200, l_999, l_9999, li_73, li_78, li_m1000000, li_90, li_251, li_400, li_2400, li_91, li_153, li_173, li_96, li_32, li_92, li_12, li_93, li_80, li_14, li_1000000000, li_30, li_11, li_24, li_13, li_97, li_64, li_1600, li_49, li_255, li_2147483647, li_12345, li_1103515245, li_59, li_57, li_122, li_1023, li_1000000, li_52, li_51, li_50, li_47, li_46, li_45, li_44, li_43, li_42, li_41, li_39, li_38, li_37, li_36, li_35, li_34, li_33, li_29, li_28, li_27, li_26, li_25, li_23, li_22, li_21, li_19, li_18, li_17, li_15, li_m8, li_m2, li_60, li_54, li_2907, li_151, li_127, oN, iI_add, iI_sub, iI_mul, iI_neg, Int.reduceAdd, Int.reduceSub, Int.reduceMul, Int.reduceNeg, Int.toNat_natCast, iI_cl, cl_7, sg_7_e0, sg_7_2, p1]
        simp (disch := first | omega | assumption | exact cat_n | exact cat_i _ | exact cat_r _ | (simp (disch := omega) only [l_0, l_1, l_m1, l_2, l_3, l_4, l_5, l_6, l_7, l_8, l_9, l_10, l_16, l_20, l_40, l_48, l_99, l_200, l_999, l_9999, li_73, li_78, li_m1000000, li_90, li_251, li_400, li_2400, li_91, li_153, li_173, li_96, li_32, li_92, li_12, li_93, li_80, li_14, li_1000000000, li_30, li_11, li_24, li_13, li_97, li_64, li_1600, li_49, li_255, li_2147483647, li_12345, li_1103515245, li_59, li_57, li_122, li_1023, li_1000000, li_52, li_51, li_50, li_47, li_46, li_45, li_44, li_43, li_42, li_41, li_39, li_38, li_37, li_36, li_35, li_34, li_33, li_29, li_28, li_27, li_26, li_25, li_23, li_22, li_21, li_19, li_18, li_17, li_15, li_m8, li_m2, li_60, li_54, li_2907, li_151, li_127, oN, iI_add, iI_sub, iI_mul, iI_neg, Int.reduceAdd, Int.reduceSub, Int.reduceMul, Int.reduceNeg, Int.toNat_natCast, iI_lt, iI_le, iI_eq, iI_cl, true_or, or_true, false_or, or_false, true_and, and_true, not_true_eq_false, not_false_eq_true]; first | done | omega)) only [↓if_pos, ↓if_neg, Option.bind_some, Option.toList_some, Option.toList_none, List.cons_append, List.nil_append, l_0, l_1, l_m1, l_2, l_3, l_4, l_5, l_6, l_7, l_8, l_9, l_10, l_16, l_20, l_40, l_48, l_99, l_200, l_999, l_9999, li_73, li_78, li_m1000000, li_90, li_251, li_400, li_2400, li_91, li_153, li_173, li_96, li_32, li_92, li_12, li_93, li_80, li_14, li_1000000000, li_30, li_11, li_24, li_13, li_97, li_64, li_1600, li_49, li_255, li_2147483647, li_12345, li_1103515245, li_59, li_57, li_122, li_1023, li_1000000, li_52, li_51, li_50, li_47, li_46, li_45, li_44, li_43, li_42, li_41, li_39, li_38, li_37, li_36, li_35, li_34, li_33, li_29, li_28, li_27, li_26, li_25, li_23, li_22, li_21, li_19, li_18, li_17, li_15, li_m8, li_m2, li_60, li_54, li_2907, li_151, li_127, oN, iI_add, iI_sub, iI_mul, iI_neg, Int.reduceAdd, Int.reduceSub, Int.reduceMul, Int.reduceNeg, Int.toNat_natCast, iI_cl, cl_198, sg_198_e0, sg_198_4, sg_198_9, sg_198_25, k_99t hc, e101, e7]
      · have e24 := e243 _ m2
        have e242 := c_242 (X := X) (I := I3) (J := J) (b := b) (by omega) (k := 6) (by omega) (v := iI v)
        rw [show ((6 : Nat) : Int) = 6 from rfl, show 7 * b + 3 + 6 = 7 * b + 9 by omega, hI4] at e242
        by_cases z : v = 0
        · subst z
          simp (disch := first | omega | assumption | exact cat_n | exact cat_i _ | exact cat_r _ | (simp (disch := omega) only [l_0, l_1, l_m1, l_2, l_3, l_4, l_5, l_6, l_7, l_8, l_9, l_10, l_16, l_20, l_40, l_48, l_99, l_200, l_999, l_9999, li_73, li_78, li_m1000000, li_90, li_251, li_400, li_2400, li_91, li_153, li_173, li_96, li_32, li_92, li_12, li_93, li_80, li_14, li_1000000000, li_30, li_11, li_24, li_13, li_97, li_64, li_1600, li_49, li_255, li_2147483647, li_12345, li_1103515245, li_59, li_57, li_122, li_1023, li_1000000, li_52, li_51, li_50, li_47, li_46, li_45, li_44, li_43, li_42, li_41, li_39, li_38, li_37, li_36, li_35, li_34, li_33, li_29, li_28, li_27, li_26, li_25, li_23, li_22, li_21, li_19, li_18, li_17, li_15, li_m8, li_m2, li_60, li_54, li_2907, li_151, li_127, oN, iI_add, iI_sub, iI_mul, iI_neg, Int.reduceAdd, Int.reduceSub, Int.reduceMul, Int.reduceNeg, Int.toNat_natCast, iI_lt, iI_le, iI_eq, iI_cl, true_or, or_true, false_or, or_false, true_and, and_true, not_true_eq_false, not_false_eq_true]; first | done | omega)) only [↓if_pos, ↓if_neg, Option.bind_some, Option.toList_some, Option.toList_none, List.cons_append, List.nil_append, l_0, l_1, l_m1, l_2, l_3, l_4, l_5, l_6, l_7, l_8, l_9, l_10, l_16, l_20, l_40, l_48, l_99, l_200, l_999, l_9999, li_73, li_78, li_m1000000, li_90, li_251, li_400, li_2400, li_91, li_153, li_173, li_96, li_32, li_92, li_12, li_93, li_80, li_14, li_1000000000, li_30, li_11, li_24, li_13, li_97, li_64, li_1600, li_49, li_255, li_2147483647, li_12345, li_1103515245, li_59, li_57, li_122, li_1023, li_1000000, li_52, li_51, li_50, li_47, li_46, li_45, li_44, li_43, li_42, li_41, li_39, li_38, li_37, li_36, li_35, li_34, li_33, li_29, li_28, li_27, li_26, li_25, li_23, li_22, li_21, li_19, li_18, li_17, li_15, li_m8, li_m2, li_60, li_54, li_2907, li_151, li_127, oN, iI_add, iI_sub, iI_mul, iI_neg, Int.reduceAdd, Int.reduceSub, Int.reduceMul, Int.reduceNeg, Int.toNat_natCast, iI_cl, cl_333, sg_333_e0, sg_333_3, sg_333_7, sg_333_15, sg_333_24, m_256t m2, e24, p3, e242]
        · obtain rfl : v = 1 := by omega
          simp (disch := first | omega | assumption | exact cat_n | exact cat_i _ | exact cat_r _ | (simp (disch := omega) only [l_0, l_1, l_m1, l_2, l_3, l_4, l_5, l_6, l_7, l_8, l_9, l_10, l_16, l_20, l_40, l_48, l_99, l_200, l_999, l_9999, li_73, li_78, li_m1000000, li_90, li_251, li_400, li_2400, li_91, li_153, li_173, li_96, li_32, li_92, li_12, li_93, li_80, li_14, li_1000000000, li_30, li_11, li_24, li_13, li_97, li_64, li_1600, li_49, li_255, li_2147483647, li_12345, li_1103515245, li_59, li_57, li_122, li_1023, li_1000000, li_52, li_51, li_50, li_47, li_46, li_45, li_44, li_43, li_42, li_41, li_39, li_38, li_37, li_36, li_35, li_34, li_33, li_29, li_28, li_27, li_26, li_25, li_23, li_22, li_21, li_19, li_18, li_17, li_15, li_m8, li_m2, li_60, li_54, li_2907, li_151, li_127, oN, iI_add, iI_sub, iI_mul, iI_neg, Int.reduceAdd, Int.reduceSub, Int.reduceMul, Int.reduceNeg, Int.toNat_natCast, iI_lt, iI_le, iI_eq, iI_cl, true_or, or_true, false_or, or_false, true_and, and_true, not_true_eq_false, not_false_eq_true]; first | done | omega)) only [↓if_pos, ↓if_neg, Option.bind_some, Option.toList_some, Option.toList_none, List.cons_append, List.nil_append, l_0, l_1, l_m1, l_2, l_3, l_4, l_5, l_6, l_7, l_8, l_9, l_10, l_16, l_20, l_40, l_48, l_99, l_200, l_999, l_9999, li_73, li_78, li_m1000000, li_90, li_251, li_400, li_2400, li_91, li_153, li_173, li_96, li_32, li_92, li_12, li_93, li_80, li_14, li_1000000000, li_30, li_11, li_24, li_13, li_97, li_64, li_1600, li_49, li_255, li_2147483647, li_12345, li_1103515245, li_59, li_57, li_122, li_1023, li_1000000, li_52, li_51, li_50, li_47, li_46, li_45, li_44, li_43, li_42, li_41, li_39, li_38, li_37, li_36, li_35, li_34, li_33, li_29, li_28, li_27, li_26, li_25, li_23, li_22, li_21, li_19, li_18, li_17, li_15, li_m8, li_m2, li_60, li_54, li_2907, li_151, li_127, oN, iI_add, iI_sub, iI_mul, iI_neg, Int.reduceAdd, Int.reduceSub, Int.reduceMul, Int.reduceNeg, Int.toNat_natCast, iI_cl, cl_333, sg_333_e0, sg_333_3, sg_333_7, sg_333_15, sg_333_24, m_256t m2, e24, p3, e242]
      · unfold AF at z
        exact F c k (by omega) (by omega) (by omega) (by omega) (by omega) (by omega) (by omega)
      · exact F _ _ (by omega) (by omega) (by omega) (by omega) (by omega) (by omega) (by omega)
      · exact F _ _ (by omega) (by omega) (by omega) (by omega) (by omega) (by omega) (by omega)
      · exact F _ _ (by omega) (by omega) (by omega) (by omega) (by omega) (by omega) (by omega)
      · rw [f4 _ _ (by omega), d2 _ _ (by omega) (by omega), f2 _ _ (by omega)]
      · rw [f4 _ _ (by omega), d2 _ _ (by omega) (by omega), f2 _ _ (by omega)]
      · rw [f4 _ _ (by omega), d2 _ _ (by omega) (by omega), f2 _ _ (by omega)]
      · exact f4 _ _ (by omega)
      · exact f4 _ _ (by omega)
      · exact F _ _ (by omega) (by omega) (by omega) (by omega) (by omega) (by omega) (by omega)
      · exact F _ _ (by omega) (by omega) (by omega) (by omega) (by omega) (by omega) (by omega)
      · exact F _ _ (by omega) (by omega) (by omega) (by omega) (by omega) (by omega) (by omega)
      · exact F _ _ (by omega) (by omega) (by omega) (by omega) (by omega) (by omega) (by omega)
      · exact F _ _ (by omega) (by omega) (by omega) (by omega) (by omega) (by omega) (by omega)
      · exact F _ _ (by omega) (by omega) (by omega) (by omega) (by omega) (by omega) (by omega)
      · exact F _ _ (by omega) (by omega) (by omega) (by omega) (by omega) (by omega) (by omega)
      · rw [f4 _ _ (by omega), d2 _ _ (by omega) (by omega), f2 _ _ (by omega), b2]
  · refine ⟨iI 0, rf1 I 2, J, rf2 (rf1 I 2) 2, J, ?_, ?_, Rl_ref (k := 2) (by omega) h⟩
    · simp (disch := first | omega | assumption | exact cat_n | exact cat_i _ | exact cat_r _ | (simp (disch := omega) only [l_0, l_1, l_m1, l_2, l_3, l_4, l_5, l_6, l_7, l_8, l_9, l_10, l_16, l_20, l_40, l_48, l_99, l_200, l_999, l_9999, li_73, li_78, li_m1000000, li_90, li_251, li_400, li_2400, li_91, li_153, li_173, li_96, li_32, li_92, li_12, li_93, li_80, li_14, li_1000000000, li_30, li_11, li_24, li_13, li_97, li_64, li_1600, li_49, li_255, li_2147483647, li_12345, li_1103515245, li_59, li_57, li_122, li_1023, li_1000000, li_52, li_51, li_50, li_47, li_46, li_45, li_44, li_43, li_42, li_41, li_39, li_38, li_37, li_36, li_35, li_34, li_33, li_29, li_28, li_27, li_26, li_25, li_23, li_22, li_21, li_19, li_18, li_17, li_15, li_m8, li_m2, li_60, li_54, li_2907, li_151, li_127, oN, iI_add, iI_sub, iI_mul, iI_neg, Int.reduceAdd, Int.reduceSub, Int.reduceMul, Int.reduceNeg, Int.toNat_natCast, iI_lt, iI_le, iI_eq, iI_cl, true_or, or_true, false_or, or_false, true_and, and_true, not_true_eq_false, not_false_eq_true]; first | done | omega)) only [↓if_pos, ↓if_neg, Option.bind_some, Option.toList_some, Option.toList_none, List.cons_append, List.nil_append, l_0, l_1, l_m1, l_2, l_3, l_4, l_5, l_6, l_7, l_8, l_9, l_10, l_16, l_20, l_40, l_48, l_99, l_200, l_999, l_9999, li_73, li_78, li_m1000000, li_90, li_251, li_400, li_2400, li_91, li_153, li_173, li_96, li_32, li_92, li_12, li_93, li_80, li_14, li_1000000000, li_30, li_11, li_24, li_13, li_97, li_64, li_1600, li_49, li_255, li_2147483647, li_12345, li_1103515245, li_59, li_57, li_122, li_1023, li_1000000, li_52, li_51, li_50, li_47, li_46, li_45, li_44, li_43, li_42, li_41, li_39, li_38, li_37, li_36, li_35, li_34, li_33, li_29, li_28, li_27, li_26, li_25, li_23, li_22, li_21, li_19, li_18, li_17, li_15, li_m8, li_m2, li_60, li_54, li_2907, li_151, li_127, oN, iI_add, iI_sub, iI_mul, iI_neg, Int.reduceAdd, Int.reduceSub, Int.reduceMul, Int.reduceNeg, Int.toNat_natCast, iI_cl, cl_198, sg_198_e0, sg_198_4, sg_198_14, k_99f hc, c208]
    · simp (disch := first | omega | assumption | exact cat_n | exact cat_i _ | exact cat_r _ | (simp (disch := omega) only [l_0, l_1, l_m1, l_2, l_3, l_4, l_5, l_6, l_7, l_8, l_9, l_10, l_16, l_20, l_40, l_48, l_99, l_200, l_999, l_9999, li_73, li_78, li_m1000000, li_90, li_251, li_400, li_2400, li_91, li_153, li_173, li_96, li_32, li_92, li_12, li_93, li_80, li_14, li_1000000000, li_30, li_11, li_24, li_13, li_97, li_64, li_1600, li_49, li_255, li_2147483647, li_12345, li_1103515245, li_59, li_57, li_122, li_1023, li_1000000, li_52, li_51, li_50, li_47, li_46, li_45, li_44, li_43, li_42, li_41, li_39, li_38, li_37, li_36, li_35, li_34, li_33, li_29, li_28, li_27, li_26, li_25, li_23, li_22, li_21, li_19, li_18, li_17, li_15, li_m8, li_m2, li_60, li_54, li_2907, li_151, li_127, oN, iI_add, iI_sub, iI_mul, iI_neg, Int.reduceAdd, Int.reduceSub, Int.reduceMul, Int.reduceNeg, Int.toNat_natCast, iI_lt, iI_le, iI_eq, iI_cl, true_or, or_true, false_or, or_false, true_and, and_true, not_true_eq_false, not_false_eq_true]; first | done | omega)) only [↓if_pos, ↓if_neg, Option.bind_some, Option.toList_some, Option.toList_none, List.cons_append, List.nil_append, l_0, l_1, l_m1, l_2, l_3, l_4, l_5, l_6, l_7, l_8, l_9, l_10, l_16, l_20, l_40, l_48, l_99, l_200, l_999, l_9999, li_73, li_78, li_m1000000, li_90, li_251, li_400, li_2400, li_91, li_153, li_173, li_96, li_32, li_92, li_12, li_93, li_80, li_14, li_1000000000, li_30, li_11, li_24, li_13, li_97, li_64, li_1600, li_49, li_255, li_2147483647, li_12345, li_1103515245, li_59, li_57, li_122, li_1023, li_1000000, li_52, li_51, li_50, li_47, li_46, li_45, li_44, li_43, li_42, li_41, li_39, li_38, li_37, li_36, li_35, li_34, li_33, li_29, li_28, li_27, li_26, li_25, li_23, li_22, li_21, li_19, li_18, li_17, li_15, li_m8, li_m2, li_60, li_54, li_2907, li_151, li_127, oN, iI_add, iI_sub, iI_mul, iI_neg, Int.reduceAdd, Int.reduceSub, Int.reduceMul, Int.reduceNeg, Int.toNat_natCast, iI_cl, cl_333, sg_333_e0, sg_333_3, sg_333_12, m_256f mr1, c219]
