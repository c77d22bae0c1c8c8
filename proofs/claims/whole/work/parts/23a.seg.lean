-- 1 X0_startAnew
set_option maxRecDepth 10000 in
theorem sg_1_e0 (X : am_X) (I : Nat → Nat → Int32) (J : Nat → Nat → Int64) : am_ev X amP_1 0 [.ref 106] [] (am_sh I J) = (am_do X 2 [.ref 106] (am_sh (am_up (am_up (am_up I 106 5 (0 : Int32)) 106 6 (0 : Int32)) 16 6 (0 : Int32)) J)).bind (fun q => am_ev X amP_1 12 [.ref 106] (q.1.toList ++ []) q.2) := by
  refine (ev_aload rfl rfl).trans ?_
  refine (ev_const0 (v := (0 : Int32)) rfl am_ci_0).trans ?_
  refine (ev_putI rfl (by decide) am_K_106 (by decide) rfl).trans ?_
  refine (ev_aload rfl rfl).trans ?_
  refine (ev_const0 (v := (0 : Int32)) rfl am_ci_0).trans ?_
  refine (ev_putI rfl (by decide) am_K_106 (by decide) rfl).trans ?_
  refine (ev_aload rfl rfl).trans ?_
  refine (ev_getR rfl (by decide) am_K_106 (by decide) rfl am_R_106_0).trans ?_
  refine (ev_const0 (v := (0 : Int32)) rfl am_ci_0).trans ?_
  refine (ev_putI rfl (by decide) am_K_16 (by decide) rfl).trans ?_
  refine (ev_aload rfl rfl).trans ?_
  exact ev_invv (as := []) rfl (by decide) am_K_106 rfl (by simp [Value.category])
theorem cl_1 (X : am_X) (I : Nat → Nat → Int32) (J : Nat → Nat → Int64) : am_do X 1 [.ref 106] (am_sh I J) = am_ev X amP_1 0 [.ref 106] [] (am_sh I J) := am_do_of rfl rfl rfl
set_option maxRecDepth 10000 in
theorem sg_1_12 (X : am_X) (I : Nat → Nat → Int32) (J : Nat → Nat → Int64) : am_ev X amP_1 12 [.ref 106] [] (am_sh I J) = some (none, am_sh I J) := by
  exact ev_vret rfl
-- 2 X0_changeAll
set_option maxRecDepth 10000 in
theorem sg_2_e0 (X : am_X) (I : Nat → Nat → Int32) (J : Nat → Nat → Int64) : am_ev X amP_2 0 [.ref 106] [] (am_sh I J) = (am_do X 79 [.ref 79] (am_sh (am_up I 16 8 ((I 16 8) + (1 : Int32))) J)).bind (fun q => am_ev X amP_2 10 [.ref 106] (q.1.toList ++ []) q.2) := by
  refine (ev_aload rfl rfl).trans ?_
  refine (ev_getR rfl (by decide) am_K_106 (by decide) rfl am_R_106_0).trans ?_
  refine (ev_dupr rfl).trans ?_
  refine (ev_getI rfl (by decide) am_K_16 (by decide) rfl).trans ?_
  refine (ev_const0 (v := (1 : Int32)) rfl am_ci_1).trans ?_
  refine (ev_iadd rfl).trans ?_
  refine (ev_putI rfl (by decide) am_K_16 (by decide) rfl).trans ?_
  refine (ev_aload rfl rfl).trans ?_
  refine (ev_getR rfl (by decide) am_K_106 (by decide) rfl am_R_106_1).trans ?_
  exact ev_invv (as := []) rfl (by decide) am_K_79 rfl (by simp [Value.category])
theorem cl_2 (X : am_X) (I : Nat → Nat → Int32) (J : Nat → Nat → Int64) : am_do X 2 [.ref 106] (am_sh I J) = am_ev X amP_2 0 [.ref 106] [] (am_sh I J) := am_do_of rfl rfl rfl
set_option maxRecDepth 10000 in
theorem sg_2_10 (X : am_X) (I : Nat → Nat → Int32) (J : Nat → Nat → Int64) : am_ev X amP_2 10 [.ref 106] [] (am_sh I J) = (am_do X 49 [.ref 83] (am_sh I J)).bind (fun q => am_ev X amP_2 13 [.ref 106] (q.1.toList ++ []) q.2) := by
  refine (ev_aload rfl rfl).trans ?_
  refine (ev_getR rfl (by decide) am_K_106 (by decide) rfl am_R_106_2).trans ?_
  exact ev_invv (as := []) rfl (by decide) am_K_83 rfl (by simp [Value.category])
set_option maxRecDepth 10000 in
theorem sg_2_13 (X : am_X) (I : Nat → Nat → Int32) (J : Nat → Nat → Int64) : am_ev X amP_2 13 [.ref 106] [] (am_sh I J) = some (none, am_sh I J) := by
  exact ev_vret rfl
-- 3 X0_changeOne
set_option maxRecDepth 10000 in
theorem sg_3_e0 (X : am_X) (I : Nat → Nat → Int32) (J : Nat → Nat → Int64) (x1 : Int32) : am_ev X amP_3 0 [.ref 106, .int x1] [] (am_sh I J) = (if x1 < 0 ∨ 10 ≤ x1.toNatClampNeg then none else (am_do X 31 [.ref (am_bd (x1.toNatClampNeg))] (am_sh I J)).bind (fun q => am_ev X amP_3 6 [.ref 106, .int x1] (q.1.toList ++ []) q.2)) := by
  refine (ev_aload rfl rfl).trans ?_
  refine (ev_getR rfl (by decide) am_K_106 (by decide) rfl am_R_106_0).trans ?_
  refine (ev_getR rfl (by decide) am_K_16 (by decide) rfl am_R_16_0).trans ?_
  refine (ev_iload rfl rfl).trans ?_
  refine (ev_aald rfl (by decide) (Or.inl am_K_17) (f := am_bd) (fun k hk => am_R17 hk)).trans (am_itn (fun g1 => ?_))
  exact ev_invv (as := []) rfl (by have := am_bd_lt (by omega : (x1.toNatClampNeg) < 11); omega) (am_Kbd (by omega : (x1.toNatClampNeg) < 11)) rfl (by simp [Value.category])
theorem cl_3 (X : am_X) (I : Nat → Nat → Int32) (J : Nat → Nat → Int64) (x1 : Int32) : am_do X 3 [.ref 106, .int x1] (am_sh I J) = am_ev X amP_3 0 [.ref 106, .int x1] [] (am_sh I J) := am_do_of rfl rfl rfl
set_option maxRecDepth 10000 in
theorem sg_3_6 (X : am_X) (I : Nat → Nat → Int32) (J : Nat → Nat → Int64) (x1 : Int32) : am_ev X amP_3 6 [.ref 106, .int x1] [] (am_sh I J) = (am_do X 80 [.ref 79, .int x1] (am_sh I J)).bind (fun q => am_ev X amP_3 10 [.ref 106, .int x1] (q.1.toList ++ []) q.2) := by
  refine (ev_aload rfl rfl).trans ?_
  refine (ev_getR rfl (by decide) am_K_106 (by decide) rfl am_R_106_1).trans ?_
  refine (ev_iload rfl rfl).trans ?_
  exact ev_invv (as := [.int x1]) rfl (by decide) am_K_79 rfl (by simp [Value.category])
set_option maxRecDepth 10000 in
theorem sg_3_10 (X : am_X) (I : Nat → Nat → Int32) (J : Nat → Nat → Int64) (x1 : Int32) : am_ev X amP_3 10 [.ref 106, .int x1] [] (am_sh I J) = (am_do X 50 [.ref 83, .int x1] (am_sh I J)).bind (fun q => am_ev X amP_3 14 [.ref 106, .int x1] (q.1.toList ++ []) q.2) := by
  refine (ev_aload rfl rfl).trans ?_
  refine (ev_getR rfl (by decide) am_K_106 (by decide) rfl am_R_106_2).trans ?_
  refine (ev_iload rfl rfl).trans ?_
  exact ev_invv (as := [.int x1]) rfl (by decide) am_K_83 rfl (by simp [Value.category])
set_option maxRecDepth 10000 in
theorem sg_3_14 (X : am_X) (I : Nat → Nat → Int32) (J : Nat → Nat → Int64) (x1 : Int32) : am_ev X amP_3 14 [.ref 106, .int x1] [] (am_sh I J) = some (none, am_sh I J) := by
  exact ev_vret rfl
-- 4 X0_begin
set_option maxRecDepth 10000 in
theorem sg_4_e0 (X : am_X) (I : Nat → Nat → Int32) (J : Nat → Nat → Int64) : am_ev X amP_4 0 [.ref 106] [] (am_sh I J) = (if ((((am_up I 16 8 ((I 16 8) + (1 : Int32))) 106 5) + ((am_up I 16 8 ((I 16 8) + (1 : Int32))) 106 6)) - (((am_up I 16 8 ((I 16 8) + (1 : Int32))) 106 5) + ((am_up I 16 8 ((I 16 8) + (1 : Int32))) 106 6)) / (20 : Int32) * (20 : Int32)) < 0 ∨ 20 ≤ ((((am_up I 16 8 ((I 16 8) + (1 : Int32))) 106 5) + ((am_up I 16 8 ((I 16 8) + (1 : Int32))) 106 6)) - (((am_up I 16 8 ((I 16 8) + (1 : Int32))) 106 5) + ((am_up I 16 8 ((I 16 8) + (1 : Int32))) 106 6)) / (20 : Int32) * (20 : Int32)).toNatClampNeg then none else (am_do X 108 [.ref 16, .ref (108 + ((((am_up I 16 8 ((I 16 8) + (1 : Int32))) 106 5) + ((am_up I 16 8 ((I 16 8) + (1 : Int32))) 106 6)) - (((am_up I 16 8 ((I 16 8) + (1 : Int32))) 106 5) + ((am_up I 16 8 ((I 16 8) + (1 : Int32))) 106 6)) / (20 : Int32) * (20 : Int32)).toNatClampNeg)] (am_sh (am_up I 16 8 ((I 16 8) + (1 : Int32))) J)).bind (fun q => am_ev X amP_4 20 [.ref 106] (q.1.toList ++ []) q.2)) := by
  refine (ev_aload rfl rfl).trans ?_
  refine (ev_getR rfl (by decide) am_K_106 (by decide) rfl am_R_106_0).trans ?_
  refine (ev_dupr rfl).trans ?_
  refine (ev_getI rfl (by decide) am_K_16 (by decide) rfl).trans ?_
  refine (ev_const0 (v := (1 : Int32)) rfl am_ci_1).trans ?_
  refine (ev_iadd rfl).trans ?_
  refine (ev_putI rfl (by decide) am_K_16 (by decide) rfl).trans ?_
  refine (ev_aload rfl rfl).trans ?_
  refine (ev_getR rfl (by decide) am_K_106 (by decide) rfl am_R_106_0).trans ?_
  refine (ev_aload rfl rfl).trans ?_
  refine (ev_getR rfl (by decide) am_K_106 (by decide) rfl am_R_106_4).trans ?_
  refine (ev_aload rfl rfl).trans ?_
  refine (ev_getI rfl (by decide) am_K_106 (by decide) rfl).trans ?_
  refine (ev_aload rfl rfl).trans ?_
  refine (ev_getI rfl (by decide) am_K_106 (by decide) rfl).trans ?_
  refine (ev_iadd rfl).trans ?_
  refine (ev_const1 (v := (20 : Int32)) rfl am_ci_20).trans ?_
  refine (ev_iremN (by decide) rfl).trans ?_
  refine (ev_aald rfl (by decide) (Or.inr am_K_107) (f := (fun k => 108 + k)) (fun k hk => am_R107 hk)).trans (am_itn (fun g1 => ?_))
  exact ev_invv (as := [.ref (108 + ((((am_up I 16 8 ((I 16 8) + (1 : Int32))) 106 5) + ((am_up I 16 8 ((I 16 8) + (1 : Int32))) 106 6)) - (((am_up I 16 8 ((I 16 8) + (1 : Int32))) 106 5) + ((am_up I 16 8 ((I 16 8) + (1 : Int32))) 106 6)) / (20 : Int32) * (20 : Int32)).toNatClampNeg)]) rfl (by decide) am_K_16 rfl (by simp [Value.category])
theorem cl_4 (X : am_X) (I : Nat → Nat → Int32) (J : Nat → Nat → Int64) : am_do X 4 [.ref 106] (am_sh I J) = am_ev X amP_4 0 [.ref 106] [] (am_sh I J) := am_do_of rfl rfl rfl
set_option maxRecDepth 10000 in
theorem sg_4_20 (X : am_X) (I : Nat → Nat → Int32) (J : Nat → Nat → Int64) : am_ev X amP_4 20 [.ref 106] [] (am_sh I J) = (if (20 : Int32) ≤ (I 106 6) then some (none, am_sh (am_up I 106 5 (((I 106 5) + (1 : Int32)) - ((I 106 5) + (1 : Int32)) / (20 : Int32) * (20 : Int32))) J) else some (none, am_sh (am_up I 106 6 ((I 106 6) + (1 : Int32))) J)) := by
  refine (ev_aload rfl rfl).trans ?_
  refine (ev_getI rfl (by decide) am_K_106 (by decide) rfl).trans ?_
  refine (ev_const1 (v := (20 : Int32)) rfl am_ci_20).trans ?_
  refine (ev_icmp3 rfl).trans (am_ite (fun c1 => ?_) (fun c1 => ?_))
  · refine (ev_aload rfl rfl).trans ?_
    refine (ev_aload rfl rfl).trans ?_
    refine (ev_getI rfl (by decide) am_K_106 (by decide) rfl).trans ?_
    refine (ev_const0 (v := (1 : Int32)) rfl am_ci_1).trans ?_
    refine (ev_iadd rfl).trans ?_
    refine (ev_const1 (v := (20 : Int32)) rfl am_ci_20).trans ?_
    refine (ev_iremN (by decide) rfl).trans ?_
    refine (ev_putI rfl (by decide) am_K_106 (by decide) rfl).trans ?_
    exact ev_vret rfl
  · refine (ev_aload rfl rfl).trans ?_
    refine (ev_dupr rfl).trans ?_
    refine (ev_getI rfl (by decide) am_K_106 (by decide) rfl).trans ?_
    refine (ev_const0 (v := (1 : Int32)) rfl am_ci_1).trans ?_
    refine (ev_iadd rfl).trans ?_
    refine (ev_putI rfl (by decide) am_K_106 (by decide) rfl).trans ?_
    refine (ev_goto rfl).trans ?_
    exact ev_vret rfl
-- 5 X0_takeBack
set_option maxRecDepth 10000 in
theorem sg_5_e0 (X : am_X) (I : Nat → Nat → Int32) (J : Nat → Nat → Int64) : am_ev X amP_5 0 [.ref 106] [] (am_sh I J) = (if ¬ (I 106 6) = 0 then (if ((((am_up I 106 6 ((I 106 6) - (1 : Int32))) 106 5) + ((am_up I 106 6 ((I 106 6) - (1 : Int32))) 106 6)) - (((am_up I 106 6 ((I 106 6) - (1 : Int32))) 106 5) + ((am_up I 106 6 ((I 106 6) - (1 : Int32))) 106 6)) / (20 : Int32) * (20 : Int32)) < 0 ∨ 20 ≤ ((((am_up I 106 6 ((I 106 6) - (1 : Int32))) 106 5) + ((am_up I 106 6 ((I 106 6) - (1 : Int32))) 106 6)) - (((am_up I 106 6 ((I 106 6) - (1 : Int32))) 106 5) + ((am_up I 106 6 ((I 106 6) - (1 : Int32))) 106 6)) / (20 : Int32) * (20 : Int32)).toNatClampNeg then none else (am_do X 109 [.ref 16, .ref (108 + ((((am_up I 106 6 ((I 106 6) - (1 : Int32))) 106 5) + ((am_up I 106 6 ((I 106 6) - (1 : Int32))) 106 6)) - (((am_up I 106 6 ((I 106 6) - (1 : Int32))) 106 5) + ((am_up I 106 6 ((I 106 6) - (1 : Int32))) 106 6)) / (20 : Int32) * (20 : Int32)).toNatClampNeg)] (am_sh (am_up I 106 6 ((I 106 6) - (1 : Int32))) J)).bind (fun q => am_ev X amP_5 24 [.ref 106] (q.1.toList ++ []) q.2)) else some (some (.int (0 : Int32)), am_sh I J)) := by
  refine (ev_aload rfl rfl).trans ?_
  refine (ev_getI rfl (by decide) am_K_106 (by decide) rfl).trans ?_
  refine (ev_if1 rfl).trans (am_ite (fun c1 => ?_) (fun c1 => ?_))
  · refine (ev_aload rfl rfl).trans ?_
    refine (ev_dupr rfl).trans ?_
    refine (ev_getI rfl (by decide) am_K_106 (by decide) rfl).trans ?_
    refine (ev_const0 (v := (1 : Int32)) rfl am_ci_1).trans ?_
    refine (ev_isub rfl).trans ?_
    refine (ev_putI rfl (by decide) am_K_106 (by decide) rfl).trans ?_
    refine (ev_aload rfl rfl).trans ?_
    refine (ev_getR rfl (by decide) am_K_106 (by decide) rfl am_R_106_0).trans ?_
    refine (ev_aload rfl rfl).trans ?_
    refine (ev_getR rfl (by decide) am_K_106 (by decide) rfl am_R_106_4).trans ?_
    refine (ev_aload rfl rfl).trans ?_
    refine (ev_getI rfl (by decide) am_K_106 (by decide) rfl).trans ?_
    refine (ev_aload rfl rfl).trans ?_
    refine (ev_getI rfl (by decide) am_K_106 (by decide) rfl).trans ?_
    refine (ev_iadd rfl).trans ?_
    refine (ev_const1 (v := (20 : Int32)) rfl am_ci_20).trans ?_
    refine (ev_iremN (by decide) rfl).trans ?_
    refine (ev_aald rfl (by decide) (Or.inr am_K_107) (f := (fun k => 108 + k)) (fun k hk => am_R107 hk)).trans (am_itn (fun g2 => ?_))
    exact ev_invv (as := [.ref (108 + ((((am_up I 106 6 ((I 106 6) - (1 : Int32))) 106 5) + ((am_up I 106 6 ((I 106 6) - (1 : Int32))) 106 6)) - (((am_up I 106 6 ((I 106 6) - (1 : Int32))) 106 5) + ((am_up I 106 6 ((I 106 6) - (1 : Int32))) 106 6)) / (20 : Int32) * (20 : Int32)).toNatClampNeg)]) rfl (by decide) am_K_16 rfl (by simp [Value.category])
  · refine (ev_const0 (v := (0 : Int32)) rfl am_ci_0).trans ?_
    exact ev_zret rfl (by decide)
theorem cl_5 (X : am_X) (I : Nat → Nat → Int32) (J : Nat → Nat → Int64) : am_do X 5 [.ref 106] (am_sh I J) = am_ev X amP_5 0 [.ref 106] [] (am_sh I J) := am_do_of rfl rfl rfl
set_option maxRecDepth 10000 in
theorem sg_5_24 (X : am_X) (I : Nat → Nat → Int32) (J : Nat → Nat → Int64) : am_ev X amP_5 24 [.ref 106] [] (am_sh I J) = (am_do X 2 [.ref 106] (am_sh I J)).bind (fun q => am_ev X amP_5 26 [.ref 106] (q.1.toList ++ []) q.2) := by
  refine (ev_aload rfl rfl).trans ?_
  exact ev_invv (as := []) rfl (by decide) am_K_106 rfl (by simp [Value.category])
set_option maxRecDepth 10000 in
theorem sg_5_26 (X : am_X) (I : Nat → Nat → Int32) (J : Nat → Nat → Int64) : am_ev X amP_5 26 [.ref 106] [] (am_sh I J) = some (some (.int (1 : Int32)), am_sh I J) := by
  refine (ev_const0 (v := (1 : Int32)) rfl am_ci_1).trans ?_
  exact ev_zret rfl (by decide)
-- 6 X0_burnOne
set_option maxRecDepth 10000 in
theorem sg_6_e0 (X : am_X) (I : Nat → Nat → Int32) (J : Nat → Nat → Int64) (x1 : Int32) (x2 : Int32) (x3 : Int32) : am_ev X amP_6 0 [.ref 106, .int x1, .int x2, .int x3] [] (am_sh I J) = (am_do X 4 [.ref 106] (am_sh I J)).bind (fun q => am_ev X amP_6 2 [.ref 106, .int x1, .int x2, .int x3] (q.1.toList ++ []) q.2) := by
  refine (ev_aload rfl rfl).trans ?_
  exact ev_invv (as := []) rfl (by decide) am_K_106 rfl (by simp [Value.category])
theorem cl_6 (X : am_X) (I : Nat → Nat → Int32) (J : Nat → Nat → Int64) (x1 : Int32) (x2 : Int32) (x3 : Int32) : am_do X 6 [.ref 106, .int x1, .int x2, .int x3] (am_sh I J) = am_ev X amP_6 0 [.ref 106, .int x1, .int x2, .int x3] [] (am_sh I J) := am_do_of rfl rfl rfl
set_option maxRecDepth 10000 in
theorem sg_6_2 (X : am_X) (I : Nat → Nat → Int32) (J : Nat → Nat → Int64) (x1 : Int32) (x2 : Int32) (x3 : Int32) : am_ev X amP_6 2 [.ref 106, .int x1, .int x2, .int x3] [] (am_sh I J) = (if x1 < 0 ∨ 10 ≤ x1.toNatClampNeg then none else (am_do X 47 [.ref (am_bd (x1.toNatClampNeg)), .int x2, .int x3] (am_sh I J)).bind (fun q => am_ev X amP_6 10 [.ref 106, .int x1, .int x2, .int x3] (q.1.toList ++ []) q.2)) := by
  refine (ev_aload rfl rfl).trans ?_
  refine (ev_getR rfl (by decide) am_K_106 (by decide) rfl am_R_106_0).trans ?_
  refine (ev_getR rfl (by decide) am_K_16 (by decide) rfl am_R_16_0).trans ?_
  refine (ev_iload rfl rfl).trans ?_
  refine (ev_aald rfl (by decide) (Or.inl am_K_17) (f := am_bd) (fun k hk => am_R17 hk)).trans (am_itn (fun g1 => ?_))
  refine (ev_iload rfl rfl).trans ?_
  refine (ev_iload rfl rfl).trans ?_
  exact ev_invv (as := [.int x3, .int x2]) rfl (by have := am_bd_lt (by omega : (x1.toNatClampNeg) < 11); omega) (am_Kbd (by omega : (x1.toNatClampNeg) < 11)) rfl (by simp [Value.category])
set_option maxRecDepth 10000 in
theorem sg_6_10 (X : am_X) (I : Nat → Nat → Int32) (J : Nat → Nat → Int64) (x1 : Int32) (x2 : Int32) (x3 : Int32) : am_ev X amP_6 10 [.ref 106, .int x1, .int x2, .int x3] [] (am_sh I J) = (am_do X 3 [.ref 106, .int x1] (am_sh I J)).bind (fun q => am_ev X amP_6 13 [.ref 106, .int x1, .int x2, .int x3] (q.1.toList ++ []) q.2) := by
  refine (ev_aload rfl rfl).trans ?_
  refine (ev_iload rfl rfl).trans ?_
  exact ev_invv (as := [.int x1]) rfl (by decide) am_K_106 rfl (by simp [Value.category])
set_option maxRecDepth 10000 in
theorem sg_6_13 (X : am_X) (I : Nat → Nat → Int32) (J : Nat → Nat → Int64) (x1 : Int32) (x2 : Int32) (x3 : Int32) : am_ev X amP_6 13 [.ref 106, .int x1, .int x2, .int x3] [] (am_sh I J) = some (none, am_sh I J) := by
  exact ev_vret rfl
-- 7 X0_raise
set_option maxRecDepth 10000 in
theorem sg_7_e0 (X : am_X) (I : Nat → Nat → Int32) (J : Nat → Nat → Int64) (x1 : Int32) (x2 : Int32) : am_ev X amP_7 0 [.ref 106, .int x1, .int x2] [] (am_sh I J) = (am_do X 4 [.ref 106] (am_sh I J)).bind (fun q => am_ev X amP_7 2 [.ref 106, .int x1, .int x2] (q.1.toList ++ []) q.2) := by
  refine (ev_aload rfl rfl).trans ?_
  exact ev_invv (as := []) rfl (by decide) am_K_106 rfl (by simp [Value.category])
theorem cl_7 (X : am_X) (I : Nat → Nat → Int32) (J : Nat → Nat → Int64) (x1 : Int32) (x2 : Int32) : am_do X 7 [.ref 106, .int x1, .int x2] (am_sh I J) = am_ev X amP_7 0 [.ref 106, .int x1, .int x2] [] (am_sh I J) := am_do_of rfl rfl rfl
set_option maxRecDepth 10000 in
theorem sg_7_2 (X : am_X) (I : Nat → Nat → Int32) (J : Nat → Nat → Int64) (x1 : Int32) (x2 : Int32) : am_ev X amP_7 2 [.ref 106, .int x1, .int x2] [] (am_sh I J) = (if x1 < 0 ∨ 10 ≤ x1.toNatClampNeg then none else (if x2 = 0 then some (none, am_sh (am_up I (am_bd (x1.toNatClampNeg) + 1) 8 (0 : Int32)) J) else some (none, am_sh (am_up I (am_bd (x1.toNatClampNeg) + 1) 8 (1 : Int32)) J))) := by
  refine (ev_aload rfl rfl).trans ?_
  refine (ev_getR rfl (by decide) am_K_106 (by decide) rfl am_R_106_0).trans ?_
  refine (ev_getR rfl (by decide) am_K_16 (by decide) rfl am_R_16_0).trans ?_
  refine (ev_iload rfl rfl).trans ?_
  refine (ev_aald rfl (by decide) (Or.inl am_K_17) (f := am_bd) (fun k hk => am_R17 hk)).trans (am_itn (fun g1 => ?_))
  refine (ev_getR rfl (by have := am_bd_lt (by omega : (x1.toNatClampNeg) < 11); omega) (am_Kbd (by omega : (x1.toNatClampNeg) < 11)) (by decide) rfl (am_Rb2 (by omega : (x1.toNatClampNeg) < 11))).trans ?_
  refine (ev_const1 (v := (8 : Int32)) rfl am_ci_8).trans ?_
  refine (ev_iload rfl rfl).trans ?_
  refine (ev_if0 rfl).trans (am_ite (fun c2 => ?_) (fun c2 => ?_))
  · refine (ev_const0 (v := (0 : Int32)) rfl am_ci_0).trans ?_
    refine (ev_iastC (jn := 8) rfl (by have := am_bd_lt (by omega : (x1.toNatClampNeg) < 11); omega) (am_Kbn (by omega : (x1.toNatClampNeg) < 11)) (by decide) (by decide)).trans ?_
    exact ev_vret rfl
  · refine (ev_const0 (v := (1 : Int32)) rfl am_ci_1).trans ?_
    refine (ev_goto rfl).trans ?_
    refine (ev_iastC (jn := 8) rfl (by have := am_bd_lt (by omega : (x1.toNatClampNeg) < 11); omega) (am_Kbn (by omega : (x1.toNatClampNeg) < 11)) (by decide) (by decide)).trans ?_
    exact ev_vret rfl
-- 8 X0_widen
set_option maxRecDepth 10000 in
theorem sg_8_e0 (X : am_X) (I : Nat → Nat → Int32) (J : Nat → Nat → Int64) (x1 : Int32) : am_ev X amP_8 0 [.ref 106, .int x1] [] (am_sh I J) = (am_do X 4 [.ref 106] (am_sh I J)).bind (fun q => am_ev X amP_8 2 [.ref 106, .int x1] (q.1.toList ++ []) q.2) := by
  refine (ev_aload rfl rfl).trans ?_
  exact ev_invv (as := []) rfl (by decide) am_K_106 rfl (by simp [Value.category])
theorem cl_8 (X : am_X) (I : Nat → Nat → Int32) (J : Nat → Nat → Int64) (x1 : Int32) : am_do X 8 [.ref 106, .int x1] (am_sh I J) = am_ev X amP_8 0 [.ref 106, .int x1] [] (am_sh I J) := am_do_of rfl rfl rfl
set_option maxRecDepth 10000 in
theorem sg_8_2 (X : am_X) (I : Nat → Nat → Int32) (J : Nat → Nat → Int64) (x1 : Int32) : am_ev X amP_8 2 [.ref 106, .int x1] [] (am_sh I J) = (am_do X 79 [.ref 79] (am_sh (am_up I 16 3 x1) J)).bind (fun q => am_ev X amP_8 9 [.ref 106, .int x1] (q.1.toList ++ []) q.2) := by
  refine (ev_aload rfl rfl).trans ?_
  refine (ev_getR rfl (by decide) am_K_106 (by decide) rfl am_R_106_0).trans ?_
  refine (ev_iload rfl rfl).trans ?_
  refine (ev_putI rfl (by decide) am_K_16 (by decide) rfl).trans ?_
  refine (ev_aload rfl rfl).trans ?_
  refine (ev_getR rfl (by decide) am_K_106 (by decide) rfl am_R_106_1).trans ?_
  exact ev_invv (as := []) rfl (by decide) am_K_79 rfl (by simp [Value.category])
set_option maxRecDepth 10000 in
theorem sg_8_9 (X : am_X) (I : Nat → Nat → Int32) (J : Nat → Nat → Int64) (x1 : Int32) : am_ev X amP_8 9 [.ref 106, .int x1] [] (am_sh I J) = some (none, am_sh I J) := by
  exact ev_vret rfl
-- 9 X0_goOn
set_option maxRecDepth 10000 in
theorem sg_9_e0 (X : am_X) (I : Nat → Nat → Int32) (J : Nat → Nat → Int64) (x1 : Int32) : am_ev X amP_9 0 [.ref 106, .int x1] [] (am_sh I J) = (am_do X 4 [.ref 106] (am_sh I J)).bind (fun q => am_ev X amP_9 2 [.ref 106, .int x1] (q.1.toList ++ []) q.2) := by
  refine (ev_aload rfl rfl).trans ?_
  exact ev_invv (as := []) rfl (by decide) am_K_106 rfl (by simp [Value.category])
theorem cl_9 (X : am_X) (I : Nat → Nat → Int32) (J : Nat → Nat → Int64) (x1 : Int32) : am_do X 9 [.ref 106, .int x1] (am_sh I J) = am_ev X amP_9 0 [.ref 106, .int x1] [] (am_sh I J) := am_do_of rfl rfl rfl
set_option maxRecDepth 10000 in
theorem sg_9_2 (X : am_X) (I : Nat → Nat → Int32) (J : Nat → Nat → Int64) (x1 : Int32) : am_ev X amP_9 2 [.ref 106, .int x1] [] (am_sh I J) = (am_do X 10 [.ref 106, .int x1] (am_sh I J)).bind (fun q => am_ev X amP_9 5 [.ref 106, .int x1] (q.1.toList ++ []) q.2) := by
  refine (ev_aload rfl rfl).trans ?_
  refine (ev_iload rfl rfl).trans ?_
  exact ev_invv (as := [.int x1]) rfl (by decide) am_K_106 rfl (by simp [Value.category])
set_option maxRecDepth 10000 in
theorem sg_9_5 (X : am_X) (I : Nat → Nat → Int32) (J : Nat → Nat → Int64) (x1 : Int32) : am_ev X amP_9 5 [.ref 106, .int x1] [] (am_sh I J) = some (none, am_sh I J) := by
  exact ev_vret rfl
-- 10 X0_passTicks
set_option maxRecDepth 10000 in
theorem sg_10_e0 (X : am_X) (I : Nat → Nat → Int32) (J : Nat → Nat → Int64) (x1 : Int32) : am_ev X amP_10 0 [.ref 106, .int x1, .null, .null] [] (am_sh I J) = am_ev X amP_10 2 [.ref 106, .int x1, .int (0 : Int32), .null] [] (am_sh I J) := by
  refine (ev_const0 (v := (0 : Int32)) rfl am_ci_0).trans ?_
  refine (ev_istore (ls' := [.ref 106, .int x1, .int (0 : Int32), .null]) rfl (Nat.le_of_ble_eq_true rfl) rfl).trans ?_
  rfl
theorem cl_10 (X : am_X) (I : Nat → Nat → Int32) (J : Nat → Nat → Int64) (x1 : Int32) : am_do X 10 [.ref 106, .int x1] (am_sh I J) = am_ev X amP_10 0 [.ref 106, .int x1, .null, .null] [] (am_sh I J) := am_do_of rfl rfl rfl
set_option maxRecDepth 10000 in
theorem sg_10_2 (X : am_X) (I : Nat → Nat → Int32) (J : Nat → Nat → Int64) (x1 : Int32) (x2 : Int32) (w3 : Value) (hw3 : w3.category = 1) : am_ev X amP_10 2 [.ref 106, .int x1, .int x2, w3] [] (am_sh I J) = (if x1 ≤ x2 then some (none, am_sh I J) else (if (9999 : Int32) ≤ (I 16 5) then some (none, am_sh I J) else (am_do X 20 [.ref 89] (am_sh I J)).bind (fun q => am_ev X amP_10 13 [.ref 106, .int x1, .int x2, w3] (q.1.toList ++ []) q.2))) := by
  refine (ev_iload rfl rfl).trans ?_
  refine (ev_iload rfl rfl).trans ?_
  refine (ev_icmp3 rfl).trans (am_ite (fun c1 => ?_) (fun c1 => ?_))
  · exact ev_vret rfl
  · refine (ev_aload rfl rfl).trans ?_
    refine (ev_getR rfl (by decide) am_K_106 (by decide) rfl am_R_106_0).trans ?_
    refine (ev_getI rfl (by decide) am_K_16 (by decide) rfl).trans ?_
    refine (ev_const2 (v := (9999 : Int32)) rfl am_ci_9999).trans ?_
    refine (ev_icmp3 rfl).trans (am_ite (fun c2 => ?_) (fun c2 => ?_))
    · exact ev_vret rfl
    · refine (ev_aload rfl rfl).trans ?_
      refine (ev_getR rfl (by decide) am_K_106 (by decide) rfl am_R_106_3).trans ?_
      exact ev_invv (as := []) rfl (by decide) am_K_89 rfl (by simp [Value.category])
set_option maxRecDepth 10000 in
theorem sg_10_13 (X : am_X) (I : Nat → Nat → Int32) (J : Nat → Nat → Int64) (x1 : Int32) (x2 : Int32) (w3 : Value) (x4 : Int32) (hw3 : w3.category = 1) : am_ev X amP_10 13 [.ref 106, .int x1, .int x2, w3] [.int x4] (am_sh I J) = (if x4 = 0 then am_ev X amP_10 2 [.ref 106, .int x1, .int (x2 + (1 : Int32)), .int x4] [] (am_sh (am_up I 16 5 ((I 16 5) + (1 : Int32))) J) else (am_do X 107 [.ref 16, .int x4] (am_sh I J)).bind (fun q => am_ev X amP_10 20 [.ref 106, .int x1, .int x2, .int x4] (q.1.toList ++ []) q.2)) := by
  refine (ev_istore (ls' := [.ref 106, .int x1, .int x2, .int x4]) rfl (Nat.le_of_ble_eq_true rfl) rfl).trans ?_
  refine (ev_iload rfl rfl).trans ?_
  refine (ev_if0 rfl).trans (am_ite (fun c1 => ?_) (fun c1 => ?_))
  · refine (ev_aload rfl rfl).trans ?_
    refine (ev_getR rfl (by decide) am_K_106 (by decide) rfl am_R_106_0).trans ?_
    refine (ev_dupr rfl).trans ?_
    refine (ev_getI rfl (by decide) am_K_16 (by decide) rfl).trans ?_
    refine (ev_const0 (v := (1 : Int32)) rfl am_ci_1).trans ?_
    refine (ev_iadd rfl).trans ?_
    refine (ev_putI rfl (by decide) am_K_16 (by decide) rfl).trans ?_
    refine (ev_iincv (v := (1 : Int32)) (ls' := [.ref 106, .int x1, .int (x2 + (1 : Int32)), .int x4]) rfl am_ci_1 rfl rfl).trans ?_
    refine (ev_goto rfl).trans ?_
    rfl
  · refine (ev_aload rfl rfl).trans ?_
    refine (ev_getR rfl (by decide) am_K_106 (by decide) rfl am_R_106_0).trans ?_
    refine (ev_iload rfl rfl).trans ?_
    exact ev_invv (as := [.int x4]) rfl (by decide) am_K_16 rfl (by simp [Value.category])
set_option maxRecDepth 10000 in
theorem sg_10_20 (X : am_X) (I : Nat → Nat → Int32) (J : Nat → Nat → Int64) (x1 : Int32) (x2 : Int32) (x3 : Int32) : am_ev X amP_10 20 [.ref 106, .int x1, .int x2, .int x3] [] (am_sh I J) = am_ev X amP_10 2 [.ref 106, .int x1, .int (x2 + (1 : Int32)), .int x3] [] (am_sh (am_up I 16 5 ((I 16 5) + (1 : Int32))) J) := by
  refine (ev_aload rfl rfl).trans ?_
  refine (ev_getR rfl (by decide) am_K_106 (by decide) rfl am_R_106_0).trans ?_
  refine (ev_dupr rfl).trans ?_
  refine (ev_getI rfl (by decide) am_K_16 (by decide) rfl).trans ?_
  refine (ev_const0 (v := (1 : Int32)) rfl am_ci_1).trans ?_
  refine (ev_iadd rfl).trans ?_
  refine (ev_putI rfl (by decide) am_K_16 (by decide) rfl).trans ?_
  refine (ev_iincv (v := (1 : Int32)) (ls' := [.ref 106, .int x1, .int (x2 + (1 : Int32)), .int x3]) rfl am_ci_1 rfl rfl).trans ?_
  refine (ev_goto rfl).trans ?_
  rfl
-- 11 X0_leaveToSeed
set_option maxRecDepth 10000 in
theorem sg_11_e0 (X : am_X) (I : Nat → Nat → Int32) (J : Nat → Nat → Int64) (x1 : Int32) : am_ev X amP_11 0 [.ref 106, .int x1, .null] [] (am_sh I J) = (am_do X 4 [.ref 106] (am_sh I J)).bind (fun q => am_ev X amP_11 2 [.ref 106, .int x1, .null] (q.1.toList ++ []) q.2) := by
  refine (ev_aload rfl rfl).trans ?_
  exact ev_invv (as := []) rfl (by decide) am_K_106 rfl (by simp [Value.category])
theorem cl_11 (X : am_X) (I : Nat → Nat → Int32) (J : Nat → Nat → Int64) (x1 : Int32) : am_do X 11 [.ref 106, .int x1] (am_sh I J) = am_ev X amP_11 0 [.ref 106, .int x1, .null] [] (am_sh I J) := am_do_of rfl rfl rfl
set_option maxRecDepth 10000 in
theorem sg_11_2 (X : am_X) (I : Nat → Nat → Int32) (J : Nat → Nat → Int64) (x1 : Int32) (w2 : Value) (hw2 : w2.category = 1) : am_ev X amP_11 2 [.ref 106, .int x1, w2] [] (am_sh I J) = am_ev X amP_11 4 [.ref 106, .int x1, .int (0 : Int32)] [] (am_sh I J) := by
  refine (ev_const0 (v := (0 : Int32)) rfl am_ci_0).trans ?_
  refine (ev_istore (ls' := [.ref 106, .int x1, .int (0 : Int32)]) rfl (Nat.le_of_ble_eq_true rfl) rfl).trans ?_
  rfl
set_option maxRecDepth 10000 in
theorem sg_11_4 (X : am_X) (I : Nat → Nat → Int32) (J : Nat → Nat → Int64) (x1 : Int32) (x2 : Int32) : am_ev X amP_11 4 [.ref 106, .int x1, .int x2] [] (am_sh I J) = (if x1 ≤ x2 then some (none, am_sh I J) else (am_do X 13 [.ref 106, .int (I 16 2)] (am_sh I J)).bind (fun q => am_ev X amP_11 13 [.ref 106, .int x1, .int x2] (q.1.toList ++ [.ref 106]) q.2)) := by
  refine (ev_iload rfl rfl).trans ?_
  refine (ev_iload rfl rfl).trans ?_
  refine (ev_icmp3 rfl).trans (am_ite (fun c1 => ?_) (fun c1 => ?_))
  · exact ev_vret rfl
  · refine (ev_aload rfl rfl).trans ?_
    refine (ev_aload rfl rfl).trans ?_
    refine (ev_aload rfl rfl).trans ?_
    refine (ev_getR rfl (by decide) am_K_106 (by decide) rfl am_R_106_0).trans ?_
    refine (ev_getI rfl (by decide) am_K_16 (by decide) rfl).trans ?_
    exact ev_invv (as := [.int (I 16 2)]) rfl (by decide) am_K_106 rfl (by simp [Value.category])
set_option maxRecDepth 10000 in
theorem sg_11_13 (X : am_X) (I : Nat → Nat → Int32) (J : Nat → Nat → Int64) (x1 : Int32) (x2 : Int32) (x3 : Int32) : am_ev X amP_11 13 [.ref 106, .int x1, .int x2] [.int x3, .ref 106] (am_sh I J) = (am_do X 13 [.ref 106, .int (3 : Int32)] (am_sh I J)).bind (fun q => am_ev X amP_11 16 [.ref 106, .int x1, .int x2] (q.1.toList ++ [.int x3, .ref 106]) q.2) := by
  refine (ev_aload rfl rfl).trans ?_
  refine (ev_const0 (v := (3 : Int32)) rfl am_ci_3).trans ?_
  exact ev_invv (as := [.int (3 : Int32)]) rfl (by decide) am_K_106 rfl (by simp [Value.category])
set_option maxRecDepth 10000 in
theorem sg_11_16 (X : am_X) (I : Nat → Nat → Int32) (J : Nat → Nat → Int64) (x1 : Int32) (x2 : Int32) (x3 : Int32) (x4 : Int32) : am_ev X amP_11 16 [.ref 106, .int x1, .int x2] [.int x4, .int x3, .ref 106] (am_sh I J) = (am_do X 12 [.ref 106, .int x3, .int x4] (am_sh I J)).bind (fun q => am_ev X amP_11 17 [.ref 106, .int x1, .int x2] (q.1.toList ++ []) q.2) := by
  exact ev_invv (as := [.int x4, .int x3]) rfl (by decide) am_K_106 rfl (by simp [Value.category])
set_option maxRecDepth 10000 in
theorem sg_11_17 (X : am_X) (I : Nat → Nat → Int32) (J : Nat → Nat → Int64) (x1 : Int32) (x2 : Int32) : am_ev X amP_11 17 [.ref 106, .int x1, .int x2] [] (am_sh I J) = (am_do X 13 [.ref 106, .int (8 : Int32)] (am_sh I J)).bind (fun q => am_ev X amP_11 21 [.ref 106, .int x1, .int x2] (q.1.toList ++ [.ref 106]) q.2) := by
  refine (ev_aload rfl rfl).trans ?_
  refine (ev_aload rfl rfl).trans ?_
  refine (ev_const1 (v := (8 : Int32)) rfl am_ci_8).trans ?_
  exact ev_invv (as := [.int (8 : Int32)]) rfl (by decide) am_K_106 rfl (by simp [Value.category])
set_option maxRecDepth 10000 in
theorem sg_11_21 (X : am_X) (I : Nat → Nat → Int32) (J : Nat → Nat → Int64) (x1 : Int32) (x2 : Int32) (x3 : Int32) : am_ev X amP_11 21 [.ref 106, .int x1, .int x2] [.int x3, .ref 106] (am_sh I J) = (am_do X 10 [.ref 106, .int x3] (am_sh I J)).bind (fun q => am_ev X amP_11 22 [.ref 106, .int x1, .int x2] (q.1.toList ++ []) q.2) := by
  exact ev_invv (as := [.int x3]) rfl (by decide) am_K_106 rfl (by simp [Value.category])
set_option maxRecDepth 10000 in
theorem sg_11_22 (X : am_X) (I : Nat → Nat → Int32) (J : Nat → Nat → Int64) (x1 : Int32) (x2 : Int32) : am_ev X amP_11 22 [.ref 106, .int x1, .int x2] [] (am_sh I J) = am_ev X amP_11 4 [.ref 106, .int x1, .int (x2 + (1 : Int32))] [] (am_sh I J) := by
  refine (ev_iincv (v := (1 : Int32)) (ls' := [.ref 106, .int x1, .int (x2 + (1 : Int32))]) rfl am_ci_1 rfl rfl).trans ?_
  refine (ev_goto rfl).trans ?_
  rfl
-- 12 X0_changeDrawn
set_option maxRecDepth 10000 in
theorem sg_12_e0 (X : am_X) (I : Nat → Nat → Int32) (J : Nat → Nat → Int64) (x1 : Int32) (x2 : Int32) : am_ev X amP_12 0 [.ref 106, .int x1, .int x2, .null] [] (am_sh I J) = (if x1 < 0 ∨ 10 ≤ x1.toNatClampNeg then none else (if ¬ x2 = 0 then (if ¬ x2 = (1 : Int32) then (am_do X 13 [.ref 106, .int (I (am_bd (x1.toNatClampNeg) + 1) 2)] (am_sh I J)).bind (fun q => am_ev X amP_12 30 [.ref 106, .int x1, .int x2, .ref (am_bd (x1.toNatClampNeg) + 1)] (q.1.toList ++ [.int (4 : Int32), .ref (am_bd (x1.toNatClampNeg) + 1)]) q.2) else (am_do X 13 [.ref 106, .int (I (am_bd (x1.toNatClampNeg) + 1) 2)] (am_sh I J)).bind (fun q => am_ev X amP_12 30 [.ref 106, .int x1, .int x2, .ref (am_bd (x1.toNatClampNeg) + 1)] (q.1.toList ++ [.int (3 : Int32), .ref (am_bd (x1.toNatClampNeg) + 1)]) q.2)) else some (none, am_sh (am_up I (am_bd (x1.toNatClampNeg) + 1) 8 ((1 : Int32) - (I (am_bd (x1.toNatClampNeg) + 1) 8))) J))) := by
  refine (ev_aload rfl rfl).trans ?_
  refine (ev_getR rfl (by decide) am_K_106 (by decide) rfl am_R_106_0).trans ?_
  refine (ev_getR rfl (by decide) am_K_16 (by decide) rfl am_R_16_0).trans ?_
  refine (ev_iload rfl rfl).trans ?_
  refine (ev_aald rfl (by decide) (Or.inl am_K_17) (f := am_bd) (fun k hk => am_R17 hk)).trans (am_itn (fun g1 => ?_))
  refine (ev_getR rfl (by have := am_bd_lt (by omega : (x1.toNatClampNeg) < 11); omega) (am_Kbd (by omega : (x1.toNatClampNeg) < 11)) (by decide) rfl (am_Rb2 (by omega : (x1.toNatClampNeg) < 11))).trans ?_
  refine (ev_astore (ls' := [.ref 106, .int x1, .int x2, .ref (am_bd (x1.toNatClampNeg) + 1)]) rfl (Nat.le_of_ble_eq_true rfl) rfl).trans ?_
  refine (ev_iload rfl rfl).trans ?_
  refine (ev_if1 rfl).trans (am_ite (fun c2 => ?_) (fun c2 => ?_))
  · refine (ev_aload rfl rfl).trans ?_
    refine (ev_iload rfl rfl).trans ?_
    refine (ev_const0 (v := (1 : Int32)) rfl am_ci_1).trans ?_
    refine (ev_icmp1 rfl).trans (am_ite (fun c3 => ?_) (fun c3 => ?_))
    · refine (ev_const0 (v := (4 : Int32)) rfl am_ci_4).trans ?_
      refine (ev_aload rfl rfl).trans ?_
      refine (ev_aload rfl rfl).trans ?_
      refine (ev_const0 (v := (2 : Int32)) rfl am_ci_2).trans ?_
      refine (ev_ialdC (jn := 2) rfl (by have := am_bd_lt (by omega : (x1.toNatClampNeg) < 11); omega) (am_Kbn (by omega : (x1.toNatClampNeg) < 11)) (by decide) (by decide)).trans ?_
      exact ev_invv (as := [.int (I (am_bd (x1.toNatClampNeg) + 1) 2)]) rfl (by decide) am_K_106 rfl (by simp [Value.category])
    · refine (ev_const0 (v := (3 : Int32)) rfl am_ci_3).trans ?_
      refine (ev_goto rfl).trans ?_
      refine (ev_aload rfl rfl).trans ?_
      refine (ev_aload rfl rfl).trans ?_
      refine (ev_const0 (v := (2 : Int32)) rfl am_ci_2).trans ?_
      refine (ev_ialdC (jn := 2) rfl (by have := am_bd_lt (by omega : (x1.toNatClampNeg) < 11); omega) (am_Kbn (by omega : (x1.toNatClampNeg) < 11)) (by decide) (by decide)).trans ?_
      exact ev_invv (as := [.int (I (am_bd (x1.toNatClampNeg) + 1) 2)]) rfl (by decide) am_K_106 rfl (by simp [Value.category])
  · refine (ev_aload rfl rfl).trans ?_
    refine (ev_const1 (v := (8 : Int32)) rfl am_ci_8).trans ?_
    refine (ev_const0 (v := (1 : Int32)) rfl am_ci_1).trans ?_
    refine (ev_aload rfl rfl).trans ?_
    refine (ev_const1 (v := (8 : Int32)) rfl am_ci_8).trans ?_
    refine (ev_ialdC (jn := 8) rfl (by have := am_bd_lt (by omega : (x1.toNatClampNeg) < 11); omega) (am_Kbn (by omega : (x1.toNatClampNeg) < 11)) (by decide) (by decide)).trans ?_
    refine (ev_isub rfl).trans ?_
    refine (ev_iastC (jn := 8) rfl (by have := am_bd_lt (by omega : (x1.toNatClampNeg) < 11); omega) (am_Kbn (by omega : (x1.toNatClampNeg) < 11)) (by decide) (by decide)).trans ?_
    exact ev_vret rfl
theorem cl_12 (X : am_X) (I : Nat → Nat → Int32) (J : Nat → Nat → Int64) (x1 : Int32) (x2 : Int32) : am_do X 12 [.ref 106, .int x1, .int x2] (am_sh I J) = am_ev X amP_12 0 [.ref 106, .int x1, .int x2, .null] [] (am_sh I J) := am_do_of rfl rfl rfl
set_option maxRecDepth 10000 in
theorem sg_12_30 (X : am_X) (I : Nat → Nat → Int32) (J : Nat → Nat → Int64) (x1 : Int32) (x2 : Int32) (b3 : Nat) (b4 : Nat) (x5 : Int32) (x6 : Int32) (hb3 : b3 < 11) (hb4 : b4 < 11) : am_ev X amP_12 30 [.ref 106, .int x1, .int x2, .ref (am_bd b3 + 1)] [.int x6, .int x5, .ref (am_bd b4 + 1)] (am_sh I J) = (if x5 < 0 ∨ 9 ≤ x5.toNatClampNeg then none else (am_do X 3 [.ref 106, .int x1] (am_sh (am_up I (am_bd b4 + 1) x5.toNatClampNeg x6) J)).bind (fun q => am_ev X amP_12 34 [.ref 106, .int x1, .int x2, .ref (am_bd b3 + 1)] (q.1.toList ++ []) q.2)) := by
  refine (ev_iast rfl (by have := am_bd_lt hb4; omega) (am_Kbn hb4)).trans (am_itn (fun g1 => ?_))
  refine (ev_aload rfl rfl).trans ?_
  refine (ev_iload rfl rfl).trans ?_
  exact ev_invv (as := [.int x1]) rfl (by decide) am_K_106 rfl (by simp [Value.category])
set_option maxRecDepth 10000 in
theorem sg_12_34 (X : am_X) (I : Nat → Nat → Int32) (J : Nat → Nat → Int64) (x1 : Int32) (x2 : Int32) (b3 : Nat) (hb3 : b3 < 11) : am_ev X amP_12 34 [.ref 106, .int x1, .int x2, .ref (am_bd b3 + 1)] [] (am_sh I J) = some (none, am_sh I J) := by
  exact ev_vret rfl
-- 13 X0_drawOf
set_option maxRecDepth 10000 in
theorem sg_13_e0 (X : am_X) (I : Nat → Nat → Int32) (J : Nat → Nat → Int64) (x1 : Int32) : am_ev X amP_13 0 [.ref 106, .int x1] [] (am_sh I J) = (if (1 : Int32) ≤ x1 then (if x1 = 0 then none else some (some (.int ((((am_up I 106 7 ((((1103515245 : Int32) * (I 106 7)) + (12345 : Int32)) &&& (2147483647 : Int32))) 106 7) / (64 : Int32)) - (((am_up I 106 7 ((((1103515245 : Int32) * (I 106 7)) + (12345 : Int32)) &&& (2147483647 : Int32))) 106 7) / (64 : Int32)) / x1 * x1)), am_sh (am_up I 106 7 ((((1103515245 : Int32) * (I 106 7)) + (12345 : Int32)) &&& (2147483647 : Int32))) J)) else some (some (.int (0 : Int32)), am_sh (am_up I 106 7 ((((1103515245 : Int32) * (I 106 7)) + (12345 : Int32)) &&& (2147483647 : Int32))) J)) := by
  refine (ev_aload rfl rfl).trans ?_
  refine (ev_const3 (v := (1103515245 : Int32)) rfl am_ci_1103515245).trans ?_
  refine (ev_aload rfl rfl).trans ?_
  refine (ev_getI rfl (by decide) am_K_106 (by decide) rfl).trans ?_
  refine (ev_imul rfl).trans ?_
  refine (ev_const2 (v := (12345 : Int32)) rfl am_ci_12345).trans ?_
  refine (ev_iadd rfl).trans ?_
  refine (ev_const3 (v := (2147483647 : Int32)) rfl am_ci_2147483647).trans ?_
  refine (ev_iand rfl).trans ?_
  refine (ev_putI rfl (by decide) am_K_106 (by decide) rfl).trans ?_
  refine (ev_iload rfl rfl).trans ?_
  refine (ev_const0 (v := (1 : Int32)) rfl am_ci_1).trans ?_
  refine (ev_icmp3 rfl).trans (am_ite (fun c1 => ?_) (fun c1 => ?_))
  · refine (ev_aload rfl rfl).trans ?_
    refine (ev_getI rfl (by decide) am_K_106 (by decide) rfl).trans ?_
    refine (ev_const1 (v := (64 : Int32)) rfl am_ci_64).trans ?_
    refine (ev_idivN (by decide) rfl).trans ?_
    refine (ev_iload rfl rfl).trans ?_
    refine (ev_irem rfl).trans (am_itn (fun g2 => ?_))
    exact ev_iret rfl
  · refine (ev_const0 (v := (0 : Int32)) rfl am_ci_0).trans ?_
    refine (ev_goto rfl).trans ?_
    exact ev_iret rfl
theorem cl_13 (X : am_X) (I : Nat → Nat → Int32) (J : Nat → Nat → Int64) (x1 : Int32) : am_do X 13 [.ref 106, .int x1] (am_sh I J) = am_ev X amP_13 0 [.ref 106, .int x1] [] (am_sh I J) := am_do_of rfl rfl rfl
-- 15 X1_cast
set_option maxRecDepth 10000 in
theorem sg_15_e0 (X : am_X) (I : Nat → Nat → Int32) (J : Nat → Nat → Int64) (x1 : Int32) (x2 : Int32) (x3 : Int32) : am_ev X amP_15 0 [.ref 89, .int x1, .int x2, .int x3, .null, .null, .null] [] (am_sh I J) = am_ev X amP_15 5 [.ref 89, .int x1, .int x2, .int x3, .int (0 : Int32), .null, .null] [] (am_sh (am_up I 89 8 x1) J) := by
  refine (ev_aload rfl rfl).trans ?_
  refine (ev_iload rfl rfl).trans ?_
  refine (ev_putI rfl (by decide) am_K_89 (by decide) rfl).trans ?_
  refine (ev_const0 (v := (0 : Int32)) rfl am_ci_0).trans ?_
  refine (ev_istore (ls' := [.ref 89, .int x1, .int x2, .int x3, .int (0 : Int32), .null, .null]) rfl (Nat.le_of_ble_eq_true rfl) rfl).trans ?_
  rfl
theorem cl_15 (X : am_X) (I : Nat → Nat → Int32) (J : Nat → Nat → Int64) (x1 : Int32) (x2 : Int32) (x3 : Int32) : am_do X 15 [.ref 89, .int x1, .int x2, .int x3] (am_sh I J) = am_ev X amP_15 0 [.ref 89, .int x1, .int x2, .int x3, .null, .null, .null] [] (am_sh I J) := am_do_of rfl rfl rfl
set_option maxRecDepth 10000 in
theorem sg_15_5 (X : am_X) (I : Nat → Nat → Int32) (J : Nat → Nat → Int64) (x1 : Int32) (x2 : Int32) (x3 : Int32) (x4 : Int32) (w5 : Value) (w6 : Value) (hw5 : w5.category = 1) (hw6 : w6.category = 1) : am_ev X amP_15 5 [.ref 89, .int x1, .int x2, .int x3, .int x4, w5, w6] [] (am_sh I J) = (if (I 16 2) ≤ x4 then (am_do X 17 [.ref 89] (am_sh I J)).bind (fun q => am_ev X amP_15 65 [.ref 89, .int x1, .int x2, .int x3, .int x4, w5, w6] (q.1.toList ++ []) q.2) else (if ¬ ((x1 >>> (x4 &&& 31)) &&& (1 : Int32)) = (1 : Int32) then (if x4 < 0 ∨ 10 ≤ x4.toNatClampNeg then none else am_ev X amP_15 30 [.ref 89, .int x1, .int x2, .int x3, .int x4, .int (0 : Int32), .int (x4 + (1 : Int32))] [] (am_sh (am_up I 90 x4.toNatClampNeg (0 : Int32)) J)) else (if x4 < 0 ∨ 10 ≤ x4.toNatClampNeg then none else am_ev X amP_15 30 [.ref 89, .int x1, .int x2, .int x3, .int x4, .int x1, .int (x4 + (1 : Int32))] [] (am_sh (am_up I 90 x4.toNatClampNeg (0 : Int32)) J)))) := by
  refine (ev_iload rfl rfl).trans ?_
  refine (ev_aload rfl rfl).trans ?_
  refine (ev_getR rfl (by decide) am_K_89 (by decide) rfl am_R_89_0).trans ?_
  refine (ev_getI rfl (by decide) am_K_16 (by decide) rfl).trans ?_
  refine (ev_icmp3 rfl).trans (am_ite (fun c1 => ?_) (fun c1 => ?_))
  · refine (ev_aload rfl rfl).trans ?_
    exact ev_invv (as := []) rfl (by decide) am_K_89 rfl (by simp [Value.category])
  · refine (ev_iload rfl rfl).trans ?_
    refine (ev_iload rfl rfl).trans ?_
    refine (ev_ishr rfl).trans ?_
    refine (ev_const0 (v := (1 : Int32)) rfl am_ci_1).trans ?_
    refine (ev_iand rfl).trans ?_
    refine (ev_const0 (v := (1 : Int32)) rfl am_ci_1).trans ?_
    refine (ev_icmp1 rfl).trans (am_ite (fun c2 => ?_) (fun c2 => ?_))
    · refine (ev_const0 (v := (0 : Int32)) rfl am_ci_0).trans ?_
      refine (ev_istore (ls' := [.ref 89, .int x1, .int x2, .int x3, .int x4, .int (0 : Int32), w6]) rfl (Nat.le_of_ble_eq_true rfl) rfl).trans ?_
      refine (ev_aload rfl rfl).trans ?_
      refine (ev_getR rfl (by decide) am_K_89 (by decide) rfl am_R_89_2).trans ?_
      refine (ev_iload rfl rfl).trans ?_
      refine (ev_const0 (v := (0 : Int32)) rfl am_ci_0).trans ?_
      refine (ev_iast rfl (by decide) am_K_90).trans (am_itn (fun g3 => ?_))
      refine (ev_iload rfl rfl).trans ?_
      refine (ev_const0 (v := (1 : Int32)) rfl am_ci_1).trans ?_
      refine (ev_iadd rfl).trans ?_
      refine (ev_istore (ls' := [.ref 89, .int x1, .int x2, .int x3, .int x4, .int (0 : Int32), .int (x4 + (1 : Int32))]) rfl (Nat.le_of_ble_eq_true rfl) rfl).trans ?_
      rfl
    · refine (ev_iload rfl rfl).trans ?_
      refine (ev_goto rfl).trans ?_
      refine (ev_istore (ls' := [.ref 89, .int x1, .int x2, .int x3, .int x4, .int x1, w6]) rfl (Nat.le_of_ble_eq_true rfl) rfl).trans ?_
      refine (ev_aload rfl rfl).trans ?_
      refine (ev_getR rfl (by decide) am_K_89 (by decide) rfl am_R_89_2).trans ?_
      refine (ev_iload rfl rfl).trans ?_
      refine (ev_const0 (v := (0 : Int32)) rfl am_ci_0).trans ?_
      refine (ev_iast rfl (by decide) am_K_90).trans (am_itn (fun g3 => ?_))
      refine (ev_iload rfl rfl).trans ?_
      refine (ev_const0 (v := (1 : Int32)) rfl am_ci_1).trans ?_
      refine (ev_iadd rfl).trans ?_
      refine (ev_istore (ls' := [.ref 89, .int x1, .int x2, .int x3, .int x4, .int x1, .int (x4 + (1 : Int32))]) rfl (Nat.le_of_ble_eq_true rfl) rfl).trans ?_
      rfl
set_option maxRecDepth 10000 in
theorem sg_15_30 (X : am_X) (I : Nat → Nat → Int32) (J : Nat → Nat → Int64) (x1 : Int32) (x2 : Int32) (x3 : Int32) (x4 : Int32) (x5 : Int32) (x6 : Int32) : am_ev X amP_15 30 [.ref 89, .int x1, .int x2, .int x3, .int x4, .int x5, .int x6] [] (am_sh I J) = (if (I 16 2) ≤ x6 then am_ev X amP_15 5 [.ref 89, .int x1, .int x2, .int x3, .int (x4 + (1 : Int32)), .int x5, .int x6] [] (am_sh I J) else (if ¬ ((x5 >>> (x6 &&& 31)) &&& (1 : Int32)) = (1 : Int32) then am_ev X amP_15 30 [.ref 89, .int x1, .int x2, .int x3, .int x4, .int x5, .int (x6 + (1 : Int32))] [] (am_sh I J) else (am_do X 16 [.ref 89, .int x4, .int x6, .int x2, .int x3] (am_sh I J)).bind (fun q => am_ev X amP_15 48 [.ref 89, .int x1, .int x2, .int x3, .int x4, .int x5, .int x6] (q.1.toList ++ []) q.2))) := by
  refine (ev_iload rfl rfl).trans ?_
  refine (ev_aload rfl rfl).trans ?_
  refine (ev_getR rfl (by decide) am_K_89 (by decide) rfl am_R_89_0).trans ?_
  refine (ev_getI rfl (by decide) am_K_16 (by decide) rfl).trans ?_
  refine (ev_icmp3 rfl).trans (am_ite (fun c1 => ?_) (fun c1 => ?_))
  · refine (ev_iincv (v := (1 : Int32)) (ls' := [.ref 89, .int x1, .int x2, .int x3, .int (x4 + (1 : Int32)), .int x5, .int x6]) rfl am_ci_1 rfl rfl).trans ?_
    refine (ev_goto rfl).trans ?_
    rfl
  · refine (ev_iload rfl rfl).trans ?_
    refine (ev_iload rfl rfl).trans ?_
    refine (ev_ishr rfl).trans ?_
    refine (ev_const0 (v := (1 : Int32)) rfl am_ci_1).trans ?_
    refine (ev_iand rfl).trans ?_
    refine (ev_const0 (v := (1 : Int32)) rfl am_ci_1).trans ?_
    refine (ev_icmp1 rfl).trans (am_ite (fun c2 => ?_) (fun c2 => ?_))
    · refine (ev_iincv (v := (1 : Int32)) (ls' := [.ref 89, .int x1, .int x2, .int x3, .int x4, .int x5, .int (x6 + (1 : Int32))]) rfl am_ci_1 rfl rfl).trans ?_
      refine (ev_goto rfl).trans ?_
      rfl
    · refine (ev_aload rfl rfl).trans ?_
      refine (ev_iload rfl rfl).trans ?_
      refine (ev_iload rfl rfl).trans ?_
      refine (ev_iload rfl rfl).trans ?_
      refine (ev_iload rfl rfl).trans ?_
      exact ev_invv (as := [.int x3, .int x2, .int x6, .int x4]) rfl (by decide) am_K_89 rfl (by simp [Value.category])
set_option maxRecDepth 10000 in
theorem sg_15_48 (X : am_X) (I : Nat → Nat → Int32) (J : Nat → Nat → Int64) (x1 : Int32) (x2 : Int32) (x3 : Int32) (x4 : Int32) (x5 : Int32) (x6 : Int32) (x7 : Int32) : am_ev X amP_15 48 [.ref 89, .int x1, .int x2, .int x3, .int x4, .int x5, .int x6] [.int x7] (am_sh I J) = (if x7 = 0 then am_ev X amP_15 30 [.ref 89, .int x1, .int x2, .int x3, .int x4, .int x5, .int (x6 + (1 : Int32))] [] (am_sh I J) else (if x4 < 0 ∨ 10 ≤ x4.toNatClampNeg then none else (if x4 < 0 ∨ 10 ≤ x4.toNatClampNeg then none else am_ev X amP_15 30 [.ref 89, .int x1, .int x2, .int x3, .int x4, .int x5, .int (x6 + (1 : Int32))] [] (am_sh (am_up I 90 x4.toNatClampNeg ((I 90 x4.toNatClampNeg) ||| ((1 : Int32) <<< (x6 &&& 31)))) J)))) := by
  refine (ev_if0 rfl).trans (am_ite (fun c1 => ?_) (fun c1 => ?_))
  · refine (ev_iincv (v := (1 : Int32)) (ls' := [.ref 89, .int x1, .int x2, .int x3, .int x4, .int x5, .int (x6 + (1 : Int32))]) rfl am_ci_1 rfl rfl).trans ?_
    refine (ev_goto rfl).trans ?_
    rfl
  · refine (ev_aload rfl rfl).trans ?_
    refine (ev_getR rfl (by decide) am_K_89 (by decide) rfl am_R_89_2).trans ?_
    refine (ev_iload rfl rfl).trans ?_
    refine (ev_dup2 rfl).trans ?_
    refine (ev_iald rfl (by decide) am_K_90).trans (am_itn (fun g2 => ?_))
    refine (ev_const0 (v := (1 : Int32)) rfl am_ci_1).trans ?_
    refine (ev_iload rfl rfl).trans ?_
    refine (ev_ishl rfl).trans ?_
    refine (ev_ior rfl).trans ?_
    refine (ev_iast rfl (by decide) am_K_90).trans (am_itn (fun g3 => ?_))
    refine (ev_iincv (v := (1 : Int32)) (ls' := [.ref 89, .int x1, .int x2, .int x3, .int x4, .int x5, .int (x6 + (1 : Int32))]) rfl am_ci_1 rfl rfl).trans ?_
    refine (ev_goto rfl).trans ?_
    rfl
set_option maxRecDepth 10000 in
theorem sg_15_65 (X : am_X) (I : Nat → Nat → Int32) (J : Nat → Nat → Int64) (x1 : Int32) (x2 : Int32) (x3 : Int32) (x4 : Int32) (w5 : Value) (w6 : Value) (hw5 : w5.category = 1) (hw6 : w6.category = 1) : am_ev X amP_15 65 [.ref 89, .int x1, .int x2, .int x3, .int x4, w5, w6] [] (am_sh I J) = some (none, am_sh I J) := by
  exact ev_vret rfl
-- 16 X1_mayMeet
set_option maxRecDepth 10000 in
theorem sg_16_e0 (X : am_X) (I : Nat → Nat → Int32) (J : Nat → Nat → Int64) (x1 : Int32) (x2 : Int32) (x3 : Int32) (x4 : Int32) : am_ev X amP_16 0 [.ref 89, .int x1, .int x2, .int x3, .int x4, .null, .null] [] (am_sh I J) = (if x1 < 0 ∨ 10 ≤ x1.toNatClampNeg then none else (if x2 < 0 ∨ 10 ≤ x2.toNatClampNeg then none else (am_do X 38 [.ref (am_bd (x1.toNatClampNeg)), .ref (am_bd (x2.toNatClampNeg)), .int x3] (am_sh I J)).bind (fun q => am_ev X amP_16 14 [.ref 89, .int x1, .int x2, .int x3, .int x4, .ref (am_bd (x1.toNatClampNeg)), .null] (q.1.toList ++ []) q.2))) := by
  refine (ev_aload rfl rfl).trans ?_
  refine (ev_getR rfl (by decide) am_K_89 (by decide) rfl am_R_89_0).trans ?_
  refine (ev_getR rfl (by decide) am_K_16 (by decide) rfl am_R_16_0).trans ?_
  refine (ev_iload rfl rfl).trans ?_
  refine (ev_aald rfl (by decide) (Or.inl am_K_17) (f := am_bd) (fun k hk => am_R17 hk)).trans (am_itn (fun g1 => ?_))
  refine (ev_astore (ls' := [.ref 89, .int x1, .int x2, .int x3, .int x4, .ref (am_bd (x1.toNatClampNeg)), .null]) rfl (Nat.le_of_ble_eq_true rfl) rfl).trans ?_
  refine (ev_aload rfl rfl).trans ?_
  refine (ev_aload rfl rfl).trans ?_
  refine (ev_getR rfl (by decide) am_K_89 (by decide) rfl am_R_89_0).trans ?_
  refine (ev_getR rfl (by decide) am_K_16 (by decide) rfl am_R_16_0).trans ?_
  refine (ev_iload rfl rfl).trans ?_
  refine (ev_aald rfl (by decide) (Or.inl am_K_17) (f := am_bd) (fun k hk => am_R17 hk)).trans (am_itn (fun g2 => ?_))
  refine (ev_iload rfl rfl).trans ?_
  exact ev_invv (as := [.int x3, .ref (am_bd (x2.toNatClampNeg))]) rfl (by have := am_bd_lt (by omega : (x1.toNatClampNeg) < 11); omega) (am_Kbd (by omega : (x1.toNatClampNeg) < 11)) rfl (by simp [Value.category])
theorem cl_16 (X : am_X) (I : Nat → Nat → Int32) (J : Nat → Nat → Int64) (x1 : Int32) (x2 : Int32) (x3 : Int32) (x4 : Int32) : am_do X 16 [.ref 89, .int x1, .int x2, .int x3, .int x4] (am_sh I J) = am_ev X amP_16 0 [.ref 89, .int x1, .int x2, .int x3, .int x4, .null, .null] [] (am_sh I J) := am_do_of rfl rfl rfl
set_option maxRecDepth 10000 in
theorem sg_16_14 (X : am_X) (I : Nat → Nat → Int32) (J : Nat → Nat → Int64) (x1 : Int32) (x2 : Int32) (x3 : Int32) (x4 : Int32) (b5 : Nat) (w6 : Value) (x7 : Int32) (hb5 : b5 < 11) (hw6 : w6.category = 1) : am_ev X amP_16 14 [.ref 89, .int x1, .int x2, .int x3, .int x4, .ref (am_bd b5), w6] [.int x7] (am_sh I J) = (if x7 = 0 then (am_do X 53 [.ref 83, .int x1, .int x2] (am_sh I J)).bind (fun q => am_ev X amP_16 22 [.ref 89, .int x1, .int x2, .int x3, .int x4, .ref (am_bd b5), w6] (q.1.toList ++ []) q.2) else some (some (.int (0 : Int32)), am_sh I J)) := by
  refine (ev_if0 rfl).trans (am_ite (fun c1 => ?_) (fun c1 => ?_))
  · refine (ev_aload rfl rfl).trans ?_
    refine (ev_getR rfl (by decide) am_K_89 (by decide) rfl am_R_89_1).trans ?_
    refine (ev_iload rfl rfl).trans ?_
    refine (ev_iload rfl rfl).trans ?_
    exact ev_invv (as := [.int x2, .int x1]) rfl (by decide) am_K_83 rfl (by simp [Value.category])
  · refine (ev_const0 (v := (0 : Int32)) rfl am_ci_0).trans ?_
    exact ev_zret rfl (by decide)
set_option maxRecDepth 10000 in
theorem sg_16_22 (X : am_X) (I : Nat → Nat → Int32) (J : Nat → Nat → Int64) (x1 : Int32) (x2 : Int32) (x3 : Int32) (x4 : Int32) (b5 : Nat) (w6 : Value) (x7 : Int32) (hb5 : b5 < 11) (hw6 : w6.category = 1) : am_ev X amP_16 22 [.ref 89, .int x1, .int x2, .int x3, .int x4, .ref (am_bd b5), w6] [.int x7] (am_sh I J) = (if ¬ x7 = 0 then (am_do X 52 [.ref 83, .int x1, .int x2] (am_sh I J)).bind (fun q => am_ev X amP_16 43 [.ref 89, .int x1, .int x2, .int x3, .int x4, .ref (am_bd b5), .int (0 : Int32)] (q.1.toList ++ []) q.2) else (if x2 < 0 ∨ 10 ≤ x2.toNatClampNeg then none else (am_do X 40 [.ref (am_bd b5), .ref (am_bd (x2.toNatClampNeg))] (am_sh I J)).bind (fun q => am_ev X amP_16 31 [.ref 89, .int x1, .int x2, .int x3, .int x4, .ref (am_bd b5), w6] (q.1.toList ++ [.int x4]) q.2))) := by
  refine (ev_if1 rfl).trans (am_ite (fun c1 => ?_) (fun c1 => ?_))
  · refine (ev_const0 (v := (0 : Int32)) rfl am_ci_0).trans ?_
    refine (ev_istore (ls' := [.ref 89, .int x1, .int x2, .int x3, .int x4, .ref (am_bd b5), .int (0 : Int32)]) rfl (Nat.le_of_ble_eq_true rfl) rfl).trans ?_
    refine (ev_iload rfl rfl).trans ?_
    refine ((ev_if1 rfl).trans (if_neg (by decide))).trans ?_
    refine (ev_aload rfl rfl).trans ?_
    refine (ev_getR rfl (by decide) am_K_89 (by decide) rfl am_R_89_1).trans ?_
    refine (ev_iload rfl rfl).trans ?_
    refine (ev_iload rfl rfl).trans ?_
    exact ev_invv (as := [.int x2, .int x1]) rfl (by decide) am_K_83 rfl (by simp [Value.category])
  · refine (ev_iload rfl rfl).trans ?_
    refine (ev_aload rfl rfl).trans ?_
    refine (ev_aload rfl rfl).trans ?_
    refine (ev_getR rfl (by decide) am_K_89 (by decide) rfl am_R_89_0).trans ?_
    refine (ev_getR rfl (by decide) am_K_16 (by decide) rfl am_R_16_0).trans ?_
    refine (ev_iload rfl rfl).trans ?_
    refine (ev_aald rfl (by decide) (Or.inl am_K_17) (f := am_bd) (fun k hk => am_R17 hk)).trans (am_itn (fun g2 => ?_))
    exact ev_invv (as := [.ref (am_bd (x2.toNatClampNeg))]) rfl (by have := am_bd_lt hb5; omega) (am_Kbd hb5) rfl (by simp [Value.category])
set_option maxRecDepth 10000 in
theorem sg_16_31 (X : am_X) (I : Nat → Nat → Int32) (J : Nat → Nat → Int64) (x1 : Int32) (x2 : Int32) (x3 : Int32) (x4 : Int32) (b5 : Nat) (w6 : Value) (x7 : Int32) (x8 : Int32) (hb5 : b5 < 11) (hw6 : w6.category = 1) : am_ev X amP_16 31 [.ref 89, .int x1, .int x2, .int x3, .int x4, .ref (am_bd b5), w6] [.int x8, .int x7] (am_sh I J) = (if x8 ≤ x7 then (am_do X 52 [.ref 83, .int x1, .int x2] (am_sh I J)).bind (fun q => am_ev X amP_16 43 [.ref 89, .int x1, .int x2, .int x3, .int x4, .ref (am_bd b5), .int (0 : Int32)] (q.1.toList ++ []) q.2) else some (some (.int (1 : Int32)), am_sh I J)) := by
  refine (ev_icmp3 rfl).trans (am_ite (fun c1 => ?_) (fun c1 => ?_))
  · refine (ev_const0 (v := (0 : Int32)) rfl am_ci_0).trans ?_
    refine (ev_istore (ls' := [.ref 89, .int x1, .int x2, .int x3, .int x4, .ref (am_bd b5), .int (0 : Int32)]) rfl (Nat.le_of_ble_eq_true rfl) rfl).trans ?_
    refine (ev_iload rfl rfl).trans ?_
    refine ((ev_if1 rfl).trans (if_neg (by decide))).trans ?_
    refine (ev_aload rfl rfl).trans ?_
    refine (ev_getR rfl (by decide) am_K_89 (by decide) rfl am_R_89_1).trans ?_
    refine (ev_iload rfl rfl).trans ?_
    refine (ev_iload rfl rfl).trans ?_
    exact ev_invv (as := [.int x2, .int x1]) rfl (by decide) am_K_83 rfl (by simp [Value.category])
  · refine (ev_const0 (v := (1 : Int32)) rfl am_ci_1).trans ?_
    refine (ev_goto rfl).trans ?_
    refine (ev_istore (ls' := [.ref 89, .int x1, .int x2, .int x3, .int x4, .ref (am_bd b5), .int (1 : Int32)]) rfl (Nat.le_of_ble_eq_true rfl) rfl).trans ?_
    refine (ev_iload rfl rfl).trans ?_
    refine ((ev_if1 rfl).trans (if_pos (by decide))).trans ?_
    refine (ev_const0 (v := (1 : Int32)) rfl am_ci_1).trans ?_
    refine (ev_goto rfl).trans ?_
    exact ev_zret rfl (by decide)
set_option maxRecDepth 10000 in
theorem sg_16_43 (X : am_X) (I : Nat → Nat → Int32) (J : Nat → Nat → Int64) (x1 : Int32) (x2 : Int32) (x3 : Int32) (x4 : Int32) (b5 : Nat) (x6 : Int32) (x7 : Int32) (hb5 : b5 < 11) : am_ev X amP_16 43 [.ref 89, .int x1, .int x2, .int x3, .int x4, .ref (am_bd b5), .int x6] [.int x7] (am_sh I J) = (if (x3 * x3) < x7 then some (some (.int (0 : Int32)), am_sh I J) else some (some (.int (1 : Int32)), am_sh I J)) := by
  refine (ev_iload rfl rfl).trans ?_
  refine (ev_iload rfl rfl).trans ?_
  refine (ev_imul rfl).trans ?_
  refine (ev_icmp4 rfl).trans (am_ite (fun c1 => ?_) (fun c1 => ?_))
  · refine (ev_const0 (v := (0 : Int32)) rfl am_ci_0).trans ?_
    exact ev_zret rfl (by decide)
  · refine (ev_const0 (v := (1 : Int32)) rfl am_ci_1).trans ?_
    refine (ev_goto rfl).trans ?_
    exact ev_zret rfl (by decide)
-- 17 X1_findConcerned
set_option maxRecDepth 10000 in
theorem sg_17_e0 (X : am_X) (I : Nat → Nat → Int32) (J : Nat → Nat → Int64) : am_ev X amP_17 0 [.ref 89, .null, .null] [] (am_sh I J) = am_ev X amP_17 5 [.ref 89, .int (0 : Int32), .null] [] (am_sh (am_up I 89 9 (0 : Int32)) J) := by
  refine (ev_aload rfl rfl).trans ?_
  refine (ev_const0 (v := (0 : Int32)) rfl am_ci_0).trans ?_
  refine (ev_putI rfl (by decide) am_K_89 (by decide) rfl).trans ?_
  refine (ev_const0 (v := (0 : Int32)) rfl am_ci_0).trans ?_
  refine (ev_istore (ls' := [.ref 89, .int (0 : Int32), .null]) rfl (Nat.le_of_ble_eq_true rfl) rfl).trans ?_
  rfl
theorem cl_17 (X : am_X) (I : Nat → Nat → Int32) (J : Nat → Nat → Int64) : am_do X 17 [.ref 89] (am_sh I J) = am_ev X amP_17 0 [.ref 89, .null, .null] [] (am_sh I J) := am_do_of rfl rfl rfl
set_option maxRecDepth 10000 in
theorem sg_17_5 (X : am_X) (I : Nat → Nat → Int32) (J : Nat → Nat → Int64) (x1 : Int32) (w2 : Value) (hw2 : w2.category = 1) : am_ev X amP_17 5 [.ref 89, .int x1, w2] [] (am_sh I J) = (if (I 16 2) ≤ x1 then some (none, am_sh I J) else (if ¬ (((I 89 8) >>> (x1 &&& 31)) &&& (1 : Int32)) = (1 : Int32) then am_ev X amP_17 5 [.ref 89, .int (x1 + (1 : Int32)), .int (0 : Int32)] [] (am_sh (am_up I 89 9 ((I 89 9) ||| (0 : Int32))) J) else (if x1 < 0 ∨ 10 ≤ x1.toNatClampNeg then none else (if ¬ ((I 90 x1.toNatClampNeg) &&& (I 89 8)) = 0 then am_ev X amP_17 5 [.ref 89, .int (x1 + (1 : Int32)), .int ((I 90 x1.toNatClampNeg) &&& (I 89 8))] [] (am_sh (am_up I 89 9 ((I 89 9) ||| (((I 90 x1.toNatClampNeg) &&& (I 89 8)) ||| ((1 : Int32) <<< (x1 &&& 31))))) J) else am_ev X amP_17 5 [.ref 89, .int (x1 + (1 : Int32)), .int ((I 90 x1.toNatClampNeg) &&& (I 89 8))] [] (am_sh (am_up I 89 9 ((I 89 9) ||| (0 : Int32))) J))))) := by
  refine (ev_iload rfl rfl).trans ?_
  refine (ev_aload rfl rfl).trans ?_
  refine (ev_getR rfl (by decide) am_K_89 (by decide) rfl am_R_89_0).trans ?_
  refine (ev_getI rfl (by decide) am_K_16 (by decide) rfl).trans ?_
  refine (ev_icmp3 rfl).trans (am_ite (fun c1 => ?_) (fun c1 => ?_))
  · exact ev_vret rfl
  · refine (ev_aload rfl rfl).trans ?_
    refine (ev_getI rfl (by decide) am_K_89 (by decide) rfl).trans ?_
    refine (ev_iload rfl rfl).trans ?_
    refine (ev_ishr rfl).trans ?_
    refine (ev_const0 (v := (1 : Int32)) rfl am_ci_1).trans ?_
    refine (ev_iand rfl).trans ?_
    refine (ev_const0 (v := (1 : Int32)) rfl am_ci_1).trans ?_
    refine (ev_icmp1 rfl).trans (am_ite (fun c2 => ?_) (fun c2 => ?_))
    · refine (ev_const0 (v := (0 : Int32)) rfl am_ci_0).trans ?_
      refine (ev_istore (ls' := [.ref 89, .int x1, .int (0 : Int32)]) rfl (Nat.le_of_ble_eq_true rfl) rfl).trans ?_
      refine (ev_aload rfl rfl).trans ?_
      refine (ev_dupr rfl).trans ?_
      refine (ev_getI rfl (by decide) am_K_89 (by decide) rfl).trans ?_
      refine (ev_iload rfl rfl).trans ?_
      refine ((ev_if1 rfl).trans (if_neg (by decide))).trans ?_
      refine (ev_const0 (v := (0 : Int32)) rfl am_ci_0).trans ?_
      refine (ev_goto rfl).trans ?_
      refine (ev_ior rfl).trans ?_
      refine (ev_putI rfl (by decide) am_K_89 (by decide) rfl).trans ?_
      refine (ev_iincv (v := (1 : Int32)) (ls' := [.ref 89, .int (x1 + (1 : Int32)), .int (0 : Int32)]) rfl am_ci_1 rfl rfl).trans ?_
      refine (ev_goto rfl).trans ?_
      rfl
    · refine (ev_aload rfl rfl).trans ?_
      refine (ev_getR rfl (by decide) am_K_89 (by decide) rfl am_R_89_2).trans ?_
      refine (ev_iload rfl rfl).trans ?_
      refine (ev_iald rfl (by decide) am_K_90).trans (am_itn (fun g3 => ?_))
      refine (ev_aload rfl rfl).trans ?_
      refine (ev_getI rfl (by decide) am_K_89 (by decide) rfl).trans ?_
      refine (ev_iand rfl).trans ?_
      refine (ev_goto rfl).trans ?_
      refine (ev_istore (ls' := [.ref 89, .int x1, .int ((I 90 x1.toNatClampNeg) &&& (I 89 8))]) rfl (Nat.le_of_ble_eq_true rfl) rfl).trans ?_
      refine (ev_aload rfl rfl).trans ?_
      refine (ev_dupr rfl).trans ?_
      refine (ev_getI rfl (by decide) am_K_89 (by decide) rfl).trans ?_
      refine (ev_iload rfl rfl).trans ?_
      refine (ev_if1 rfl).trans (am_ite (fun c4 => ?_) (fun c4 => ?_))
      · refine (ev_iload rfl rfl).trans ?_
        refine (ev_const0 (v := (1 : Int32)) rfl am_ci_1).trans ?_
        refine (ev_iload rfl rfl).trans ?_
        refine (ev_ishl rfl).trans ?_
        refine (ev_ior rfl).trans ?_
        refine (ev_ior rfl).trans ?_
        refine (ev_putI rfl (by decide) am_K_89 (by decide) rfl).trans ?_
        refine (ev_iincv (v := (1 : Int32)) (ls' := [.ref 89, .int (x1 + (1 : Int32)), .int ((I 90 x1.toNatClampNeg) &&& (I 89 8))]) rfl am_ci_1 rfl rfl).trans ?_
        refine (ev_goto rfl).trans ?_
        rfl
      · refine (ev_const0 (v := (0 : Int32)) rfl am_ci_0).trans ?_
        refine (ev_goto rfl).trans ?_
        refine (ev_ior rfl).trans ?_
        refine (ev_putI rfl (by decide) am_K_89 (by decide) rfl).trans ?_
        refine (ev_iincv (v := (1 : Int32)) (ls' := [.ref 89, .int (x1 + (1 : Int32)), .int ((I 90 x1.toNatClampNeg) &&& (I 89 8))]) rfl am_ci_1 rfl rfl).trans ?_
        refine (ev_goto rfl).trans ?_
        rfl
-- 18 X1_run
set_option maxRecDepth 10000 in
theorem sg_18_e0 (X : am_X) (I : Nat → Nat → Int32) (J : Nat → Nat → Int64) (x1 : Int32) (x2 : Int32) : am_ev X amP_18 0 [.ref 89, .int x1, .int x2, .null, .null, .null] [] (am_sh I J) = am_ev X amP_18 2 [.ref 89, .int x1, .int x2, .int (0 : Int32), .null, .null] [] (am_sh I J) := by
  refine (ev_const0 (v := (0 : Int32)) rfl am_ci_0).trans ?_
  refine (ev_istore (ls' := [.ref 89, .int x1, .int x2, .int (0 : Int32), .null, .null]) rfl (Nat.le_of_ble_eq_true rfl) rfl).trans ?_
  rfl
theorem cl_18 (X : am_X) (I : Nat → Nat → Int32) (J : Nat → Nat → Int64) (x1 : Int32) (x2 : Int32) : am_do X 18 [.ref 89, .int x1, .int x2] (am_sh I J) = am_ev X amP_18 0 [.ref 89, .int x1, .int x2, .null, .null, .null] [] (am_sh I J) := am_do_of rfl rfl rfl
set_option maxRecDepth 10000 in
theorem sg_18_2 (X : am_X) (I : Nat → Nat → Int32) (J : Nat → Nat → Int64) (x1 : Int32) (x2 : Int32) (x3 : Int32) (w4 : Value) (w5 : Value) (hw4 : w4.category = 1) (hw5 : w5.category = 1) : am_ev X amP_18 2 [.ref 89, .int x1, .int x2, .int x3, w4, w5] [] (am_sh I J) = (if (I 16 2) ≤ x3 then (if ¬ x1 = (-1 : Int32) then am_ev X amP_18 35 [.ref 89, .int x1, .int x2, .int ((1 : Int32) <<< (x1 &&& 31)), .int (0 : Int32), w5] [] (am_sh I J) else am_ev X amP_18 35 [.ref 89, .int x1, .int x2, .int (1023 : Int32), .int (0 : Int32), w5] [] (am_sh I J)) else (if ¬ (((I 89 8) >>> (x3 &&& 31)) &&& (1 : Int32)) = (1 : Int32) then (if x3 < 0 ∨ 10 ≤ x3.toNatClampNeg then none else am_ev X amP_18 2 [.ref 89, .int x1, .int x2, .int (x3 + (1 : Int32)), w4, w5] [] (am_sh (am_up I 91 x3.toNatClampNeg (0 : Int32)) J)) else (if x3 < 0 ∨ 10 ≤ x3.toNatClampNeg then none else am_ev X amP_18 2 [.ref 89, .int x1, .int x2, .int (x3 + (1 : Int32)), w4, w5] [] (am_sh (am_up I 91 x3.toNatClampNeg x2) J)))) := by
  refine (ev_iload rfl rfl).trans ?_
  refine (ev_aload rfl rfl).trans ?_
  refine (ev_getR rfl (by decide) am_K_89 (by decide) rfl am_R_89_0).trans ?_
  refine (ev_getI rfl (by decide) am_K_16 (by decide) rfl).trans ?_
  refine (ev_icmp3 rfl).trans (am_ite (fun c1 => ?_) (fun c1 => ?_))
  · refine (ev_iload rfl rfl).trans ?_
    refine (ev_const0 (v := (-1 : Int32)) rfl am_ci_m1).trans ?_
    refine (ev_icmp1 rfl).trans (am_ite (fun c2 => ?_) (fun c2 => ?_))
    · refine (ev_const0 (v := (1 : Int32)) rfl am_ci_1).trans ?_
      refine (ev_iload rfl rfl).trans ?_
      refine (ev_ishl rfl).trans ?_
      refine (ev_istore (ls' := [.ref 89, .int x1, .int x2, .int ((1 : Int32) <<< (x1 &&& 31)), w4, w5]) rfl (Nat.le_of_ble_eq_true rfl) rfl).trans ?_
      refine (ev_const0 (v := (0 : Int32)) rfl am_ci_0).trans ?_
      refine (ev_istore (ls' := [.ref 89, .int x1, .int x2, .int ((1 : Int32) <<< (x1 &&& 31)), .int (0 : Int32), w5]) rfl (Nat.le_of_ble_eq_true rfl) rfl).trans ?_
      rfl
    · refine (ev_const2 (v := (1023 : Int32)) rfl am_ci_1023).trans ?_
      refine (ev_goto rfl).trans ?_
      refine (ev_istore (ls' := [.ref 89, .int x1, .int x2, .int (1023 : Int32), w4, w5]) rfl (Nat.le_of_ble_eq_true rfl) rfl).trans ?_
      refine (ev_const0 (v := (0 : Int32)) rfl am_ci_0).trans ?_
      refine (ev_istore (ls' := [.ref 89, .int x1, .int x2, .int (1023 : Int32), .int (0 : Int32), w5]) rfl (Nat.le_of_ble_eq_true rfl) rfl).trans ?_
      rfl
  · refine (ev_aload rfl rfl).trans ?_
    refine (ev_getR rfl (by decide) am_K_89 (by decide) rfl am_R_89_3).trans ?_
    refine (ev_iload rfl rfl).trans ?_
    refine (ev_aload rfl rfl).trans ?_
    refine (ev_getI rfl (by decide) am_K_89 (by decide) rfl).trans ?_
    refine (ev_iload rfl rfl).trans ?_
    refine (ev_ishr rfl).trans ?_
    refine (ev_const0 (v := (1 : Int32)) rfl am_ci_1).trans ?_
    refine (ev_iand rfl).trans ?_
    refine (ev_const0 (v := (1 : Int32)) rfl am_ci_1).trans ?_
    refine (ev_icmp1 rfl).trans (am_ite (fun c2 => ?_) (fun c2 => ?_))
    · refine (ev_const0 (v := (0 : Int32)) rfl am_ci_0).trans ?_
      refine (ev_iast rfl (by decide) am_K_91).trans (am_itn (fun g3 => ?_))
      refine (ev_iincv (v := (1 : Int32)) (ls' := [.ref 89, .int x1, .int x2, .int (x3 + (1 : Int32)), w4, w5]) rfl am_ci_1 rfl rfl).trans ?_
      refine (ev_goto rfl).trans ?_
      rfl
    · refine (ev_iload rfl rfl).trans ?_
      refine (ev_goto rfl).trans ?_
      refine (ev_iast rfl (by decide) am_K_91).trans (am_itn (fun g3 => ?_))
      refine (ev_iincv (v := (1 : Int32)) (ls' := [.ref 89, .int x1, .int x2, .int (x3 + (1 : Int32)), w4, w5]) rfl am_ci_1 rfl rfl).trans ?_
      refine (ev_goto rfl).trans ?_
      rfl
set_option maxRecDepth 10000 in
theorem sg_18_35 (X : am_X) (I : Nat → Nat → Int32) (J : Nat → Nat → Int64) (x1 : Int32) (x2 : Int32) (x3 : Int32) (x4 : Int32) (w5 : Value) (hw5 : w5.category = 1) : am_ev X amP_18 35 [.ref 89, .int x1, .int x2, .int x3, .int x4, w5] [] (am_sh I J) = (if x2 ≤ x4 then some (some (.int (-1 : Int32)), am_sh I J) else (if ((I 89 9) &&& x3) = 0 then some (some (.int (-1 : Int32)), am_sh I J) else (am_do X 21 [.ref 89, .int ((I 16 5) + x4)] (am_sh I J)).bind (fun q => am_ev X amP_18 50 [.ref 89, .int x1, .int x2, .int x3, .int x4, w5] (q.1.toList ++ []) q.2))) := by
  refine (ev_iload rfl rfl).trans ?_
  refine (ev_iload rfl rfl).trans ?_
  refine (ev_icmp3 rfl).trans (am_ite (fun c1 => ?_) (fun c1 => ?_))
  · refine (ev_const0 (v := (-1 : Int32)) rfl am_ci_m1).trans ?_
    exact ev_iret rfl
  · refine (ev_aload rfl rfl).trans ?_
    refine (ev_getI rfl (by decide) am_K_89 (by decide) rfl).trans ?_
    refine (ev_iload rfl rfl).trans ?_
    refine (ev_iand rfl).trans ?_
    refine (ev_if0 rfl).trans (am_ite (fun c2 => ?_) (fun c2 => ?_))
    · refine (ev_const0 (v := (-1 : Int32)) rfl am_ci_m1).trans ?_
      exact ev_iret rfl
    · refine (ev_aload rfl rfl).trans ?_
      refine (ev_aload rfl rfl).trans ?_
      refine (ev_getR rfl (by decide) am_K_89 (by decide) rfl am_R_89_0).trans ?_
      refine (ev_getI rfl (by decide) am_K_16 (by decide) rfl).trans ?_
      refine (ev_iload rfl rfl).trans ?_
      refine (ev_iadd rfl).trans ?_
      exact ev_invv (as := [.int ((I 16 5) + x4)]) rfl (by decide) am_K_89 rfl (by simp [Value.category])
set_option maxRecDepth 10000 in
theorem sg_18_50 (X : am_X) (I : Nat → Nat → Int32) (J : Nat → Nat → Int64) (x1 : Int32) (x2 : Int32) (x3 : Int32) (x4 : Int32) (w5 : Value) (x6 : Int32) (hw5 : w5.category = 1) : am_ev X amP_18 50 [.ref 89, .int x1, .int x2, .int x3, .int x4, w5] [.int x6] (am_sh I J) = (if x6 = 0 then (if x1 = (-1 : Int32) then am_ev X amP_18 35 [.ref 89, .int x1, .int x2, .int x3, .int (x4 + (1 : Int32)), .int x6] [] (am_sh I J) else (if (x6 &&& x3) = 0 then am_ev X amP_18 35 [.ref 89, .int x1, .int x2, .int x3, .int (x4 + (1 : Int32)), .int x6] [] (am_sh I J) else some (some (.int (x4 + (1 : Int32))), am_sh I J))) else (am_do X 19 [.ref 89, .int x6, .int (x4 + (1 : Int32))] (am_sh I J)).bind (fun q => am_ev X amP_18 59 [.ref 89, .int x1, .int x2, .int x3, .int x4, .int x6] (q.1.toList ++ []) q.2)) := by
  refine (ev_istore (ls' := [.ref 89, .int x1, .int x2, .int x3, .int x4, .int x6]) rfl (Nat.le_of_ble_eq_true rfl) rfl).trans ?_
  refine (ev_iload rfl rfl).trans ?_
  refine (ev_if0 rfl).trans (am_ite (fun c1 => ?_) (fun c1 => ?_))
  · refine (ev_iload rfl rfl).trans ?_
    refine (ev_const0 (v := (-1 : Int32)) rfl am_ci_m1).trans ?_
    refine (ev_icmp0 rfl).trans (am_ite (fun c2 => ?_) (fun c2 => ?_))
    · refine (ev_iincv (v := (1 : Int32)) (ls' := [.ref 89, .int x1, .int x2, .int x3, .int (x4 + (1 : Int32)), .int x6]) rfl am_ci_1 rfl rfl).trans ?_
      refine (ev_goto rfl).trans ?_
      rfl
    · refine (ev_iload rfl rfl).trans ?_
      refine (ev_iload rfl rfl).trans ?_
      refine (ev_iand rfl).trans ?_
      refine (ev_if0 rfl).trans (am_ite (fun c3 => ?_) (fun c3 => ?_))
      · refine (ev_iincv (v := (1 : Int32)) (ls' := [.ref 89, .int x1, .int x2, .int x3, .int (x4 + (1 : Int32)), .int x6]) rfl am_ci_1 rfl rfl).trans ?_
        refine (ev_goto rfl).trans ?_
        rfl
      · refine (ev_iload rfl rfl).trans ?_
        refine (ev_const0 (v := (1 : Int32)) rfl am_ci_1).trans ?_
        refine (ev_iadd rfl).trans ?_
        exact ev_iret rfl
  · refine (ev_aload rfl rfl).trans ?_
    refine (ev_iload rfl rfl).trans ?_
    refine (ev_iload rfl rfl).trans ?_
    refine (ev_const0 (v := (1 : Int32)) rfl am_ci_1).trans ?_
    refine (ev_iadd rfl).trans ?_
    exact ev_invv (as := [.int (x4 + (1 : Int32)), .int x6]) rfl (by decide) am_K_89 rfl (by simp [Value.category])
set_option maxRecDepth 10000 in
theorem sg_18_59 (X : am_X) (I : Nat → Nat → Int32) (J : Nat → Nat → Int64) (x1 : Int32) (x2 : Int32) (x3 : Int32) (x4 : Int32) (x5 : Int32) : am_ev X amP_18 59 [.ref 89, .int x1, .int x2, .int x3, .int x4, .int x5] [] (am_sh I J) = (if x1 = (-1 : Int32) then am_ev X amP_18 35 [.ref 89, .int x1, .int x2, .int x3, .int (x4 + (1 : Int32)), .int x5] [] (am_sh I J) else (if (x5 &&& x3) = 0 then am_ev X amP_18 35 [.ref 89, .int x1, .int x2, .int x3, .int (x4 + (1 : Int32)), .int x5] [] (am_sh I J) else some (some (.int (x4 + (1 : Int32))), am_sh I J))) := by
  refine (ev_iload rfl rfl).trans ?_
  refine (ev_const0 (v := (-1 : Int32)) rfl am_ci_m1).trans ?_
  refine (ev_icmp0 rfl).trans (am_ite (fun c1 => ?_) (fun c1 => ?_))
  · refine (ev_iincv (v := (1 : Int32)) (ls' := [.ref 89, .int x1, .int x2, .int x3, .int (x4 + (1 : Int32)), .int x5]) rfl am_ci_1 rfl rfl).trans ?_
    refine (ev_goto rfl).trans ?_
    rfl
  · refine (ev_iload rfl rfl).trans ?_
    refine (ev_iload rfl rfl).trans ?_
    refine (ev_iand rfl).trans ?_
    refine (ev_if0 rfl).trans (am_ite (fun c2 => ?_) (fun c2 => ?_))
    · refine (ev_iincv (v := (1 : Int32)) (ls' := [.ref 89, .int x1, .int x2, .int x3, .int (x4 + (1 : Int32)), .int x5]) rfl am_ci_1 rfl rfl).trans ?_
      refine (ev_goto rfl).trans ?_
      rfl
    · refine (ev_iload rfl rfl).trans ?_
      refine (ev_const0 (v := (1 : Int32)) rfl am_ci_1).trans ?_
      refine (ev_iadd rfl).trans ?_
      exact ev_iret rfl
-- 19 X1_takeOut
set_option maxRecDepth 10000 in
theorem sg_19_e0 (X : am_X) (I : Nat → Nat → Int32) (J : Nat → Nat → Int64) (x1 : Int32) (x2 : Int32) : am_ev X amP_19 0 [.ref 89, .int x1, .int x2, .null] [] (am_sh I J) = am_ev X amP_19 2 [.ref 89, .int x1, .int x2, .int (0 : Int32)] [] (am_sh I J) := by
  refine (ev_const0 (v := (0 : Int32)) rfl am_ci_0).trans ?_
  refine (ev_istore (ls' := [.ref 89, .int x1, .int x2, .int (0 : Int32)]) rfl (Nat.le_of_ble_eq_true rfl) rfl).trans ?_
  rfl
theorem cl_19 (X : am_X) (I : Nat → Nat → Int32) (J : Nat → Nat → Int64) (x1 : Int32) (x2 : Int32) : am_do X 19 [.ref 89, .int x1, .int x2] (am_sh I J) = am_ev X amP_19 0 [.ref 89, .int x1, .int x2, .null] [] (am_sh I J) := am_do_of rfl rfl rfl
set_option maxRecDepth 10000 in
theorem sg_19_2 (X : am_X) (I : Nat → Nat → Int32) (J : Nat → Nat → Int64) (x1 : Int32) (x2 : Int32) (x3 : Int32) : am_ev X amP_19 2 [.ref 89, .int x1, .int x2, .int x3] [] (am_sh I J) = (if (I 16 2) ≤ x3 then (am_do X 17 [.ref 89] (am_sh (am_up I 89 8 ((I 89 8) &&& (x1 ^^^ (-1 : Int32)))) J)).bind (fun q => am_ev X amP_19 31 [.ref 89, .int x1, .int x2, .int x3] (q.1.toList ++ []) q.2) else (if ¬ ((x1 >>> (x3 &&& 31)) &&& (1 : Int32)) = (1 : Int32) then am_ev X amP_19 2 [.ref 89, .int x1, .int x2, .int (x3 + (1 : Int32))] [] (am_sh I J) else (if x3 < 0 ∨ 10 ≤ x3.toNatClampNeg then none else am_ev X amP_19 2 [.ref 89, .int x1, .int x2, .int (x3 + (1 : Int32))] [] (am_sh (am_up I 91 x3.toNatClampNeg x2) J)))) := by
  refine (ev_iload rfl rfl).trans ?_
  refine (ev_aload rfl rfl).trans ?_
  refine (ev_getR rfl (by decide) am_K_89 (by decide) rfl am_R_89_0).trans ?_
  refine (ev_getI rfl (by decide) am_K_16 (by decide) rfl).trans ?_
  refine (ev_icmp3 rfl).trans (am_ite (fun c1 => ?_) (fun c1 => ?_))
  · refine (ev_aload rfl rfl).trans ?_
    refine (ev_dupr rfl).trans ?_
    refine (ev_getI rfl (by decide) am_K_89 (by decide) rfl).trans ?_
    refine (ev_iload rfl rfl).trans ?_
    refine (ev_const0 (v := (-1 : Int32)) rfl am_ci_m1).trans ?_
    refine (ev_ixor rfl).trans ?_
    refine (ev_iand rfl).trans ?_
    refine (ev_putI rfl (by decide) am_K_89 (by decide) rfl).trans ?_
    refine (ev_aload rfl rfl).trans ?_
    exact ev_invv (as := []) rfl (by decide) am_K_89 rfl (by simp [Value.category])
  · refine (ev_iload rfl rfl).trans ?_
    refine (ev_iload rfl rfl).trans ?_
    refine (ev_ishr rfl).trans ?_
    refine (ev_const0 (v := (1 : Int32)) rfl am_ci_1).trans ?_
    refine (ev_iand rfl).trans ?_
    refine (ev_const0 (v := (1 : Int32)) rfl am_ci_1).trans ?_
    refine (ev_icmp1 rfl).trans (am_ite (fun c2 => ?_) (fun c2 => ?_))
    · refine (ev_iincv (v := (1 : Int32)) (ls' := [.ref 89, .int x1, .int x2, .int (x3 + (1 : Int32))]) rfl am_ci_1 rfl rfl).trans ?_
      refine (ev_goto rfl).trans ?_
      rfl
    · refine (ev_aload rfl rfl).trans ?_
      refine (ev_getR rfl (by decide) am_K_89 (by decide) rfl am_R_89_3).trans ?_
      refine (ev_iload rfl rfl).trans ?_
      refine (ev_iload rfl rfl).trans ?_
      refine (ev_iast rfl (by decide) am_K_91).trans (am_itn (fun g3 => ?_))
      refine (ev_iincv (v := (1 : Int32)) (ls' := [.ref 89, .int x1, .int x2, .int (x3 + (1 : Int32))]) rfl am_ci_1 rfl rfl).trans ?_
      refine (ev_goto rfl).trans ?_
      rfl
set_option maxRecDepth 10000 in
theorem sg_19_31 (X : am_X) (I : Nat → Nat → Int32) (J : Nat → Nat → Int64) (x1 : Int32) (x2 : Int32) (x3 : Int32) : am_ev X amP_19 31 [.ref 89, .int x1, .int x2, .int x3] [] (am_sh I J) = some (none, am_sh I J) := by
  exact ev_vret rfl
-- 20 X1_crashingNow
set_option maxRecDepth 10000 in
theorem sg_20_e0 (X : am_X) (I : Nat → Nat → Int32) (J : Nat → Nat → Int64) : am_ev X amP_20 0 [.ref 89, .null] [] (am_sh I J) = (am_do X 102 [.ref 16] (am_sh I J)).bind (fun q => am_ev X amP_20 4 [.ref 89, .null] (q.1.toList ++ [.ref 89]) q.2) := by
  refine (ev_aload rfl rfl).trans ?_
  refine (ev_aload rfl rfl).trans ?_
  refine (ev_getR rfl (by decide) am_K_89 (by decide) rfl am_R_89_0).trans ?_
  exact ev_invv (as := []) rfl (by decide) am_K_16 rfl (by simp [Value.category])
theorem cl_20 (X : am_X) (I : Nat → Nat → Int32) (J : Nat → Nat → Int64) : am_do X 20 [.ref 89] (am_sh I J) = am_ev X amP_20 0 [.ref 89, .null] [] (am_sh I J) := am_do_of rfl rfl rfl
set_option maxRecDepth 10000 in
theorem sg_20_4 (X : am_X) (I : Nat → Nat → Int32) (J : Nat → Nat → Int64) (w1 : Value) (x2 : Int32) (hw1 : w1.category = 1) : am_ev X amP_20 4 [.ref 89, w1] [.int x2, .ref 89] (am_sh I J) = am_ev X amP_20 7 [.ref 89, .int (0 : Int32)] [] (am_sh (am_up I 89 8 x2) J) := by
  refine (ev_putI rfl (by decide) am_K_89 (by decide) rfl).trans ?_
  refine (ev_const0 (v := (0 : Int32)) rfl am_ci_0).trans ?_
  refine (ev_istore (ls' := [.ref 89, .int (0 : Int32)]) rfl (Nat.le_of_ble_eq_true rfl) rfl).trans ?_
  rfl
set_option maxRecDepth 10000 in
theorem sg_20_7 (X : am_X) (I : Nat → Nat → Int32) (J : Nat → Nat → Int64) (x1 : Int32) : am_ev X amP_20 7 [.ref 89, .int x1] [] (am_sh I J) = (if (I 16 2) ≤ x1 then (am_do X 17 [.ref 89] (am_sh I J)).bind (fun q => am_ev X amP_20 22 [.ref 89, .int x1] (q.1.toList ++ []) q.2) else (if x1 < 0 ∨ 10 ≤ x1.toNatClampNeg then none else am_ev X amP_20 7 [.ref 89, .int (x1 + (1 : Int32))] [] (am_sh (am_up I 90 x1.toNatClampNeg (I 89 8)) J))) := by
  refine (ev_iload rfl rfl).trans ?_
  refine (ev_aload rfl rfl).trans ?_
  refine (ev_getR rfl (by decide) am_K_89 (by decide) rfl am_R_89_0).trans ?_
  refine (ev_getI rfl (by decide) am_K_16 (by decide) rfl).trans ?_
  refine (ev_icmp3 rfl).trans (am_ite (fun c1 => ?_) (fun c1 => ?_))
  · refine (ev_aload rfl rfl).trans ?_
    exact ev_invv (as := []) rfl (by decide) am_K_89 rfl (by simp [Value.category])
  · refine (ev_aload rfl rfl).trans ?_
    refine (ev_getR rfl (by decide) am_K_89 (by decide) rfl am_R_89_2).trans ?_
    refine (ev_iload rfl rfl).trans ?_
    refine (ev_aload rfl rfl).trans ?_
    refine (ev_getI rfl (by decide) am_K_89 (by decide) rfl).trans ?_
    refine (ev_iast rfl (by decide) am_K_90).trans (am_itn (fun g2 => ?_))
    refine (ev_iincv (v := (1 : Int32)) (ls' := [.ref 89, .int (x1 + (1 : Int32))]) rfl am_ci_1 rfl rfl).trans ?_
    refine (ev_goto rfl).trans ?_
    rfl
set_option maxRecDepth 10000 in
theorem sg_20_22 (X : am_X) (I : Nat → Nat → Int32) (J : Nat → Nat → Int64) (x1 : Int32) : am_ev X amP_20 22 [.ref 89, .int x1] [] (am_sh I J) = (am_do X 21 [.ref 89, .int (I 16 5)] (am_sh I J)).bind (fun q => am_ev X amP_20 27 [.ref 89, .int x1] (q.1.toList ++ []) q.2) := by
  refine (ev_aload rfl rfl).trans ?_
  refine (ev_aload rfl rfl).trans ?_
  refine (ev_getR rfl (by decide) am_K_89 (by decide) rfl am_R_89_0).trans ?_
  refine (ev_getI rfl (by decide) am_K_16 (by decide) rfl).trans ?_
  exact ev_invv (as := [.int (I 16 5)]) rfl (by decide) am_K_89 rfl (by simp [Value.category])
set_option maxRecDepth 10000 in
theorem sg_20_27 (X : am_X) (I : Nat → Nat → Int32) (J : Nat → Nat → Int64) (x1 : Int32) (x2 : Int32) : am_ev X amP_20 27 [.ref 89, .int x1] [.int x2] (am_sh I J) = some (some (.int x2), am_sh I J) := by
  exact ev_iret rfl
-- 21 X1_crashingAt
set_option maxRecDepth 10000 in
theorem sg_21_e0 (X : am_X) (I : Nat → Nat → Int32) (J : Nat → Nat → Int64) (x1 : Int32) : am_ev X amP_21 0 [.ref 89, .int x1, .null, .null, .null, .null, .null] [] (am_sh I J) = (am_do X 22 [.ref 89, .int x1] (am_sh I J)).bind (fun q => am_ev X amP_21 3 [.ref 89, .int x1, .null, .null, .null, .null, .null] (q.1.toList ++ []) q.2) := by
  refine (ev_aload rfl rfl).trans ?_
  refine (ev_iload rfl rfl).trans ?_
  exact ev_invv (as := [.int x1]) rfl (by decide) am_K_89 rfl (by simp [Value.category])
theorem cl_21 (X : am_X) (I : Nat → Nat → Int32) (J : Nat → Nat → Int64) (x1 : Int32) : am_do X 21 [.ref 89, .int x1] (am_sh I J) = am_ev X amP_21 0 [.ref 89, .int x1, .null, .null, .null, .null, .null] [] (am_sh I J) := am_do_of rfl rfl rfl
set_option maxRecDepth 10000 in
theorem sg_21_3 (X : am_X) (I : Nat → Nat → Int32) (J : Nat → Nat → Int64) (x1 : Int32) (w2 : Value) (w3 : Value) (w4 : Value) (w5 : Value) (w6 : Value) (hw2 : w2.category = 1) (hw3 : w3.category = 1) (hw4 : w4.category = 1) (hw5 : w5.category = 1) (hw6 : w6.category = 1) : am_ev X amP_21 3 [.ref 89, .int x1, w2, w3, w4, w5, w6] [] (am_sh I J) = am_ev X amP_21 15 [.ref 89, .int x1, .int ((I 16 4) * (I 16 4)), .int (0 : Int32), .int (0 : Int32), w5, w6] [] (am_sh I J) := by
  refine (ev_aload rfl rfl).trans ?_
  refine (ev_getR rfl (by decide) am_K_89 (by decide) rfl am_R_89_0).trans ?_
  refine (ev_getI rfl (by decide) am_K_16 (by decide) rfl).trans ?_
  refine (ev_aload rfl rfl).trans ?_
  refine (ev_getR rfl (by decide) am_K_89 (by decide) rfl am_R_89_0).trans ?_
  refine (ev_getI rfl (by decide) am_K_16 (by decide) rfl).trans ?_
  refine (ev_imul rfl).trans ?_
  refine (ev_istore (ls' := [.ref 89, .int x1, .int ((I 16 4) * (I 16 4)), w3, w4, w5, w6]) rfl (Nat.le_of_ble_eq_true rfl) rfl).trans ?_
  refine (ev_const0 (v := (0 : Int32)) rfl am_ci_0).trans ?_
  refine (ev_istore (ls' := [.ref 89, .int x1, .int ((I 16 4) * (I 16 4)), .int (0 : Int32), w4, w5, w6]) rfl (Nat.le_of_ble_eq_true rfl) rfl).trans ?_
  refine (ev_const0 (v := (0 : Int32)) rfl am_ci_0).trans ?_
  refine (ev_istore (ls' := [.ref 89, .int x1, .int ((I 16 4) * (I 16 4)), .int (0 : Int32), .int (0 : Int32), w5, w6]) rfl (Nat.le_of_ble_eq_true rfl) rfl).trans ?_
  rfl
set_option maxRecDepth 10000 in
theorem sg_21_15 (X : am_X) (I : Nat → Nat → Int32) (J : Nat → Nat → Int64) (x1 : Int32) (x2 : Int32) (x3 : Int32) (x4 : Int32) (w5 : Value) (w6 : Value) (hw5 : w5.category = 1) (hw6 : w6.category = 1) : am_ev X amP_21 15 [.ref 89, .int x1, .int x2, .int x3, .int x4, w5, w6] [] (am_sh I J) = (if (I 16 2) ≤ x4 then some (some (.int x3), am_sh I J) else (if ¬ (((I 89 9) >>> (x4 &&& 31)) &&& (1 : Int32)) = (1 : Int32) then am_ev X amP_21 42 [.ref 89, .int x1, .int x2, .int x3, .int x4, .int (0 : Int32), .int (x4 + (1 : Int32))] [] (am_sh I J) else (if x4 < 0 ∨ 10 ≤ x4.toNatClampNeg then none else am_ev X amP_21 42 [.ref 89, .int x1, .int x2, .int x3, .int x4, .int ((I 90 x4.toNatClampNeg) &&& (I 89 9)), .int (x4 + (1 : Int32))] [] (am_sh I J)))) := by
  refine (ev_iload rfl rfl).trans ?_
  refine (ev_aload rfl rfl).trans ?_
  refine (ev_getR rfl (by decide) am_K_89 (by decide) rfl am_R_89_0).trans ?_
  refine (ev_getI rfl (by decide) am_K_16 (by decide) rfl).trans ?_
  refine (ev_icmp3 rfl).trans (am_ite (fun c1 => ?_) (fun c1 => ?_))
  · refine (ev_iload rfl rfl).trans ?_
    exact ev_iret rfl
  · refine (ev_aload rfl rfl).trans ?_
    refine (ev_getI rfl (by decide) am_K_89 (by decide) rfl).trans ?_
    refine (ev_iload rfl rfl).trans ?_
    refine (ev_ishr rfl).trans ?_
    refine (ev_const0 (v := (1 : Int32)) rfl am_ci_1).trans ?_
    refine (ev_iand rfl).trans ?_
    refine (ev_const0 (v := (1 : Int32)) rfl am_ci_1).trans ?_
    refine (ev_icmp1 rfl).trans (am_ite (fun c2 => ?_) (fun c2 => ?_))
    · refine (ev_const0 (v := (0 : Int32)) rfl am_ci_0).trans ?_
      refine (ev_istore (ls' := [.ref 89, .int x1, .int x2, .int x3, .int x4, .int (0 : Int32), w6]) rfl (Nat.le_of_ble_eq_true rfl) rfl).trans ?_
      refine (ev_iload rfl rfl).trans ?_
      refine (ev_const0 (v := (1 : Int32)) rfl am_ci_1).trans ?_
      refine (ev_iadd rfl).trans ?_
      refine (ev_istore (ls' := [.ref 89, .int x1, .int x2, .int x3, .int x4, .int (0 : Int32), .int (x4 + (1 : Int32))]) rfl (Nat.le_of_ble_eq_true rfl) rfl).trans ?_
      rfl
    · refine (ev_aload rfl rfl).trans ?_
      refine (ev_getR rfl (by decide) am_K_89 (by decide) rfl am_R_89_2).trans ?_
      refine (ev_iload rfl rfl).trans ?_
      refine (ev_iald rfl (by decide) am_K_90).trans (am_itn (fun g3 => ?_))
      refine (ev_aload rfl rfl).trans ?_
      refine (ev_getI rfl (by decide) am_K_89 (by decide) rfl).trans ?_
      refine (ev_iand rfl).trans ?_
      refine (ev_goto rfl).trans ?_
      refine (ev_istore (ls' := [.ref 89, .int x1, .int x2, .int x3, .int x4, .int ((I 90 x4.toNatClampNeg) &&& (I 89 9)), w6]) rfl (Nat.le_of_ble_eq_true rfl) rfl).trans ?_
      refine (ev_iload rfl rfl).trans ?_
      refine (ev_const0 (v := (1 : Int32)) rfl am_ci_1).trans ?_
      refine (ev_iadd rfl).trans ?_
      refine (ev_istore (ls' := [.ref 89, .int x1, .int x2, .int x3, .int x4, .int ((I 90 x4.toNatClampNeg) &&& (I 89 9)), .int (x4 + (1 : Int32))]) rfl (Nat.le_of_ble_eq_true rfl) rfl).trans ?_
      rfl
set_option maxRecDepth 10000 in
theorem sg_21_42 (X : am_X) (I : Nat → Nat → Int32) (J : Nat → Nat → Int64) (x1 : Int32) (x2 : Int32) (x3 : Int32) (x4 : Int32) (x5 : Int32) (x6 : Int32) : am_ev X amP_21 42 [.ref 89, .int x1, .int x2, .int x3, .int x4, .int x5, .int x6] [] (am_sh I J) = (if (I 16 2) ≤ x6 then am_ev X amP_21 15 [.ref 89, .int x1, .int x2, .int x3, .int (x4 + (1 : Int32)), .int x5, .int x6] [] (am_sh I J) else (if x5 = 0 then am_ev X amP_21 15 [.ref 89, .int x1, .int x2, .int x3, .int (x4 + (1 : Int32)), .int x5, .int x6] [] (am_sh I J) else (if ¬ ((x5 >>> (x6 &&& 31)) &&& (1 : Int32)) = (1 : Int32) then am_ev X amP_21 42 [.ref 89, .int x1, .int x2, .int x3, .int x4, .int x5, .int (x6 + (1 : Int32))] [] (am_sh I J) else (am_do X 23 [.ref 89, .int x4, .int x6] (am_sh I J)).bind (fun q => am_ev X amP_21 60 [.ref 89, .int x1, .int x2, .int x3, .int x4, .int x5, .int x6] (q.1.toList ++ []) q.2)))) := by
  refine (ev_iload rfl rfl).trans ?_
  refine (ev_aload rfl rfl).trans ?_
  refine (ev_getR rfl (by decide) am_K_89 (by decide) rfl am_R_89_0).trans ?_
  refine (ev_getI rfl (by decide) am_K_16 (by decide) rfl).trans ?_
  refine (ev_icmp3 rfl).trans (am_ite (fun c1 => ?_) (fun c1 => ?_))
  · refine (ev_iincv (v := (1 : Int32)) (ls' := [.ref 89, .int x1, .int x2, .int x3, .int (x4 + (1 : Int32)), .int x5, .int x6]) rfl am_ci_1 rfl rfl).trans ?_
    refine (ev_goto rfl).trans ?_
    rfl
  · refine (ev_iload rfl rfl).trans ?_
    refine (ev_if0 rfl).trans (am_ite (fun c2 => ?_) (fun c2 => ?_))
    · refine (ev_iincv (v := (1 : Int32)) (ls' := [.ref 89, .int x1, .int x2, .int x3, .int (x4 + (1 : Int32)), .int x5, .int x6]) rfl am_ci_1 rfl rfl).trans ?_
      refine (ev_goto rfl).trans ?_
      rfl
    · refine (ev_iload rfl rfl).trans ?_
      refine (ev_iload rfl rfl).trans ?_
      refine (ev_ishr rfl).trans ?_
      refine (ev_const0 (v := (1 : Int32)) rfl am_ci_1).trans ?_
      refine (ev_iand rfl).trans ?_
      refine (ev_const0 (v := (1 : Int32)) rfl am_ci_1).trans ?_
      refine (ev_icmp1 rfl).trans (am_ite (fun c3 => ?_) (fun c3 => ?_))
      · refine (ev_iincv (v := (1 : Int32)) (ls' := [.ref 89, .int x1, .int x2, .int x3, .int x4, .int x5, .int (x6 + (1 : Int32))]) rfl am_ci_1 rfl rfl).trans ?_
        refine (ev_goto rfl).trans ?_
        rfl
      · refine (ev_aload rfl rfl).trans ?_
        refine (ev_iload rfl rfl).trans ?_
        refine (ev_iload rfl rfl).trans ?_
        exact ev_invv (as := [.int x6, .int x4]) rfl (by decide) am_K_89 rfl (by simp [Value.category])
set_option maxRecDepth 10000 in
theorem sg_21_60 (X : am_X) (I : Nat → Nat → Int32) (J : Nat → Nat → Int64) (x1 : Int32) (x2 : Int32) (x3 : Int32) (x4 : Int32) (x5 : Int32) (x6 : Int32) (x7 : Int32) : am_ev X amP_21 60 [.ref 89, .int x1, .int x2, .int x3, .int x4, .int x5, .int x6] [.int x7] (am_sh I J) = (if x2 < x7 then am_ev X amP_21 42 [.ref 89, .int x1, .int x2, .int x3, .int x4, .int x5, .int (x6 + (1 : Int32))] [] (am_sh I J) else am_ev X amP_21 42 [.ref 89, .int x1, .int x2, .int (x3 ||| (((1 : Int32) <<< (x4 &&& 31)) ||| ((1 : Int32) <<< (x6 &&& 31)))), .int x4, .int x5, .int (x6 + (1 : Int32))] [] (am_sh I J)) := by
  refine (ev_iload rfl rfl).trans ?_
  refine (ev_icmp4 rfl).trans (am_ite (fun c1 => ?_) (fun c1 => ?_))
  · refine (ev_iincv (v := (1 : Int32)) (ls' := [.ref 89, .int x1, .int x2, .int x3, .int x4, .int x5, .int (x6 + (1 : Int32))]) rfl am_ci_1 rfl rfl).trans ?_
    refine (ev_goto rfl).trans ?_
    rfl
  · refine (ev_iload rfl rfl).trans ?_
    refine (ev_const0 (v := (1 : Int32)) rfl am_ci_1).trans ?_
    refine (ev_iload rfl rfl).trans ?_
    refine (ev_ishl rfl).trans ?_
    refine (ev_const0 (v := (1 : Int32)) rfl am_ci_1).trans ?_
    refine (ev_iload rfl rfl).trans ?_
    refine (ev_ishl rfl).trans ?_
    refine (ev_ior rfl).trans ?_
    refine (ev_ior rfl).trans ?_
    refine (ev_istore (ls' := [.ref 89, .int x1, .int x2, .int (x3 ||| (((1 : Int32) <<< (x4 &&& 31)) ||| ((1 : Int32) <<< (x6 &&& 31)))), .int x4, .int x5, .int x6]) rfl (Nat.le_of_ble_eq_true rfl) rfl).trans ?_
    refine (ev_iincv (v := (1 : Int32)) (ls' := [.ref 89, .int x1, .int x2, .int (x3 ||| (((1 : Int32) <<< (x4 &&& 31)) ||| ((1 : Int32) <<< (x6 &&& 31)))), .int x4, .int x5, .int (x6 + (1 : Int32))]) rfl am_ci_1 rfl rfl).trans ?_
    refine (ev_goto rfl).trans ?_
    rfl
-- 22 X1_placeConcerned
set_option maxRecDepth 10000 in
theorem sg_22_e0 (X : am_X) (I : Nat → Nat → Int32) (J : Nat → Nat → Int64) (x1 : Int32) : am_ev X amP_22 0 [.ref 89, .int x1, .null, .null, .null] [] (am_sh I J) = am_ev X amP_22 2 [.ref 89, .int x1, .int (0 : Int32), .null, .null] [] (am_sh I J) := by
  refine (ev_const0 (v := (0 : Int32)) rfl am_ci_0).trans ?_
  refine (ev_istore (ls' := [.ref 89, .int x1, .int (0 : Int32), .null, .null]) rfl (Nat.le_of_ble_eq_true rfl) rfl).trans ?_
  rfl
theorem cl_22 (X : am_X) (I : Nat → Nat → Int32) (J : Nat → Nat → Int64) (x1 : Int32) : am_do X 22 [.ref 89, .int x1] (am_sh I J) = am_ev X amP_22 0 [.ref 89, .int x1, .null, .null, .null] [] (am_sh I J) := am_do_of rfl rfl rfl
set_option maxRecDepth 10000 in
theorem sg_22_2 (X : am_X) (I : Nat → Nat → Int32) (J : Nat → Nat → Int64) (x1 : Int32) (x2 : Int32) (w3 : Value) (w4 : Value) (hw3 : w3.category = 1) (hw4 : w4.category = 1) : am_ev X amP_22 2 [.ref 89, .int x1, .int x2, w3, w4] [] (am_sh I J) = (if (I 16 2) ≤ x2 then some (none, am_sh I J) else (if ¬ (((I 89 9) >>> (x2 &&& 31)) &&& (1 : Int32)) = (1 : Int32) then am_ev X amP_22 2 [.ref 89, .int x1, .int (x2 + (1 : Int32)), w3, w4] [] (am_sh I J) else (if x2 < 0 ∨ 10 ≤ x2.toNatClampNeg then none else (if (I (am_bd (x2.toNatClampNeg)) 1) = 0 then none else (if (((I (am_bd (x2.toNatClampNeg) + 1) 3) + x1) - ((I (am_bd (x2.toNatClampNeg) + 1) 3) + x1) / (I (am_bd (x2.toNatClampNeg)) 1) * (I (am_bd (x2.toNatClampNeg)) 1)) < 0 ∨ 48 ≤ (((I (am_bd (x2.toNatClampNeg) + 1) 3) + x1) - ((I (am_bd (x2.toNatClampNeg) + 1) 3) + x1) / (I (am_bd (x2.toNatClampNeg)) 1) * (I (am_bd (x2.toNatClampNeg)) 1)).toNatClampNeg then none else (if x2 < 0 ∨ 10 ≤ x2.toNatClampNeg then none else (if (((I (am_bd (x2.toNatClampNeg) + 1) 3) + x1) - ((I (am_bd (x2.toNatClampNeg) + 1) 3) + x1) / (I (am_bd (x2.toNatClampNeg)) 1) * (I (am_bd (x2.toNatClampNeg)) 1)) < 0 ∨ 48 ≤ (((I (am_bd (x2.toNatClampNeg) + 1) 3) + x1) - ((I (am_bd (x2.toNatClampNeg) + 1) 3) + x1) / (I (am_bd (x2.toNatClampNeg)) 1) * (I (am_bd (x2.toNatClampNeg)) 1)).toNatClampNeg then none else (if x2 < 0 ∨ 10 ≤ x2.toNatClampNeg then none else (if (((I (am_bd (x2.toNatClampNeg) + 1) 3) + x1) - ((I (am_bd (x2.toNatClampNeg) + 1) 3) + x1) / (I (am_bd (x2.toNatClampNeg)) 1) * (I (am_bd (x2.toNatClampNeg)) 1)) < 0 ∨ 48 ≤ (((I (am_bd (x2.toNatClampNeg) + 1) 3) + x1) - ((I (am_bd (x2.toNatClampNeg) + 1) 3) + x1) / (I (am_bd (x2.toNatClampNeg)) 1) * (I (am_bd (x2.toNatClampNeg)) 1)).toNatClampNeg then none else (if x2 < 0 ∨ 10 ≤ x2.toNatClampNeg then none else am_ev X amP_22 2 [.ref 89, .int x1, .int (x2 + (1 : Int32)), .ref (am_bd (x2.toNatClampNeg)), .int (((I (am_bd (x2.toNatClampNeg) + 1) 3) + x1) - ((I (am_bd (x2.toNatClampNeg) + 1) 3) + x1) / (I (am_bd (x2.toNatClampNeg)) 1) * (I (am_bd (x2.toNatClampNeg)) 1))] [] (am_sh (am_up (am_up (am_up I 92 x2.toNatClampNeg (I (am_bd (x2.toNatClampNeg) + 2) (((I (am_bd (x2.toNatClampNeg) + 1) 3) + x1) - ((I (am_bd (x2.toNatClampNeg) + 1) 3) + x1) / (I (am_bd (x2.toNatClampNeg)) 1) * (I (am_bd (x2.toNatClampNeg)) 1)).toNatClampNeg)) 93 x2.toNatClampNeg ((am_up I 92 x2.toNatClampNeg (I (am_bd (x2.toNatClampNeg) + 2) (((I (am_bd (x2.toNatClampNeg) + 1) 3) + x1) - ((I (am_bd (x2.toNatClampNeg) + 1) 3) + x1) / (I (am_bd (x2.toNatClampNeg)) 1) * (I (am_bd (x2.toNatClampNeg)) 1)).toNatClampNeg)) (am_bd (x2.toNatClampNeg) + 3) (((I (am_bd (x2.toNatClampNeg) + 1) 3) + x1) - ((I (am_bd (x2.toNatClampNeg) + 1) 3) + x1) / (I (am_bd (x2.toNatClampNeg)) 1) * (I (am_bd (x2.toNatClampNeg)) 1)).toNatClampNeg)) 94 x2.toNatClampNeg ((am_up (am_up I 92 x2.toNatClampNeg (I (am_bd (x2.toNatClampNeg) + 2) (((I (am_bd (x2.toNatClampNeg) + 1) 3) + x1) - ((I (am_bd (x2.toNatClampNeg) + 1) 3) + x1) / (I (am_bd (x2.toNatClampNeg)) 1) * (I (am_bd (x2.toNatClampNeg)) 1)).toNatClampNeg)) 93 x2.toNatClampNeg ((am_up I 92 x2.toNatClampNeg (I (am_bd (x2.toNatClampNeg) + 2) (((I (am_bd (x2.toNatClampNeg) + 1) 3) + x1) - ((I (am_bd (x2.toNatClampNeg) + 1) 3) + x1) / (I (am_bd (x2.toNatClampNeg)) 1) * (I (am_bd (x2.toNatClampNeg)) 1)).toNatClampNeg)) (am_bd (x2.toNatClampNeg) + 3) (((I (am_bd (x2.toNatClampNeg) + 1) 3) + x1) - ((I (am_bd (x2.toNatClampNeg) + 1) 3) + x1) / (I (am_bd (x2.toNatClampNeg)) 1) * (I (am_bd (x2.toNatClampNeg)) 1)).toNatClampNeg)) (am_bd (x2.toNatClampNeg) + 4) (((I (am_bd (x2.toNatClampNeg) + 1) 3) + x1) - ((I (am_bd (x2.toNatClampNeg) + 1) 3) + x1) / (I (am_bd (x2.toNatClampNeg)) 1) * (I (am_bd (x2.toNatClampNeg)) 1)).toNatClampNeg)) J))))))))))) := by
  refine (ev_iload rfl rfl).trans ?_
  refine (ev_aload rfl rfl).trans ?_
  refine (ev_getR rfl (by decide) am_K_89 (by decide) rfl am_R_89_0).trans ?_
  refine (ev_getI rfl (by decide) am_K_16 (by decide) rfl).trans ?_
  refine (ev_icmp3 rfl).trans (am_ite (fun c1 => ?_) (fun c1 => ?_))
  · exact ev_vret rfl
  · refine (ev_aload rfl rfl).trans ?_
    refine (ev_getI rfl (by decide) am_K_89 (by decide) rfl).trans ?_
    refine (ev_iload rfl rfl).trans ?_
    refine (ev_ishr rfl).trans ?_
    refine (ev_const0 (v := (1 : Int32)) rfl am_ci_1).trans ?_
    refine (ev_iand rfl).trans ?_
    refine (ev_const0 (v := (1 : Int32)) rfl am_ci_1).trans ?_
    refine (ev_icmp1 rfl).trans (am_ite (fun c2 => ?_) (fun c2 => ?_))
    · refine (ev_iincv (v := (1 : Int32)) (ls' := [.ref 89, .int x1, .int (x2 + (1 : Int32)), w3, w4]) rfl am_ci_1 rfl rfl).trans ?_
      refine (ev_goto rfl).trans ?_
      rfl
    · refine (ev_aload rfl rfl).trans ?_
      refine (ev_getR rfl (by decide) am_K_89 (by decide) rfl am_R_89_0).trans ?_
      refine (ev_getR rfl (by decide) am_K_16 (by decide) rfl am_R_16_0).trans ?_
      refine (ev_iload rfl rfl).trans ?_
      refine (ev_aald rfl (by decide) (Or.inl am_K_17) (f := am_bd) (fun k hk => am_R17 hk)).trans (am_itn (fun g3 => ?_))
      refine (ev_astore (ls' := [.ref 89, .int x1, .int x2, .ref (am_bd (x2.toNatClampNeg)), w4]) rfl (Nat.le_of_ble_eq_true rfl) rfl).trans ?_
      refine (ev_aload rfl rfl).trans ?_
      refine (ev_getR rfl (by have := am_bd_lt (by omega : (x2.toNatClampNeg) < 11); omega) (am_Kbd (by omega : (x2.toNatClampNeg) < 11)) (by decide) rfl (am_Rb2 (by omega : (x2.toNatClampNeg) < 11))).trans ?_
      refine (ev_const0 (v := (3 : Int32)) rfl am_ci_3).trans ?_
      refine (ev_ialdC (jn := 3) rfl (by have := am_bd_lt (by omega : (x2.toNatClampNeg) < 11); omega) (am_Kbn (by omega : (x2.toNatClampNeg) < 11)) (by decide) (by decide)).trans ?_
      refine (ev_iload rfl rfl).trans ?_
      refine (ev_iadd rfl).trans ?_
      refine (ev_aload rfl rfl).trans ?_
      refine (ev_getI rfl (by have := am_bd_lt (by omega : (x2.toNatClampNeg) < 11); omega) (am_Kbd (by omega : (x2.toNatClampNeg) < 11)) (by decide) rfl).trans ?_
      refine (ev_irem rfl).trans (am_itn (fun g4 => ?_))
      refine (ev_istore (ls' := [.ref 89, .int x1, .int x2, .ref (am_bd (x2.toNatClampNeg)), .int (((I (am_bd (x2.toNatClampNeg) + 1) 3) + x1) - ((I (am_bd (x2.toNatClampNeg) + 1) 3) + x1) / (I (am_bd (x2.toNatClampNeg)) 1) * (I (am_bd (x2.toNatClampNeg)) 1))]) rfl (Nat.le_of_ble_eq_true rfl) rfl).trans ?_
      refine (ev_aload rfl rfl).trans ?_
      refine (ev_getR rfl (by decide) am_K_89 (by decide) rfl am_R_89_4).trans ?_
      refine (ev_iload rfl rfl).trans ?_
      refine (ev_aload rfl rfl).trans ?_
      refine (ev_getR rfl (by have := am_bd_lt (by omega : (x2.toNatClampNeg) < 11); omega) (am_Kbd (by omega : (x2.toNatClampNeg) < 11)) (by decide) rfl (am_Rb3 (by omega : (x2.toNatClampNeg) < 11))).trans ?_
      refine (ev_iload rfl rfl).trans ?_
      refine (ev_iald rfl (by have := am_bd_lt (by omega : (x2.toNatClampNeg) < 11); omega) (am_Kb2 (by omega : (x2.toNatClampNeg) < 11))).trans (am_itn (fun g5 => ?_))
      refine (ev_iast rfl (by decide) am_K_92).trans (am_itn (fun g6 => ?_))
      refine (ev_aload rfl rfl).trans ?_
      refine (ev_getR rfl (by decide) am_K_89 (by decide) rfl am_R_89_5).trans ?_
      refine (ev_iload rfl rfl).trans ?_
      refine (ev_aload rfl rfl).trans ?_
      refine (ev_getR rfl (by have := am_bd_lt (by omega : (x2.toNatClampNeg) < 11); omega) (am_Kbd (by omega : (x2.toNatClampNeg) < 11)) (by decide) rfl (am_Rb4 (by omega : (x2.toNatClampNeg) < 11))).trans ?_
      refine (ev_iload rfl rfl).trans ?_
      refine (ev_iald rfl (by have := am_bd_lt (by omega : (x2.toNatClampNeg) < 11); omega) (am_Kb3 (by omega : (x2.toNatClampNeg) < 11))).trans (am_itn (fun g7 => ?_))
      refine (ev_iast rfl (by decide) am_K_93).trans (am_itn (fun g8 => ?_))
      refine (ev_aload rfl rfl).trans ?_
      refine (ev_getR rfl (by decide) am_K_89 (by decide) rfl am_R_89_6).trans ?_
      refine (ev_iload rfl rfl).trans ?_
      refine (ev_aload rfl rfl).trans ?_
      refine (ev_getR rfl (by have := am_bd_lt (by omega : (x2.toNatClampNeg) < 11); omega) (am_Kbd (by omega : (x2.toNatClampNeg) < 11)) (by decide) rfl (am_Rb5 (by omega : (x2.toNatClampNeg) < 11))).trans ?_
      refine (ev_iload rfl rfl).trans ?_
      refine (ev_iald rfl (by have := am_bd_lt (by omega : (x2.toNatClampNeg) < 11); omega) (am_Kb4 (by omega : (x2.toNatClampNeg) < 11))).trans (am_itn (fun g9 => ?_))
      refine (ev_iast rfl (by decide) am_K_94).trans (am_itn (fun g10 => ?_))
      refine (ev_iincv (v := (1 : Int32)) (ls' := [.ref 89, .int x1, .int (x2 + (1 : Int32)), .ref (am_bd (x2.toNatClampNeg)), .int (((I (am_bd (x2.toNatClampNeg) + 1) 3) + x1) - ((I (am_bd (x2.toNatClampNeg) + 1) 3) + x1) / (I (am_bd (x2.toNatClampNeg)) 1) * (I (am_bd (x2.toNatClampNeg)) 1))]) rfl am_ci_1 rfl rfl).trans ?_
      refine (ev_goto rfl).trans ?_
      rfl
-- 23 X1_placedDistance
set_option maxRecDepth 10000 in
theorem sg_23_e0 (X : am_X) (I : Nat → Nat → Int32) (J : Nat → Nat → Int64) (x1 : Int32) (x2 : Int32) : am_ev X amP_23 0 [.ref 89, .int x1, .int x2, .null, .null, .null] [] (am_sh I J) = (if x1 < 0 ∨ 10 ≤ x1.toNatClampNeg then none else (if x2 < 0 ∨ 10 ≤ x2.toNatClampNeg then none else (if x1 < 0 ∨ 10 ≤ x1.toNatClampNeg then none else (if x2 < 0 ∨ 10 ≤ x2.toNatClampNeg then none else (if x1 < 0 ∨ 10 ≤ x1.toNatClampNeg then none else (if x2 < 0 ∨ 10 ≤ x2.toNatClampNeg then none else some (some (.int (((((I 92 x1.toNatClampNeg) - (I 92 x2.toNatClampNeg)) * ((I 92 x1.toNatClampNeg) - (I 92 x2.toNatClampNeg))) + (((I 93 x1.toNatClampNeg) - (I 93 x2.toNatClampNeg)) * ((I 93 x1.toNatClampNeg) - (I 93 x2.toNatClampNeg)))) + (((I 94 x1.toNatClampNeg) - (I 94 x2.toNatClampNeg)) * ((I 94 x1.toNatClampNeg) - (I 94 x2.toNatClampNeg))))), am_sh I J))))))) := by
  refine (ev_aload rfl rfl).trans ?_
  refine (ev_getR rfl (by decide) am_K_89 (by decide) rfl am_R_89_4).trans ?_
  refine (ev_iload rfl rfl).trans ?_
  refine (ev_iald rfl (by decide) am_K_92).trans (am_itn (fun g1 => ?_))
  refine (ev_aload rfl rfl).trans ?_
  refine (ev_getR rfl (by decide) am_K_89 (by decide) rfl am_R_89_4).trans ?_
  refine (ev_iload rfl rfl).trans ?_
  refine (ev_iald rfl (by decide) am_K_92).trans (am_itn (fun g2 => ?_))
  refine (ev_isub rfl).trans ?_
  refine (ev_istore (ls' := [.ref 89, .int x1, .int x2, .int ((I 92 x1.toNatClampNeg) - (I 92 x2.toNatClampNeg)), .null, .null]) rfl (Nat.le_of_ble_eq_true rfl) rfl).trans ?_
  refine (ev_aload rfl rfl).trans ?_
  refine (ev_getR rfl (by decide) am_K_89 (by decide) rfl am_R_89_5).trans ?_
  refine (ev_iload rfl rfl).trans ?_
  refine (ev_iald rfl (by decide) am_K_93).trans (am_itn (fun g3 => ?_))
  refine (ev_aload rfl rfl).trans ?_
  refine (ev_getR rfl (by decide) am_K_89 (by decide) rfl am_R_89_5).trans ?_
  refine (ev_iload rfl rfl).trans ?_
  refine (ev_iald rfl (by decide) am_K_93).trans (am_itn (fun g4 => ?_))
  refine (ev_isub rfl).trans ?_
  refine (ev_istore (ls' := [.ref 89, .int x1, .int x2, .int ((I 92 x1.toNatClampNeg) - (I 92 x2.toNatClampNeg)), .int ((I 93 x1.toNatClampNeg) - (I 93 x2.toNatClampNeg)), .null]) rfl (Nat.le_of_ble_eq_true rfl) rfl).trans ?_
  refine (ev_aload rfl rfl).trans ?_
  refine (ev_getR rfl (by decide) am_K_89 (by decide) rfl am_R_89_6).trans ?_
  refine (ev_iload rfl rfl).trans ?_
  refine (ev_iald rfl (by decide) am_K_94).trans (am_itn (fun g5 => ?_))
  refine (ev_aload rfl rfl).trans ?_
  refine (ev_getR rfl (by decide) am_K_89 (by decide) rfl am_R_89_6).trans ?_
  refine (ev_iload rfl rfl).trans ?_
  refine (ev_iald rfl (by decide) am_K_94).trans (am_itn (fun g6 => ?_))
  refine (ev_isub rfl).trans ?_
  refine (ev_istore (ls' := [.ref 89, .int x1, .int x2, .int ((I 92 x1.toNatClampNeg) - (I 92 x2.toNatClampNeg)), .int ((I 93 x1.toNatClampNeg) - (I 93 x2.toNatClampNeg)), .int ((I 94 x1.toNatClampNeg) - (I 94 x2.toNatClampNeg))]) rfl (Nat.le_of_ble_eq_true rfl) rfl).trans ?_
  refine (ev_iload rfl rfl).trans ?_
  refine (ev_iload rfl rfl).trans ?_
  refine (ev_imul rfl).trans ?_
  refine (ev_iload rfl rfl).trans ?_
  refine (ev_iload rfl rfl).trans ?_
  refine (ev_imul rfl).trans ?_
  refine (ev_iadd rfl).trans ?_
  refine (ev_iload rfl rfl).trans ?_
  refine (ev_iload rfl rfl).trans ?_
  refine (ev_imul rfl).trans ?_
  refine (ev_iadd rfl).trans ?_
  exact ev_iret rfl
theorem cl_23 (X : am_X) (I : Nat → Nat → Int32) (J : Nat → Nat → Int64) (x1 : Int32) (x2 : Int32) : am_do X 23 [.ref 89, .int x1, .int x2] (am_sh I J) = am_ev X amP_23 0 [.ref 89, .int x1, .int x2, .null, .null, .null] [] (am_sh I J) := am_do_of rfl rfl rfl
-- 24 X1_findMeeting
set_option maxRecDepth 10000 in
theorem sg_24_e0 (X : am_X) (I : Nat → Nat → Int32) (J : Nat → Nat → Int64) : am_ev X amP_24 0 [.ref 89, .null] [] (am_sh I J) = (am_do X 102 [.ref 16] (am_sh I J)).bind (fun q => am_ev X amP_24 4 [.ref 89, .null] (q.1.toList ++ [.ref 89]) q.2) := by
  refine (ev_aload rfl rfl).trans ?_
  refine (ev_aload rfl rfl).trans ?_
  refine (ev_getR rfl (by decide) am_K_89 (by decide) rfl am_R_89_0).trans ?_
  exact ev_invv (as := []) rfl (by decide) am_K_16 rfl (by simp [Value.category])
theorem cl_24 (X : am_X) (I : Nat → Nat → Int32) (J : Nat → Nat → Int64) : am_do X 24 [.ref 89] (am_sh I J) = am_ev X amP_24 0 [.ref 89, .null] [] (am_sh I J) := am_do_of rfl rfl rfl
set_option maxRecDepth 10000 in
theorem sg_24_4 (X : am_X) (I : Nat → Nat → Int32) (J : Nat → Nat → Int64) (w1 : Value) (x2 : Int32) (hw1 : w1.category = 1) : am_ev X amP_24 4 [.ref 89, w1] [.int x2, .ref 89] (am_sh I J) = (am_do X 15 [.ref 89, .int x2, .int (I 16 3), .int (2400 : Int32)] (am_sh I J)).bind (fun q => am_ev X amP_24 9 [.ref 89, w1] (q.1.toList ++ []) q.2) := by
  refine (ev_aload rfl rfl).trans ?_
  refine (ev_getR rfl (by decide) am_K_89 (by decide) rfl am_R_89_0).trans ?_
  refine (ev_getI rfl (by decide) am_K_16 (by decide) rfl).trans ?_
  refine (ev_const2 (v := (2400 : Int32)) rfl am_ci_2400).trans ?_
  exact ev_invv (as := [.int (2400 : Int32), .int (I 16 3), .int x2]) rfl (by decide) am_K_89 rfl (by simp [Value.category])
set_option maxRecDepth 10000 in
theorem sg_24_9 (X : am_X) (I : Nat → Nat → Int32) (J : Nat → Nat → Int64) (w1 : Value) (hw1 : w1.category = 1) : am_ev X amP_24 9 [.ref 89, w1] [] (am_sh I J) = am_ev X amP_24 11 [.ref 89, .int (0 : Int32)] [] (am_sh I J) := by
  refine (ev_const0 (v := (0 : Int32)) rfl am_ci_0).trans ?_
  refine (ev_istore (ls' := [.ref 89, .int (0 : Int32)]) rfl (Nat.le_of_ble_eq_true rfl) rfl).trans ?_
  rfl
set_option maxRecDepth 10000 in
theorem sg_24_11 (X : am_X) (I : Nat → Nat → Int32) (J : Nat → Nat → Int64) (x1 : Int32) : am_ev X amP_24 11 [.ref 89, .int x1] [] (am_sh I J) = (if (2400 : Int32) < x1 then some (some (.int (0 : Int32)), am_sh I J) else (if (I 89 9) = 0 then some (some (.int (0 : Int32)), am_sh I J) else (am_do X 22 [.ref 89, .int ((I 16 5) + x1)] (am_sh I J)).bind (fun q => am_ev X amP_24 24 [.ref 89, .int x1] (q.1.toList ++ []) q.2))) := by
  refine (ev_iload rfl rfl).trans ?_
  refine (ev_const2 (v := (2400 : Int32)) rfl am_ci_2400).trans ?_
  refine (ev_icmp4 rfl).trans (am_ite (fun c1 => ?_) (fun c1 => ?_))
  · refine (ev_const0 (v := (0 : Int32)) rfl am_ci_0).trans ?_
    exact ev_zret rfl (by decide)
  · refine (ev_aload rfl rfl).trans ?_
    refine (ev_getI rfl (by decide) am_K_89 (by decide) rfl).trans ?_
    refine (ev_if0 rfl).trans (am_ite (fun c2 => ?_) (fun c2 => ?_))
    · refine (ev_const0 (v := (0 : Int32)) rfl am_ci_0).trans ?_
      exact ev_zret rfl (by decide)
    · refine (ev_aload rfl rfl).trans ?_
      refine (ev_aload rfl rfl).trans ?_
      refine (ev_getR rfl (by decide) am_K_89 (by decide) rfl am_R_89_0).trans ?_
      refine (ev_getI rfl (by decide) am_K_16 (by decide) rfl).trans ?_
      refine (ev_iload rfl rfl).trans ?_
      refine (ev_iadd rfl).trans ?_
      exact ev_invv (as := [.int ((I 16 5) + x1)]) rfl (by decide) am_K_89 rfl (by simp [Value.category])
set_option maxRecDepth 10000 in
theorem sg_24_24 (X : am_X) (I : Nat → Nat → Int32) (J : Nat → Nat → Int64) (x1 : Int32) : am_ev X amP_24 24 [.ref 89, .int x1] [] (am_sh I J) = (am_do X 25 [.ref 89] (am_sh I J)).bind (fun q => am_ev X amP_24 26 [.ref 89, .int x1] (q.1.toList ++ []) q.2) := by
  refine (ev_aload rfl rfl).trans ?_
  exact ev_invv (as := []) rfl (by decide) am_K_89 rfl (by simp [Value.category])
set_option maxRecDepth 10000 in
theorem sg_24_26 (X : am_X) (I : Nat → Nat → Int32) (J : Nat → Nat → Int64) (x1 : Int32) (x2 : Int32) : am_ev X amP_24 26 [.ref 89, .int x1] [.int x2] (am_sh I J) = (if x2 = 0 then am_ev X amP_24 11 [.ref 89, .int (x1 + (1 : Int32))] [] (am_sh I J) else some (some (.int (1 : Int32)), am_sh (am_up I 95 0 ((I 16 5) + x1)) J)) := by
  refine (ev_if0 rfl).trans (am_ite (fun c1 => ?_) (fun c1 => ?_))
  · refine (ev_iincv (v := (1 : Int32)) (ls' := [.ref 89, .int (x1 + (1 : Int32))]) rfl am_ci_1 rfl rfl).trans ?_
    refine (ev_goto rfl).trans ?_
    rfl
  · refine (ev_aload rfl rfl).trans ?_
    refine (ev_getR rfl (by decide) am_K_89 (by decide) rfl am_R_89_7).trans ?_
    refine (ev_const0 (v := (0 : Int32)) rfl am_ci_0).trans ?_
    refine (ev_aload rfl rfl).trans ?_
    refine (ev_getR rfl (by decide) am_K_89 (by decide) rfl am_R_89_0).trans ?_
    refine (ev_getI rfl (by decide) am_K_16 (by decide) rfl).trans ?_
    refine (ev_iload rfl rfl).trans ?_
    refine (ev_iadd rfl).trans ?_
    refine (ev_iastC (jn := 0) rfl (by decide) am_K_95 (by decide) (by decide)).trans ?_
    refine (ev_const0 (v := (1 : Int32)) rfl am_ci_1).trans ?_
    exact ev_zret rfl (by decide)
-- 25 X1_someMeet
set_option maxRecDepth 10000 in
theorem sg_25_e0 (X : am_X) (I : Nat → Nat → Int32) (J : Nat → Nat → Int64) : am_ev X amP_25 0 [.ref 89, .null, .null] [] (am_sh I J) = am_ev X amP_25 2 [.ref 89, .int (0 : Int32), .null] [] (am_sh I J) := by
  refine (ev_const0 (v := (0 : Int32)) rfl am_ci_0).trans ?_
  refine (ev_istore (ls' := [.ref 89, .int (0 : Int32), .null]) rfl (Nat.le_of_ble_eq_true rfl) rfl).trans ?_
  rfl
theorem cl_25 (X : am_X) (I : Nat → Nat → Int32) (J : Nat → Nat → Int64) : am_do X 25 [.ref 89] (am_sh I J) = am_ev X amP_25 0 [.ref 89, .null, .null] [] (am_sh I J) := am_do_of rfl rfl rfl
set_option maxRecDepth 10000 in
theorem sg_25_2 (X : am_X) (I : Nat → Nat → Int32) (J : Nat → Nat → Int64) (x1 : Int32) (w2 : Value) (hw2 : w2.category = 1) : am_ev X amP_25 2 [.ref 89, .int x1, w2] [] (am_sh I J) = (if (I 16 2) ≤ x1 then some (some (.int (0 : Int32)), am_sh I J) else am_ev X amP_25 11 [.ref 89, .int x1, .int (x1 + (1 : Int32))] [] (am_sh I J)) := by
  refine (ev_iload rfl rfl).trans ?_
  refine (ev_aload rfl rfl).trans ?_
  refine (ev_getR rfl (by decide) am_K_89 (by decide) rfl am_R_89_0).trans ?_
  refine (ev_getI rfl (by decide) am_K_16 (by decide) rfl).trans ?_
  refine (ev_icmp3 rfl).trans (am_ite (fun c1 => ?_) (fun c1 => ?_))
  · refine (ev_const0 (v := (0 : Int32)) rfl am_ci_0).trans ?_
    exact ev_zret rfl (by decide)
  · refine (ev_iload rfl rfl).trans ?_
    refine (ev_const0 (v := (1 : Int32)) rfl am_ci_1).trans ?_
    refine (ev_iadd rfl).trans ?_
    refine (ev_istore (ls' := [.ref 89, .int x1, .int (x1 + (1 : Int32))]) rfl (Nat.le_of_ble_eq_true rfl) rfl).trans ?_
    rfl
set_option maxRecDepth 10000 in
theorem sg_25_11 (X : am_X) (I : Nat → Nat → Int32) (J : Nat → Nat → Int64) (x1 : Int32) (x2 : Int32) : am_ev X amP_25 11 [.ref 89, .int x1, .int x2] [] (am_sh I J) = (if (I 16 2) ≤ x2 then am_ev X amP_25 2 [.ref 89, .int (x1 + (1 : Int32)), .int x2] [] (am_sh I J) else (if x1 < 0 ∨ 10 ≤ x1.toNatClampNeg then none else (if (I 90 x1.toNatClampNeg) = 0 then am_ev X amP_25 2 [.ref 89, .int (x1 + (1 : Int32)), .int x2] [] (am_sh I J) else (if x1 < 0 ∨ 10 ≤ x1.toNatClampNeg then none else (if ¬ (((I 90 x1.toNatClampNeg) >>> (x2 &&& 31)) &&& (1 : Int32)) = (1 : Int32) then am_ev X amP_25 11 [.ref 89, .int x1, .int (x2 + (1 : Int32))] [] (am_sh I J) else (am_do X 23 [.ref 89, .int x1, .int x2] (am_sh I J)).bind (fun q => am_ev X amP_25 35 [.ref 89, .int x1, .int x2] (q.1.toList ++ []) q.2)))))) := by
  refine (ev_iload rfl rfl).trans ?_
  refine (ev_aload rfl rfl).trans ?_
  refine (ev_getR rfl (by decide) am_K_89 (by decide) rfl am_R_89_0).trans ?_
  refine (ev_getI rfl (by decide) am_K_16 (by decide) rfl).trans ?_
  refine (ev_icmp3 rfl).trans (am_ite (fun c1 => ?_) (fun c1 => ?_))
  · refine (ev_iincv (v := (1 : Int32)) (ls' := [.ref 89, .int (x1 + (1 : Int32)), .int x2]) rfl am_ci_1 rfl rfl).trans ?_
    refine (ev_goto rfl).trans ?_
    rfl
  · refine (ev_aload rfl rfl).trans ?_
    refine (ev_getR rfl (by decide) am_K_89 (by decide) rfl am_R_89_2).trans ?_
    refine (ev_iload rfl rfl).trans ?_
    refine (ev_iald rfl (by decide) am_K_90).trans (am_itn (fun g2 => ?_))
    refine (ev_if0 rfl).trans (am_ite (fun c3 => ?_) (fun c3 => ?_))
    · refine (ev_iincv (v := (1 : Int32)) (ls' := [.ref 89, .int (x1 + (1 : Int32)), .int x2]) rfl am_ci_1 rfl rfl).trans ?_
      refine (ev_goto rfl).trans ?_
      rfl
    · refine (ev_aload rfl rfl).trans ?_
      refine (ev_getR rfl (by decide) am_K_89 (by decide) rfl am_R_89_2).trans ?_
      refine (ev_iload rfl rfl).trans ?_
      refine (ev_iald rfl (by decide) am_K_90).trans (am_itn (fun g4 => ?_))
      refine (ev_iload rfl rfl).trans ?_
      refine (ev_ishr rfl).trans ?_
      refine (ev_const0 (v := (1 : Int32)) rfl am_ci_1).trans ?_
      refine (ev_iand rfl).trans ?_
      refine (ev_const0 (v := (1 : Int32)) rfl am_ci_1).trans ?_
      refine (ev_icmp1 rfl).trans (am_ite (fun c5 => ?_) (fun c5 => ?_))
      · refine (ev_iincv (v := (1 : Int32)) (ls' := [.ref 89, .int x1, .int (x2 + (1 : Int32))]) rfl am_ci_1 rfl rfl).trans ?_
        refine (ev_goto rfl).trans ?_
        rfl
      · refine (ev_aload rfl rfl).trans ?_
        refine (ev_iload rfl rfl).trans ?_
        refine (ev_iload rfl rfl).trans ?_
        exact ev_invv (as := [.int x2, .int x1]) rfl (by decide) am_K_89 rfl (by simp [Value.category])
set_option maxRecDepth 10000 in
theorem sg_25_35 (X : am_X) (I : Nat → Nat → Int32) (J : Nat → Nat → Int64) (x1 : Int32) (x2 : Int32) (x3 : Int32) : am_ev X amP_25 35 [.ref 89, .int x1, .int x2] [.int x3] (am_sh I J) = (if ((I 16 3) * (I 16 3)) < x3 then am_ev X amP_25 11 [.ref 89, .int x1, .int (x2 + (1 : Int32))] [] (am_sh I J) else (am_do X 23 [.ref 89, .int x1, .int x2] (am_sh (am_up (am_up I 95 1 x1) 95 2 x2) J)).bind (fun q => am_ev X amP_25 60 [.ref 89, .int x1, .int x2] (q.1.toList ++ [.int (3 : Int32), .ref 95]) q.2)) := by
  refine (ev_aload rfl rfl).trans ?_
  refine (ev_getR rfl (by decide) am_K_89 (by decide) rfl am_R_89_0).trans ?_
  refine (ev_getI rfl (by decide) am_K_16 (by decide) rfl).trans ?_
  refine (ev_aload rfl rfl).trans ?_
  refine (ev_getR rfl (by decide) am_K_89 (by decide) rfl am_R_89_0).trans ?_
  refine (ev_getI rfl (by decide) am_K_16 (by decide) rfl).trans ?_
  refine (ev_imul rfl).trans ?_
  refine (ev_icmp4 rfl).trans (am_ite (fun c1 => ?_) (fun c1 => ?_))
  · refine (ev_iincv (v := (1 : Int32)) (ls' := [.ref 89, .int x1, .int (x2 + (1 : Int32))]) rfl am_ci_1 rfl rfl).trans ?_
    refine (ev_goto rfl).trans ?_
    rfl
  · refine (ev_aload rfl rfl).trans ?_
    refine (ev_getR rfl (by decide) am_K_89 (by decide) rfl am_R_89_7).trans ?_
    refine (ev_const0 (v := (1 : Int32)) rfl am_ci_1).trans ?_
    refine (ev_iload rfl rfl).trans ?_
    refine (ev_iastC (jn := 1) rfl (by decide) am_K_95 (by decide) (by decide)).trans ?_
    refine (ev_aload rfl rfl).trans ?_
    refine (ev_getR rfl (by decide) am_K_89 (by decide) rfl am_R_89_7).trans ?_
    refine (ev_const0 (v := (2 : Int32)) rfl am_ci_2).trans ?_
    refine (ev_iload rfl rfl).trans ?_
    refine (ev_iastC (jn := 2) rfl (by decide) am_K_95 (by decide) (by decide)).trans ?_
    refine (ev_aload rfl rfl).trans ?_
    refine (ev_getR rfl (by decide) am_K_89 (by decide) rfl am_R_89_7).trans ?_
    refine (ev_const0 (v := (3 : Int32)) rfl am_ci_3).trans ?_
    refine (ev_aload rfl rfl).trans ?_
    refine (ev_iload rfl rfl).trans ?_
    refine (ev_iload rfl rfl).trans ?_
    exact ev_invv (as := [.int x2, .int x1]) rfl (by decide) am_K_89 rfl (by simp [Value.category])
set_option maxRecDepth 10000 in
theorem sg_25_60 (X : am_X) (I : Nat → Nat → Int32) (J : Nat → Nat → Int64) (x1 : Int32) (x2 : Int32) (x3 : Int32) (x4 : Int32) : am_ev X amP_25 60 [.ref 89, .int x1, .int x2] [.int x4, .int x3, .ref 95] (am_sh I J) = (if x3 < 0 ∨ 4 ≤ x3.toNatClampNeg then none else some (some (.int (1 : Int32)), am_sh (am_up I 95 x3.toNatClampNeg x4) J)) := by
  refine (ev_iast rfl (by decide) am_K_95).trans (am_itn (fun g1 => ?_))
  refine (ev_const0 (v := (1 : Int32)) rfl am_ci_1).trans ?_
  exact ev_zret rfl (by decide)
-- 27 X2_leastOf
set_option maxRecDepth 10000 in
theorem sg_27_e0 (X : am_X) (I : Nat → Nat → Int32) (J : Nat → Nat → Int64) (a1 : Nat) (n1 : Nat) (x2 : Int32) (ha1 : a1 < 162) (ka1 : am_K a1 = (20, n1)) : am_ev X amP_27 0 [.ref a1, .int x2] [] (am_sh I J) = (if x2 = (0 : Int32) then some (some (.int (1 : Int32)), am_sh I J) else (if x2 = (1 : Int32) then (if (0 : Int32) < 0 ∨ n1 ≤ (0 : Int32).toNatClampNeg then none else some (some (.int (I a1 (0 : Int32).toNatClampNeg)), am_sh I J)) else (if x2 = (2 : Int32) then some (some (.int (2 : Int32)), am_sh I J) else some (some (.int (0 : Int32)), am_sh I J)))) := by
  refine (ev_iload rfl rfl).trans ?_
  refine (am_dec (x2 = (0 : Int32))).trans (am_ite (fun s1_0 => ?_) (fun s1_0 => ?_))
  · refine (ev_tswIn (k := 0) rfl (by rw [s1_0]; decide) rfl).trans ?_
    refine (ev_const0 (v := (1 : Int32)) rfl am_ci_1).trans ?_
    exact ev_iret rfl
  refine (am_dec (x2 = (1 : Int32))).trans (am_ite (fun s1_1 => ?_) (fun s1_1 => ?_))
  · refine (ev_tswIn (k := 1) rfl (by rw [s1_1]; decide) rfl).trans ?_
    refine (ev_aload rfl rfl).trans ?_
    refine (ev_const0 (v := (0 : Int32)) rfl am_ci_0).trans ?_
    refine (ev_iald rfl ha1 ka1).trans (am_itn (fun g2 => ?_))
    exact ev_iret rfl
  refine (am_dec (x2 = (2 : Int32))).trans (am_ite (fun s1_2 => ?_) (fun s1_2 => ?_))
  · refine (ev_tswIn (k := 2) rfl (by rw [s1_2]; decide) rfl).trans ?_
    refine (ev_const0 (v := (2 : Int32)) rfl am_ci_2).trans ?_
    exact ev_iret rfl
  refine (ev_tswOut rfl (by have q0 := am_neT s1_0 (n := 0) (by decide); have q1 := am_neT s1_1 (n := 1) (by decide); have q2 := am_neT s1_2 (n := 2) (by decide); simp only [List.length_cons, List.length_nil]; omega)).trans ?_
  refine (ev_const0 (v := (0 : Int32)) rfl am_ci_0).trans ?_
  exact ev_iret rfl
theorem cl_27 (X : am_X) (I : Nat → Nat → Int32) (J : Nat → Nat → Int64) (a1 : Nat) (n1 : Nat) (x2 : Int32) : am_do X 27 [.ref a1, .int x2] (am_sh I J) = am_ev X amP_27 0 [.ref a1, .int x2] [] (am_sh I J) := am_do_of rfl rfl rfl
-- 28 X2_mostOf
set_option maxRecDepth 10000 in
theorem sg_28_e0 (X : am_X) (I : Nat → Nat → Int32) (J : Nat → Nat → Int64) (a1 : Nat) (n1 : Nat) (x2 : Int32) (ha1 : a1 < 162) (ka1 : am_K a1 = (20, n1)) : am_ev X amP_28 0 [.ref a1, .int x2] [] (am_sh I J) = (if x2 = (0 : Int32) then some (some (.int (200 : Int32)), am_sh I J) else (if x2 = (1 : Int32) then some (some (.int (200 : Int32)), am_sh I J) else (if x2 = (2 : Int32) then some (some (.int (48 : Int32)), am_sh I J) else (if x2 = (3 : Int32) then (if (2 : Int32) < 0 ∨ n1 ≤ (2 : Int32).toNatClampNeg then none else some (some (.int ((I a1 (2 : Int32).toNatClampNeg) - (1 : Int32))), am_sh I J)) else (if x2 = (4 : Int32) then (if (2 : Int32) < 0 ∨ n1 ≤ (2 : Int32).toNatClampNeg then none else some (some (.int ((I a1 (2 : Int32).toNatClampNeg) - (1 : Int32))), am_sh I J)) else (if x2 = (5 : Int32) then some (some (.int (16 : Int32)), am_sh I J) else (if x2 = (6 : Int32) then some (some (.int (3 : Int32)), am_sh I J) else (if x2 = (7 : Int32) then some (some (.int (99 : Int32)), am_sh I J) else some (some (.int (1 : Int32)), am_sh I J))))))))) := by
  refine (ev_iload rfl rfl).trans ?_
  refine (am_dec (x2 = (0 : Int32))).trans (am_ite (fun s1_0 => ?_) (fun s1_0 => ?_))
  · refine (ev_tswIn (k := 0) rfl (by rw [s1_0]; decide) rfl).trans ?_
    refine (ev_const2 (v := (200 : Int32)) rfl am_ci_200).trans ?_
    exact ev_iret rfl
  refine (am_dec (x2 = (1 : Int32))).trans (am_ite (fun s1_1 => ?_) (fun s1_1 => ?_))
  · refine (ev_tswIn (k := 1) rfl (by rw [s1_1]; decide) rfl).trans ?_
    refine (ev_const2 (v := (200 : Int32)) rfl am_ci_200).trans ?_
    exact ev_iret rfl
  refine (am_dec (x2 = (2 : Int32))).trans (am_ite (fun s1_2 => ?_) (fun s1_2 => ?_))
  · refine (ev_tswIn (k := 2) rfl (by rw [s1_2]; decide) rfl).trans ?_
    refine (ev_const1 (v := (48 : Int32)) rfl am_ci_48).trans ?_
    exact ev_iret rfl
  refine (am_dec (x2 = (3 : Int32))).trans (am_ite (fun s1_3 => ?_) (fun s1_3 => ?_))
  · refine (ev_tswIn (k := 3) rfl (by rw [s1_3]; decide) rfl).trans ?_
    refine (ev_aload rfl rfl).trans ?_
    refine (ev_const0 (v := (2 : Int32)) rfl am_ci_2).trans ?_
    refine (ev_iald rfl ha1 ka1).trans (am_itn (fun g2 => ?_))
    refine (ev_const0 (v := (1 : Int32)) rfl am_ci_1).trans ?_
    refine (ev_isub rfl).trans ?_
    exact ev_iret rfl
  refine (am_dec (x2 = (4 : Int32))).trans (am_ite (fun s1_4 => ?_) (fun s1_4 => ?_))
  · refine (ev_tswIn (k := 4) rfl (by rw [s1_4]; decide) rfl).trans ?_
    refine (ev_aload rfl rfl).trans ?_
    refine (ev_const0 (v := (2 : Int32)) rfl am_ci_2).trans ?_
    refine (ev_iald rfl ha1 ka1).trans (am_itn (fun g2 => ?_))
    refine (ev_const0 (v := (1 : Int32)) rfl am_ci_1).trans ?_
    refine (ev_isub rfl).trans ?_
    exact ev_iret rfl
  refine (am_dec (x2 = (5 : Int32))).trans (am_ite (fun s1_5 => ?_) (fun s1_5 => ?_))
  · refine (ev_tswIn (k := 5) rfl (by rw [s1_5]; decide) rfl).trans ?_
    refine (ev_const1 (v := (16 : Int32)) rfl am_ci_16).trans ?_
    exact ev_iret rfl
  refine (am_dec (x2 = (6 : Int32))).trans (am_ite (fun s1_6 => ?_) (fun s1_6 => ?_))
  · refine (ev_tswIn (k := 6) rfl (by rw [s1_6]; decide) rfl).trans ?_
    refine (ev_const0 (v := (3 : Int32)) rfl am_ci_3).trans ?_
    exact ev_iret rfl
  refine (am_dec (x2 = (7 : Int32))).trans (am_ite (fun s1_7 => ?_) (fun s1_7 => ?_))
  · refine (ev_tswIn (k := 7) rfl (by rw [s1_7]; decide) rfl).trans ?_
    refine (ev_const1 (v := (99 : Int32)) rfl am_ci_99).trans ?_
    exact ev_iret rfl
  refine (ev_tswOut rfl (by have q0 := am_neT s1_0 (n := 0) (by decide); have q1 := am_neT s1_1 (n := 1) (by decide); have q2 := am_neT s1_2 (n := 2) (by decide); have q3 := am_neT s1_3 (n := 3) (by decide); have q4 := am_neT s1_4 (n := 4) (by decide); have q5 := am_neT s1_5 (n := 5) (by decide); have q6 := am_neT s1_6 (n := 6) (by decide); have q7 := am_neT s1_7 (n := 7) (by decide); simp only [List.length_cons, List.length_nil]; omega)).trans ?_
  refine (ev_const0 (v := (1 : Int32)) rfl am_ci_1).trans ?_
  exact ev_iret rfl
theorem cl_28 (X : am_X) (I : Nat → Nat → Int32) (J : Nat → Nat → Int64) (a1 : Nat) (n1 : Nat) (x2 : Int32) : am_do X 28 [.ref a1, .int x2] (am_sh I J) = am_ev X amP_28 0 [.ref a1, .int x2] [] (am_sh I J) := am_do_of rfl rfl rfl
-- 29 X2_copyFrom
set_option maxRecDepth 10000 in
theorem sg_29_e0 (X : am_X) (I : Nat → Nat → Int32) (J : Nat → Nat → Int64) (b1 : Nat) (b2 : Nat) (hb1 : b1 < 11) (hb2 : b2 < 11) : am_ev X amP_29 0 [.ref (am_bd b1), .ref (am_bd b2)] [] (am_sh I J) = (if (0 : Int32) < 0 ∨ (0 : Int32) < 0 ∨ (9 : Int32) < 0 ∨ 9 < (0 : Int32).toNatClampNeg + (9 : Int32).toNatClampNeg ∨ 9 < (0 : Int32).toNatClampNeg + (9 : Int32).toNatClampNeg then none else some (none, am_sh (am_up (fun c k => if c = (am_bd b1 + 1) then (if (0 : Int32).toNatClampNeg ≤ k ∧ k < (0 : Int32).toNatClampNeg + (9 : Int32).toNatClampNeg then I (am_bd b2 + 1) ((0 : Int32).toNatClampNeg + (k - (0 : Int32).toNatClampNeg)) else I c k) else I c k) (am_bd b1) 1 ((fun c k => if c = (am_bd b1 + 1) then (if (0 : Int32).toNatClampNeg ≤ k ∧ k < (0 : Int32).toNatClampNeg + (9 : Int32).toNatClampNeg then I (am_bd b2 + 1) ((0 : Int32).toNatClampNeg + (k - (0 : Int32).toNatClampNeg)) else I c k) else I c k) (am_bd b2) 1)) J)) := by
  refine (ev_aload rfl rfl).trans ?_
  refine (ev_getR rfl (by have := am_bd_lt hb2; omega) (am_Kbd hb2) (by decide) rfl (am_Rb2 hb2)).trans ?_
  refine (ev_const0 (v := (0 : Int32)) rfl am_ci_0).trans ?_
  refine (ev_aload rfl rfl).trans ?_
  refine (ev_getR rfl (by have := am_bd_lt hb1; omega) (am_Kbd hb1) (by decide) rfl (am_Rb2 hb1)).trans ?_
  refine (ev_const0 (v := (0 : Int32)) rfl am_ci_0).trans ?_
  refine (ev_const1 (v := (9 : Int32)) rfl am_ci_9).trans ?_
  refine (ev_acpy rfl (by have := am_bd_lt hb2; omega) (am_Kbn hb2) (by have := am_bd_lt hb1; omega) (am_Kbn hb1) (by simp [Value.category])).trans (am_itn (fun g1 => ?_))
  refine (ev_aload rfl rfl).trans ?_
  refine (ev_aload rfl rfl).trans ?_
  refine (ev_getI rfl (by have := am_bd_lt hb2; omega) (am_Kbd hb2) (by decide) rfl).trans ?_
  refine (ev_putI rfl (by have := am_bd_lt hb1; omega) (am_Kbd hb1) (by decide) rfl).trans ?_
  exact ev_vret rfl
theorem cl_29 (X : am_X) (I : Nat → Nat → Int32) (J : Nat → Nat → Int64) (b1 : Nat) (b2 : Nat) : am_do X 29 [.ref (am_bd b1), .ref (am_bd b2)] (am_sh I J) = am_ev X amP_29 0 [.ref (am_bd b1), .ref (am_bd b2)] [] (am_sh I J) := am_do_of rfl rfl rfl
-- 30 X2_stepAt
set_option maxRecDepth 10000 in
theorem sg_30_e0 (X : am_X) (I : Nat → Nat → Int32) (J : Nat → Nat → Int64) (b1 : Nat) (x2 : Int32) (hb1 : b1 < 11) : am_ev X amP_30 0 [.ref (am_bd b1), .int x2] [] (am_sh I J) = (if (I (am_bd b1) 1) = 0 then none else some (some (.int (((I (am_bd b1 + 1) 3) + x2) - ((I (am_bd b1 + 1) 3) + x2) / (I (am_bd b1) 1) * (I (am_bd b1) 1))), am_sh I J)) := by
  refine (ev_aload rfl rfl).trans ?_
  refine (ev_getR rfl (by have := am_bd_lt hb1; omega) (am_Kbd hb1) (by decide) rfl (am_Rb2 hb1)).trans ?_
  refine (ev_const0 (v := (3 : Int32)) rfl am_ci_3).trans ?_
  refine (ev_ialdC (jn := 3) rfl (by have := am_bd_lt hb1; omega) (am_Kbn hb1) (by decide) (by decide)).trans ?_
  refine (ev_iload rfl rfl).trans ?_
  refine (ev_iadd rfl).trans ?_
  refine (ev_aload rfl rfl).trans ?_
  refine (ev_getI rfl (by have := am_bd_lt hb1; omega) (am_Kbd hb1) (by decide) rfl).trans ?_
  refine (ev_irem rfl).trans (am_itn (fun g1 => ?_))
  exact ev_iret rfl
theorem cl_30 (X : am_X) (I : Nat → Nat → Int32) (J : Nat → Nat → Int64) (b1 : Nat) (x2 : Int32) : am_do X 30 [.ref (am_bd b1), .int x2] (am_sh I J) = am_ev X amP_30 0 [.ref (am_bd b1), .int x2] [] (am_sh I J) := am_do_of rfl rfl rfl
-- 31 X2_layRing
set_option maxRecDepth 10000 in
theorem sg_31_e0 (X : am_X) (I : Nat → Nat → Int32) (J : Nat → Nat → Int64) (b1 : Nat) (hb1 : b1 < 11) : am_ev X amP_31 0 [.ref (am_bd b1), .null, .null, .null] [] (am_sh I J) = (am_do X 353 [.int (I (am_bd b1 + 1) 2), .int (48 : Int32)] (am_sh I J)).bind (fun q => am_ev X amP_31 8 [.ref (am_bd b1), .null, .null, .null] (q.1.toList ++ [.int (1 : Int32), .ref (am_bd b1)]) q.2) := by
  refine (ev_aload rfl rfl).trans ?_
  refine (ev_const0 (v := (1 : Int32)) rfl am_ci_1).trans ?_
  refine (ev_aload rfl rfl).trans ?_
  refine (ev_getR rfl (by have := am_bd_lt hb1; omega) (am_Kbd hb1) (by decide) rfl (am_Rb2 hb1)).trans ?_
  refine (ev_const0 (v := (2 : Int32)) rfl am_ci_2).trans ?_
  refine (ev_ialdC (jn := 2) rfl (by have := am_bd_lt hb1; omega) (am_Kbn hb1) (by decide) (by decide)).trans ?_
  refine (ev_const1 (v := (48 : Int32)) rfl am_ci_48).trans ?_
  exact ev_invs (as := [.int (48 : Int32), .int (I (am_bd b1 + 1) 2)]) rfl rfl (by simp [Value.category])
theorem cl_31 (X : am_X) (I : Nat → Nat → Int32) (J : Nat → Nat → Int64) (b1 : Nat) : am_do X 31 [.ref (am_bd b1)] (am_sh I J) = am_ev X amP_31 0 [.ref (am_bd b1), .null, .null, .null] [] (am_sh I J) := am_do_of rfl rfl rfl
set_option maxRecDepth 10000 in
theorem sg_31_8 (X : am_X) (I : Nat → Nat → Int32) (J : Nat → Nat → Int64) (b1 : Nat) (w2 : Value) (w3 : Value) (w4 : Value) (b5 : Nat) (x6 : Int32) (x7 : Int32) (hb1 : b1 < 11) (hw2 : w2.category = 1) (hw3 : w3.category = 1) (hw4 : w4.category = 1) (hb5 : b5 < 11) : am_ev X amP_31 8 [.ref (am_bd b1), w2, w3, w4] [.int x7, .int x6, .ref (am_bd b5)] (am_sh I J) = (am_do X 352 [.int x6, .int x7] (am_sh I J)).bind (fun q => am_ev X amP_31 9 [.ref (am_bd b1), w2, w3, w4] (q.1.toList ++ [.ref (am_bd b5)]) q.2) := by
  exact ev_invs (as := [.int x7, .int x6]) rfl rfl (by simp [Value.category])
set_option maxRecDepth 10000 in
theorem sg_31_9 (X : am_X) (I : Nat → Nat → Int32) (J : Nat → Nat → Int64) (b1 : Nat) (w2 : Value) (w3 : Value) (w4 : Value) (b5 : Nat) (x6 : Int32) (hb1 : b1 < 11) (hw2 : w2.category = 1) (hw3 : w3.category = 1) (hw4 : w4.category = 1) (hb5 : b5 < 11) : am_ev X amP_31 9 [.ref (am_bd b1), w2, w3, w4] [.int x6, .ref (am_bd b5)] (am_sh I J) = am_ev X amP_31 12 [.ref (am_bd b1), .int (0 : Int32), w3, w4] [] (am_sh (am_up I (am_bd b5) 1 x6) J) := by
  refine (ev_putI rfl (by have := am_bd_lt hb5; omega) (am_Kbd hb5) (by decide) rfl).trans ?_
  refine (ev_const0 (v := (0 : Int32)) rfl am_ci_0).trans ?_
  refine (ev_istore (ls' := [.ref (am_bd b1), .int (0 : Int32), w3, w4]) rfl (Nat.le_of_ble_eq_true rfl) rfl).trans ?_
  rfl
set_option maxRecDepth 10000 in
theorem sg_31_12 (X : am_X) (I : Nat → Nat → Int32) (J : Nat → Nat → Int64) (b1 : Nat) (x2 : Int32) (w3 : Value) (w4 : Value) (hb1 : b1 < 11) (hw3 : w3.category = 1) (hw4 : w4.category = 1) : am_ev X amP_31 12 [.ref (am_bd b1), .int x2, w3, w4] [] (am_sh I J) = (if (I (am_bd b1) 1) ≤ x2 then some (none, am_sh I J) else (if (I (am_bd b1) 1) = 0 then none else (am_do X 353 [.int ((x2 + (I (am_bd b1 + 1) 4)) - (x2 + (I (am_bd b1 + 1) 4)) / (I (am_bd b1) 1) * (I (am_bd b1) 1)), .int ((I (am_bd b1) 1) - ((x2 + (I (am_bd b1 + 1) 4)) - (x2 + (I (am_bd b1 + 1) 4)) / (I (am_bd b1) 1) * (I (am_bd b1) 1)))] (am_sh I J)).bind (fun q => am_ev X amP_31 43 [.ref (am_bd b1), .int x2, .int ((x2 + (I (am_bd b1 + 1) 4)) - (x2 + (I (am_bd b1 + 1) 4)) / (I (am_bd b1) 1) * (I (am_bd b1) 1)), w4] (q.1.toList ++ [.int ((2 : Int32) * ((I (am_bd b1 + 1) 1) - (I (am_bd b1 + 1) 0)))]) q.2))) := by
  refine (ev_iload rfl rfl).trans ?_
  refine (ev_aload rfl rfl).trans ?_
  refine (ev_getI rfl (by have := am_bd_lt hb1; omega) (am_Kbd hb1) (by decide) rfl).trans ?_
  refine (ev_icmp3 rfl).trans (am_ite (fun c1 => ?_) (fun c1 => ?_))
  · exact ev_vret rfl
  · refine (ev_iload rfl rfl).trans ?_
    refine (ev_aload rfl rfl).trans ?_
    refine (ev_getR rfl (by have := am_bd_lt hb1; omega) (am_Kbd hb1) (by decide) rfl (am_Rb2 hb1)).trans ?_
    refine (ev_const0 (v := (4 : Int32)) rfl am_ci_4).trans ?_
    refine (ev_ialdC (jn := 4) rfl (by have := am_bd_lt hb1; omega) (am_Kbn hb1) (by decide) (by decide)).trans ?_
    refine (ev_iadd rfl).trans ?_
    refine (ev_aload rfl rfl).trans ?_
    refine (ev_getI rfl (by have := am_bd_lt hb1; omega) (am_Kbd hb1) (by decide) rfl).trans ?_
    refine (ev_irem rfl).trans (am_itn (fun g2 => ?_))
    refine (ev_istore (ls' := [.ref (am_bd b1), .int x2, .int ((x2 + (I (am_bd b1 + 1) 4)) - (x2 + (I (am_bd b1 + 1) 4)) / (I (am_bd b1) 1) * (I (am_bd b1) 1)), w4]) rfl (Nat.le_of_ble_eq_true rfl) rfl).trans ?_
    refine (ev_const0 (v := (2 : Int32)) rfl am_ci_2).trans ?_
    refine (ev_aload rfl rfl).trans ?_
    refine (ev_getR rfl (by have := am_bd_lt hb1; omega) (am_Kbd hb1) (by decide) rfl (am_Rb2 hb1)).trans ?_
    refine (ev_const0 (v := (1 : Int32)) rfl am_ci_1).trans ?_
    refine (ev_ialdC (jn := 1) rfl (by have := am_bd_lt hb1; omega) (am_Kbn hb1) (by decide) (by decide)).trans ?_
    refine (ev_aload rfl rfl).trans ?_
    refine (ev_getR rfl (by have := am_bd_lt hb1; omega) (am_Kbd hb1) (by decide) rfl (am_Rb2 hb1)).trans ?_
    refine (ev_const0 (v := (0 : Int32)) rfl am_ci_0).trans ?_
    refine (ev_ialdC (jn := 0) rfl (by have := am_bd_lt hb1; omega) (am_Kbn hb1) (by decide) (by decide)).trans ?_
    refine (ev_isub rfl).trans ?_
    refine (ev_imul rfl).trans ?_
    refine (ev_iload rfl rfl).trans ?_
    refine (ev_aload rfl rfl).trans ?_
    refine (ev_getI rfl (by have := am_bd_lt hb1; omega) (am_Kbd hb1) (by decide) rfl).trans ?_
    refine (ev_iload rfl rfl).trans ?_
    refine (ev_isub rfl).trans ?_
    exact ev_invs (as := [.int ((I (am_bd b1) 1) - ((x2 + (I (am_bd b1 + 1) 4)) - (x2 + (I (am_bd b1 + 1) 4)) / (I (am_bd b1) 1) * (I (am_bd b1) 1))), .int ((x2 + (I (am_bd b1 + 1) 4)) - (x2 + (I (am_bd b1 + 1) 4)) / (I (am_bd b1) 1) * (I (am_bd b1) 1))]) rfl rfl (by simp [Value.category])
set_option maxRecDepth 10000 in
theorem sg_31_43 (X : am_X) (I : Nat → Nat → Int32) (J : Nat → Nat → Int64) (b1 : Nat) (x2 : Int32) (x3 : Int32) (w4 : Value) (x5 : Int32) (x6 : Int32) (hb1 : b1 < 11) (hw4 : w4.category = 1) : am_ev X amP_31 43 [.ref (am_bd b1), .int x2, .int x3, w4] [.int x6, .int x5] (am_sh I J) = (if (I (am_bd b1) 1) = 0 then none else (if x2 < 0 ∨ 48 ≤ x2.toNatClampNeg then none else (if x2 < 0 ∨ 48 ≤ x2.toNatClampNeg then none else (if x2 < 0 ∨ 48 ≤ x2.toNatClampNeg then none else (if ((am_up I (am_bd b1 + 5) x2.toNatClampNeg ((I (am_bd b1 + 1) 0) + ((x5 * x6) / (I (am_bd b1) 1)))) (am_bd b1) 1) = 0 then none else (am_do X 32 [.ref (am_bd b1), .int x2, .int ((am_up I (am_bd b1 + 5) x2.toNatClampNeg ((I (am_bd b1 + 1) 0) + ((x5 * x6) / (I (am_bd b1) 1)))) (am_bd b1 + 5) x2.toNatClampNeg), .int ((((4 : Int32) * x2) * ((am_up I (am_bd b1 + 5) x2.toNatClampNeg ((I (am_bd b1 + 1) 0) + ((x5 * x6) / (I (am_bd b1) 1)))) (am_bd b1 + 5) x2.toNatClampNeg)) / ((am_up I (am_bd b1 + 5) x2.toNatClampNeg ((I (am_bd b1 + 1) 0) + ((x5 * x6) / (I (am_bd b1) 1)))) (am_bd b1) 1))] (am_sh (am_up I (am_bd b1 + 5) x2.toNatClampNeg ((I (am_bd b1 + 1) 0) + ((x5 * x6) / (I (am_bd b1) 1)))) J)).bind (fun q => am_ev X amP_31 76 [.ref (am_bd b1), .int x2, .int x3, .int (x5 * x6)] (q.1.toList ++ []) q.2)))))) := by
  refine (ev_imul rfl).trans ?_
  refine (ev_istore (ls' := [.ref (am_bd b1), .int x2, .int x3, .int (x5 * x6)]) rfl (Nat.le_of_ble_eq_true rfl) rfl).trans ?_
  refine (ev_aload rfl rfl).trans ?_
  refine (ev_getR rfl (by have := am_bd_lt hb1; omega) (am_Kbd hb1) (by decide) rfl (am_Rb6 hb1)).trans ?_
  refine (ev_iload rfl rfl).trans ?_
  refine (ev_aload rfl rfl).trans ?_
  refine (ev_getR rfl (by have := am_bd_lt hb1; omega) (am_Kbd hb1) (by decide) rfl (am_Rb2 hb1)).trans ?_
  refine (ev_const0 (v := (0 : Int32)) rfl am_ci_0).trans ?_
  refine (ev_ialdC (jn := 0) rfl (by have := am_bd_lt hb1; omega) (am_Kbn hb1) (by decide) (by decide)).trans ?_
  refine (ev_iload rfl rfl).trans ?_
  refine (ev_aload rfl rfl).trans ?_
  refine (ev_getI rfl (by have := am_bd_lt hb1; omega) (am_Kbd hb1) (by decide) rfl).trans ?_
  refine (ev_idiv rfl).trans (am_itn (fun g1 => ?_))
  refine (ev_iadd rfl).trans ?_
  refine (ev_iast rfl (by have := am_bd_lt hb1; omega) (am_Kb5 hb1)).trans (am_itn (fun g2 => ?_))
  refine (ev_aload rfl rfl).trans ?_
  refine (ev_iload rfl rfl).trans ?_
  refine (ev_aload rfl rfl).trans ?_
  refine (ev_getR rfl (by have := am_bd_lt hb1; omega) (am_Kbd hb1) (by decide) rfl (am_Rb6 hb1)).trans ?_
  refine (ev_iload rfl rfl).trans ?_
  refine (ev_iald rfl (by have := am_bd_lt hb1; omega) (am_Kb5 hb1)).trans (am_itn (fun g3 => ?_))
  refine (ev_const0 (v := (4 : Int32)) rfl am_ci_4).trans ?_
  refine (ev_iload rfl rfl).trans ?_
  refine (ev_imul rfl).trans ?_
  refine (ev_aload rfl rfl).trans ?_
  refine (ev_getR rfl (by have := am_bd_lt hb1; omega) (am_Kbd hb1) (by decide) rfl (am_Rb6 hb1)).trans ?_
  refine (ev_iload rfl rfl).trans ?_
  refine (ev_iald rfl (by have := am_bd_lt hb1; omega) (am_Kb5 hb1)).trans (am_itn (fun g4 => ?_))
  refine (ev_imul rfl).trans ?_
  refine (ev_aload rfl rfl).trans ?_
  refine (ev_getI rfl (by have := am_bd_lt hb1; omega) (am_Kbd hb1) (by decide) rfl).trans ?_
  refine (ev_idiv rfl).trans (am_itn (fun g5 => ?_))
  exact ev_invv (as := [.int ((((4 : Int32) * x2) * ((am_up I (am_bd b1 + 5) x2.toNatClampNeg ((I (am_bd b1 + 1) 0) + ((x5 * x6) / (I (am_bd b1) 1)))) (am_bd b1 + 5) x2.toNatClampNeg)) / ((am_up I (am_bd b1 + 5) x2.toNatClampNeg ((I (am_bd b1 + 1) 0) + ((x5 * x6) / (I (am_bd b1) 1)))) (am_bd b1) 1)), .int ((am_up I (am_bd b1 + 5) x2.toNatClampNeg ((I (am_bd b1 + 1) 0) + ((x5 * x6) / (I (am_bd b1) 1)))) (am_bd b1 + 5) x2.toNatClampNeg), .int x2]) rfl (by have := am_bd_lt hb1; omega) (am_Kbd hb1) rfl (by simp [Value.category])
set_option maxRecDepth 10000 in
theorem sg_31_76 (X : am_X) (I : Nat → Nat → Int32) (J : Nat → Nat → Int64) (b1 : Nat) (x2 : Int32) (x3 : Int32) (x4 : Int32) (hb1 : b1 < 11) : am_ev X amP_31 76 [.ref (am_bd b1), .int x2, .int x3, .int x4] [] (am_sh I J) = am_ev X amP_31 12 [.ref (am_bd b1), .int (x2 + (1 : Int32)), .int x3, .int x4] [] (am_sh I J) := by
  refine (ev_iincv (v := (1 : Int32)) (ls' := [.ref (am_bd b1), .int (x2 + (1 : Int32)), .int x3, .int x4]) rfl am_ci_1 rfl rfl).trans ?_
  refine (ev_goto rfl).trans ?_
  rfl
-- 32 X2_layStep
set_option maxRecDepth 10000 in
theorem sg_32_e0 (X : am_X) (I : Nat → Nat → Int32) (J : Nat → Nat → Int64) (b1 : Nat) (x2 : Int32) (x3 : Int32) (x4 : Int32) (hb1 : b1 < 11) : am_ev X amP_32 0 [.ref (am_bd b1), .int x2, .int x3, .int x4] [] (am_sh I J) = (if x3 < x4 then (if ((2 : Int32) * x3) < x4 then (if ((3 : Int32) * x3) < x4 then (am_do X 33 [.ref (am_bd b1), .int x2, .int (x4 - ((3 : Int32) * x3)), .int (x4 - ((4 : Int32) * x3))] (am_sh I J)).bind (fun q => am_ev X amP_32 60 [.ref (am_bd b1), .int x2, .int x3, .int x4] (q.1.toList ++ []) q.2) else (am_do X 33 [.ref (am_bd b1), .int x2, .int (x4 - ((3 : Int32) * x3)), .int (((2 : Int32) * x3) - x4)] (am_sh I J)).bind (fun q => am_ev X amP_32 46 [.ref (am_bd b1), .int x2, .int x3, .int x4] (q.1.toList ++ []) q.2)) else (am_do X 33 [.ref (am_bd b1), .int x2, .int (x3 - x4), .int (((2 : Int32) * x3) - x4)] (am_sh I J)).bind (fun q => am_ev X amP_32 27 [.ref (am_bd b1), .int x2, .int x3, .int x4] (q.1.toList ++ []) q.2)) else (am_do X 33 [.ref (am_bd b1), .int x2, .int (x3 - x4), .int x4] (am_sh I J)).bind (fun q => am_ev X amP_32 10 [.ref (am_bd b1), .int x2, .int x3, .int x4] (q.1.toList ++ []) q.2)) := by
  refine (ev_iload rfl rfl).trans ?_
  refine (ev_iload rfl rfl).trans ?_
  refine (ev_icmp4 rfl).trans (am_ite (fun c1 => ?_) (fun c1 => ?_))
  · refine (ev_iload rfl rfl).trans ?_
    refine (ev_const0 (v := (2 : Int32)) rfl am_ci_2).trans ?_
    refine (ev_iload rfl rfl).trans ?_
    refine (ev_imul rfl).trans ?_
    refine (ev_icmp4 rfl).trans (am_ite (fun c2 => ?_) (fun c2 => ?_))
    · refine (ev_iload rfl rfl).trans ?_
      refine (ev_const0 (v := (3 : Int32)) rfl am_ci_3).trans ?_
      refine (ev_iload rfl rfl).trans ?_
      refine (ev_imul rfl).trans ?_
      refine (ev_icmp4 rfl).trans (am_ite (fun c3 => ?_) (fun c3 => ?_))
      · refine (ev_aload rfl rfl).trans ?_
        refine (ev_iload rfl rfl).trans ?_
        refine (ev_iload rfl rfl).trans ?_
        refine (ev_const0 (v := (3 : Int32)) rfl am_ci_3).trans ?_
        refine (ev_iload rfl rfl).trans ?_
        refine (ev_imul rfl).trans ?_
        refine (ev_isub rfl).trans ?_
        refine (ev_iload rfl rfl).trans ?_
        refine (ev_const0 (v := (4 : Int32)) rfl am_ci_4).trans ?_
        refine (ev_iload rfl rfl).trans ?_
        refine (ev_imul rfl).trans ?_
        refine (ev_isub rfl).trans ?_
        exact ev_invv (as := [.int (x4 - ((4 : Int32) * x3)), .int (x4 - ((3 : Int32) * x3)), .int x2]) rfl (by have := am_bd_lt hb1; omega) (am_Kbd hb1) rfl (by simp [Value.category])
      · refine (ev_aload rfl rfl).trans ?_
        refine (ev_iload rfl rfl).trans ?_
        refine (ev_iload rfl rfl).trans ?_
        refine (ev_const0 (v := (3 : Int32)) rfl am_ci_3).trans ?_
        refine (ev_iload rfl rfl).trans ?_
        refine (ev_imul rfl).trans ?_
        refine (ev_isub rfl).trans ?_
        refine (ev_const0 (v := (2 : Int32)) rfl am_ci_2).trans ?_
        refine (ev_iload rfl rfl).trans ?_
        refine (ev_imul rfl).trans ?_
        refine (ev_iload rfl rfl).trans ?_
        refine (ev_isub rfl).trans ?_
        exact ev_invv (as := [.int (((2 : Int32) * x3) - x4), .int (x4 - ((3 : Int32) * x3)), .int x2]) rfl (by have := am_bd_lt hb1; omega) (am_Kbd hb1) rfl (by simp [Value.category])
    · refine (ev_aload rfl rfl).trans ?_
      refine (ev_iload rfl rfl).trans ?_
      refine (ev_iload rfl rfl).trans ?_
      refine (ev_iload rfl rfl).trans ?_
      refine (ev_isub rfl).trans ?_
      refine (ev_const0 (v := (2 : Int32)) rfl am_ci_2).trans ?_
      refine (ev_iload rfl rfl).trans ?_
      refine (ev_imul rfl).trans ?_
      refine (ev_iload rfl rfl).trans ?_
      refine (ev_isub rfl).trans ?_
      exact ev_invv (as := [.int (((2 : Int32) * x3) - x4), .int (x3 - x4), .int x2]) rfl (by have := am_bd_lt hb1; omega) (am_Kbd hb1) rfl (by simp [Value.category])
  · refine (ev_aload rfl rfl).trans ?_
    refine (ev_iload rfl rfl).trans ?_
    refine (ev_iload rfl rfl).trans ?_
    refine (ev_iload rfl rfl).trans ?_
    refine (ev_isub rfl).trans ?_
    refine (ev_iload rfl rfl).trans ?_
    exact ev_invv (as := [.int x4, .int (x3 - x4), .int x2]) rfl (by have := am_bd_lt hb1; omega) (am_Kbd hb1) rfl (by simp [Value.category])
theorem cl_32 (X : am_X) (I : Nat → Nat → Int32) (J : Nat → Nat → Int64) (b1 : Nat) (x2 : Int32) (x3 : Int32) (x4 : Int32) : am_do X 32 [.ref (am_bd b1), .int x2, .int x3, .int x4] (am_sh I J) = am_ev X amP_32 0 [.ref (am_bd b1), .int x2, .int x3, .int x4] [] (am_sh I J) := am_do_of rfl rfl rfl
set_option maxRecDepth 10000 in
theorem sg_32_10 (X : am_X) (I : Nat → Nat → Int32) (J : Nat → Nat → Int64) (b1 : Nat) (x2 : Int32) (x3 : Int32) (x4 : Int32) (hb1 : b1 < 11) : am_ev X amP_32 10 [.ref (am_bd b1), .int x2, .int x3, .int x4] [] (am_sh I J) = some (none, am_sh I J) := by
  refine (ev_goto rfl).trans ?_
  exact ev_vret rfl
set_option maxRecDepth 10000 in
theorem sg_32_27 (X : am_X) (I : Nat → Nat → Int32) (J : Nat → Nat → Int64) (b1 : Nat) (x2 : Int32) (x3 : Int32) (x4 : Int32) (hb1 : b1 < 11) : am_ev X amP_32 27 [.ref (am_bd b1), .int x2, .int x3, .int x4] [] (am_sh I J) = some (none, am_sh I J) := by
  refine (ev_goto rfl).trans ?_
  exact ev_vret rfl
set_option maxRecDepth 10000 in
theorem sg_32_46 (X : am_X) (I : Nat → Nat → Int32) (J : Nat → Nat → Int64) (b1 : Nat) (x2 : Int32) (x3 : Int32) (x4 : Int32) (hb1 : b1 < 11) : am_ev X amP_32 46 [.ref (am_bd b1), .int x2, .int x3, .int x4] [] (am_sh I J) = some (none, am_sh I J) := by
  refine (ev_goto rfl).trans ?_
  exact ev_vret rfl
set_option maxRecDepth 10000 in
theorem sg_32_60 (X : am_X) (I : Nat → Nat → Int32) (J : Nat → Nat → Int64) (b1 : Nat) (x2 : Int32) (x3 : Int32) (x4 : Int32) (hb1 : b1 < 11) : am_ev X amP_32 60 [.ref (am_bd b1), .int x2, .int x3, .int x4] [] (am_sh I J) = some (none, am_sh I J) := by
  exact ev_vret rfl
-- 33 X2_layPlace
set_option maxRecDepth 10000 in
theorem sg_33_e0 (X : am_X) (I : Nat → Nat → Int32) (J : Nat → Nat → Int64) (b1 : Nat) (x2 : Int32) (x3 : Int32) (x4 : Int32) (hb1 : b1 < 11) : am_ev X amP_33 0 [.ref (am_bd b1), .int x2, .int x3, .int x4, .null] [] (am_sh I J) = (if x2 < 0 ∨ 48 ≤ x2.toNatClampNeg then none else (if ((am_up I (am_bd b1 + 4) x2.toNatClampNeg ((x4 * (I (am_bd b1 + 1) 5)) / (16 : Int32))) (am_bd b1 + 1) 6) = (0 : Int32) then (if x2 < 0 ∨ 48 ≤ x2.toNatClampNeg then none else (if x2 < 0 ∨ 48 ≤ x2.toNatClampNeg then none else some (none, am_sh (am_up (am_up (am_up I (am_bd b1 + 4) x2.toNatClampNeg ((x4 * (I (am_bd b1 + 1) 5)) / (16 : Int32))) (am_bd b1 + 2) x2.toNatClampNeg x3) (am_bd b1 + 3) x2.toNatClampNeg ((x4 * ((16 : Int32) - (I (am_bd b1 + 1) 5))) / (16 : Int32))) J))) else (if ((am_up I (am_bd b1 + 4) x2.toNatClampNeg ((x4 * (I (am_bd b1 + 1) 5)) / (16 : Int32))) (am_bd b1 + 1) 6) = (1 : Int32) then (if x2 < 0 ∨ 48 ≤ x2.toNatClampNeg then none else (if x2 < 0 ∨ 48 ≤ x2.toNatClampNeg then none else some (none, am_sh (am_up (am_up (am_up I (am_bd b1 + 4) x2.toNatClampNeg ((x4 * (I (am_bd b1 + 1) 5)) / (16 : Int32))) (am_bd b1 + 2) x2.toNatClampNeg (-((x4 * ((16 : Int32) - (I (am_bd b1 + 1) 5))) / (16 : Int32)))) (am_bd b1 + 3) x2.toNatClampNeg x3) J))) else (if ((am_up I (am_bd b1 + 4) x2.toNatClampNeg ((x4 * (I (am_bd b1 + 1) 5)) / (16 : Int32))) (am_bd b1 + 1) 6) = (2 : Int32) then (if x2 < 0 ∨ 48 ≤ x2.toNatClampNeg then none else (if x2 < 0 ∨ 48 ≤ x2.toNatClampNeg then none else some (none, am_sh (am_up (am_up (am_up I (am_bd b1 + 4) x2.toNatClampNeg ((x4 * (I (am_bd b1 + 1) 5)) / (16 : Int32))) (am_bd b1 + 2) x2.toNatClampNeg (-x3)) (am_bd b1 + 3) x2.toNatClampNeg (-((x4 * ((16 : Int32) - (I (am_bd b1 + 1) 5))) / (16 : Int32)))) J))) else (if x2 < 0 ∨ 48 ≤ x2.toNatClampNeg then none else (if x2 < 0 ∨ 48 ≤ x2.toNatClampNeg then none else some (none, am_sh (am_up (am_up (am_up I (am_bd b1 + 4) x2.toNatClampNeg ((x4 * (I (am_bd b1 + 1) 5)) / (16 : Int32))) (am_bd b1 + 2) x2.toNatClampNeg ((x4 * ((16 : Int32) - (I (am_bd b1 + 1) 5))) / (16 : Int32))) (am_bd b1 + 3) x2.toNatClampNeg (-x3)) J))))))) := by
  refine (ev_iload rfl rfl).trans ?_
  refine (ev_const1 (v := (16 : Int32)) rfl am_ci_16).trans ?_
  refine (ev_aload rfl rfl).trans ?_
  refine (ev_getR rfl (by have := am_bd_lt hb1; omega) (am_Kbd hb1) (by decide) rfl (am_Rb2 hb1)).trans ?_
  refine (ev_const0 (v := (5 : Int32)) rfl am_ci_5).trans ?_
  refine (ev_ialdC (jn := 5) rfl (by have := am_bd_lt hb1; omega) (am_Kbn hb1) (by decide) (by decide)).trans ?_
  refine (ev_isub rfl).trans ?_
  refine (ev_imul rfl).trans ?_
  refine (ev_const1 (v := (16 : Int32)) rfl am_ci_16).trans ?_
  refine (ev_idivN (by decide) rfl).trans ?_
  refine (ev_istore (ls' := [.ref (am_bd b1), .int x2, .int x3, .int x4, .int ((x4 * ((16 : Int32) - (I (am_bd b1 + 1) 5))) / (16 : Int32))]) rfl (Nat.le_of_ble_eq_true rfl) rfl).trans ?_
  refine (ev_aload rfl rfl).trans ?_
  refine (ev_getR rfl (by have := am_bd_lt hb1; omega) (am_Kbd hb1) (by decide) rfl (am_Rb5 hb1)).trans ?_
  refine (ev_iload rfl rfl).trans ?_
  refine (ev_iload rfl rfl).trans ?_
  refine (ev_aload rfl rfl).trans ?_
  refine (ev_getR rfl (by have := am_bd_lt hb1; omega) (am_Kbd hb1) (by decide) rfl (am_Rb2 hb1)).trans ?_
  refine (ev_const0 (v := (5 : Int32)) rfl am_ci_5).trans ?_
  refine (ev_ialdC (jn := 5) rfl (by have := am_bd_lt hb1; omega) (am_Kbn hb1) (by decide) (by decide)).trans ?_
  refine (ev_imul rfl).trans ?_
  refine (ev_const1 (v := (16 : Int32)) rfl am_ci_16).trans ?_
  refine (ev_idivN (by decide) rfl).trans ?_
  refine (ev_iast rfl (by have := am_bd_lt hb1; omega) (am_Kb4 hb1)).trans (am_itn (fun g1 => ?_))
  refine (ev_aload rfl rfl).trans ?_
  refine (ev_getR rfl (by have := am_bd_lt hb1; omega) (am_Kbd hb1) (by decide) rfl (am_Rb2 hb1)).trans ?_
  refine (ev_const1 (v := (6 : Int32)) rfl am_ci_6).trans ?_
  refine (ev_ialdC (jn := 6) rfl (by have := am_bd_lt hb1; omega) (am_Kbn hb1) (by decide) (by decide)).trans ?_
  refine (am_dec (((am_up I (am_bd b1 + 4) x2.toNatClampNeg ((x4 * (I (am_bd b1 + 1) 5)) / (16 : Int32))) (am_bd b1 + 1) 6) = (0 : Int32))).trans (am_ite (fun s2_0 => ?_) (fun s2_0 => ?_))
  · refine (ev_tswIn (k := 0) rfl (by rw [s2_0]; decide) rfl).trans ?_
    refine (ev_aload rfl rfl).trans ?_
    refine (ev_getR rfl (by have := am_bd_lt hb1; omega) (am_Kbd hb1) (by decide) rfl (am_Rb3 hb1)).trans ?_
    refine (ev_iload rfl rfl).trans ?_
    refine (ev_iload rfl rfl).trans ?_
    refine (ev_iast rfl (by have := am_bd_lt hb1; omega) (am_Kb2 hb1)).trans (am_itn (fun g3 => ?_))
    refine (ev_aload rfl rfl).trans ?_
    refine (ev_getR rfl (by have := am_bd_lt hb1; omega) (am_Kbd hb1) (by decide) rfl (am_Rb4 hb1)).trans ?_
    refine (ev_iload rfl rfl).trans ?_
    refine (ev_iload rfl rfl).trans ?_
    refine (ev_iast rfl (by have := am_bd_lt hb1; omega) (am_Kb3 hb1)).trans (am_itn (fun g4 => ?_))
    refine (ev_goto rfl).trans ?_
    exact ev_vret rfl
  refine (am_dec (((am_up I (am_bd b1 + 4) x2.toNatClampNeg ((x4 * (I (am_bd b1 + 1) 5)) / (16 : Int32))) (am_bd b1 + 1) 6) = (1 : Int32))).trans (am_ite (fun s2_1 => ?_) (fun s2_1 => ?_))
  · refine (ev_tswIn (k := 1) rfl (by rw [s2_1]; decide) rfl).trans ?_
    refine (ev_aload rfl rfl).trans ?_
    refine (ev_getR rfl (by have := am_bd_lt hb1; omega) (am_Kbd hb1) (by decide) rfl (am_Rb3 hb1)).trans ?_
    refine (ev_iload rfl rfl).trans ?_
    refine (ev_iload rfl rfl).trans ?_
    refine (ev_ineg rfl).trans ?_
    refine (ev_iast rfl (by have := am_bd_lt hb1; omega) (am_Kb2 hb1)).trans (am_itn (fun g3 => ?_))
    refine (ev_aload rfl rfl).trans ?_
    refine (ev_getR rfl (by have := am_bd_lt hb1; omega) (am_Kbd hb1) (by decide) rfl (am_Rb4 hb1)).trans ?_
    refine (ev_iload rfl rfl).trans ?_
    refine (ev_iload rfl rfl).trans ?_
    refine (ev_iast rfl (by have := am_bd_lt hb1; omega) (am_Kb3 hb1)).trans (am_itn (fun g4 => ?_))
    refine (ev_goto rfl).trans ?_
    exact ev_vret rfl
  refine (am_dec (((am_up I (am_bd b1 + 4) x2.toNatClampNeg ((x4 * (I (am_bd b1 + 1) 5)) / (16 : Int32))) (am_bd b1 + 1) 6) = (2 : Int32))).trans (am_ite (fun s2_2 => ?_) (fun s2_2 => ?_))
  · refine (ev_tswIn (k := 2) rfl (by rw [s2_2]; decide) rfl).trans ?_
    refine (ev_aload rfl rfl).trans ?_
    refine (ev_getR rfl (by have := am_bd_lt hb1; omega) (am_Kbd hb1) (by decide) rfl (am_Rb3 hb1)).trans ?_
    refine (ev_iload rfl rfl).trans ?_
    refine (ev_iload rfl rfl).trans ?_
    refine (ev_ineg rfl).trans ?_
    refine (ev_iast rfl (by have := am_bd_lt hb1; omega) (am_Kb2 hb1)).trans (am_itn (fun g3 => ?_))
    refine (ev_aload rfl rfl).trans ?_
    refine (ev_getR rfl (by have := am_bd_lt hb1; omega) (am_Kbd hb1) (by decide) rfl (am_Rb4 hb1)).trans ?_
    refine (ev_iload rfl rfl).trans ?_
    refine (ev_iload rfl rfl).trans ?_
    refine (ev_ineg rfl).trans ?_
    refine (ev_iast rfl (by have := am_bd_lt hb1; omega) (am_Kb3 hb1)).trans (am_itn (fun g4 => ?_))
    refine (ev_goto rfl).trans ?_
    exact ev_vret rfl
  refine (ev_tswOut rfl (by have q0 := am_neT s2_0 (n := 0) (by decide); have q1 := am_neT s2_1 (n := 1) (by decide); have q2 := am_neT s2_2 (n := 2) (by decide); simp only [List.length_cons, List.length_nil]; omega)).trans ?_
  refine (ev_aload rfl rfl).trans ?_
  refine (ev_getR rfl (by have := am_bd_lt hb1; omega) (am_Kbd hb1) (by decide) rfl (am_Rb3 hb1)).trans ?_
  refine (ev_iload rfl rfl).trans ?_
  refine (ev_iload rfl rfl).trans ?_
  refine (ev_iast rfl (by have := am_bd_lt hb1; omega) (am_Kb2 hb1)).trans (am_itn (fun g3 => ?_))
  refine (ev_aload rfl rfl).trans ?_
  refine (ev_getR rfl (by have := am_bd_lt hb1; omega) (am_Kbd hb1) (by decide) rfl (am_Rb4 hb1)).trans ?_
  refine (ev_iload rfl rfl).trans ?_
  refine (ev_iload rfl rfl).trans ?_
  refine (ev_ineg rfl).trans ?_
  refine (ev_iast rfl (by have := am_bd_lt hb1; omega) (am_Kb3 hb1)).trans (am_itn (fun g4 => ?_))
  exact ev_vret rfl
theorem cl_33 (X : am_X) (I : Nat → Nat → Int32) (J : Nat → Nat → Int64) (b1 : Nat) (x2 : Int32) (x3 : Int32) (x4 : Int32) : am_do X 33 [.ref (am_bd b1), .int x2, .int x3, .int x4] (am_sh I J) = am_ev X amP_33 0 [.ref (am_bd b1), .int x2, .int x3, .int x4, .null] [] (am_sh I J) := am_do_of rfl rfl rfl
-- 34 X2_coordinate
set_option maxRecDepth 10000 in
theorem sg_34_e0 (X : am_X) (I : Nat → Nat → Int32) (J : Nat → Nat → Int64) (b1 : Nat) (x2 : Int32) (x3 : Int32) (hb1 : b1 < 11) : am_ev X amP_34 0 [.ref (am_bd b1), .int x2, .int x3, .null] [] (am_sh I J) = (am_do X 30 [.ref (am_bd b1), .int x2] (am_sh I J)).bind (fun q => am_ev X amP_34 3 [.ref (am_bd b1), .int x2, .int x3, .null] (q.1.toList ++ []) q.2) := by
  refine (ev_aload rfl rfl).trans ?_
  refine (ev_iload rfl rfl).trans ?_
  exact ev_invv (as := [.int x2]) rfl (by have := am_bd_lt hb1; omega) (am_Kbd hb1) rfl (by simp [Value.category])
theorem cl_34 (X : am_X) (I : Nat → Nat → Int32) (J : Nat → Nat → Int64) (b1 : Nat) (x2 : Int32) (x3 : Int32) : am_do X 34 [.ref (am_bd b1), .int x2, .int x3] (am_sh I J) = am_ev X amP_34 0 [.ref (am_bd b1), .int x2, .int x3, .null] [] (am_sh I J) := am_do_of rfl rfl rfl
set_option maxRecDepth 10000 in
theorem sg_34_3 (X : am_X) (I : Nat → Nat → Int32) (J : Nat → Nat → Int64) (b1 : Nat) (x2 : Int32) (x3 : Int32) (w4 : Value) (x5 : Int32) (hb1 : b1 < 11) (hw4 : w4.category = 1) : am_ev X amP_34 3 [.ref (am_bd b1), .int x2, .int x3, w4] [.int x5] (am_sh I J) = (if x3 = (0 : Int32) then (if x5 < 0 ∨ 48 ≤ x5.toNatClampNeg then none else some (some (.int (I (am_bd b1 + 2) x5.toNatClampNeg)), am_sh I J)) else (if x3 = (1 : Int32) then (if x5 < 0 ∨ 48 ≤ x5.toNatClampNeg then none else some (some (.int (I (am_bd b1 + 3) x5.toNatClampNeg)), am_sh I J)) else (if x3 = (2 : Int32) then (if x5 < 0 ∨ 48 ≤ x5.toNatClampNeg then none else some (some (.int (I (am_bd b1 + 4) x5.toNatClampNeg)), am_sh I J)) else (if x3 = (3 : Int32) then (if x5 < 0 ∨ 48 ≤ x5.toNatClampNeg then none else some (some (.int (I (am_bd b1 + 5) x5.toNatClampNeg)), am_sh I J)) else some (some (.int (-1000000 : Int32)), am_sh I J))))) := by
  refine (ev_istore (ls' := [.ref (am_bd b1), .int x2, .int x3, .int x5]) rfl (Nat.le_of_ble_eq_true rfl) rfl).trans ?_
  refine (ev_iload rfl rfl).trans ?_
  refine (am_dec (x3 = (0 : Int32))).trans (am_ite (fun s1_0 => ?_) (fun s1_0 => ?_))
  · refine (ev_tswIn (k := 0) rfl (by rw [s1_0]; decide) rfl).trans ?_
    refine (ev_aload rfl rfl).trans ?_
    refine (ev_getR rfl (by have := am_bd_lt hb1; omega) (am_Kbd hb1) (by decide) rfl (am_Rb3 hb1)).trans ?_
    refine (ev_iload rfl rfl).trans ?_
    refine (ev_iald rfl (by have := am_bd_lt hb1; omega) (am_Kb2 hb1)).trans (am_itn (fun g2 => ?_))
    exact ev_iret rfl
  refine (am_dec (x3 = (1 : Int32))).trans (am_ite (fun s1_1 => ?_) (fun s1_1 => ?_))
  · refine (ev_tswIn (k := 1) rfl (by rw [s1_1]; decide) rfl).trans ?_
    refine (ev_aload rfl rfl).trans ?_
    refine (ev_getR rfl (by have := am_bd_lt hb1; omega) (am_Kbd hb1) (by decide) rfl (am_Rb4 hb1)).trans ?_
    refine (ev_iload rfl rfl).trans ?_
    refine (ev_iald rfl (by have := am_bd_lt hb1; omega) (am_Kb3 hb1)).trans (am_itn (fun g2 => ?_))
    exact ev_iret rfl
  refine (am_dec (x3 = (2 : Int32))).trans (am_ite (fun s1_2 => ?_) (fun s1_2 => ?_))
  · refine (ev_tswIn (k := 2) rfl (by rw [s1_2]; decide) rfl).trans ?_
    refine (ev_aload rfl rfl).trans ?_
    refine (ev_getR rfl (by have := am_bd_lt hb1; omega) (am_Kbd hb1) (by decide) rfl (am_Rb5 hb1)).trans ?_
    refine (ev_iload rfl rfl).trans ?_
    refine (ev_iald rfl (by have := am_bd_lt hb1; omega) (am_Kb4 hb1)).trans (am_itn (fun g2 => ?_))
    exact ev_iret rfl
  refine (am_dec (x3 = (3 : Int32))).trans (am_ite (fun s1_3 => ?_) (fun s1_3 => ?_))
  · refine (ev_tswIn (k := 3) rfl (by rw [s1_3]; decide) rfl).trans ?_
    refine (ev_aload rfl rfl).trans ?_
    refine (ev_getR rfl (by have := am_bd_lt hb1; omega) (am_Kbd hb1) (by decide) rfl (am_Rb6 hb1)).trans ?_
    refine (ev_iload rfl rfl).trans ?_
    refine (ev_iald rfl (by have := am_bd_lt hb1; omega) (am_Kb5 hb1)).trans (am_itn (fun g2 => ?_))
    exact ev_iret rfl
  refine (ev_tswOut rfl (by have q0 := am_neT s1_0 (n := 0) (by decide); have q1 := am_neT s1_1 (n := 1) (by decide); have q2 := am_neT s1_2 (n := 2) (by decide); have q3 := am_neT s1_3 (n := 3) (by decide); simp only [List.length_cons, List.length_nil]; omega)).trans ?_
  refine (ev_const3 (v := (-1000000 : Int32)) rfl am_ci_m1000000).trans ?_
  exact ev_iret rfl
-- 35 X2_distance
set_option maxRecDepth 10000 in
theorem sg_35_e0 (X : am_X) (I : Nat → Nat → Int32) (J : Nat → Nat → Int64) (b1 : Nat) (x2 : Int32) (b3 : Nat) (x4 : Int32) (hb1 : b1 < 11) (hb3 : b3 < 11) : am_ev X amP_35 0 [.ref (am_bd b1), .int x2, .ref (am_bd b3), .int x4, .null, .null, .null] [] (am_sh I J) = (if x2 < 0 ∨ 48 ≤ x2.toNatClampNeg then none else (if x4 < 0 ∨ 48 ≤ x4.toNatClampNeg then none else (if x2 < 0 ∨ 48 ≤ x2.toNatClampNeg then none else (if x4 < 0 ∨ 48 ≤ x4.toNatClampNeg then none else (if x2 < 0 ∨ 48 ≤ x2.toNatClampNeg then none else (if x4 < 0 ∨ 48 ≤ x4.toNatClampNeg then none else some (some (.int (((((I (am_bd b1 + 2) x2.toNatClampNeg) - (I (am_bd b3 + 2) x4.toNatClampNeg)) * ((I (am_bd b1 + 2) x2.toNatClampNeg) - (I (am_bd b3 + 2) x4.toNatClampNeg))) + (((I (am_bd b1 + 3) x2.toNatClampNeg) - (I (am_bd b3 + 3) x4.toNatClampNeg)) * ((I (am_bd b1 + 3) x2.toNatClampNeg) - (I (am_bd b3 + 3) x4.toNatClampNeg)))) + (((I (am_bd b1 + 4) x2.toNatClampNeg) - (I (am_bd b3 + 4) x4.toNatClampNeg)) * ((I (am_bd b1 + 4) x2.toNatClampNeg) - (I (am_bd b3 + 4) x4.toNatClampNeg))))), am_sh I J))))))) := by
  refine (ev_aload rfl rfl).trans ?_
  refine (ev_getR rfl (by have := am_bd_lt hb1; omega) (am_Kbd hb1) (by decide) rfl (am_Rb3 hb1)).trans ?_
  refine (ev_iload rfl rfl).trans ?_
  refine (ev_iald rfl (by have := am_bd_lt hb1; omega) (am_Kb2 hb1)).trans (am_itn (fun g1 => ?_))
  refine (ev_aload rfl rfl).trans ?_
  refine (ev_getR rfl (by have := am_bd_lt hb3; omega) (am_Kbd hb3) (by decide) rfl (am_Rb3 hb3)).trans ?_
  refine (ev_iload rfl rfl).trans ?_
  refine (ev_iald rfl (by have := am_bd_lt hb3; omega) (am_Kb2 hb3)).trans (am_itn (fun g2 => ?_))
  refine (ev_isub rfl).trans ?_
  refine (ev_istore (ls' := [.ref (am_bd b1), .int x2, .ref (am_bd b3), .int x4, .int ((I (am_bd b1 + 2) x2.toNatClampNeg) - (I (am_bd b3 + 2) x4.toNatClampNeg)), .null, .null]) rfl (Nat.le_of_ble_eq_true rfl) rfl).trans ?_
  refine (ev_aload rfl rfl).trans ?_
  refine (ev_getR rfl (by have := am_bd_lt hb1; omega) (am_Kbd hb1) (by decide) rfl (am_Rb4 hb1)).trans ?_
  refine (ev_iload rfl rfl).trans ?_
  refine (ev_iald rfl (by have := am_bd_lt hb1; omega) (am_Kb3 hb1)).trans (am_itn (fun g3 => ?_))
  refine (ev_aload rfl rfl).trans ?_
  refine (ev_getR rfl (by have := am_bd_lt hb3; omega) (am_Kbd hb3) (by decide) rfl (am_Rb4 hb3)).trans ?_
  refine (ev_iload rfl rfl).trans ?_
  refine (ev_iald rfl (by have := am_bd_lt hb3; omega) (am_Kb3 hb3)).trans (am_itn (fun g4 => ?_))
  refine (ev_isub rfl).trans ?_
  refine (ev_istore (ls' := [.ref (am_bd b1), .int x2, .ref (am_bd b3), .int x4, .int ((I (am_bd b1 + 2) x2.toNatClampNeg) - (I (am_bd b3 + 2) x4.toNatClampNeg)), .int ((I (am_bd b1 + 3) x2.toNatClampNeg) - (I (am_bd b3 + 3) x4.toNatClampNeg)), .null]) rfl (Nat.le_of_ble_eq_true rfl) rfl).trans ?_
  refine (ev_aload rfl rfl).trans ?_
  refine (ev_getR rfl (by have := am_bd_lt hb1; omega) (am_Kbd hb1) (by decide) rfl (am_Rb5 hb1)).trans ?_
  refine (ev_iload rfl rfl).trans ?_
  refine (ev_iald rfl (by have := am_bd_lt hb1; omega) (am_Kb4 hb1)).trans (am_itn (fun g5 => ?_))
  refine (ev_aload rfl rfl).trans ?_
  refine (ev_getR rfl (by have := am_bd_lt hb3; omega) (am_Kbd hb3) (by decide) rfl (am_Rb5 hb3)).trans ?_
  refine (ev_iload rfl rfl).trans ?_
  refine (ev_iald rfl (by have := am_bd_lt hb3; omega) (am_Kb4 hb3)).trans (am_itn (fun g6 => ?_))
  refine (ev_isub rfl).trans ?_
  refine (ev_istore (ls' := [.ref (am_bd b1), .int x2, .ref (am_bd b3), .int x4, .int ((I (am_bd b1 + 2) x2.toNatClampNeg) - (I (am_bd b3 + 2) x4.toNatClampNeg)), .int ((I (am_bd b1 + 3) x2.toNatClampNeg) - (I (am_bd b3 + 3) x4.toNatClampNeg)), .int ((I (am_bd b1 + 4) x2.toNatClampNeg) - (I (am_bd b3 + 4) x4.toNatClampNeg))]) rfl (Nat.le_of_ble_eq_true rfl) rfl).trans ?_
  refine (ev_iload rfl rfl).trans ?_
  refine (ev_iload rfl rfl).trans ?_
  refine (ev_imul rfl).trans ?_
  refine (ev_iload rfl rfl).trans ?_
  refine (ev_iload rfl rfl).trans ?_
  refine (ev_imul rfl).trans ?_
  refine (ev_iadd rfl).trans ?_
  refine (ev_iload rfl rfl).trans ?_
  refine (ev_iload rfl rfl).trans ?_
  refine (ev_imul rfl).trans ?_
  refine (ev_iadd rfl).trans ?_
  exact ev_iret rfl
theorem cl_35 (X : am_X) (I : Nat → Nat → Int32) (J : Nat → Nat → Int64) (b1 : Nat) (x2 : Int32) (b3 : Nat) (x4 : Int32) : am_do X 35 [.ref (am_bd b1), .int x2, .ref (am_bd b3), .int x4] (am_sh I J) = am_ev X amP_35 0 [.ref (am_bd b1), .int x2, .ref (am_bd b3), .int x4, .null, .null, .null] [] (am_sh I J) := am_do_of rfl rfl rfl
