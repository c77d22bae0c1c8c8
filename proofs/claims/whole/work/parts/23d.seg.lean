-- 86 X5_commonTick
set_option maxRecDepth 10000 in
theorem sg_86_e0 (X : am_X) (I : Nat → Nat → Int32) (J : Nat → Nat → Int64) (x1 : Int32) (x2 : Int32) (x3 : Int32) : am_ev X amP_86 0 [.ref 79, .int x1, .int x2, .int x3] [] (am_sh I J) = (if x1 < 0 ∨ 10 ≤ x1.toNatClampNeg then none else (if x2 < 0 ∨ 10 ≤ x2.toNatClampNeg then none else (am_do X 84 [.ref 79, .ref 81, .ref (am_bd (x1.toNatClampNeg)), .ref (am_bd (x2.toNatClampNeg))] (am_sh I J)).bind (fun q => am_ev X amP_86 14 [.ref 79, .int x1, .int x2, .int x3] (q.1.toList ++ []) q.2))) := by
  refine (ev_aload rfl rfl).trans ?_
  refine (ev_aload rfl rfl).trans ?_
  refine (ev_getR rfl (by decide) am_K_79 (by decide) rfl am_R_79_2).trans ?_
  refine (ev_aload rfl rfl).trans ?_
  refine (ev_getR rfl (by decide) am_K_79 (by decide) rfl am_R_79_0).trans ?_
  refine (ev_getR rfl (by decide) am_K_16 (by decide) rfl am_R_16_0).trans ?_
  refine (ev_iload rfl rfl).trans ?_
  refine (ev_aald rfl (by decide) (Or.inl am_K_17) (f := am_bd) (fun k hk => am_R17 hk)).trans (am_itn (fun g1 => ?_))
  refine (ev_aload rfl rfl).trans ?_
  refine (ev_getR rfl (by decide) am_K_79 (by decide) rfl am_R_79_0).trans ?_
  refine (ev_getR rfl (by decide) am_K_16 (by decide) rfl am_R_16_0).trans ?_
  refine (ev_iload rfl rfl).trans ?_
  refine (ev_aald rfl (by decide) (Or.inl am_K_17) (f := am_bd) (fun k hk => am_R17 hk)).trans (am_itn (fun g2 => ?_))
  exact ev_invv (as := [.ref (am_bd (x2.toNatClampNeg)), .ref (am_bd (x1.toNatClampNeg)), .ref 81]) rfl (by decide) am_K_79 rfl (by simp [Value.category])
theorem cl_86 (X : am_X) (I : Nat → Nat → Int32) (J : Nat → Nat → Int64) (x1 : Int32) (x2 : Int32) (x3 : Int32) : am_do X 86 [.ref 79, .int x1, .int x2, .int x3] (am_sh I J) = am_ev X amP_86 0 [.ref 79, .int x1, .int x2, .int x3] [] (am_sh I J) := am_do_of rfl rfl rfl
set_option maxRecDepth 10000 in
theorem sg_86_14 (X : am_X) (I : Nat → Nat → Int32) (J : Nat → Nat → Int64) (x1 : Int32) (x2 : Int32) (x3 : Int32) (x4 : Int32) : am_ev X amP_86 14 [.ref 79, .int x1, .int x2, .int x3] [.int x4] (am_sh I J) = (if x2 < 0 ∨ 10 ≤ x2.toNatClampNeg then none else (if x1 < 0 ∨ 10 ≤ x1.toNatClampNeg then none else (am_do X 84 [.ref 79, .ref 82, .ref (am_bd (x2.toNatClampNeg)), .ref (am_bd (x1.toNatClampNeg))] (am_sh I J)).bind (fun q => am_ev X amP_86 29 [.ref 79, .int x1, .int x2, .int x3] (q.1.toList ++ []) q.2))) := by
  refine (ev_popi rfl).trans ?_
  refine (ev_aload rfl rfl).trans ?_
  refine (ev_aload rfl rfl).trans ?_
  refine (ev_getR rfl (by decide) am_K_79 (by decide) rfl am_R_79_3).trans ?_
  refine (ev_aload rfl rfl).trans ?_
  refine (ev_getR rfl (by decide) am_K_79 (by decide) rfl am_R_79_0).trans ?_
  refine (ev_getR rfl (by decide) am_K_16 (by decide) rfl am_R_16_0).trans ?_
  refine (ev_iload rfl rfl).trans ?_
  refine (ev_aald rfl (by decide) (Or.inl am_K_17) (f := am_bd) (fun k hk => am_R17 hk)).trans (am_itn (fun g1 => ?_))
  refine (ev_aload rfl rfl).trans ?_
  refine (ev_getR rfl (by decide) am_K_79 (by decide) rfl am_R_79_0).trans ?_
  refine (ev_getR rfl (by decide) am_K_16 (by decide) rfl am_R_16_0).trans ?_
  refine (ev_iload rfl rfl).trans ?_
  refine (ev_aald rfl (by decide) (Or.inl am_K_17) (f := am_bd) (fun k hk => am_R17 hk)).trans (am_itn (fun g2 => ?_))
  exact ev_invv (as := [.ref (am_bd (x1.toNatClampNeg)), .ref (am_bd (x2.toNatClampNeg)), .ref 82]) rfl (by decide) am_K_79 rfl (by simp [Value.category])
set_option maxRecDepth 10000 in
theorem sg_86_29 (X : am_X) (I : Nat → Nat → Int32) (J : Nat → Nat → Int64) (x1 : Int32) (x2 : Int32) (x3 : Int32) (x4 : Int32) : am_ev X amP_86 29 [.ref 79, .int x1, .int x2, .int x3] [.int x4] (am_sh I J) = (if x1 < 0 ∨ 10 ≤ x1.toNatClampNeg then none else (if x2 < 0 ∨ 10 ≤ x2.toNatClampNeg then none else (am_do X 87 [.ref 79, .ref (am_bd (x1.toNatClampNeg)), .ref (am_bd (x2.toNatClampNeg)), .int x3] (am_sh I J)).bind (fun q => am_ev X amP_86 43 [.ref 79, .int x1, .int x2, .int x3] (q.1.toList ++ []) q.2))) := by
  refine (ev_popi rfl).trans ?_
  refine (ev_aload rfl rfl).trans ?_
  refine (ev_aload rfl rfl).trans ?_
  refine (ev_getR rfl (by decide) am_K_79 (by decide) rfl am_R_79_0).trans ?_
  refine (ev_getR rfl (by decide) am_K_16 (by decide) rfl am_R_16_0).trans ?_
  refine (ev_iload rfl rfl).trans ?_
  refine (ev_aald rfl (by decide) (Or.inl am_K_17) (f := am_bd) (fun k hk => am_R17 hk)).trans (am_itn (fun g1 => ?_))
  refine (ev_aload rfl rfl).trans ?_
  refine (ev_getR rfl (by decide) am_K_79 (by decide) rfl am_R_79_0).trans ?_
  refine (ev_getR rfl (by decide) am_K_16 (by decide) rfl am_R_16_0).trans ?_
  refine (ev_iload rfl rfl).trans ?_
  refine (ev_aald rfl (by decide) (Or.inl am_K_17) (f := am_bd) (fun k hk => am_R17 hk)).trans (am_itn (fun g2 => ?_))
  refine (ev_iload rfl rfl).trans ?_
  exact ev_invv (as := [.int x3, .ref (am_bd (x2.toNatClampNeg)), .ref (am_bd (x1.toNatClampNeg))]) rfl (by decide) am_K_79 rfl (by simp [Value.category])
set_option maxRecDepth 10000 in
theorem sg_86_43 (X : am_X) (I : Nat → Nat → Int32) (J : Nat → Nat → Int64) (x1 : Int32) (x2 : Int32) (x3 : Int32) (x4 : Int32) : am_ev X amP_86 43 [.ref 79, .int x1, .int x2, .int x3] [.int x4] (am_sh I J) = some (some (.int x4), am_sh I J) := by
  exact ev_iret rfl
-- 87 X5_findCommon
set_option maxRecDepth 10000 in
theorem sg_87_e0 (X : am_X) (I : Nat → Nat → Int32) (J : Nat → Nat → Int64) (b1 : Nat) (b2 : Nat) (x3 : Int32) (hb1 : b1 < 11) (hb2 : b2 < 11) : am_ev X amP_87 0 [.ref 79, .ref (am_bd b1), .ref (am_bd b2), .int x3, .null, .null, .null, .null, .null, .null, .null] [] (am_sh I J) = (am_do X 40 [.ref (am_bd b1), .ref (am_bd b2)] (am_sh I J)).bind (fun q => am_ev X amP_87 3 [.ref 79, .ref (am_bd b1), .ref (am_bd b2), .int x3, .null, .null, .null, .null, .null, .null, .null] (q.1.toList ++ []) q.2) := by
  refine (ev_aload rfl rfl).trans ?_
  refine (ev_aload rfl rfl).trans ?_
  exact ev_invv (as := [.ref (am_bd b2)]) rfl (by have := am_bd_lt hb1; omega) (am_Kbd hb1) rfl (by simp [Value.category])
theorem cl_87 (X : am_X) (I : Nat → Nat → Int32) (J : Nat → Nat → Int64) (b1 : Nat) (b2 : Nat) (x3 : Int32) : am_do X 87 [.ref 79, .ref (am_bd b1), .ref (am_bd b2), .int x3] (am_sh I J) = am_ev X amP_87 0 [.ref 79, .ref (am_bd b1), .ref (am_bd b2), .int x3, .null, .null, .null, .null, .null, .null, .null] [] (am_sh I J) := am_do_of rfl rfl rfl
set_option maxRecDepth 10000 in
theorem sg_87_3 (X : am_X) (I : Nat → Nat → Int32) (J : Nat → Nat → Int64) (b1 : Nat) (b2 : Nat) (x3 : Int32) (w4 : Value) (w5 : Value) (w6 : Value) (w7 : Value) (w8 : Value) (w9 : Value) (w10 : Value) (x11 : Int32) (hb1 : b1 < 11) (hb2 : b2 < 11) (hw4 : w4.category = 1) (hw5 : w5.category = 1) (hw6 : w6.category = 1) (hw7 : w7.category = 1) (hw8 : w8.category = 1) (hw9 : w9.category = 1) (hw10 : w10.category = 1) : am_ev X amP_87 3 [.ref 79, .ref (am_bd b1), .ref (am_bd b2), .int x3, w4, w5, w6, w7, w8, w9, w10] [.int x11] (am_sh I J) = am_ev X amP_87 18 [.ref 79, .ref (am_bd b1), .ref (am_bd b2), .int x3, .int x11, .int (I (am_bd b1) 1), .int (I (am_bd b2) 1), .int (0 : Int32), .int (0 : Int32), .int (0 : Int32), .int (0 : Int32)] [] (am_sh I J) := by
  refine (ev_istore (ls' := [.ref 79, .ref (am_bd b1), .ref (am_bd b2), .int x3, .int x11, w5, w6, w7, w8, w9, w10]) rfl (Nat.le_of_ble_eq_true rfl) rfl).trans ?_
  refine (ev_aload rfl rfl).trans ?_
  refine (ev_getI rfl (by have := am_bd_lt hb1; omega) (am_Kbd hb1) (by decide) rfl).trans ?_
  refine (ev_istore (ls' := [.ref 79, .ref (am_bd b1), .ref (am_bd b2), .int x3, .int x11, .int (I (am_bd b1) 1), w6, w7, w8, w9, w10]) rfl (Nat.le_of_ble_eq_true rfl) rfl).trans ?_
  refine (ev_aload rfl rfl).trans ?_
  refine (ev_getI rfl (by have := am_bd_lt hb2; omega) (am_Kbd hb2) (by decide) rfl).trans ?_
  refine (ev_istore (ls' := [.ref 79, .ref (am_bd b1), .ref (am_bd b2), .int x3, .int x11, .int (I (am_bd b1) 1), .int (I (am_bd b2) 1), w7, w8, w9, w10]) rfl (Nat.le_of_ble_eq_true rfl) rfl).trans ?_
  refine (ev_const0 (v := (0 : Int32)) rfl am_ci_0).trans ?_
  refine (ev_istore (ls' := [.ref 79, .ref (am_bd b1), .ref (am_bd b2), .int x3, .int x11, .int (I (am_bd b1) 1), .int (I (am_bd b2) 1), .int (0 : Int32), w8, w9, w10]) rfl (Nat.le_of_ble_eq_true rfl) rfl).trans ?_
  refine (ev_const0 (v := (0 : Int32)) rfl am_ci_0).trans ?_
  refine (ev_istore (ls' := [.ref 79, .ref (am_bd b1), .ref (am_bd b2), .int x3, .int x11, .int (I (am_bd b1) 1), .int (I (am_bd b2) 1), .int (0 : Int32), .int (0 : Int32), w9, w10]) rfl (Nat.le_of_ble_eq_true rfl) rfl).trans ?_
  refine (ev_const0 (v := (0 : Int32)) rfl am_ci_0).trans ?_
  refine (ev_istore (ls' := [.ref 79, .ref (am_bd b1), .ref (am_bd b2), .int x3, .int x11, .int (I (am_bd b1) 1), .int (I (am_bd b2) 1), .int (0 : Int32), .int (0 : Int32), .int (0 : Int32), w10]) rfl (Nat.le_of_ble_eq_true rfl) rfl).trans ?_
  refine (ev_const0 (v := (0 : Int32)) rfl am_ci_0).trans ?_
  refine (ev_istore (ls' := [.ref 79, .ref (am_bd b1), .ref (am_bd b2), .int x3, .int x11, .int (I (am_bd b1) 1), .int (I (am_bd b2) 1), .int (0 : Int32), .int (0 : Int32), .int (0 : Int32), .int (0 : Int32)]) rfl (Nat.le_of_ble_eq_true rfl) rfl).trans ?_
  rfl
set_option maxRecDepth 10000 in
theorem sg_87_18 (X : am_X) (I : Nat → Nat → Int32) (J : Nat → Nat → Int64) (b1 : Nat) (b2 : Nat) (x3 : Int32) (x4 : Int32) (x5 : Int32) (x6 : Int32) (x7 : Int32) (x8 : Int32) (x9 : Int32) (x10 : Int32) (hb1 : b1 < 11) (hb2 : b2 < 11) : am_ev X amP_87 18 [.ref 79, .ref (am_bd b1), .ref (am_bd b2), .int x3, .int x4, .int x5, .int x6, .int x7, .int x8, .int x9, .int x10] [] (am_sh I J) = (if x4 ≤ x10 then (if ¬ x3 = (-1 : Int32) then am_ev X amP_87 67 [.ref 79, .ref (am_bd b1), .ref (am_bd b2), .int x3, .int x4, .int x5, .int x6, .int x7, .int x8, .int x9, .int x10] [.int (-1 : Int32)] (am_sh I J) else am_ev X amP_87 67 [.ref 79, .ref (am_bd b1), .ref (am_bd b2), .int x3, .int x4, .int x5, .int x6, .int x7, .int x8, .int x9, .int x10] [.int x7] (am_sh I J)) else (if x8 < 0 ∨ 48 ≤ x8.toNatClampNeg then none else (if (I 81 x8.toNatClampNeg) = 0 then am_ev X amP_87 37 [.ref 79, .ref (am_bd b1), .ref (am_bd b2), .int x3, .int x4, .int x5, .int x6, .int x7, .int x8, .int x9, .int x10] [] (am_sh I J) else (if x9 < 0 ∨ 48 ≤ x9.toNatClampNeg then none else (if (I 82 x9.toNatClampNeg) = 0 then am_ev X amP_87 37 [.ref 79, .ref (am_bd b1), .ref (am_bd b2), .int x3, .int x4, .int x5, .int x6, .int x7, .int x8, .int x9, .int x10] [] (am_sh I J) else (if ¬ x7 = x3 then am_ev X amP_87 37 [.ref 79, .ref (am_bd b1), .ref (am_bd b2), .int x3, .int x4, .int x5, .int x6, .int (x7 + (1 : Int32)), .int x8, .int x9, .int x10] [] (am_sh I J) else some (some (.int x10), am_sh I J))))))) := by
  refine (ev_iload rfl rfl).trans ?_
  refine (ev_iload rfl rfl).trans ?_
  refine (ev_icmp3 rfl).trans (am_ite (fun c1 => ?_) (fun c1 => ?_))
  · refine (ev_iload rfl rfl).trans ?_
    refine (ev_const0 (v := (-1 : Int32)) rfl am_ci_m1).trans ?_
    refine (ev_icmp1 rfl).trans (am_ite (fun c2 => ?_) (fun c2 => ?_))
    · refine (ev_const0 (v := (-1 : Int32)) rfl am_ci_m1).trans ?_
      rfl
    · refine (ev_iload rfl rfl).trans ?_
      refine (ev_goto rfl).trans ?_
      rfl
  · refine (ev_aload rfl rfl).trans ?_
    refine (ev_getR rfl (by decide) am_K_79 (by decide) rfl am_R_79_2).trans ?_
    refine (ev_iload rfl rfl).trans ?_
    refine (ev_zald rfl (by decide) am_K_81).trans (am_itn (fun g2 => ?_))
    refine (ev_if0 rfl).trans (am_ite (fun c3 => ?_) (fun c3 => ?_))
    · rfl
    · refine (ev_aload rfl rfl).trans ?_
      refine (ev_getR rfl (by decide) am_K_79 (by decide) rfl am_R_79_3).trans ?_
      refine (ev_iload rfl rfl).trans ?_
      refine (ev_zald rfl (by decide) am_K_82).trans (am_itn (fun g4 => ?_))
      refine (ev_if0 rfl).trans (am_ite (fun c5 => ?_) (fun c5 => ?_))
      · rfl
      · refine (ev_iload rfl rfl).trans ?_
        refine (ev_iload rfl rfl).trans ?_
        refine (ev_icmp1 rfl).trans (am_ite (fun c6 => ?_) (fun c6 => ?_))
        · refine (ev_iincv (v := (1 : Int32)) (ls' := [.ref 79, .ref (am_bd b1), .ref (am_bd b2), .int x3, .int x4, .int x5, .int x6, .int (x7 + (1 : Int32)), .int x8, .int x9, .int x10]) rfl am_ci_1 rfl rfl).trans ?_
          rfl
        · refine (ev_iload rfl rfl).trans ?_
          exact ev_iret rfl
set_option maxRecDepth 10000 in
theorem sg_87_37 (X : am_X) (I : Nat → Nat → Int32) (J : Nat → Nat → Int64) (b1 : Nat) (b2 : Nat) (x3 : Int32) (x4 : Int32) (x5 : Int32) (x6 : Int32) (x7 : Int32) (x8 : Int32) (x9 : Int32) (x10 : Int32) (hb1 : b1 < 11) (hb2 : b2 < 11) : am_ev X amP_87 37 [.ref 79, .ref (am_bd b1), .ref (am_bd b2), .int x3, .int x4, .int x5, .int x6, .int x7, .int x8, .int x9, .int x10] [] (am_sh I J) = (if x5 ≤ (x8 + (1 : Int32)) then am_ev X amP_87 47 [.ref 79, .ref (am_bd b1), .ref (am_bd b2), .int x3, .int x4, .int x5, .int x6, .int x7, .int x8, .int x9, .int x10] [.int (0 : Int32)] (am_sh I J) else am_ev X amP_87 47 [.ref 79, .ref (am_bd b1), .ref (am_bd b2), .int x3, .int x4, .int x5, .int x6, .int x7, .int x8, .int x9, .int x10] [.int (x8 + (1 : Int32))] (am_sh I J)) := by
  refine (ev_iload rfl rfl).trans ?_
  refine (ev_const0 (v := (1 : Int32)) rfl am_ci_1).trans ?_
  refine (ev_iadd rfl).trans ?_
  refine (ev_iload rfl rfl).trans ?_
  refine (ev_icmp3 rfl).trans (am_ite (fun c1 => ?_) (fun c1 => ?_))
  · refine (ev_const0 (v := (0 : Int32)) rfl am_ci_0).trans ?_
    rfl
  · refine (ev_iload rfl rfl).trans ?_
    refine (ev_const0 (v := (1 : Int32)) rfl am_ci_1).trans ?_
    refine (ev_iadd rfl).trans ?_
    refine (ev_goto rfl).trans ?_
    rfl
set_option maxRecDepth 10000 in
theorem sg_87_47 (X : am_X) (I : Nat → Nat → Int32) (J : Nat → Nat → Int64) (b1 : Nat) (b2 : Nat) (x3 : Int32) (x4 : Int32) (x5 : Int32) (x6 : Int32) (x7 : Int32) (x8 : Int32) (x9 : Int32) (x10 : Int32) (x11 : Int32) (hb1 : b1 < 11) (hb2 : b2 < 11) : am_ev X amP_87 47 [.ref 79, .ref (am_bd b1), .ref (am_bd b2), .int x3, .int x4, .int x5, .int x6, .int x7, .int x8, .int x9, .int x10] [.int x11] (am_sh I J) = (if x6 ≤ (x9 + (1 : Int32)) then am_ev X amP_87 58 [.ref 79, .ref (am_bd b1), .ref (am_bd b2), .int x3, .int x4, .int x5, .int x6, .int x7, .int x11, .int x9, .int x10] [.int (0 : Int32)] (am_sh I J) else am_ev X amP_87 58 [.ref 79, .ref (am_bd b1), .ref (am_bd b2), .int x3, .int x4, .int x5, .int x6, .int x7, .int x11, .int x9, .int x10] [.int (x9 + (1 : Int32))] (am_sh I J)) := by
  refine (ev_istore (ls' := [.ref 79, .ref (am_bd b1), .ref (am_bd b2), .int x3, .int x4, .int x5, .int x6, .int x7, .int x11, .int x9, .int x10]) rfl (Nat.le_of_ble_eq_true rfl) rfl).trans ?_
  refine (ev_iload rfl rfl).trans ?_
  refine (ev_const0 (v := (1 : Int32)) rfl am_ci_1).trans ?_
  refine (ev_iadd rfl).trans ?_
  refine (ev_iload rfl rfl).trans ?_
  refine (ev_icmp3 rfl).trans (am_ite (fun c1 => ?_) (fun c1 => ?_))
  · refine (ev_const0 (v := (0 : Int32)) rfl am_ci_0).trans ?_
    rfl
  · refine (ev_iload rfl rfl).trans ?_
    refine (ev_const0 (v := (1 : Int32)) rfl am_ci_1).trans ?_
    refine (ev_iadd rfl).trans ?_
    refine (ev_goto rfl).trans ?_
    rfl
set_option maxRecDepth 10000 in
theorem sg_87_58 (X : am_X) (I : Nat → Nat → Int32) (J : Nat → Nat → Int64) (b1 : Nat) (b2 : Nat) (x3 : Int32) (x4 : Int32) (x5 : Int32) (x6 : Int32) (x7 : Int32) (x8 : Int32) (x9 : Int32) (x10 : Int32) (x11 : Int32) (hb1 : b1 < 11) (hb2 : b2 < 11) : am_ev X amP_87 58 [.ref 79, .ref (am_bd b1), .ref (am_bd b2), .int x3, .int x4, .int x5, .int x6, .int x7, .int x8, .int x9, .int x10] [.int x11] (am_sh I J) = am_ev X amP_87 18 [.ref 79, .ref (am_bd b1), .ref (am_bd b2), .int x3, .int x4, .int x5, .int x6, .int x7, .int x8, .int x11, .int (x10 + (1 : Int32))] [] (am_sh I J) := by
  refine (ev_istore (ls' := [.ref 79, .ref (am_bd b1), .ref (am_bd b2), .int x3, .int x4, .int x5, .int x6, .int x7, .int x8, .int x11, .int x10]) rfl (Nat.le_of_ble_eq_true rfl) rfl).trans ?_
  refine (ev_iincv (v := (1 : Int32)) (ls' := [.ref 79, .ref (am_bd b1), .ref (am_bd b2), .int x3, .int x4, .int x5, .int x6, .int x7, .int x8, .int x11, .int (x10 + (1 : Int32))]) rfl am_ci_1 rfl rfl).trans ?_
  refine (ev_goto rfl).trans ?_
  rfl
set_option maxRecDepth 10000 in
theorem sg_87_67 (X : am_X) (I : Nat → Nat → Int32) (J : Nat → Nat → Int64) (b1 : Nat) (b2 : Nat) (x3 : Int32) (x4 : Int32) (x5 : Int32) (x6 : Int32) (x7 : Int32) (x8 : Int32) (x9 : Int32) (x10 : Int32) (x11 : Int32) (hb1 : b1 < 11) (hb2 : b2 < 11) : am_ev X amP_87 67 [.ref 79, .ref (am_bd b1), .ref (am_bd b2), .int x3, .int x4, .int x5, .int x6, .int x7, .int x8, .int x9, .int x10] [.int x11] (am_sh I J) = some (some (.int x11), am_sh I J) := by
  exact ev_iret rfl
-- 88 X5_countSievedBy
set_option maxRecDepth 10000 in
theorem sg_88_e0 (X : am_X) (I : Nat → Nat → Int32) (J : Nat → Nat → Int64) (x1 : Int32) : am_ev X amP_88 0 [.ref 79, .int x1, .null, .null, .null] [] (am_sh I J) = am_ev X amP_88 4 [.ref 79, .int x1, .int (0 : Int32), .int (0 : Int32), .null] [] (am_sh I J) := by
  refine (ev_const0 (v := (0 : Int32)) rfl am_ci_0).trans ?_
  refine (ev_istore (ls' := [.ref 79, .int x1, .int (0 : Int32), .null, .null]) rfl (Nat.le_of_ble_eq_true rfl) rfl).trans ?_
  refine (ev_const0 (v := (0 : Int32)) rfl am_ci_0).trans ?_
  refine (ev_istore (ls' := [.ref 79, .int x1, .int (0 : Int32), .int (0 : Int32), .null]) rfl (Nat.le_of_ble_eq_true rfl) rfl).trans ?_
  rfl
theorem cl_88 (X : am_X) (I : Nat → Nat → Int32) (J : Nat → Nat → Int64) (x1 : Int32) : am_do X 88 [.ref 79, .int x1] (am_sh I J) = am_ev X amP_88 0 [.ref 79, .int x1, .null, .null, .null] [] (am_sh I J) := am_do_of rfl rfl rfl
set_option maxRecDepth 10000 in
theorem sg_88_4 (X : am_X) (I : Nat → Nat → Int32) (J : Nat → Nat → Int64) (x1 : Int32) (x2 : Int32) (x3 : Int32) (w4 : Value) (hw4 : w4.category = 1) : am_ev X amP_88 4 [.ref 79, .int x1, .int x2, .int x3, w4] [] (am_sh I J) = (if (I 16 2) ≤ x3 then some (some (.int x2), am_sh I J) else am_ev X amP_88 13 [.ref 79, .int x1, .int x2, .int x3, .int (x3 + (1 : Int32))] [] (am_sh I J)) := by
  refine (ev_iload rfl rfl).trans ?_
  refine (ev_aload rfl rfl).trans ?_
  refine (ev_getR rfl (by decide) am_K_79 (by decide) rfl am_R_79_0).trans ?_
  refine (ev_getI rfl (by decide) am_K_16 (by decide) rfl).trans ?_
  refine (ev_icmp3 rfl).trans (am_ite (fun c1 => ?_) (fun c1 => ?_))
  · refine (ev_iload rfl rfl).trans ?_
    exact ev_iret rfl
  · refine (ev_iload rfl rfl).trans ?_
    refine (ev_const0 (v := (1 : Int32)) rfl am_ci_1).trans ?_
    refine (ev_iadd rfl).trans ?_
    refine (ev_istore (ls' := [.ref 79, .int x1, .int x2, .int x3, .int (x3 + (1 : Int32))]) rfl (Nat.le_of_ble_eq_true rfl) rfl).trans ?_
    rfl
set_option maxRecDepth 10000 in
theorem sg_88_13 (X : am_X) (I : Nat → Nat → Int32) (J : Nat → Nat → Int64) (x1 : Int32) (x2 : Int32) (x3 : Int32) (x4 : Int32) : am_ev X amP_88 13 [.ref 79, .int x1, .int x2, .int x3, .int x4] [] (am_sh I J) = (if (I 16 2) ≤ x4 then am_ev X amP_88 4 [.ref 79, .int x1, .int x2, .int (x3 + (1 : Int32)), .int x4] [] (am_sh I J) else (am_do X 81 [.ref 79, .int x3, .int x4] (am_sh I J)).bind (fun q => am_ev X amP_88 23 [.ref 79, .int x1, .int x2, .int x3, .int x4] (q.1.toList ++ [.int x2]) q.2)) := by
  refine (ev_iload rfl rfl).trans ?_
  refine (ev_aload rfl rfl).trans ?_
  refine (ev_getR rfl (by decide) am_K_79 (by decide) rfl am_R_79_0).trans ?_
  refine (ev_getI rfl (by decide) am_K_16 (by decide) rfl).trans ?_
  refine (ev_icmp3 rfl).trans (am_ite (fun c1 => ?_) (fun c1 => ?_))
  · refine (ev_iincv (v := (1 : Int32)) (ls' := [.ref 79, .int x1, .int x2, .int (x3 + (1 : Int32)), .int x4]) rfl am_ci_1 rfl rfl).trans ?_
    refine (ev_goto rfl).trans ?_
    rfl
  · refine (ev_iload rfl rfl).trans ?_
    refine (ev_aload rfl rfl).trans ?_
    refine (ev_iload rfl rfl).trans ?_
    refine (ev_iload rfl rfl).trans ?_
    exact ev_invv (as := [.int x4, .int x3]) rfl (by decide) am_K_79 rfl (by simp [Value.category])
set_option maxRecDepth 10000 in
theorem sg_88_23 (X : am_X) (I : Nat → Nat → Int32) (J : Nat → Nat → Int64) (x1 : Int32) (x2 : Int32) (x3 : Int32) (x4 : Int32) (x5 : Int32) (x6 : Int32) : am_ev X amP_88 23 [.ref 79, .int x1, .int x2, .int x3, .int x4] [.int x6, .int x5] (am_sh I J) = (if ¬ x6 = x1 then am_ev X amP_88 13 [.ref 79, .int x1, .int (x5 + (0 : Int32)), .int x3, .int (x4 + (1 : Int32))] [] (am_sh I J) else am_ev X amP_88 13 [.ref 79, .int x1, .int (x5 + (1 : Int32)), .int x3, .int (x4 + (1 : Int32))] [] (am_sh I J)) := by
  refine (ev_iload rfl rfl).trans ?_
  refine (ev_icmp1 rfl).trans (am_ite (fun c1 => ?_) (fun c1 => ?_))
  · refine (ev_const0 (v := (0 : Int32)) rfl am_ci_0).trans ?_
    refine (ev_iadd rfl).trans ?_
    refine (ev_istore (ls' := [.ref 79, .int x1, .int (x5 + (0 : Int32)), .int x3, .int x4]) rfl (Nat.le_of_ble_eq_true rfl) rfl).trans ?_
    refine (ev_iincv (v := (1 : Int32)) (ls' := [.ref 79, .int x1, .int (x5 + (0 : Int32)), .int x3, .int (x4 + (1 : Int32))]) rfl am_ci_1 rfl rfl).trans ?_
    refine (ev_goto rfl).trans ?_
    rfl
  · refine (ev_const0 (v := (1 : Int32)) rfl am_ci_1).trans ?_
    refine (ev_goto rfl).trans ?_
    refine (ev_iadd rfl).trans ?_
    refine (ev_istore (ls' := [.ref 79, .int x1, .int (x5 + (1 : Int32)), .int x3, .int x4]) rfl (Nat.le_of_ble_eq_true rfl) rfl).trans ?_
    refine (ev_iincv (v := (1 : Int32)) (ls' := [.ref 79, .int x1, .int (x5 + (1 : Int32)), .int x3, .int (x4 + (1 : Int32))]) rfl am_ci_1 rfl rfl).trans ?_
    refine (ev_goto rfl).trans ?_
    rfl
-- 89 X5_remainingPair
set_option maxRecDepth 10000 in
theorem sg_89_e0 (X : am_X) (I : Nat → Nat → Int32) (J : Nat → Nat → Int64) (x1 : Int32) : am_ev X amP_89 0 [.ref 79, .int x1, .null, .null, .null] [] (am_sh I J) = am_ev X amP_89 4 [.ref 79, .int x1, .int (0 : Int32), .int (0 : Int32), .null] [] (am_sh I J) := by
  refine (ev_const0 (v := (0 : Int32)) rfl am_ci_0).trans ?_
  refine (ev_istore (ls' := [.ref 79, .int x1, .int (0 : Int32), .null, .null]) rfl (Nat.le_of_ble_eq_true rfl) rfl).trans ?_
  refine (ev_const0 (v := (0 : Int32)) rfl am_ci_0).trans ?_
  refine (ev_istore (ls' := [.ref 79, .int x1, .int (0 : Int32), .int (0 : Int32), .null]) rfl (Nat.le_of_ble_eq_true rfl) rfl).trans ?_
  rfl
theorem cl_89 (X : am_X) (I : Nat → Nat → Int32) (J : Nat → Nat → Int64) (x1 : Int32) : am_do X 89 [.ref 79, .int x1] (am_sh I J) = am_ev X amP_89 0 [.ref 79, .int x1, .null, .null, .null] [] (am_sh I J) := am_do_of rfl rfl rfl
set_option maxRecDepth 10000 in
theorem sg_89_4 (X : am_X) (I : Nat → Nat → Int32) (J : Nat → Nat → Int64) (x1 : Int32) (x2 : Int32) (x3 : Int32) (w4 : Value) (hw4 : w4.category = 1) : am_ev X amP_89 4 [.ref 79, .int x1, .int x2, .int x3, w4] [] (am_sh I J) = (if (I 16 2) ≤ x3 then some (some (.int (-1 : Int32)), am_sh I J) else am_ev X amP_89 13 [.ref 79, .int x1, .int x2, .int x3, .int (x3 + (1 : Int32))] [] (am_sh I J)) := by
  refine (ev_iload rfl rfl).trans ?_
  refine (ev_aload rfl rfl).trans ?_
  refine (ev_getR rfl (by decide) am_K_79 (by decide) rfl am_R_79_0).trans ?_
  refine (ev_getI rfl (by decide) am_K_16 (by decide) rfl).trans ?_
  refine (ev_icmp3 rfl).trans (am_ite (fun c1 => ?_) (fun c1 => ?_))
  · refine (ev_const0 (v := (-1 : Int32)) rfl am_ci_m1).trans ?_
    exact ev_iret rfl
  · refine (ev_iload rfl rfl).trans ?_
    refine (ev_const0 (v := (1 : Int32)) rfl am_ci_1).trans ?_
    refine (ev_iadd rfl).trans ?_
    refine (ev_istore (ls' := [.ref 79, .int x1, .int x2, .int x3, .int (x3 + (1 : Int32))]) rfl (Nat.le_of_ble_eq_true rfl) rfl).trans ?_
    rfl
set_option maxRecDepth 10000 in
theorem sg_89_13 (X : am_X) (I : Nat → Nat → Int32) (J : Nat → Nat → Int64) (x1 : Int32) (x2 : Int32) (x3 : Int32) (x4 : Int32) : am_ev X amP_89 13 [.ref 79, .int x1, .int x2, .int x3, .int x4] [] (am_sh I J) = (if (I 16 2) ≤ x4 then am_ev X amP_89 4 [.ref 79, .int x1, .int x2, .int (x3 + (1 : Int32)), .int x4] [] (am_sh I J) else (am_do X 81 [.ref 79, .int x3, .int x4] (am_sh I J)).bind (fun q => am_ev X amP_89 22 [.ref 79, .int x1, .int x2, .int x3, .int x4] (q.1.toList ++ []) q.2)) := by
  refine (ev_iload rfl rfl).trans ?_
  refine (ev_aload rfl rfl).trans ?_
  refine (ev_getR rfl (by decide) am_K_79 (by decide) rfl am_R_79_0).trans ?_
  refine (ev_getI rfl (by decide) am_K_16 (by decide) rfl).trans ?_
  refine (ev_icmp3 rfl).trans (am_ite (fun c1 => ?_) (fun c1 => ?_))
  · refine (ev_iincv (v := (1 : Int32)) (ls' := [.ref 79, .int x1, .int x2, .int (x3 + (1 : Int32)), .int x4]) rfl am_ci_1 rfl rfl).trans ?_
    refine (ev_goto rfl).trans ?_
    rfl
  · refine (ev_aload rfl rfl).trans ?_
    refine (ev_iload rfl rfl).trans ?_
    refine (ev_iload rfl rfl).trans ?_
    exact ev_invv (as := [.int x4, .int x3]) rfl (by decide) am_K_79 rfl (by simp [Value.category])
set_option maxRecDepth 10000 in
theorem sg_89_22 (X : am_X) (I : Nat → Nat → Int32) (J : Nat → Nat → Int64) (x1 : Int32) (x2 : Int32) (x3 : Int32) (x4 : Int32) (x5 : Int32) : am_ev X amP_89 22 [.ref 79, .int x1, .int x2, .int x3, .int x4] [.int x5] (am_sh I J) = (if x5 = 0 then (if ¬ x2 = x1 then am_ev X amP_89 13 [.ref 79, .int x1, .int (x2 + (1 : Int32)), .int x3, .int (x4 + (1 : Int32))] [] (am_sh I J) else (am_do X 51 [.int x3, .int x4] (am_sh I J)).bind (fun q => am_ev X amP_89 30 [.ref 79, .int x1, .int x2, .int x3, .int x4] (q.1.toList ++ []) q.2)) else am_ev X amP_89 13 [.ref 79, .int x1, .int x2, .int x3, .int (x4 + (1 : Int32))] [] (am_sh I J)) := by
  refine (ev_if0 rfl).trans (am_ite (fun c1 => ?_) (fun c1 => ?_))
  · refine (ev_iload rfl rfl).trans ?_
    refine (ev_iload rfl rfl).trans ?_
    refine (ev_icmp1 rfl).trans (am_ite (fun c2 => ?_) (fun c2 => ?_))
    · refine (ev_iincv (v := (1 : Int32)) (ls' := [.ref 79, .int x1, .int (x2 + (1 : Int32)), .int x3, .int x4]) rfl am_ci_1 rfl rfl).trans ?_
      refine (ev_iincv (v := (1 : Int32)) (ls' := [.ref 79, .int x1, .int (x2 + (1 : Int32)), .int x3, .int (x4 + (1 : Int32))]) rfl am_ci_1 rfl rfl).trans ?_
      refine (ev_goto rfl).trans ?_
      rfl
    · refine (ev_iload rfl rfl).trans ?_
      refine (ev_iload rfl rfl).trans ?_
      exact ev_invs (as := [.int x4, .int x3]) rfl rfl (by simp [Value.category])
  · refine (ev_goto rfl).trans ?_
    refine (ev_iincv (v := (1 : Int32)) (ls' := [.ref 79, .int x1, .int x2, .int x3, .int (x4 + (1 : Int32))]) rfl am_ci_1 rfl rfl).trans ?_
    refine (ev_goto rfl).trans ?_
    rfl
set_option maxRecDepth 10000 in
theorem sg_89_30 (X : am_X) (I : Nat → Nat → Int32) (J : Nat → Nat → Int64) (x1 : Int32) (x2 : Int32) (x3 : Int32) (x4 : Int32) (x5 : Int32) : am_ev X amP_89 30 [.ref 79, .int x1, .int x2, .int x3, .int x4] [.int x5] (am_sh I J) = some (some (.int x5), am_sh I J) := by
  exact ev_iret rfl
-- 91 X6_takeFrom
set_option maxRecDepth 10000 in
theorem sg_91_e0 (X : am_X) (I : Nat → Nat → Int32) (J : Nat → Nat → Int64) (x1 : Int32) : am_ev X amP_91 0 [.ref 128, .ref 1, .int x1, .null] [] (am_sh I J) = (if (I 1 1) < (2 : Int32) then some (some (.int (0 : Int32)), am_sh I J) else (if (32 : Int32) < (I 1 1) then some (some (.int (0 : Int32)), am_sh I J) else (if ((I 1 1) - (I 1 1) / (2 : Int32) * (2 : Int32)) = 0 then am_ev X amP_91 17 [.ref 128, .ref 1, .int x1, .int (1 : Int32)] [] (am_sh I J) else some (some (.int (0 : Int32)), am_sh I J)))) := by
  refine (ev_aload rfl rfl).trans ?_
  refine (ev_getI rfl (by decide) am_K_1 (by decide) rfl).trans ?_
  refine (ev_const0 (v := (2 : Int32)) rfl am_ci_2).trans ?_
  refine (ev_icmp2 rfl).trans (am_ite (fun c1 => ?_) (fun c1 => ?_))
  · refine (ev_const0 (v := (0 : Int32)) rfl am_ci_0).trans ?_
    exact ev_zret rfl (by decide)
  · refine (ev_aload rfl rfl).trans ?_
    refine (ev_getI rfl (by decide) am_K_1 (by decide) rfl).trans ?_
    refine (ev_const1 (v := (32 : Int32)) rfl am_ci_32).trans ?_
    refine (ev_icmp4 rfl).trans (am_ite (fun c2 => ?_) (fun c2 => ?_))
    · refine (ev_const0 (v := (0 : Int32)) rfl am_ci_0).trans ?_
      exact ev_zret rfl (by decide)
    · refine (ev_aload rfl rfl).trans ?_
      refine (ev_getI rfl (by decide) am_K_1 (by decide) rfl).trans ?_
      refine (ev_const0 (v := (2 : Int32)) rfl am_ci_2).trans ?_
      refine (ev_iremN (by decide) rfl).trans ?_
      refine (ev_if0 rfl).trans (am_ite (fun c3 => ?_) (fun c3 => ?_))
      · refine (ev_const0 (v := (1 : Int32)) rfl am_ci_1).trans ?_
        refine (ev_istore (ls' := [.ref 128, .ref 1, .int x1, .int (1 : Int32)]) rfl (Nat.le_of_ble_eq_true rfl) rfl).trans ?_
        rfl
      · refine (ev_const0 (v := (0 : Int32)) rfl am_ci_0).trans ?_
        exact ev_zret rfl (by decide)
theorem cl_91 (X : am_X) (I : Nat → Nat → Int32) (J : Nat → Nat → Int64) (x1 : Int32) : am_do X 91 [.ref 128, .ref 1, .int x1] (am_sh I J) = am_ev X amP_91 0 [.ref 128, .ref 1, .int x1, .null] [] (am_sh I J) := am_do_of rfl rfl rfl
set_option maxRecDepth 10000 in
theorem sg_91_17 (X : am_X) (I : Nat → Nat → Int32) (J : Nat → Nat → Int64) (x1 : Int32) (x2 : Int32) : am_ev X amP_91 17 [.ref 128, .ref 1, .int x1, .int x2] [] (am_sh I J) = (if (I 1 1) ≤ x2 then am_ev X amP_91 43 [.ref 128, .ref 1, .int x1, .int (0 : Int32)] [] (am_sh (am_up (am_up I 128 0 x1) 128 1 (((am_up I 128 0 x1) 1 1) / (2 : Int32))) J) else (am_do X 125 [.ref 1, .int x2] (am_sh I J)).bind (fun q => am_ev X amP_91 24 [.ref 128, .ref 1, .int x1, .int x2] (q.1.toList ++ []) q.2)) := by
  refine (ev_iload rfl rfl).trans ?_
  refine (ev_aload rfl rfl).trans ?_
  refine (ev_getI rfl (by decide) am_K_1 (by decide) rfl).trans ?_
  refine (ev_icmp3 rfl).trans (am_ite (fun c1 => ?_) (fun c1 => ?_))
  · refine (ev_aload rfl rfl).trans ?_
    refine (ev_iload rfl rfl).trans ?_
    refine (ev_putI rfl (by decide) am_K_128 (by decide) rfl).trans ?_
    refine (ev_aload rfl rfl).trans ?_
    refine (ev_aload rfl rfl).trans ?_
    refine (ev_getI rfl (by decide) am_K_1 (by decide) rfl).trans ?_
    refine (ev_const0 (v := (2 : Int32)) rfl am_ci_2).trans ?_
    refine (ev_idivN (by decide) rfl).trans ?_
    refine (ev_putI rfl (by decide) am_K_128 (by decide) rfl).trans ?_
    refine (ev_const0 (v := (0 : Int32)) rfl am_ci_0).trans ?_
    refine (ev_istore (ls' := [.ref 128, .ref 1, .int x1, .int (0 : Int32)]) rfl (Nat.le_of_ble_eq_true rfl) rfl).trans ?_
    rfl
  · refine (ev_aload rfl rfl).trans ?_
    refine (ev_iload rfl rfl).trans ?_
    exact ev_invv (as := [.int x2]) rfl (by decide) am_K_1 rfl (by simp [Value.category])
set_option maxRecDepth 10000 in
theorem sg_91_24 (X : am_X) (I : Nat → Nat → Int32) (J : Nat → Nat → Int64) (x1 : Int32) (x2 : Int32) (x3 : Int32) : am_ev X amP_91 24 [.ref 128, .ref 1, .int x1, .int x2] [.int x3] (am_sh I J) = (if x3 < (Int32.ofNat 4) then am_ev X amP_91 17 [.ref 128, .ref 1, .int x1, .int (x2 + (2 : Int32))] [] (am_sh I J) else some (some (.int (0 : Int32)), am_sh I J)) := by
  refine (ev_aload rfl rfl).trans ?_
  refine (ev_getR rfl (by decide) am_K_128 (by decide) rfl am_R_128_7).trans ?_
  refine (ev_alen rfl (by decide) am_K_132 (by decide) (by decide)).trans ?_
  refine (ev_icmp2 rfl).trans (am_ite (fun c1 => ?_) (fun c1 => ?_))
  · refine (ev_iincv (v := (2 : Int32)) (ls' := [.ref 128, .ref 1, .int x1, .int (x2 + (2 : Int32))]) rfl am_ci_2 rfl rfl).trans ?_
    refine (ev_goto rfl).trans ?_
    rfl
  · refine (ev_const0 (v := (0 : Int32)) rfl am_ci_0).trans ?_
    exact ev_zret rfl (by decide)
set_option maxRecDepth 10000 in
theorem sg_91_43 (X : am_X) (I : Nat → Nat → Int32) (J : Nat → Nat → Int64) (x1 : Int32) (x2 : Int32) : am_ev X amP_91 43 [.ref 128, .ref 1, .int x1, .int x2] [] (am_sh I J) = (if (I 128 1) ≤ x2 then some (some (.int (1 : Int32)), am_sh I J) else (am_do X 125 [.ref 1, .int ((2 : Int32) * x2)] (am_sh I J)).bind (fun q => am_ev X amP_91 55 [.ref 128, .ref 1, .int x1, .int x2] (q.1.toList ++ [.int x2, .ref 129]) q.2)) := by
  refine (ev_iload rfl rfl).trans ?_
  refine (ev_aload rfl rfl).trans ?_
  refine (ev_getI rfl (by decide) am_K_128 (by decide) rfl).trans ?_
  refine (ev_icmp3 rfl).trans (am_ite (fun c1 => ?_) (fun c1 => ?_))
  · refine (ev_const0 (v := (1 : Int32)) rfl am_ci_1).trans ?_
    exact ev_zret rfl (by decide)
  · refine (ev_aload rfl rfl).trans ?_
    refine (ev_getR rfl (by decide) am_K_128 (by decide) rfl am_R_128_4).trans ?_
    refine (ev_iload rfl rfl).trans ?_
    refine (ev_aload rfl rfl).trans ?_
    refine (ev_const0 (v := (2 : Int32)) rfl am_ci_2).trans ?_
    refine (ev_iload rfl rfl).trans ?_
    refine (ev_imul rfl).trans ?_
    exact ev_invv (as := [.int ((2 : Int32) * x2)]) rfl (by decide) am_K_1 rfl (by simp [Value.category])
set_option maxRecDepth 10000 in
theorem sg_91_55 (X : am_X) (I : Nat → Nat → Int32) (J : Nat → Nat → Int64) (x1 : Int32) (x2 : Int32) (x3 : Int32) (x4 : Int32) : am_ev X amP_91 55 [.ref 128, .ref 1, .int x1, .int x2] [.int x4, .int x3, .ref 129] (am_sh I J) = (if x3 < 0 ∨ 16 ≤ x3.toNatClampNeg then none else (am_do X 125 [.ref 1, .int (((2 : Int32) * x2) + (1 : Int32))] (am_sh (am_up I 129 x3.toNatClampNeg x4) J)).bind (fun q => am_ev X amP_91 66 [.ref 128, .ref 1, .int x1, .int x2] (q.1.toList ++ [.int x2, .ref 130]) q.2)) := by
  refine (ev_iast rfl (by decide) am_K_129).trans (am_itn (fun g1 => ?_))
  refine (ev_aload rfl rfl).trans ?_
  refine (ev_getR rfl (by decide) am_K_128 (by decide) rfl am_R_128_5).trans ?_
  refine (ev_iload rfl rfl).trans ?_
  refine (ev_aload rfl rfl).trans ?_
  refine (ev_const0 (v := (2 : Int32)) rfl am_ci_2).trans ?_
  refine (ev_iload rfl rfl).trans ?_
  refine (ev_imul rfl).trans ?_
  refine (ev_const0 (v := (1 : Int32)) rfl am_ci_1).trans ?_
  refine (ev_iadd rfl).trans ?_
  exact ev_invv (as := [.int (((2 : Int32) * x2) + (1 : Int32))]) rfl (by decide) am_K_1 rfl (by simp [Value.category])
set_option maxRecDepth 10000 in
theorem sg_91_66 (X : am_X) (I : Nat → Nat → Int32) (J : Nat → Nat → Int64) (x1 : Int32) (x2 : Int32) (x3 : Int32) (x4 : Int32) : am_ev X amP_91 66 [.ref 128, .ref 1, .int x1, .int x2] [.int x4, .int x3, .ref 130] (am_sh I J) = (if x3 < 0 ∨ 16 ≤ x3.toNatClampNeg then none else am_ev X amP_91 43 [.ref 128, .ref 1, .int x1, .int (x2 + (1 : Int32))] [] (am_sh (am_up I 130 x3.toNatClampNeg x4) J)) := by
  refine (ev_iast rfl (by decide) am_K_130).trans (am_itn (fun g1 => ?_))
  refine (ev_iincv (v := (1 : Int32)) (ls' := [.ref 128, .ref 1, .int x1, .int (x2 + (1 : Int32))]) rfl am_ci_1 rfl rfl).trans ?_
  refine (ev_goto rfl).trans ?_
  rfl
-- 92 X6_quarterOf
set_option maxRecDepth 10000 in
theorem sg_92_e0 (X : am_X) (I : Nat → Nat → Int32) (J : Nat → Nat → Int64) (b1 : Nat) (x2 : Int32) (x3 : Int32) (hb1 : b1 < 11) : am_ev X amP_92 0 [.ref (am_bd b1), .int x2, .int x3, .null] [] (am_sh I J) = (if (I (am_bd b1) 1) = 0 then none else (if ((x2 + x3) - (x2 + x3) / (I (am_bd b1) 1) * (I (am_bd b1) 1)) < 0 ∨ 48 ≤ ((x2 + x3) - (x2 + x3) / (I (am_bd b1) 1) * (I (am_bd b1) 1)).toNatClampNeg then none else (if 0 ≤ (I (am_bd b1 + 2) ((x2 + x3) - (x2 + x3) / (I (am_bd b1) 1) * (I (am_bd b1) 1)).toNatClampNeg) then (if ((x2 + x3) - (x2 + x3) / (I (am_bd b1) 1) * (I (am_bd b1) 1)) < 0 ∨ 48 ≤ ((x2 + x3) - (x2 + x3) / (I (am_bd b1) 1) * (I (am_bd b1) 1)).toNatClampNeg then none else (if 0 ≤ (I (am_bd b1 + 3) ((x2 + x3) - (x2 + x3) / (I (am_bd b1) 1) * (I (am_bd b1) 1)).toNatClampNeg) then some (some (.int ((0 : Int32) + (0 : Int32))), am_sh I J) else some (some (.int ((0 : Int32) + (2 : Int32))), am_sh I J))) else (if ((x2 + x3) - (x2 + x3) / (I (am_bd b1) 1) * (I (am_bd b1) 1)) < 0 ∨ 48 ≤ ((x2 + x3) - (x2 + x3) / (I (am_bd b1) 1) * (I (am_bd b1) 1)).toNatClampNeg then none else (if 0 ≤ (I (am_bd b1 + 3) ((x2 + x3) - (x2 + x3) / (I (am_bd b1) 1) * (I (am_bd b1) 1)).toNatClampNeg) then some (some (.int ((1 : Int32) + (0 : Int32))), am_sh I J) else some (some (.int ((1 : Int32) + (2 : Int32))), am_sh I J)))))) := by
  refine (ev_iload rfl rfl).trans ?_
  refine (ev_iload rfl rfl).trans ?_
  refine (ev_iadd rfl).trans ?_
  refine (ev_aload rfl rfl).trans ?_
  refine (ev_getI rfl (by have := am_bd_lt hb1; omega) (am_Kbd hb1) (by decide) rfl).trans ?_
  refine (ev_irem rfl).trans (am_itn (fun g1 => ?_))
  refine (ev_istore (ls' := [.ref (am_bd b1), .int x2, .int x3, .int ((x2 + x3) - (x2 + x3) / (I (am_bd b1) 1) * (I (am_bd b1) 1))]) rfl (Nat.le_of_ble_eq_true rfl) rfl).trans ?_
  refine (ev_aload rfl rfl).trans ?_
  refine (ev_getR rfl (by have := am_bd_lt hb1; omega) (am_Kbd hb1) (by decide) rfl (am_Rb3 hb1)).trans ?_
  refine (ev_iload rfl rfl).trans ?_
  refine (ev_iald rfl (by have := am_bd_lt hb1; omega) (am_Kb2 hb1)).trans (am_itn (fun g2 => ?_))
  refine (ev_if3 rfl).trans (am_ite (fun c3 => ?_) (fun c3 => ?_))
  · refine (ev_const0 (v := (0 : Int32)) rfl am_ci_0).trans ?_
    refine (ev_aload rfl rfl).trans ?_
    refine (ev_getR rfl (by have := am_bd_lt hb1; omega) (am_Kbd hb1) (by decide) rfl (am_Rb4 hb1)).trans ?_
    refine (ev_iload rfl rfl).trans ?_
    refine (ev_iald rfl (by have := am_bd_lt hb1; omega) (am_Kb3 hb1)).trans (am_itn (fun g4 => ?_))
    refine (ev_if3 rfl).trans (am_ite (fun c5 => ?_) (fun c5 => ?_))
    · refine (ev_const0 (v := (0 : Int32)) rfl am_ci_0).trans ?_
      refine (ev_iadd rfl).trans ?_
      exact ev_iret rfl
    · refine (ev_const0 (v := (2 : Int32)) rfl am_ci_2).trans ?_
      refine (ev_goto rfl).trans ?_
      refine (ev_iadd rfl).trans ?_
      exact ev_iret rfl
  · refine (ev_const0 (v := (1 : Int32)) rfl am_ci_1).trans ?_
    refine (ev_goto rfl).trans ?_
    refine (ev_aload rfl rfl).trans ?_
    refine (ev_getR rfl (by have := am_bd_lt hb1; omega) (am_Kbd hb1) (by decide) rfl (am_Rb4 hb1)).trans ?_
    refine (ev_iload rfl rfl).trans ?_
    refine (ev_iald rfl (by have := am_bd_lt hb1; omega) (am_Kb3 hb1)).trans (am_itn (fun g4 => ?_))
    refine (ev_if3 rfl).trans (am_ite (fun c5 => ?_) (fun c5 => ?_))
    · refine (ev_const0 (v := (0 : Int32)) rfl am_ci_0).trans ?_
      refine (ev_iadd rfl).trans ?_
      exact ev_iret rfl
    · refine (ev_const0 (v := (2 : Int32)) rfl am_ci_2).trans ?_
      refine (ev_goto rfl).trans ?_
      refine (ev_iadd rfl).trans ?_
      exact ev_iret rfl
theorem cl_92 (X : am_X) (I : Nat → Nat → Int32) (J : Nat → Nat → Int64) (b1 : Nat) (x2 : Int32) (x3 : Int32) : am_do X 92 [.ref (am_bd b1), .int x2, .int x3] (am_sh I J) = am_ev X amP_92 0 [.ref (am_bd b1), .int x2, .int x3, .null] [] (am_sh I J) := am_do_of rfl rfl rfl
-- 93 X6_isFitting
set_option maxRecDepth 10000 in
theorem sg_93_e0 (X : am_X) (I : Nat → Nat → Int32) (J : Nat → Nat → Int64) (b1 : Nat) (x2 : Int32) (hb1 : b1 < 11) : am_ev X amP_93 0 [.ref 128, .ref (am_bd b1), .int x2, .null] [] (am_sh I J) = am_ev X amP_93 2 [.ref 128, .ref (am_bd b1), .int x2, .int (0 : Int32)] [] (am_sh I J) := by
  refine (ev_const0 (v := (0 : Int32)) rfl am_ci_0).trans ?_
  refine (ev_istore (ls' := [.ref 128, .ref (am_bd b1), .int x2, .int (0 : Int32)]) rfl (Nat.le_of_ble_eq_true rfl) rfl).trans ?_
  rfl
theorem cl_93 (X : am_X) (I : Nat → Nat → Int32) (J : Nat → Nat → Int64) (b1 : Nat) (x2 : Int32) : am_do X 93 [.ref 128, .ref (am_bd b1), .int x2] (am_sh I J) = am_ev X amP_93 0 [.ref 128, .ref (am_bd b1), .int x2, .null] [] (am_sh I J) := am_do_of rfl rfl rfl
set_option maxRecDepth 10000 in
theorem sg_93_2 (X : am_X) (I : Nat → Nat → Int32) (J : Nat → Nat → Int64) (b1 : Nat) (x2 : Int32) (x3 : Int32) (hb1 : b1 < 11) : am_ev X amP_93 2 [.ref 128, .ref (am_bd b1), .int x2, .int x3] [] (am_sh I J) = (if (I 128 1) ≤ x3 then some (some (.int (1 : Int32)), am_sh I J) else (if x3 < 0 ∨ 16 ≤ x3.toNatClampNeg then none else (am_do X 92 [.ref (am_bd b1), .int x2, .int (I 129 x3.toNatClampNeg)] (am_sh I J)).bind (fun q => am_ev X amP_93 13 [.ref 128, .ref (am_bd b1), .int x2, .int x3] (q.1.toList ++ []) q.2))) := by
  refine (ev_iload rfl rfl).trans ?_
  refine (ev_aload rfl rfl).trans ?_
  refine (ev_getI rfl (by decide) am_K_128 (by decide) rfl).trans ?_
  refine (ev_icmp3 rfl).trans (am_ite (fun c1 => ?_) (fun c1 => ?_))
  · refine (ev_const0 (v := (1 : Int32)) rfl am_ci_1).trans ?_
    exact ev_zret rfl (by decide)
  · refine (ev_aload rfl rfl).trans ?_
    refine (ev_iload rfl rfl).trans ?_
    refine (ev_aload rfl rfl).trans ?_
    refine (ev_getR rfl (by decide) am_K_128 (by decide) rfl am_R_128_4).trans ?_
    refine (ev_iload rfl rfl).trans ?_
    refine (ev_iald rfl (by decide) am_K_129).trans (am_itn (fun g2 => ?_))
    exact ev_invs (as := [.int (I 129 x3.toNatClampNeg), .int x2, .ref (am_bd b1)]) rfl rfl (by simp [Value.category])
set_option maxRecDepth 10000 in
theorem sg_93_13 (X : am_X) (I : Nat → Nat → Int32) (J : Nat → Nat → Int64) (b1 : Nat) (x2 : Int32) (x3 : Int32) (x4 : Int32) (hb1 : b1 < 11) : am_ev X amP_93 13 [.ref 128, .ref (am_bd b1), .int x2, .int x3] [.int x4] (am_sh I J) = (if x3 < 0 ∨ 16 ≤ x3.toNatClampNeg then none else (if x4 = (I 130 x3.toNatClampNeg) then am_ev X amP_93 2 [.ref 128, .ref (am_bd b1), .int x2, .int (x3 + (1 : Int32))] [] (am_sh I J) else some (some (.int (0 : Int32)), am_sh I J))) := by
  refine (ev_aload rfl rfl).trans ?_
  refine (ev_getR rfl (by decide) am_K_128 (by decide) rfl am_R_128_5).trans ?_
  refine (ev_iload rfl rfl).trans ?_
  refine (ev_iald rfl (by decide) am_K_130).trans (am_itn (fun g1 => ?_))
  refine (ev_icmp0 rfl).trans (am_ite (fun c2 => ?_) (fun c2 => ?_))
  · refine (ev_iincv (v := (1 : Int32)) (ls' := [.ref 128, .ref (am_bd b1), .int x2, .int (x3 + (1 : Int32))]) rfl am_ci_1 rfl rfl).trans ?_
    refine (ev_goto rfl).trans ?_
    rfl
  · refine (ev_const0 (v := (0 : Int32)) rfl am_ci_0).trans ?_
    exact ev_zret rfl (by decide)
-- 94 X6_findFitting
set_option maxRecDepth 10000 in
theorem sg_94_e0 (X : am_X) (I : Nat → Nat → Int32) (J : Nat → Nat → Int64) (b1 : Nat) (hb1 : b1 < 11) : am_ev X amP_94 0 [.ref 128, .ref (am_bd b1), .null, .null] [] (am_sh I J) = am_ev X amP_94 4 [.ref 128, .ref (am_bd b1), .int (0 : Int32), .int (0 : Int32)] [] (am_sh I J) := by
  refine (ev_const0 (v := (0 : Int32)) rfl am_ci_0).trans ?_
  refine (ev_istore (ls' := [.ref 128, .ref (am_bd b1), .int (0 : Int32), .null]) rfl (Nat.le_of_ble_eq_true rfl) rfl).trans ?_
  refine (ev_const0 (v := (0 : Int32)) rfl am_ci_0).trans ?_
  refine (ev_istore (ls' := [.ref 128, .ref (am_bd b1), .int (0 : Int32), .int (0 : Int32)]) rfl (Nat.le_of_ble_eq_true rfl) rfl).trans ?_
  rfl
theorem cl_94 (X : am_X) (I : Nat → Nat → Int32) (J : Nat → Nat → Int64) (b1 : Nat) : am_do X 94 [.ref 128, .ref (am_bd b1)] (am_sh I J) = am_ev X amP_94 0 [.ref 128, .ref (am_bd b1), .null, .null] [] (am_sh I J) := am_do_of rfl rfl rfl
set_option maxRecDepth 10000 in
theorem sg_94_4 (X : am_X) (I : Nat → Nat → Int32) (J : Nat → Nat → Int64) (b1 : Nat) (x2 : Int32) (x3 : Int32) (hb1 : b1 < 11) : am_ev X amP_94 4 [.ref 128, .ref (am_bd b1), .int x2, .int x3] [] (am_sh I J) = (if (I (am_bd b1) 1) ≤ x3 then some (some (.int x2), am_sh I J) else (am_do X 93 [.ref 128, .ref (am_bd b1), .int x3] (am_sh I J)).bind (fun q => am_ev X amP_94 15 [.ref 128, .ref (am_bd b1), .int x2, .int x3] (q.1.toList ++ [.int x3, .ref 131]) q.2)) := by
  refine (ev_iload rfl rfl).trans ?_
  refine (ev_aload rfl rfl).trans ?_
  refine (ev_getI rfl (by have := am_bd_lt hb1; omega) (am_Kbd hb1) (by decide) rfl).trans ?_
  refine (ev_icmp3 rfl).trans (am_ite (fun c1 => ?_) (fun c1 => ?_))
  · refine (ev_iload rfl rfl).trans ?_
    exact ev_iret rfl
  · refine (ev_aload rfl rfl).trans ?_
    refine (ev_getR rfl (by decide) am_K_128 (by decide) rfl am_R_128_6).trans ?_
    refine (ev_iload rfl rfl).trans ?_
    refine (ev_aload rfl rfl).trans ?_
    refine (ev_aload rfl rfl).trans ?_
    refine (ev_iload rfl rfl).trans ?_
    exact ev_invv (as := [.int x3, .ref (am_bd b1)]) rfl (by decide) am_K_128 rfl (by simp [Value.category])
set_option maxRecDepth 10000 in
theorem sg_94_15 (X : am_X) (I : Nat → Nat → Int32) (J : Nat → Nat → Int64) (b1 : Nat) (x2 : Int32) (x3 : Int32) (x4 : Int32) (x5 : Int32) (hb1 : b1 < 11) (z0 : x5 = 0 ∨ x5 = 1) : am_ev X amP_94 15 [.ref 128, .ref (am_bd b1), .int x2, .int x3] [.int x5, .int x4, .ref 131] (am_sh I J) = (if x4 < 0 ∨ 48 ≤ x4.toNatClampNeg then none else (if x3 < 0 ∨ 48 ≤ x3.toNatClampNeg then none else (if ((am_up I 131 x4.toNatClampNeg x5) 131 x3.toNatClampNeg) = 0 then am_ev X amP_94 4 [.ref 128, .ref (am_bd b1), .int (x2 + (0 : Int32)), .int (x3 + (1 : Int32))] [] (am_sh (am_up I 131 x4.toNatClampNeg x5) J) else am_ev X amP_94 4 [.ref 128, .ref (am_bd b1), .int (x2 + (1 : Int32)), .int (x3 + (1 : Int32))] [] (am_sh (am_up I 131 x4.toNatClampNeg x5) J)))) := by
  refine (ev_zast rfl (by decide) am_K_131 z0).trans (am_itn (fun g1 => ?_))
  refine (ev_iload rfl rfl).trans ?_
  refine (ev_aload rfl rfl).trans ?_
  refine (ev_getR rfl (by decide) am_K_128 (by decide) rfl am_R_128_6).trans ?_
  refine (ev_iload rfl rfl).trans ?_
  refine (ev_zald rfl (by decide) am_K_131).trans (am_itn (fun g2 => ?_))
  refine (ev_if0 rfl).trans (am_ite (fun c3 => ?_) (fun c3 => ?_))
  · refine (ev_const0 (v := (0 : Int32)) rfl am_ci_0).trans ?_
    refine (ev_iadd rfl).trans ?_
    refine (ev_istore (ls' := [.ref 128, .ref (am_bd b1), .int (x2 + (0 : Int32)), .int x3]) rfl (Nat.le_of_ble_eq_true rfl) rfl).trans ?_
    refine (ev_iincv (v := (1 : Int32)) (ls' := [.ref 128, .ref (am_bd b1), .int (x2 + (0 : Int32)), .int (x3 + (1 : Int32))]) rfl am_ci_1 rfl rfl).trans ?_
    refine (ev_goto rfl).trans ?_
    rfl
  · refine (ev_const0 (v := (1 : Int32)) rfl am_ci_1).trans ?_
    refine (ev_goto rfl).trans ?_
    refine (ev_iadd rfl).trans ?_
    refine (ev_istore (ls' := [.ref 128, .ref (am_bd b1), .int (x2 + (1 : Int32)), .int x3]) rfl (Nat.le_of_ble_eq_true rfl) rfl).trans ?_
    refine (ev_iincv (v := (1 : Int32)) (ls' := [.ref 128, .ref (am_bd b1), .int (x2 + (1 : Int32)), .int (x3 + (1 : Int32))]) rfl am_ci_1 rfl rfl).trans ?_
    refine (ev_goto rfl).trans ?_
    rfl
-- 95 X6_fittingPhase
set_option maxRecDepth 10000 in
theorem sg_95_e0 (X : am_X) (I : Nat → Nat → Int32) (J : Nat → Nat → Int64) (b1 : Nat) (x2 : Int32) (hb1 : b1 < 11) : am_ev X amP_95 0 [.ref 128, .ref (am_bd b1), .int x2, .null, .null, .null] [] (am_sh I J) = (am_do X 94 [.ref 128, .ref (am_bd b1)] (am_sh I J)).bind (fun q => am_ev X amP_95 3 [.ref 128, .ref (am_bd b1), .int x2, .null, .null, .null] (q.1.toList ++ []) q.2) := by
  refine (ev_aload rfl rfl).trans ?_
  refine (ev_aload rfl rfl).trans ?_
  exact ev_invv (as := [.ref (am_bd b1)]) rfl (by decide) am_K_128 rfl (by simp [Value.category])
theorem cl_95 (X : am_X) (I : Nat → Nat → Int32) (J : Nat → Nat → Int64) (b1 : Nat) (x2 : Int32) : am_do X 95 [.ref 128, .ref (am_bd b1), .int x2] (am_sh I J) = am_ev X amP_95 0 [.ref 128, .ref (am_bd b1), .int x2, .null, .null, .null] [] (am_sh I J) := am_do_of rfl rfl rfl
set_option maxRecDepth 10000 in
theorem sg_95_3 (X : am_X) (I : Nat → Nat → Int32) (J : Nat → Nat → Int64) (b1 : Nat) (x2 : Int32) (w3 : Value) (w4 : Value) (w5 : Value) (x6 : Int32) (hb1 : b1 < 11) (hw3 : w3.category = 1) (hw4 : w4.category = 1) (hw5 : w5.category = 1) : am_ev X amP_95 3 [.ref 128, .ref (am_bd b1), .int x2, w3, w4, w5] [.int x6] (am_sh I J) = (if ¬ x2 = (-1 : Int32) then am_ev X amP_95 13 [.ref 128, .ref (am_bd b1), .int x2, .int x6, .int (0 : Int32), .int (0 : Int32)] [] (am_sh I J) else some (some (.int x6), am_sh I J)) := by
  refine (ev_istore (ls' := [.ref 128, .ref (am_bd b1), .int x2, .int x6, w4, w5]) rfl (Nat.le_of_ble_eq_true rfl) rfl).trans ?_
  refine (ev_iload rfl rfl).trans ?_
  refine (ev_const0 (v := (-1 : Int32)) rfl am_ci_m1).trans ?_
  refine (ev_icmp1 rfl).trans (am_ite (fun c1 => ?_) (fun c1 => ?_))
  · refine (ev_const0 (v := (0 : Int32)) rfl am_ci_0).trans ?_
    refine (ev_istore (ls' := [.ref 128, .ref (am_bd b1), .int x2, .int x6, .int (0 : Int32), w5]) rfl (Nat.le_of_ble_eq_true rfl) rfl).trans ?_
    refine (ev_const0 (v := (0 : Int32)) rfl am_ci_0).trans ?_
    refine (ev_istore (ls' := [.ref 128, .ref (am_bd b1), .int x2, .int x6, .int (0 : Int32), .int (0 : Int32)]) rfl (Nat.le_of_ble_eq_true rfl) rfl).trans ?_
    rfl
  · refine (ev_iload rfl rfl).trans ?_
    exact ev_iret rfl
set_option maxRecDepth 10000 in
theorem sg_95_13 (X : am_X) (I : Nat → Nat → Int32) (J : Nat → Nat → Int64) (b1 : Nat) (x2 : Int32) (x3 : Int32) (x4 : Int32) (x5 : Int32) (hb1 : b1 < 11) : am_ev X amP_95 13 [.ref 128, .ref (am_bd b1), .int x2, .int x3, .int x4, .int x5] [] (am_sh I J) = (if (I (am_bd b1) 1) ≤ x5 then some (some (.int (-1 : Int32)), am_sh I J) else (if x5 < 0 ∨ 48 ≤ x5.toNatClampNeg then none else (if (I 131 x5.toNatClampNeg) = 0 then (if x5 < 0 ∨ 48 ≤ x5.toNatClampNeg then none else (if (I 131 x5.toNatClampNeg) = 0 then am_ev X amP_95 13 [.ref 128, .ref (am_bd b1), .int x2, .int x3, .int (x4 + (0 : Int32)), .int (x5 + (1 : Int32))] [] (am_sh I J) else am_ev X amP_95 13 [.ref 128, .ref (am_bd b1), .int x2, .int x3, .int (x4 + (1 : Int32)), .int (x5 + (1 : Int32))] [] (am_sh I J))) else (if ¬ x4 = x2 then (if x5 < 0 ∨ 48 ≤ x5.toNatClampNeg then none else (if (I 131 x5.toNatClampNeg) = 0 then am_ev X amP_95 13 [.ref 128, .ref (am_bd b1), .int x2, .int x3, .int (x4 + (0 : Int32)), .int (x5 + (1 : Int32))] [] (am_sh I J) else am_ev X amP_95 13 [.ref 128, .ref (am_bd b1), .int x2, .int x3, .int (x4 + (1 : Int32)), .int (x5 + (1 : Int32))] [] (am_sh I J))) else some (some (.int x5), am_sh I J))))) := by
  refine (ev_iload rfl rfl).trans ?_
  refine (ev_aload rfl rfl).trans ?_
  refine (ev_getI rfl (by have := am_bd_lt hb1; omega) (am_Kbd hb1) (by decide) rfl).trans ?_
  refine (ev_icmp3 rfl).trans (am_ite (fun c1 => ?_) (fun c1 => ?_))
  · refine (ev_const0 (v := (-1 : Int32)) rfl am_ci_m1).trans ?_
    exact ev_iret rfl
  · refine (ev_aload rfl rfl).trans ?_
    refine (ev_getR rfl (by decide) am_K_128 (by decide) rfl am_R_128_6).trans ?_
    refine (ev_iload rfl rfl).trans ?_
    refine (ev_zald rfl (by decide) am_K_131).trans (am_itn (fun g2 => ?_))
    refine (ev_if0 rfl).trans (am_ite (fun c3 => ?_) (fun c3 => ?_))
    · refine (ev_iload rfl rfl).trans ?_
      refine (ev_aload rfl rfl).trans ?_
      refine (ev_getR rfl (by decide) am_K_128 (by decide) rfl am_R_128_6).trans ?_
      refine (ev_iload rfl rfl).trans ?_
      refine (ev_zald rfl (by decide) am_K_131).trans (am_itn (fun g4 => ?_))
      refine (ev_if0 rfl).trans (am_ite (fun c5 => ?_) (fun c5 => ?_))
      · refine (ev_const0 (v := (0 : Int32)) rfl am_ci_0).trans ?_
        refine (ev_iadd rfl).trans ?_
        refine (ev_istore (ls' := [.ref 128, .ref (am_bd b1), .int x2, .int x3, .int (x4 + (0 : Int32)), .int x5]) rfl (Nat.le_of_ble_eq_true rfl) rfl).trans ?_
        refine (ev_iincv (v := (1 : Int32)) (ls' := [.ref 128, .ref (am_bd b1), .int x2, .int x3, .int (x4 + (0 : Int32)), .int (x5 + (1 : Int32))]) rfl am_ci_1 rfl rfl).trans ?_
        refine (ev_goto rfl).trans ?_
        rfl
      · refine (ev_const0 (v := (1 : Int32)) rfl am_ci_1).trans ?_
        refine (ev_goto rfl).trans ?_
        refine (ev_iadd rfl).trans ?_
        refine (ev_istore (ls' := [.ref 128, .ref (am_bd b1), .int x2, .int x3, .int (x4 + (1 : Int32)), .int x5]) rfl (Nat.le_of_ble_eq_true rfl) rfl).trans ?_
        refine (ev_iincv (v := (1 : Int32)) (ls' := [.ref 128, .ref (am_bd b1), .int x2, .int x3, .int (x4 + (1 : Int32)), .int (x5 + (1 : Int32))]) rfl am_ci_1 rfl rfl).trans ?_
        refine (ev_goto rfl).trans ?_
        rfl
    · refine (ev_iload rfl rfl).trans ?_
      refine (ev_iload rfl rfl).trans ?_
      refine (ev_icmp1 rfl).trans (am_ite (fun c4 => ?_) (fun c4 => ?_))
      · refine (ev_iload rfl rfl).trans ?_
        refine (ev_aload rfl rfl).trans ?_
        refine (ev_getR rfl (by decide) am_K_128 (by decide) rfl am_R_128_6).trans ?_
        refine (ev_iload rfl rfl).trans ?_
        refine (ev_zald rfl (by decide) am_K_131).trans (am_itn (fun g5 => ?_))
        refine (ev_if0 rfl).trans (am_ite (fun c6 => ?_) (fun c6 => ?_))
        · refine (ev_const0 (v := (0 : Int32)) rfl am_ci_0).trans ?_
          refine (ev_iadd rfl).trans ?_
          refine (ev_istore (ls' := [.ref 128, .ref (am_bd b1), .int x2, .int x3, .int (x4 + (0 : Int32)), .int x5]) rfl (Nat.le_of_ble_eq_true rfl) rfl).trans ?_
          refine (ev_iincv (v := (1 : Int32)) (ls' := [.ref 128, .ref (am_bd b1), .int x2, .int x3, .int (x4 + (0 : Int32)), .int (x5 + (1 : Int32))]) rfl am_ci_1 rfl rfl).trans ?_
          refine (ev_goto rfl).trans ?_
          rfl
        · refine (ev_const0 (v := (1 : Int32)) rfl am_ci_1).trans ?_
          refine (ev_goto rfl).trans ?_
          refine (ev_iadd rfl).trans ?_
          refine (ev_istore (ls' := [.ref 128, .ref (am_bd b1), .int x2, .int x3, .int (x4 + (1 : Int32)), .int x5]) rfl (Nat.le_of_ble_eq_true rfl) rfl).trans ?_
          refine (ev_iincv (v := (1 : Int32)) (ls' := [.ref 128, .ref (am_bd b1), .int x2, .int x3, .int (x4 + (1 : Int32)), .int (x5 + (1 : Int32))]) rfl am_ci_1 rfl rfl).trans ?_
          refine (ev_goto rfl).trans ?_
          rfl
      · refine (ev_iload rfl rfl).trans ?_
        exact ev_iret rfl
-- 96 X6_findTelling
set_option maxRecDepth 10000 in
theorem sg_96_e0 (X : am_X) (I : Nat → Nat → Int32) (J : Nat → Nat → Int64) (b1 : Nat) (hb1 : b1 < 11) : am_ev X amP_96 0 [.ref 128, .ref (am_bd b1), .null, .null] [] (am_sh I J) = (am_do X 94 [.ref 128, .ref (am_bd b1)] (am_sh I J)).bind (fun q => am_ev X amP_96 3 [.ref 128, .ref (am_bd b1), .null, .null] (q.1.toList ++ []) q.2) := by
  refine (ev_aload rfl rfl).trans ?_
  refine (ev_aload rfl rfl).trans ?_
  exact ev_invv (as := [.ref (am_bd b1)]) rfl (by decide) am_K_128 rfl (by simp [Value.category])
theorem cl_96 (X : am_X) (I : Nat → Nat → Int32) (J : Nat → Nat → Int64) (b1 : Nat) : am_do X 96 [.ref 128, .ref (am_bd b1)] (am_sh I J) = am_ev X amP_96 0 [.ref 128, .ref (am_bd b1), .null, .null] [] (am_sh I J) := am_do_of rfl rfl rfl
set_option maxRecDepth 10000 in
theorem sg_96_3 (X : am_X) (I : Nat → Nat → Int32) (J : Nat → Nat → Int64) (b1 : Nat) (w2 : Value) (w3 : Value) (x4 : Int32) (hb1 : b1 < 11) (hw2 : w2.category = 1) (hw3 : w3.category = 1) : am_ev X amP_96 3 [.ref 128, .ref (am_bd b1), w2, w3] [.int x4] (am_sh I J) = (if ¬ x4 = 0 then am_ev X amP_96 11 [.ref 128, .ref (am_bd b1), .int (0 : Int32), w3] [] (am_sh (am_up I 128 3 (49 : Int32)) J) else some (some (.int (0 : Int32)), am_sh I J)) := by
  refine (ev_if1 rfl).trans (am_ite (fun c1 => ?_) (fun c1 => ?_))
  · refine (ev_aload rfl rfl).trans ?_
    refine (ev_const1 (v := (49 : Int32)) rfl am_ci_49).trans ?_
    refine (ev_putI rfl (by decide) am_K_128 (by decide) rfl).trans ?_
    refine (ev_const0 (v := (0 : Int32)) rfl am_ci_0).trans ?_
    refine (ev_istore (ls' := [.ref 128, .ref (am_bd b1), .int (0 : Int32), w3]) rfl (Nat.le_of_ble_eq_true rfl) rfl).trans ?_
    rfl
  · refine (ev_const0 (v := (0 : Int32)) rfl am_ci_0).trans ?_
    exact ev_zret rfl (by decide)
set_option maxRecDepth 10000 in
theorem sg_96_11 (X : am_X) (I : Nat → Nat → Int32) (J : Nat → Nat → Int64) (b1 : Nat) (x2 : Int32) (w3 : Value) (hb1 : b1 < 11) (hw3 : w3.category = 1) : am_ev X amP_96 11 [.ref 128, .ref (am_bd b1), .int x2, w3] [] (am_sh I J) = (if (I (am_bd b1) 1) ≤ x2 then some (some (.int (1 : Int32)), am_sh I J) else (am_do X 97 [.ref 128, .ref (am_bd b1), .int x2] (am_sh I J)).bind (fun q => am_ev X amP_96 19 [.ref 128, .ref (am_bd b1), .int x2, w3] (q.1.toList ++ []) q.2)) := by
  refine (ev_iload rfl rfl).trans ?_
  refine (ev_aload rfl rfl).trans ?_
  refine (ev_getI rfl (by have := am_bd_lt hb1; omega) (am_Kbd hb1) (by decide) rfl).trans ?_
  refine (ev_icmp3 rfl).trans (am_ite (fun c1 => ?_) (fun c1 => ?_))
  · refine (ev_const0 (v := (1 : Int32)) rfl am_ci_1).trans ?_
    exact ev_zret rfl (by decide)
  · refine (ev_aload rfl rfl).trans ?_
    refine (ev_aload rfl rfl).trans ?_
    refine (ev_iload rfl rfl).trans ?_
    exact ev_invv (as := [.int x2, .ref (am_bd b1)]) rfl (by decide) am_K_128 rfl (by simp [Value.category])
set_option maxRecDepth 10000 in
theorem sg_96_19 (X : am_X) (I : Nat → Nat → Int32) (J : Nat → Nat → Int64) (b1 : Nat) (x2 : Int32) (w3 : Value) (x4 : Int32) (hb1 : b1 < 11) (hw3 : w3.category = 1) : am_ev X amP_96 19 [.ref 128, .ref (am_bd b1), .int x2, w3] [.int x4] (am_sh I J) = (if (I 128 3) ≤ x4 then am_ev X amP_96 11 [.ref 128, .ref (am_bd b1), .int (x2 + (1 : Int32)), .int x4] [] (am_sh I J) else am_ev X amP_96 11 [.ref 128, .ref (am_bd b1), .int (x2 + (1 : Int32)), .int x4] [] (am_sh (am_up (am_up I 128 3 x4) 128 2 x2) J)) := by
  refine (ev_istore (ls' := [.ref 128, .ref (am_bd b1), .int x2, .int x4]) rfl (Nat.le_of_ble_eq_true rfl) rfl).trans ?_
  refine (ev_iload rfl rfl).trans ?_
  refine (ev_aload rfl rfl).trans ?_
  refine (ev_getI rfl (by decide) am_K_128 (by decide) rfl).trans ?_
  refine (ev_icmp3 rfl).trans (am_ite (fun c1 => ?_) (fun c1 => ?_))
  · refine (ev_iincv (v := (1 : Int32)) (ls' := [.ref 128, .ref (am_bd b1), .int (x2 + (1 : Int32)), .int x4]) rfl am_ci_1 rfl rfl).trans ?_
    refine (ev_goto rfl).trans ?_
    rfl
  · refine (ev_aload rfl rfl).trans ?_
    refine (ev_iload rfl rfl).trans ?_
    refine (ev_putI rfl (by decide) am_K_128 (by decide) rfl).trans ?_
    refine (ev_aload rfl rfl).trans ?_
    refine (ev_iload rfl rfl).trans ?_
    refine (ev_putI rfl (by decide) am_K_128 (by decide) rfl).trans ?_
    refine (ev_iincv (v := (1 : Int32)) (ls' := [.ref 128, .ref (am_bd b1), .int (x2 + (1 : Int32)), .int x4]) rfl am_ci_1 rfl rfl).trans ?_
    refine (ev_goto rfl).trans ?_
    rfl
-- 97 X6_mostLeftAt
set_option maxRecDepth 10000 in
theorem sg_97_e0 (X : am_X) (I : Nat → Nat → Int32) (J : Nat → Nat → Int64) (b1 : Nat) (x2 : Int32) (hb1 : b1 < 11) : am_ev X amP_97 0 [.ref 128, .ref (am_bd b1), .int x2, .null, .null, .null] [] (am_sh I J) = (am_do X 360 [.ref 132, .int (0 : Int32)] (am_sh I J)).bind (fun q => am_ev X amP_97 4 [.ref 128, .ref (am_bd b1), .int x2, .null, .null, .null] (q.1.toList ++ []) q.2) := by
  refine (ev_aload rfl rfl).trans ?_
  refine (ev_getR rfl (by decide) am_K_128 (by decide) rfl am_R_128_7).trans ?_
  refine (ev_const0 (v := (0 : Int32)) rfl am_ci_0).trans ?_
  exact ev_invs (as := [.int (0 : Int32), .ref 132]) rfl rfl (by simp [Value.category])
theorem cl_97 (X : am_X) (I : Nat → Nat → Int32) (J : Nat → Nat → Int64) (b1 : Nat) (x2 : Int32) : am_do X 97 [.ref 128, .ref (am_bd b1), .int x2] (am_sh I J) = am_ev X amP_97 0 [.ref 128, .ref (am_bd b1), .int x2, .null, .null, .null] [] (am_sh I J) := am_do_of rfl rfl rfl
set_option maxRecDepth 10000 in
theorem sg_97_4 (X : am_X) (I : Nat → Nat → Int32) (J : Nat → Nat → Int64) (b1 : Nat) (x2 : Int32) (w3 : Value) (w4 : Value) (w5 : Value) (hb1 : b1 < 11) (hw3 : w3.category = 1) (hw4 : w4.category = 1) (hw5 : w5.category = 1) : am_ev X amP_97 4 [.ref 128, .ref (am_bd b1), .int x2, w3, w4, w5] [] (am_sh I J) = am_ev X amP_97 8 [.ref 128, .ref (am_bd b1), .int x2, .int (0 : Int32), .int (0 : Int32), w5] [] (am_sh I J) := by
  refine (ev_const0 (v := (0 : Int32)) rfl am_ci_0).trans ?_
  refine (ev_istore (ls' := [.ref 128, .ref (am_bd b1), .int x2, .int (0 : Int32), w4, w5]) rfl (Nat.le_of_ble_eq_true rfl) rfl).trans ?_
  refine (ev_const0 (v := (0 : Int32)) rfl am_ci_0).trans ?_
  refine (ev_istore (ls' := [.ref 128, .ref (am_bd b1), .int x2, .int (0 : Int32), .int (0 : Int32), w5]) rfl (Nat.le_of_ble_eq_true rfl) rfl).trans ?_
  rfl
set_option maxRecDepth 10000 in
theorem sg_97_8 (X : am_X) (I : Nat → Nat → Int32) (J : Nat → Nat → Int64) (b1 : Nat) (x2 : Int32) (x3 : Int32) (x4 : Int32) (w5 : Value) (hb1 : b1 < 11) (hw5 : w5.category = 1) : am_ev X amP_97 8 [.ref 128, .ref (am_bd b1), .int x2, .int x3, .int x4, w5] [] (am_sh I J) = (if (I (am_bd b1) 1) ≤ x4 then some (some (.int x3), am_sh I J) else (if x4 < 0 ∨ 48 ≤ x4.toNatClampNeg then none else (if (I 131 x4.toNatClampNeg) = 0 then am_ev X amP_97 8 [.ref 128, .ref (am_bd b1), .int x2, .int x3, .int (x4 + (1 : Int32)), w5] [] (am_sh I J) else (am_do X 92 [.ref (am_bd b1), .int x4, .int x2] (am_sh I J)).bind (fun q => am_ev X amP_97 21 [.ref 128, .ref (am_bd b1), .int x2, .int x3, .int x4, w5] (q.1.toList ++ []) q.2)))) := by
  refine (ev_iload rfl rfl).trans ?_
  refine (ev_aload rfl rfl).trans ?_
  refine (ev_getI rfl (by have := am_bd_lt hb1; omega) (am_Kbd hb1) (by decide) rfl).trans ?_
  refine (ev_icmp3 rfl).trans (am_ite (fun c1 => ?_) (fun c1 => ?_))
  · refine (ev_iload rfl rfl).trans ?_
    exact ev_iret rfl
  · refine (ev_aload rfl rfl).trans ?_
    refine (ev_getR rfl (by decide) am_K_128 (by decide) rfl am_R_128_6).trans ?_
    refine (ev_iload rfl rfl).trans ?_
    refine (ev_zald rfl (by decide) am_K_131).trans (am_itn (fun g2 => ?_))
    refine (ev_if0 rfl).trans (am_ite (fun c3 => ?_) (fun c3 => ?_))
    · refine (ev_iincv (v := (1 : Int32)) (ls' := [.ref 128, .ref (am_bd b1), .int x2, .int x3, .int (x4 + (1 : Int32)), w5]) rfl am_ci_1 rfl rfl).trans ?_
      refine (ev_goto rfl).trans ?_
      rfl
    · refine (ev_aload rfl rfl).trans ?_
      refine (ev_iload rfl rfl).trans ?_
      refine (ev_iload rfl rfl).trans ?_
      exact ev_invs (as := [.int x2, .int x4, .ref (am_bd b1)]) rfl rfl (by simp [Value.category])
set_option maxRecDepth 10000 in
theorem sg_97_21 (X : am_X) (I : Nat → Nat → Int32) (J : Nat → Nat → Int64) (b1 : Nat) (x2 : Int32) (x3 : Int32) (x4 : Int32) (w5 : Value) (x6 : Int32) (hb1 : b1 < 11) (hw5 : w5.category = 1) : am_ev X amP_97 21 [.ref 128, .ref (am_bd b1), .int x2, .int x3, .int x4, w5] [.int x6] (am_sh I J) = (if x6 < 0 ∨ 4 ≤ x6.toNatClampNeg then none else (if x6 < 0 ∨ 4 ≤ x6.toNatClampNeg then none else (if x6 < 0 ∨ 4 ≤ x6.toNatClampNeg then none else (am_do X 352 [.int x3, .int ((am_up I 132 x6.toNatClampNeg ((I 132 x6.toNatClampNeg) + (1 : Int32))) 132 x6.toNatClampNeg)] (am_sh (am_up I 132 x6.toNatClampNeg ((I 132 x6.toNatClampNeg) + (1 : Int32))) J)).bind (fun q => am_ev X amP_97 36 [.ref 128, .ref (am_bd b1), .int x2, .int x3, .int x4, .int x6] (q.1.toList ++ []) q.2)))) := by
  refine (ev_istore (ls' := [.ref 128, .ref (am_bd b1), .int x2, .int x3, .int x4, .int x6]) rfl (Nat.le_of_ble_eq_true rfl) rfl).trans ?_
  refine (ev_aload rfl rfl).trans ?_
  refine (ev_getR rfl (by decide) am_K_128 (by decide) rfl am_R_128_7).trans ?_
  refine (ev_iload rfl rfl).trans ?_
  refine (ev_dup2 rfl).trans ?_
  refine (ev_iald rfl (by decide) am_K_132).trans (am_itn (fun g1 => ?_))
  refine (ev_const0 (v := (1 : Int32)) rfl am_ci_1).trans ?_
  refine (ev_iadd rfl).trans ?_
  refine (ev_iast rfl (by decide) am_K_132).trans (am_itn (fun g2 => ?_))
  refine (ev_iload rfl rfl).trans ?_
  refine (ev_aload rfl rfl).trans ?_
  refine (ev_getR rfl (by decide) am_K_128 (by decide) rfl am_R_128_7).trans ?_
  refine (ev_iload rfl rfl).trans ?_
  refine (ev_iald rfl (by decide) am_K_132).trans (am_itn (fun g3 => ?_))
  exact ev_invs (as := [.int ((am_up I 132 x6.toNatClampNeg ((I 132 x6.toNatClampNeg) + (1 : Int32))) 132 x6.toNatClampNeg), .int x3]) rfl rfl (by simp [Value.category])
set_option maxRecDepth 10000 in
theorem sg_97_36 (X : am_X) (I : Nat → Nat → Int32) (J : Nat → Nat → Int64) (b1 : Nat) (x2 : Int32) (x3 : Int32) (x4 : Int32) (x5 : Int32) (x6 : Int32) (hb1 : b1 < 11) : am_ev X amP_97 36 [.ref 128, .ref (am_bd b1), .int x2, .int x3, .int x4, .int x5] [.int x6] (am_sh I J) = am_ev X amP_97 8 [.ref 128, .ref (am_bd b1), .int x2, .int x6, .int (x4 + (1 : Int32)), .int x5] [] (am_sh I J) := by
  refine (ev_istore (ls' := [.ref 128, .ref (am_bd b1), .int x2, .int x6, .int x4, .int x5]) rfl (Nat.le_of_ble_eq_true rfl) rfl).trans ?_
  refine (ev_iincv (v := (1 : Int32)) (ls' := [.ref 128, .ref (am_bd b1), .int x2, .int x6, .int (x4 + (1 : Int32)), .int x5]) rfl am_ci_1 rfl rfl).trans ?_
  refine (ev_goto rfl).trans ?_
  rfl
-- 99 X7_isBody
set_option maxRecDepth 10000 in
theorem sg_99_e0 (X : am_X) (I : Nat → Nat → Int32) (J : Nat → Nat → Int64) (x1 : Int32) : am_ev X amP_99 0 [.ref 16, .int x1] [] (am_sh I J) = (if x1 < 0 then some (some (.int (0 : Int32)), am_sh I J) else (if (I 16 2) ≤ x1 then some (some (.int (0 : Int32)), am_sh I J) else some (some (.int (1 : Int32)), am_sh I J))) := by
  refine (ev_iload rfl rfl).trans ?_
  refine (ev_if2 rfl).trans (am_ite (fun c1 => ?_) (fun c1 => ?_))
  · refine (ev_const0 (v := (0 : Int32)) rfl am_ci_0).trans ?_
    exact ev_zret rfl (by decide)
  · refine (ev_iload rfl rfl).trans ?_
    refine (ev_aload rfl rfl).trans ?_
    refine (ev_getI rfl (by decide) am_K_16 (by decide) rfl).trans ?_
    refine (ev_icmp3 rfl).trans (am_ite (fun c2 => ?_) (fun c2 => ?_))
    · refine (ev_const0 (v := (0 : Int32)) rfl am_ci_0).trans ?_
      exact ev_zret rfl (by decide)
    · refine (ev_const0 (v := (1 : Int32)) rfl am_ci_1).trans ?_
      refine (ev_goto rfl).trans ?_
      exact ev_zret rfl (by decide)
theorem cl_99 (X : am_X) (I : Nat → Nat → Int32) (J : Nat → Nat → Int64) (x1 : Int32) : am_do X 99 [.ref 16, .int x1] (am_sh I J) = am_ev X amP_99 0 [.ref 16, .int x1] [] (am_sh I J) := am_do_of rfl rfl rfl
-- 100 X7_areTwo
set_option maxRecDepth 10000 in
theorem sg_100_e0 (X : am_X) (I : Nat → Nat → Int32) (J : Nat → Nat → Int64) (x1 : Int32) (x2 : Int32) : am_ev X amP_100 0 [.ref 16, .int x1, .int x2] [] (am_sh I J) = (am_do X 99 [.ref 16, .int x1] (am_sh I J)).bind (fun q => am_ev X amP_100 3 [.ref 16, .int x1, .int x2] (q.1.toList ++ []) q.2) := by
  refine (ev_aload rfl rfl).trans ?_
  refine (ev_iload rfl rfl).trans ?_
  exact ev_invv (as := [.int x1]) rfl (by decide) am_K_16 rfl (by simp [Value.category])
theorem cl_100 (X : am_X) (I : Nat → Nat → Int32) (J : Nat → Nat → Int64) (x1 : Int32) (x2 : Int32) : am_do X 100 [.ref 16, .int x1, .int x2] (am_sh I J) = am_ev X amP_100 0 [.ref 16, .int x1, .int x2] [] (am_sh I J) := am_do_of rfl rfl rfl
set_option maxRecDepth 10000 in
theorem sg_100_3 (X : am_X) (I : Nat → Nat → Int32) (J : Nat → Nat → Int64) (x1 : Int32) (x2 : Int32) (x3 : Int32) : am_ev X amP_100 3 [.ref 16, .int x1, .int x2] [.int x3] (am_sh I J) = (if x3 = 0 then some (some (.int (0 : Int32)), am_sh I J) else (am_do X 99 [.ref 16, .int x2] (am_sh I J)).bind (fun q => am_ev X amP_100 7 [.ref 16, .int x1, .int x2] (q.1.toList ++ []) q.2)) := by
  refine (ev_if0 rfl).trans (am_ite (fun c1 => ?_) (fun c1 => ?_))
  · refine (ev_const0 (v := (0 : Int32)) rfl am_ci_0).trans ?_
    exact ev_zret rfl (by decide)
  · refine (ev_aload rfl rfl).trans ?_
    refine (ev_iload rfl rfl).trans ?_
    exact ev_invv (as := [.int x2]) rfl (by decide) am_K_16 rfl (by simp [Value.category])
set_option maxRecDepth 10000 in
theorem sg_100_7 (X : am_X) (I : Nat → Nat → Int32) (J : Nat → Nat → Int64) (x1 : Int32) (x2 : Int32) (x3 : Int32) : am_ev X amP_100 7 [.ref 16, .int x1, .int x2] [.int x3] (am_sh I J) = (if x3 = 0 then some (some (.int (0 : Int32)), am_sh I J) else (if x1 = x2 then some (some (.int (0 : Int32)), am_sh I J) else some (some (.int (1 : Int32)), am_sh I J))) := by
  refine (ev_if0 rfl).trans (am_ite (fun c1 => ?_) (fun c1 => ?_))
  · refine (ev_const0 (v := (0 : Int32)) rfl am_ci_0).trans ?_
    exact ev_zret rfl (by decide)
  · refine (ev_iload rfl rfl).trans ?_
    refine (ev_iload rfl rfl).trans ?_
    refine (ev_icmp0 rfl).trans (am_ite (fun c2 => ?_) (fun c2 => ?_))
    · refine (ev_const0 (v := (0 : Int32)) rfl am_ci_0).trans ?_
      exact ev_zret rfl (by decide)
    · refine (ev_const0 (v := (1 : Int32)) rfl am_ci_1).trans ?_
      refine (ev_goto rfl).trans ?_
      exact ev_zret rfl (by decide)
-- 101 X7_isUp
set_option maxRecDepth 10000 in
theorem sg_101_e0 (X : am_X) (I : Nat → Nat → Int32) (J : Nat → Nat → Int64) (x1 : Int32) : am_ev X amP_101 0 [.ref 16, .int x1] [] (am_sh I J) = (am_do X 99 [.ref 16, .int x1] (am_sh I J)).bind (fun q => am_ev X amP_101 3 [.ref 16, .int x1] (q.1.toList ++ []) q.2) := by
  refine (ev_aload rfl rfl).trans ?_
  refine (ev_iload rfl rfl).trans ?_
  exact ev_invv (as := [.int x1]) rfl (by decide) am_K_16 rfl (by simp [Value.category])
theorem cl_101 (X : am_X) (I : Nat → Nat → Int32) (J : Nat → Nat → Int64) (x1 : Int32) : am_do X 101 [.ref 16, .int x1] (am_sh I J) = am_ev X amP_101 0 [.ref 16, .int x1] [] (am_sh I J) := am_do_of rfl rfl rfl
set_option maxRecDepth 10000 in
theorem sg_101_3 (X : am_X) (I : Nat → Nat → Int32) (J : Nat → Nat → Int64) (x1 : Int32) (x2 : Int32) : am_ev X amP_101 3 [.ref 16, .int x1] [.int x2] (am_sh I J) = (if x2 = 0 then some (some (.int (0 : Int32)), am_sh I J) else (if x1 < 0 ∨ 10 ≤ x1.toNatClampNeg then none else (if ¬ (I (am_bd (x1.toNatClampNeg) + 1) 8) = (1 : Int32) then some (some (.int (0 : Int32)), am_sh I J) else some (some (.int (1 : Int32)), am_sh I J)))) := by
  refine (ev_if0 rfl).trans (am_ite (fun c1 => ?_) (fun c1 => ?_))
  · refine (ev_const0 (v := (0 : Int32)) rfl am_ci_0).trans ?_
    exact ev_zret rfl (by decide)
  · refine (ev_aload rfl rfl).trans ?_
    refine (ev_getR rfl (by decide) am_K_16 (by decide) rfl am_R_16_0).trans ?_
    refine (ev_iload rfl rfl).trans ?_
    refine (ev_aald rfl (by decide) (Or.inl am_K_17) (f := am_bd) (fun k hk => am_R17 hk)).trans (am_itn (fun g2 => ?_))
    refine (ev_getR rfl (by have := am_bd_lt (by omega : (x1.toNatClampNeg) < 11); omega) (am_Kbd (by omega : (x1.toNatClampNeg) < 11)) (by decide) rfl (am_Rb2 (by omega : (x1.toNatClampNeg) < 11))).trans ?_
    refine (ev_const1 (v := (8 : Int32)) rfl am_ci_8).trans ?_
    refine (ev_ialdC (jn := 8) rfl (by have := am_bd_lt (by omega : (x1.toNatClampNeg) < 11); omega) (am_Kbn (by omega : (x1.toNatClampNeg) < 11)) (by decide) (by decide)).trans ?_
    refine (ev_const0 (v := (1 : Int32)) rfl am_ci_1).trans ?_
    refine (ev_icmp1 rfl).trans (am_ite (fun c3 => ?_) (fun c3 => ?_))
    · refine (ev_const0 (v := (0 : Int32)) rfl am_ci_0).trans ?_
      exact ev_zret rfl (by decide)
    · refine (ev_const0 (v := (1 : Int32)) rfl am_ci_1).trans ?_
      refine (ev_goto rfl).trans ?_
      exact ev_zret rfl (by decide)
-- 102 X7_upBits
set_option maxRecDepth 10000 in
theorem sg_102_e0 (X : am_X) (I : Nat → Nat → Int32) (J : Nat → Nat → Int64) : am_ev X amP_102 0 [.ref 16, .null, .null] [] (am_sh I J) = am_ev X amP_102 4 [.ref 16, .int (0 : Int32), .int (0 : Int32)] [] (am_sh I J) := by
  refine (ev_const0 (v := (0 : Int32)) rfl am_ci_0).trans ?_
  refine (ev_istore (ls' := [.ref 16, .int (0 : Int32), .null]) rfl (Nat.le_of_ble_eq_true rfl) rfl).trans ?_
  refine (ev_const0 (v := (0 : Int32)) rfl am_ci_0).trans ?_
  refine (ev_istore (ls' := [.ref 16, .int (0 : Int32), .int (0 : Int32)]) rfl (Nat.le_of_ble_eq_true rfl) rfl).trans ?_
  rfl
theorem cl_102 (X : am_X) (I : Nat → Nat → Int32) (J : Nat → Nat → Int64) : am_do X 102 [.ref 16] (am_sh I J) = am_ev X amP_102 0 [.ref 16, .null, .null] [] (am_sh I J) := am_do_of rfl rfl rfl
set_option maxRecDepth 10000 in
theorem sg_102_4 (X : am_X) (I : Nat → Nat → Int32) (J : Nat → Nat → Int64) (x1 : Int32) (x2 : Int32) : am_ev X amP_102 4 [.ref 16, .int x1, .int x2] [] (am_sh I J) = (if (I 16 2) ≤ x2 then some (some (.int x1), am_sh I J) else (if x2 < 0 ∨ 10 ≤ x2.toNatClampNeg then none else am_ev X amP_102 4 [.ref 16, .int (x1 ||| ((I (am_bd (x2.toNatClampNeg) + 1) 8) <<< (x2 &&& 31))), .int (x2 + (1 : Int32))] [] (am_sh I J))) := by
  refine (ev_iload rfl rfl).trans ?_
  refine (ev_aload rfl rfl).trans ?_
  refine (ev_getI rfl (by decide) am_K_16 (by decide) rfl).trans ?_
  refine (ev_icmp3 rfl).trans (am_ite (fun c1 => ?_) (fun c1 => ?_))
  · refine (ev_iload rfl rfl).trans ?_
    exact ev_iret rfl
  · refine (ev_iload rfl rfl).trans ?_
    refine (ev_aload rfl rfl).trans ?_
    refine (ev_getR rfl (by decide) am_K_16 (by decide) rfl am_R_16_0).trans ?_
    refine (ev_iload rfl rfl).trans ?_
    refine (ev_aald rfl (by decide) (Or.inl am_K_17) (f := am_bd) (fun k hk => am_R17 hk)).trans (am_itn (fun g2 => ?_))
    refine (ev_getR rfl (by have := am_bd_lt (by omega : (x2.toNatClampNeg) < 11); omega) (am_Kbd (by omega : (x2.toNatClampNeg) < 11)) (by decide) rfl (am_Rb2 (by omega : (x2.toNatClampNeg) < 11))).trans ?_
    refine (ev_const1 (v := (8 : Int32)) rfl am_ci_8).trans ?_
    refine (ev_ialdC (jn := 8) rfl (by have := am_bd_lt (by omega : (x2.toNatClampNeg) < 11); omega) (am_Kbn (by omega : (x2.toNatClampNeg) < 11)) (by decide) (by decide)).trans ?_
    refine (ev_iload rfl rfl).trans ?_
    refine (ev_ishl rfl).trans ?_
    refine (ev_ior rfl).trans ?_
    refine (ev_istore (ls' := [.ref 16, .int (x1 ||| ((I (am_bd (x2.toNatClampNeg) + 1) 8) <<< (x2 &&& 31))), .int x2]) rfl (Nat.le_of_ble_eq_true rfl) rfl).trans ?_
    refine (ev_iincv (v := (1 : Int32)) (ls' := [.ref 16, .int (x1 ||| ((I (am_bd (x2.toNatClampNeg) + 1) 8) <<< (x2 &&& 31))), .int (x2 + (1 : Int32))]) rfl am_ci_1 rfl rfl).trans ?_
    refine (ev_goto rfl).trans ?_
    rfl
-- 103 X7_bodyOfName
set_option maxRecDepth 10000 in
theorem sg_103_e0 (X : am_X) (I : Nat → Nat → Int32) (J : Nat → Nat → Int64) (x1 : Int32) : am_ev X amP_103 0 [.ref 16, .int x1, .null] [] (am_sh I J) = am_ev X amP_103 2 [.ref 16, .int x1, .int (0 : Int32)] [] (am_sh I J) := by
  refine (ev_const0 (v := (0 : Int32)) rfl am_ci_0).trans ?_
  refine (ev_istore (ls' := [.ref 16, .int x1, .int (0 : Int32)]) rfl (Nat.le_of_ble_eq_true rfl) rfl).trans ?_
  rfl
theorem cl_103 (X : am_X) (I : Nat → Nat → Int32) (J : Nat → Nat → Int64) (x1 : Int32) : am_do X 103 [.ref 16, .int x1] (am_sh I J) = am_ev X amP_103 0 [.ref 16, .int x1, .null] [] (am_sh I J) := am_do_of rfl rfl rfl
set_option maxRecDepth 10000 in
theorem sg_103_2 (X : am_X) (I : Nat → Nat → Int32) (J : Nat → Nat → Int64) (x1 : Int32) (x2 : Int32) : am_ev X amP_103 2 [.ref 16, .int x1, .int x2] [] (am_sh I J) = (if (I 16 2) ≤ x2 then some (some (.int (-1 : Int32)), am_sh I J) else (if x2 < 0 ∨ 10 ≤ x2.toNatClampNeg then none else (if ¬ (I (am_bd (x2.toNatClampNeg)) 0) = x1 then am_ev X amP_103 2 [.ref 16, .int x1, .int (x2 + (1 : Int32))] [] (am_sh I J) else some (some (.int x2), am_sh I J)))) := by
  refine (ev_iload rfl rfl).trans ?_
  refine (ev_aload rfl rfl).trans ?_
  refine (ev_getI rfl (by decide) am_K_16 (by decide) rfl).trans ?_
  refine (ev_icmp3 rfl).trans (am_ite (fun c1 => ?_) (fun c1 => ?_))
  · refine (ev_const0 (v := (-1 : Int32)) rfl am_ci_m1).trans ?_
    exact ev_iret rfl
  · refine (ev_aload rfl rfl).trans ?_
    refine (ev_getR rfl (by decide) am_K_16 (by decide) rfl am_R_16_0).trans ?_
    refine (ev_iload rfl rfl).trans ?_
    refine (ev_aald rfl (by decide) (Or.inl am_K_17) (f := am_bd) (fun k hk => am_R17 hk)).trans (am_itn (fun g2 => ?_))
    refine (ev_getI rfl (by have := am_bd_lt (by omega : (x2.toNatClampNeg) < 11); omega) (am_Kbd (by omega : (x2.toNatClampNeg) < 11)) (by decide) rfl).trans ?_
    refine (ev_iload rfl rfl).trans ?_
    refine (ev_icmp1 rfl).trans (am_ite (fun c3 => ?_) (fun c3 => ?_))
    · refine (ev_iincv (v := (1 : Int32)) (ls' := [.ref 16, .int x1, .int (x2 + (1 : Int32))]) rfl am_ci_1 rfl rfl).trans ?_
      refine (ev_goto rfl).trans ?_
      rfl
    · refine (ev_iload rfl rfl).trans ?_
      exact ev_iret rfl
-- 104 X7_countUpAt
set_option maxRecDepth 10000 in
theorem sg_104_e0 (X : am_X) (I : Nat → Nat → Int32) (J : Nat → Nat → Int64) (x1 : Int32) : am_ev X amP_104 0 [.ref 16, .int x1, .null, .null, .null] [] (am_sh I J) = am_ev X amP_104 4 [.ref 16, .int x1, .int (0 : Int32), .int (0 : Int32), .null] [] (am_sh I J) := by
  refine (ev_const0 (v := (0 : Int32)) rfl am_ci_0).trans ?_
  refine (ev_istore (ls' := [.ref 16, .int x1, .int (0 : Int32), .null, .null]) rfl (Nat.le_of_ble_eq_true rfl) rfl).trans ?_
  refine (ev_const0 (v := (0 : Int32)) rfl am_ci_0).trans ?_
  refine (ev_istore (ls' := [.ref 16, .int x1, .int (0 : Int32), .int (0 : Int32), .null]) rfl (Nat.le_of_ble_eq_true rfl) rfl).trans ?_
  rfl
theorem cl_104 (X : am_X) (I : Nat → Nat → Int32) (J : Nat → Nat → Int64) (x1 : Int32) : am_do X 104 [.ref 16, .int x1] (am_sh I J) = am_ev X amP_104 0 [.ref 16, .int x1, .null, .null, .null] [] (am_sh I J) := am_do_of rfl rfl rfl
set_option maxRecDepth 10000 in
theorem sg_104_4 (X : am_X) (I : Nat → Nat → Int32) (J : Nat → Nat → Int64) (x1 : Int32) (x2 : Int32) (x3 : Int32) (w4 : Value) (hw4 : w4.category = 1) : am_ev X amP_104 4 [.ref 16, .int x1, .int x2, .int x3, w4] [] (am_sh I J) = (if (I 16 2) ≤ x3 then some (some (.int x2), am_sh I J) else (if x3 < 0 ∨ 10 ≤ x3.toNatClampNeg then none else (if ¬ (I (am_bd (x3.toNatClampNeg) + 1) 8) = (1 : Int32) then am_ev X amP_104 4 [.ref 16, .int x1, .int x2, .int (x3 + (1 : Int32)), .ref (am_bd (x3.toNatClampNeg) + 1)] [] (am_sh I J) else (if x1 < (I (am_bd (x3.toNatClampNeg) + 1) 0) then am_ev X amP_104 4 [.ref 16, .int x1, .int x2, .int (x3 + (1 : Int32)), .ref (am_bd (x3.toNatClampNeg) + 1)] [] (am_sh I J) else (if (I (am_bd (x3.toNatClampNeg) + 1) 1) < x1 then am_ev X amP_104 4 [.ref 16, .int x1, .int x2, .int (x3 + (1 : Int32)), .ref (am_bd (x3.toNatClampNeg) + 1)] [] (am_sh I J) else am_ev X amP_104 4 [.ref 16, .int x1, .int (x2 + (1 : Int32)), .int (x3 + (1 : Int32)), .ref (am_bd (x3.toNatClampNeg) + 1)] [] (am_sh I J)))))) := by
  refine (ev_iload rfl rfl).trans ?_
  refine (ev_aload rfl rfl).trans ?_
  refine (ev_getI rfl (by decide) am_K_16 (by decide) rfl).trans ?_
  refine (ev_icmp3 rfl).trans (am_ite (fun c1 => ?_) (fun c1 => ?_))
  · refine (ev_iload rfl rfl).trans ?_
    exact ev_iret rfl
  · refine (ev_aload rfl rfl).trans ?_
    refine (ev_getR rfl (by decide) am_K_16 (by decide) rfl am_R_16_0).trans ?_
    refine (ev_iload rfl rfl).trans ?_
    refine (ev_aald rfl (by decide) (Or.inl am_K_17) (f := am_bd) (fun k hk => am_R17 hk)).trans (am_itn (fun g2 => ?_))
    refine (ev_getR rfl (by have := am_bd_lt (by omega : (x3.toNatClampNeg) < 11); omega) (am_Kbd (by omega : (x3.toNatClampNeg) < 11)) (by decide) rfl (am_Rb2 (by omega : (x3.toNatClampNeg) < 11))).trans ?_
    refine (ev_astore (ls' := [.ref 16, .int x1, .int x2, .int x3, .ref (am_bd (x3.toNatClampNeg) + 1)]) rfl (Nat.le_of_ble_eq_true rfl) rfl).trans ?_
    refine (ev_aload rfl rfl).trans ?_
    refine (ev_const1 (v := (8 : Int32)) rfl am_ci_8).trans ?_
    refine (ev_ialdC (jn := 8) rfl (by have := am_bd_lt (by omega : (x3.toNatClampNeg) < 11); omega) (am_Kbn (by omega : (x3.toNatClampNeg) < 11)) (by decide) (by decide)).trans ?_
    refine (ev_const0 (v := (1 : Int32)) rfl am_ci_1).trans ?_
    refine (ev_icmp1 rfl).trans (am_ite (fun c3 => ?_) (fun c3 => ?_))
    · refine (ev_iincv (v := (1 : Int32)) (ls' := [.ref 16, .int x1, .int x2, .int (x3 + (1 : Int32)), .ref (am_bd (x3.toNatClampNeg) + 1)]) rfl am_ci_1 rfl rfl).trans ?_
      refine (ev_goto rfl).trans ?_
      rfl
    · refine (ev_aload rfl rfl).trans ?_
      refine (ev_const0 (v := (0 : Int32)) rfl am_ci_0).trans ?_
      refine (ev_ialdC (jn := 0) rfl (by have := am_bd_lt (by omega : (x3.toNatClampNeg) < 11); omega) (am_Kbn (by omega : (x3.toNatClampNeg) < 11)) (by decide) (by decide)).trans ?_
      refine (ev_iload rfl rfl).trans ?_
      refine (ev_icmp4 rfl).trans (am_ite (fun c4 => ?_) (fun c4 => ?_))
      · refine (ev_iincv (v := (1 : Int32)) (ls' := [.ref 16, .int x1, .int x2, .int (x3 + (1 : Int32)), .ref (am_bd (x3.toNatClampNeg) + 1)]) rfl am_ci_1 rfl rfl).trans ?_
        refine (ev_goto rfl).trans ?_
        rfl
      · refine (ev_iload rfl rfl).trans ?_
        refine (ev_aload rfl rfl).trans ?_
        refine (ev_const0 (v := (1 : Int32)) rfl am_ci_1).trans ?_
        refine (ev_ialdC (jn := 1) rfl (by have := am_bd_lt (by omega : (x3.toNatClampNeg) < 11); omega) (am_Kbn (by omega : (x3.toNatClampNeg) < 11)) (by decide) (by decide)).trans ?_
        refine (ev_icmp4 rfl).trans (am_ite (fun c5 => ?_) (fun c5 => ?_))
        · refine (ev_iincv (v := (1 : Int32)) (ls' := [.ref 16, .int x1, .int x2, .int (x3 + (1 : Int32)), .ref (am_bd (x3.toNatClampNeg) + 1)]) rfl am_ci_1 rfl rfl).trans ?_
          refine (ev_goto rfl).trans ?_
          rfl
        · refine (ev_iincv (v := (1 : Int32)) (ls' := [.ref 16, .int x1, .int (x2 + (1 : Int32)), .int x3, .ref (am_bd (x3.toNatClampNeg) + 1)]) rfl am_ci_1 rfl rfl).trans ?_
          refine (ev_iincv (v := (1 : Int32)) (ls' := [.ref 16, .int x1, .int (x2 + (1 : Int32)), .int (x3 + (1 : Int32)), .ref (am_bd (x3.toNatClampNeg) + 1)]) rfl am_ci_1 rfl rfl).trans ?_
          refine (ev_goto rfl).trans ?_
          rfl
-- 105 X7_crowdedHeight
set_option maxRecDepth 10000 in
theorem sg_105_e0 (X : am_X) (I : Nat → Nat → Int32) (J : Nat → Nat → Int64) : am_ev X amP_105 0 [.ref 16, .null, .null, .null, .null, .null] [] (am_sh I J) = am_ev X amP_105 6 [.ref 16, .int (0 : Int32), .int (-1 : Int32), .int (0 : Int32), .null, .null] [] (am_sh I J) := by
  refine (ev_const0 (v := (0 : Int32)) rfl am_ci_0).trans ?_
  refine (ev_istore (ls' := [.ref 16, .int (0 : Int32), .null, .null, .null, .null]) rfl (Nat.le_of_ble_eq_true rfl) rfl).trans ?_
  refine (ev_const0 (v := (-1 : Int32)) rfl am_ci_m1).trans ?_
  refine (ev_istore (ls' := [.ref 16, .int (0 : Int32), .int (-1 : Int32), .null, .null, .null]) rfl (Nat.le_of_ble_eq_true rfl) rfl).trans ?_
  refine (ev_const0 (v := (0 : Int32)) rfl am_ci_0).trans ?_
  refine (ev_istore (ls' := [.ref 16, .int (0 : Int32), .int (-1 : Int32), .int (0 : Int32), .null, .null]) rfl (Nat.le_of_ble_eq_true rfl) rfl).trans ?_
  rfl
theorem cl_105 (X : am_X) (I : Nat → Nat → Int32) (J : Nat → Nat → Int64) : am_do X 105 [.ref 16] (am_sh I J) = am_ev X amP_105 0 [.ref 16, .null, .null, .null, .null, .null] [] (am_sh I J) := am_do_of rfl rfl rfl
set_option maxRecDepth 10000 in
theorem sg_105_6 (X : am_X) (I : Nat → Nat → Int32) (J : Nat → Nat → Int64) (x1 : Int32) (x2 : Int32) (x3 : Int32) (w4 : Value) (w5 : Value) (hw4 : w4.category = 1) (hw5 : w5.category = 1) : am_ev X amP_105 6 [.ref 16, .int x1, .int x2, .int x3, w4, w5] [] (am_sh I J) = (if (I 16 2) ≤ x3 then some (some (.int x2), am_sh I J) else (if x3 < 0 ∨ 10 ≤ x3.toNatClampNeg then none else (am_do X 101 [.ref 16, .int x3] (am_sh I J)).bind (fun q => am_ev X amP_105 21 [.ref 16, .int x1, .int x2, .int x3, .int (I (am_bd (x3.toNatClampNeg) + 1) 0), w5] (q.1.toList ++ []) q.2))) := by
  refine (ev_iload rfl rfl).trans ?_
  refine (ev_aload rfl rfl).trans ?_
  refine (ev_getI rfl (by decide) am_K_16 (by decide) rfl).trans ?_
  refine (ev_icmp3 rfl).trans (am_ite (fun c1 => ?_) (fun c1 => ?_))
  · refine (ev_iload rfl rfl).trans ?_
    exact ev_iret rfl
  · refine (ev_aload rfl rfl).trans ?_
    refine (ev_getR rfl (by decide) am_K_16 (by decide) rfl am_R_16_0).trans ?_
    refine (ev_iload rfl rfl).trans ?_
    refine (ev_aald rfl (by decide) (Or.inl am_K_17) (f := am_bd) (fun k hk => am_R17 hk)).trans (am_itn (fun g2 => ?_))
    refine (ev_getR rfl (by have := am_bd_lt (by omega : (x3.toNatClampNeg) < 11); omega) (am_Kbd (by omega : (x3.toNatClampNeg) < 11)) (by decide) rfl (am_Rb2 (by omega : (x3.toNatClampNeg) < 11))).trans ?_
    refine (ev_const0 (v := (0 : Int32)) rfl am_ci_0).trans ?_
    refine (ev_ialdC (jn := 0) rfl (by have := am_bd_lt (by omega : (x3.toNatClampNeg) < 11); omega) (am_Kbn (by omega : (x3.toNatClampNeg) < 11)) (by decide) (by decide)).trans ?_
    refine (ev_istore (ls' := [.ref 16, .int x1, .int x2, .int x3, .int (I (am_bd (x3.toNatClampNeg) + 1) 0), w5]) rfl (Nat.le_of_ble_eq_true rfl) rfl).trans ?_
    refine (ev_aload rfl rfl).trans ?_
    refine (ev_iload rfl rfl).trans ?_
    exact ev_invv (as := [.int x3]) rfl (by decide) am_K_16 rfl (by simp [Value.category])
set_option maxRecDepth 10000 in
theorem sg_105_21 (X : am_X) (I : Nat → Nat → Int32) (J : Nat → Nat → Int64) (x1 : Int32) (x2 : Int32) (x3 : Int32) (x4 : Int32) (w5 : Value) (x6 : Int32) (hw5 : w5.category = 1) : am_ev X amP_105 21 [.ref 16, .int x1, .int x2, .int x3, .int x4, w5] [.int x6] (am_sh I J) = (if x6 = 0 then (if x1 < (0 : Int32) then am_ev X amP_105 6 [.ref 16, .int (0 : Int32), .int x4, .int (x3 + (1 : Int32)), .int x4, .int (0 : Int32)] [] (am_sh I J) else (if ¬ (0 : Int32) = x1 then am_ev X amP_105 6 [.ref 16, .int x1, .int x2, .int (x3 + (1 : Int32)), .int x4, .int (0 : Int32)] [] (am_sh I J) else (if x1 ≤ 0 then am_ev X amP_105 6 [.ref 16, .int x1, .int x2, .int (x3 + (1 : Int32)), .int x4, .int (0 : Int32)] [] (am_sh I J) else (if x2 ≤ x4 then am_ev X amP_105 6 [.ref 16, .int x1, .int x2, .int (x3 + (1 : Int32)), .int x4, .int (0 : Int32)] [] (am_sh I J) else am_ev X amP_105 6 [.ref 16, .int (0 : Int32), .int x4, .int (x3 + (1 : Int32)), .int x4, .int (0 : Int32)] [] (am_sh I J))))) else (am_do X 104 [.ref 16, .int x4] (am_sh I J)).bind (fun q => am_ev X amP_105 25 [.ref 16, .int x1, .int x2, .int x3, .int x4, w5] (q.1.toList ++ []) q.2)) := by
  refine (ev_if0 rfl).trans (am_ite (fun c1 => ?_) (fun c1 => ?_))
  · refine (ev_const0 (v := (0 : Int32)) rfl am_ci_0).trans ?_
    refine (ev_istore (ls' := [.ref 16, .int x1, .int x2, .int x3, .int x4, .int (0 : Int32)]) rfl (Nat.le_of_ble_eq_true rfl) rfl).trans ?_
    refine (ev_iload rfl rfl).trans ?_
    refine (ev_iload rfl rfl).trans ?_
    refine (ev_icmp4 rfl).trans (am_ite (fun c2 => ?_) (fun c2 => ?_))
    · refine (ev_iload rfl rfl).trans ?_
      refine (ev_istore (ls' := [.ref 16, .int (0 : Int32), .int x2, .int x3, .int x4, .int (0 : Int32)]) rfl (Nat.le_of_ble_eq_true rfl) rfl).trans ?_
      refine (ev_iload rfl rfl).trans ?_
      refine (ev_istore (ls' := [.ref 16, .int (0 : Int32), .int x4, .int x3, .int x4, .int (0 : Int32)]) rfl (Nat.le_of_ble_eq_true rfl) rfl).trans ?_
      refine (ev_iincv (v := (1 : Int32)) (ls' := [.ref 16, .int (0 : Int32), .int x4, .int (x3 + (1 : Int32)), .int x4, .int (0 : Int32)]) rfl am_ci_1 rfl rfl).trans ?_
      refine (ev_goto rfl).trans ?_
      rfl
    · refine (ev_iload rfl rfl).trans ?_
      refine (ev_iload rfl rfl).trans ?_
      refine (ev_icmp1 rfl).trans (am_ite (fun c3 => ?_) (fun c3 => ?_))
      · refine (ev_iincv (v := (1 : Int32)) (ls' := [.ref 16, .int x1, .int x2, .int (x3 + (1 : Int32)), .int x4, .int (0 : Int32)]) rfl am_ci_1 rfl rfl).trans ?_
        refine (ev_goto rfl).trans ?_
        rfl
      · refine (ev_iload rfl rfl).trans ?_
        refine (ev_if5 rfl).trans (am_ite (fun c4 => ?_) (fun c4 => ?_))
        · refine (ev_iincv (v := (1 : Int32)) (ls' := [.ref 16, .int x1, .int x2, .int (x3 + (1 : Int32)), .int x4, .int (0 : Int32)]) rfl am_ci_1 rfl rfl).trans ?_
          refine (ev_goto rfl).trans ?_
          rfl
        · refine (ev_iload rfl rfl).trans ?_
          refine (ev_iload rfl rfl).trans ?_
          refine (ev_icmp3 rfl).trans (am_ite (fun c5 => ?_) (fun c5 => ?_))
          · refine (ev_iincv (v := (1 : Int32)) (ls' := [.ref 16, .int x1, .int x2, .int (x3 + (1 : Int32)), .int x4, .int (0 : Int32)]) rfl am_ci_1 rfl rfl).trans ?_
            refine (ev_goto rfl).trans ?_
            rfl
          · refine (ev_iload rfl rfl).trans ?_
            refine (ev_istore (ls' := [.ref 16, .int (0 : Int32), .int x2, .int x3, .int x4, .int (0 : Int32)]) rfl (Nat.le_of_ble_eq_true rfl) rfl).trans ?_
            refine (ev_iload rfl rfl).trans ?_
            refine (ev_istore (ls' := [.ref 16, .int (0 : Int32), .int x4, .int x3, .int x4, .int (0 : Int32)]) rfl (Nat.le_of_ble_eq_true rfl) rfl).trans ?_
            refine (ev_iincv (v := (1 : Int32)) (ls' := [.ref 16, .int (0 : Int32), .int x4, .int (x3 + (1 : Int32)), .int x4, .int (0 : Int32)]) rfl am_ci_1 rfl rfl).trans ?_
            refine (ev_goto rfl).trans ?_
            rfl
  · refine (ev_aload rfl rfl).trans ?_
    refine (ev_iload rfl rfl).trans ?_
    exact ev_invv (as := [.int x4]) rfl (by decide) am_K_16 rfl (by simp [Value.category])
set_option maxRecDepth 10000 in
theorem sg_105_25 (X : am_X) (I : Nat → Nat → Int32) (J : Nat → Nat → Int64) (x1 : Int32) (x2 : Int32) (x3 : Int32) (x4 : Int32) (w5 : Value) (x6 : Int32) (hw5 : w5.category = 1) : am_ev X amP_105 25 [.ref 16, .int x1, .int x2, .int x3, .int x4, w5] [.int x6] (am_sh I J) = (if x1 < x6 then am_ev X amP_105 6 [.ref 16, .int x6, .int x4, .int (x3 + (1 : Int32)), .int x4, .int x6] [] (am_sh I J) else (if ¬ x6 = x1 then am_ev X amP_105 6 [.ref 16, .int x1, .int x2, .int (x3 + (1 : Int32)), .int x4, .int x6] [] (am_sh I J) else (if x1 ≤ 0 then am_ev X amP_105 6 [.ref 16, .int x1, .int x2, .int (x3 + (1 : Int32)), .int x4, .int x6] [] (am_sh I J) else (if x2 ≤ x4 then am_ev X amP_105 6 [.ref 16, .int x1, .int x2, .int (x3 + (1 : Int32)), .int x4, .int x6] [] (am_sh I J) else am_ev X amP_105 6 [.ref 16, .int x6, .int x4, .int (x3 + (1 : Int32)), .int x4, .int x6] [] (am_sh I J))))) := by
  refine (ev_goto rfl).trans ?_
  refine (ev_istore (ls' := [.ref 16, .int x1, .int x2, .int x3, .int x4, .int x6]) rfl (Nat.le_of_ble_eq_true rfl) rfl).trans ?_
  refine (ev_iload rfl rfl).trans ?_
  refine (ev_iload rfl rfl).trans ?_
  refine (ev_icmp4 rfl).trans (am_ite (fun c1 => ?_) (fun c1 => ?_))
  · refine (ev_iload rfl rfl).trans ?_
    refine (ev_istore (ls' := [.ref 16, .int x6, .int x2, .int x3, .int x4, .int x6]) rfl (Nat.le_of_ble_eq_true rfl) rfl).trans ?_
    refine (ev_iload rfl rfl).trans ?_
    refine (ev_istore (ls' := [.ref 16, .int x6, .int x4, .int x3, .int x4, .int x6]) rfl (Nat.le_of_ble_eq_true rfl) rfl).trans ?_
    refine (ev_iincv (v := (1 : Int32)) (ls' := [.ref 16, .int x6, .int x4, .int (x3 + (1 : Int32)), .int x4, .int x6]) rfl am_ci_1 rfl rfl).trans ?_
    refine (ev_goto rfl).trans ?_
    rfl
  · refine (ev_iload rfl rfl).trans ?_
    refine (ev_iload rfl rfl).trans ?_
    refine (ev_icmp1 rfl).trans (am_ite (fun c2 => ?_) (fun c2 => ?_))
    · refine (ev_iincv (v := (1 : Int32)) (ls' := [.ref 16, .int x1, .int x2, .int (x3 + (1 : Int32)), .int x4, .int x6]) rfl am_ci_1 rfl rfl).trans ?_
      refine (ev_goto rfl).trans ?_
      rfl
    · refine (ev_iload rfl rfl).trans ?_
      refine (ev_if5 rfl).trans (am_ite (fun c3 => ?_) (fun c3 => ?_))
      · refine (ev_iincv (v := (1 : Int32)) (ls' := [.ref 16, .int x1, .int x2, .int (x3 + (1 : Int32)), .int x4, .int x6]) rfl am_ci_1 rfl rfl).trans ?_
        refine (ev_goto rfl).trans ?_
        rfl
      · refine (ev_iload rfl rfl).trans ?_
        refine (ev_iload rfl rfl).trans ?_
        refine (ev_icmp3 rfl).trans (am_ite (fun c4 => ?_) (fun c4 => ?_))
        · refine (ev_iincv (v := (1 : Int32)) (ls' := [.ref 16, .int x1, .int x2, .int (x3 + (1 : Int32)), .int x4, .int x6]) rfl am_ci_1 rfl rfl).trans ?_
          refine (ev_goto rfl).trans ?_
          rfl
        · refine (ev_iload rfl rfl).trans ?_
          refine (ev_istore (ls' := [.ref 16, .int x6, .int x2, .int x3, .int x4, .int x6]) rfl (Nat.le_of_ble_eq_true rfl) rfl).trans ?_
          refine (ev_iload rfl rfl).trans ?_
          refine (ev_istore (ls' := [.ref 16, .int x6, .int x4, .int x3, .int x4, .int x6]) rfl (Nat.le_of_ble_eq_true rfl) rfl).trans ?_
          refine (ev_iincv (v := (1 : Int32)) (ls' := [.ref 16, .int x6, .int x4, .int (x3 + (1 : Int32)), .int x4, .int x6]) rfl am_ci_1 rfl rfl).trans ?_
          refine (ev_goto rfl).trans ?_
          rfl
-- 106 X7_takeFrom
set_option maxRecDepth 10000 in
theorem sg_106_e0 (X : am_X) (I : Nat → Nat → Int32) (J : Nat → Nat → Int64) : am_ev X amP_106 0 [.ref 16, .ref 3, .null] [] (am_sh I J) = am_ev X amP_106 20 [.ref 16, .ref 3, .int (0 : Int32)] [] (am_sh (am_up (am_up (am_up (am_up (am_up I 16 1 (1 : Int32)) 16 2 ((am_up I 16 1 (1 : Int32)) 3 4)) 16 3 ((am_up (am_up I 16 1 (1 : Int32)) 16 2 ((am_up I 16 1 (1 : Int32)) 3 4)) 3 2)) 16 4 ((am_up (am_up (am_up I 16 1 (1 : Int32)) 16 2 ((am_up I 16 1 (1 : Int32)) 3 4)) 16 3 ((am_up (am_up I 16 1 (1 : Int32)) 16 2 ((am_up I 16 1 (1 : Int32)) 3 4)) 3 2)) 3 3)) 16 5 (0 : Int32)) J) := by
  refine (ev_aload rfl rfl).trans ?_
  refine (ev_const0 (v := (1 : Int32)) rfl am_ci_1).trans ?_
  refine (ev_putZ rfl (by decide) am_K_16 (by decide) rfl (by decide)).trans ?_
  refine (ev_aload rfl rfl).trans ?_
  refine (ev_aload rfl rfl).trans ?_
  refine (ev_getI rfl (by decide) am_K_3 (by decide) rfl).trans ?_
  refine (ev_putI rfl (by decide) am_K_16 (by decide) rfl).trans ?_
  refine (ev_aload rfl rfl).trans ?_
  refine (ev_aload rfl rfl).trans ?_
  refine (ev_getI rfl (by decide) am_K_3 (by decide) rfl).trans ?_
  refine (ev_putI rfl (by decide) am_K_16 (by decide) rfl).trans ?_
  refine (ev_aload rfl rfl).trans ?_
  refine (ev_aload rfl rfl).trans ?_
  refine (ev_getI rfl (by decide) am_K_3 (by decide) rfl).trans ?_
  refine (ev_putI rfl (by decide) am_K_16 (by decide) rfl).trans ?_
  refine (ev_aload rfl rfl).trans ?_
  refine (ev_const0 (v := (0 : Int32)) rfl am_ci_0).trans ?_
  refine (ev_putI rfl (by decide) am_K_16 (by decide) rfl).trans ?_
  refine (ev_const0 (v := (0 : Int32)) rfl am_ci_0).trans ?_
  refine (ev_istore (ls' := [.ref 16, .ref 3, .int (0 : Int32)]) rfl (Nat.le_of_ble_eq_true rfl) rfl).trans ?_
  rfl
theorem cl_106 (X : am_X) (I : Nat → Nat → Int32) (J : Nat → Nat → Int64) : am_do X 106 [.ref 16, .ref 3] (am_sh I J) = am_ev X amP_106 0 [.ref 16, .ref 3, .null] [] (am_sh I J) := am_do_of rfl rfl rfl
set_option maxRecDepth 10000 in
theorem sg_106_20 (X : am_X) (I : Nat → Nat → Int32) (J : Nat → Nat → Int64) (x1 : Int32) : am_ev X amP_106 20 [.ref 16, .ref 3, .int x1] [] (am_sh I J) = (if (I 16 2) ≤ x1 then some (none, am_sh I J) else (if x1 < 0 ∨ 10 ≤ x1.toNatClampNeg then none else (if x1 < 0 ∨ 10 ≤ x1.toNatClampNeg then none else (if x1 < 0 ∨ 10 ≤ x1.toNatClampNeg then none else (if x1 < 0 ∨ 10 ≤ x1.toNatClampNeg then none else (if (0 : Int32) < 0 ∨ (0 : Int32) < 0 ∨ (9 : Int32) < 0 ∨ 9 < (0 : Int32).toNatClampNeg + (9 : Int32).toNatClampNeg ∨ 9 < (0 : Int32).toNatClampNeg + (9 : Int32).toNatClampNeg then none else (if x1 < 0 ∨ 10 ≤ x1.toNatClampNeg then none else (am_do X 31 [.ref (am_bd (x1.toNatClampNeg))] (am_sh (fun c k => if c = (am_bd (x1.toNatClampNeg) + 1) then (if (0 : Int32).toNatClampNeg ≤ k ∧ k < (0 : Int32).toNatClampNeg + (9 : Int32).toNatClampNeg then (am_up I (am_bd (x1.toNatClampNeg)) 0 (I 4 x1.toNatClampNeg)) (6 + x1.toNatClampNeg) ((0 : Int32).toNatClampNeg + (k - (0 : Int32).toNatClampNeg)) else (am_up I (am_bd (x1.toNatClampNeg)) 0 (I 4 x1.toNatClampNeg)) c k) else (am_up I (am_bd (x1.toNatClampNeg)) 0 (I 4 x1.toNatClampNeg)) c k) J)).bind (fun q => am_ev X amP_106 51 [.ref 16, .ref 3, .int x1] (q.1.toList ++ []) q.2)))))))) := by
  refine (ev_iload rfl rfl).trans ?_
  refine (ev_aload rfl rfl).trans ?_
  refine (ev_getI rfl (by decide) am_K_16 (by decide) rfl).trans ?_
  refine (ev_icmp3 rfl).trans (am_ite (fun c1 => ?_) (fun c1 => ?_))
  · exact ev_vret rfl
  · refine (ev_aload rfl rfl).trans ?_
    refine (ev_getR rfl (by decide) am_K_16 (by decide) rfl am_R_16_0).trans ?_
    refine (ev_iload rfl rfl).trans ?_
    refine (ev_aald rfl (by decide) (Or.inl am_K_17) (f := am_bd) (fun k hk => am_R17 hk)).trans (am_itn (fun g2 => ?_))
    refine (ev_aload rfl rfl).trans ?_
    refine (ev_getR rfl (by decide) am_K_3 (by decide) rfl am_R_3_5).trans ?_
    refine (ev_iload rfl rfl).trans ?_
    refine (ev_iald rfl (by decide) am_K_4).trans (am_itn (fun g3 => ?_))
    refine (ev_putI rfl (by have := am_bd_lt (by omega : (x1.toNatClampNeg) < 11); omega) (am_Kbd (by omega : (x1.toNatClampNeg) < 11)) (by decide) rfl).trans ?_
    refine (ev_aload rfl rfl).trans ?_
    refine (ev_getR rfl (by decide) am_K_3 (by decide) rfl am_R_3_6).trans ?_
    refine (ev_iload rfl rfl).trans ?_
    refine (ev_aald rfl (by decide) (Or.inr am_K_5) (f := (fun k => 6 + k)) (fun k hk => am_R5 hk)).trans (am_itn (fun g4 => ?_))
    refine (ev_const0 (v := (0 : Int32)) rfl am_ci_0).trans ?_
    refine (ev_aload rfl rfl).trans ?_
    refine (ev_getR rfl (by decide) am_K_16 (by decide) rfl am_R_16_0).trans ?_
    refine (ev_iload rfl rfl).trans ?_
    refine (ev_aald rfl (by decide) (Or.inl am_K_17) (f := am_bd) (fun k hk => am_R17 hk)).trans (am_itn (fun g5 => ?_))
    refine (ev_getR rfl (by have := am_bd_lt (by omega : (x1.toNatClampNeg) < 11); omega) (am_Kbd (by omega : (x1.toNatClampNeg) < 11)) (by decide) rfl (am_Rb2 (by omega : (x1.toNatClampNeg) < 11))).trans ?_
    refine (ev_const0 (v := (0 : Int32)) rfl am_ci_0).trans ?_
    refine (ev_const1 (v := (9 : Int32)) rfl am_ci_9).trans ?_
    refine (ev_acpy rfl (by omega) (am_K6 (by omega : x1.toNatClampNeg < 10)) (by have := am_bd_lt (by omega : (x1.toNatClampNeg) < 11); omega) (am_Kbn (by omega : (x1.toNatClampNeg) < 11)) (by simp [Value.category])).trans (am_itn (fun g6 => ?_))
    refine (ev_aload rfl rfl).trans ?_
    refine (ev_getR rfl (by decide) am_K_16 (by decide) rfl am_R_16_0).trans ?_
    refine (ev_iload rfl rfl).trans ?_
    refine (ev_aald rfl (by decide) (Or.inl am_K_17) (f := am_bd) (fun k hk => am_R17 hk)).trans (am_itn (fun g7 => ?_))
    exact ev_invv (as := []) rfl (by have := am_bd_lt (by omega : (x1.toNatClampNeg) < 11); omega) (am_Kbd (by omega : (x1.toNatClampNeg) < 11)) rfl (by simp [Value.category])
set_option maxRecDepth 10000 in
theorem sg_106_51 (X : am_X) (I : Nat → Nat → Int32) (J : Nat → Nat → Int64) (x1 : Int32) : am_ev X amP_106 51 [.ref 16, .ref 3, .int x1] [] (am_sh I J) = am_ev X amP_106 20 [.ref 16, .ref 3, .int (x1 + (1 : Int32))] [] (am_sh I J) := by
  refine (ev_iincv (v := (1 : Int32)) (ls' := [.ref 16, .ref 3, .int (x1 + (1 : Int32))]) rfl am_ci_1 rfl rfl).trans ?_
  refine (ev_goto rfl).trans ?_
  rfl
-- 107 X7_bringDown
set_option maxRecDepth 10000 in
theorem sg_107_e0 (X : am_X) (I : Nat → Nat → Int32) (J : Nat → Nat → Int64) (x1 : Int32) : am_ev X amP_107 0 [.ref 16, .int x1, .null] [] (am_sh I J) = am_ev X amP_107 2 [.ref 16, .int x1, .int (0 : Int32)] [] (am_sh I J) := by
  refine (ev_const0 (v := (0 : Int32)) rfl am_ci_0).trans ?_
  refine (ev_istore (ls' := [.ref 16, .int x1, .int (0 : Int32)]) rfl (Nat.le_of_ble_eq_true rfl) rfl).trans ?_
  rfl
theorem cl_107 (X : am_X) (I : Nat → Nat → Int32) (J : Nat → Nat → Int64) (x1 : Int32) : am_do X 107 [.ref 16, .int x1] (am_sh I J) = am_ev X amP_107 0 [.ref 16, .int x1, .null] [] (am_sh I J) := am_do_of rfl rfl rfl
set_option maxRecDepth 10000 in
theorem sg_107_2 (X : am_X) (I : Nat → Nat → Int32) (J : Nat → Nat → Int64) (x1 : Int32) (x2 : Int32) : am_ev X amP_107 2 [.ref 16, .int x1, .int x2] [] (am_sh I J) = (if (I 16 2) ≤ x2 then (if ¬ (I 16 6) = (40 : Int32) then (if ((2 : Int32) * (I 16 6)) < 0 ∨ 80 ≤ ((2 : Int32) * (I 16 6)).toNatClampNeg then none else (if (((2 : Int32) * ((am_up I 18 ((2 : Int32) * (I 16 6)).toNatClampNeg (I 16 5)) 16 6)) + (1 : Int32)) < 0 ∨ 80 ≤ (((2 : Int32) * ((am_up I 18 ((2 : Int32) * (I 16 6)).toNatClampNeg (I 16 5)) 16 6)) + (1 : Int32)).toNatClampNeg then none else some (none, am_sh (am_up (am_up (am_up I 18 ((2 : Int32) * (I 16 6)).toNatClampNeg (I 16 5)) 18 (((2 : Int32) * ((am_up I 18 ((2 : Int32) * (I 16 6)).toNatClampNeg (I 16 5)) 16 6)) + (1 : Int32)).toNatClampNeg x1) 16 6 (((am_up (am_up I 18 ((2 : Int32) * (I 16 6)).toNatClampNeg (I 16 5)) 18 (((2 : Int32) * ((am_up I 18 ((2 : Int32) * (I 16 6)).toNatClampNeg (I 16 5)) 16 6)) + (1 : Int32)).toNatClampNeg x1) 16 6) + (1 : Int32))) J))) else (if (2 : Int32) < 0 ∨ (0 : Int32) < 0 ∨ (78 : Int32) < 0 ∨ 80 < (2 : Int32).toNatClampNeg + (78 : Int32).toNatClampNeg ∨ 80 < (0 : Int32).toNatClampNeg + (78 : Int32).toNatClampNeg then none else (if ((2 : Int32) * ((am_up (fun c k => if c = 18 then (if (0 : Int32).toNatClampNeg ≤ k ∧ k < (0 : Int32).toNatClampNeg + (78 : Int32).toNatClampNeg then I 18 ((2 : Int32).toNatClampNeg + (k - (0 : Int32).toNatClampNeg)) else I c k) else I c k) 16 6 (((fun c k => if c = 18 then (if (0 : Int32).toNatClampNeg ≤ k ∧ k < (0 : Int32).toNatClampNeg + (78 : Int32).toNatClampNeg then I 18 ((2 : Int32).toNatClampNeg + (k - (0 : Int32).toNatClampNeg)) else I c k) else I c k) 16 6) - (1 : Int32))) 16 6)) < 0 ∨ 80 ≤ ((2 : Int32) * ((am_up (fun c k => if c = 18 then (if (0 : Int32).toNatClampNeg ≤ k ∧ k < (0 : Int32).toNatClampNeg + (78 : Int32).toNatClampNeg then I 18 ((2 : Int32).toNatClampNeg + (k - (0 : Int32).toNatClampNeg)) else I c k) else I c k) 16 6 (((fun c k => if c = 18 then (if (0 : Int32).toNatClampNeg ≤ k ∧ k < (0 : Int32).toNatClampNeg + (78 : Int32).toNatClampNeg then I 18 ((2 : Int32).toNatClampNeg + (k - (0 : Int32).toNatClampNeg)) else I c k) else I c k) 16 6) - (1 : Int32))) 16 6)).toNatClampNeg then none else (if (((2 : Int32) * ((am_up (am_up (fun c k => if c = 18 then (if (0 : Int32).toNatClampNeg ≤ k ∧ k < (0 : Int32).toNatClampNeg + (78 : Int32).toNatClampNeg then I 18 ((2 : Int32).toNatClampNeg + (k - (0 : Int32).toNatClampNeg)) else I c k) else I c k) 16 6 (((fun c k => if c = 18 then (if (0 : Int32).toNatClampNeg ≤ k ∧ k < (0 : Int32).toNatClampNeg + (78 : Int32).toNatClampNeg then I 18 ((2 : Int32).toNatClampNeg + (k - (0 : Int32).toNatClampNeg)) else I c k) else I c k) 16 6) - (1 : Int32))) 18 ((2 : Int32) * ((am_up (fun c k => if c = 18 then (if (0 : Int32).toNatClampNeg ≤ k ∧ k < (0 : Int32).toNatClampNeg + (78 : Int32).toNatClampNeg then I 18 ((2 : Int32).toNatClampNeg + (k - (0 : Int32).toNatClampNeg)) else I c k) else I c k) 16 6 (((fun c k => if c = 18 then (if (0 : Int32).toNatClampNeg ≤ k ∧ k < (0 : Int32).toNatClampNeg + (78 : Int32).toNatClampNeg then I 18 ((2 : Int32).toNatClampNeg + (k - (0 : Int32).toNatClampNeg)) else I c k) else I c k) 16 6) - (1 : Int32))) 16 6)).toNatClampNeg ((am_up (fun c k => if c = 18 then (if (0 : Int32).toNatClampNeg ≤ k ∧ k < (0 : Int32).toNatClampNeg + (78 : Int32).toNatClampNeg then I 18 ((2 : Int32).toNatClampNeg + (k - (0 : Int32).toNatClampNeg)) else I c k) else I c k) 16 6 (((fun c k => if c = 18 then (if (0 : Int32).toNatClampNeg ≤ k ∧ k < (0 : Int32).toNatClampNeg + (78 : Int32).toNatClampNeg then I 18 ((2 : Int32).toNatClampNeg + (k - (0 : Int32).toNatClampNeg)) else I c k) else I c k) 16 6) - (1 : Int32))) 16 5)) 16 6)) + (1 : Int32)) < 0 ∨ 80 ≤ (((2 : Int32) * ((am_up (am_up (fun c k => if c = 18 then (if (0 : Int32).toNatClampNeg ≤ k ∧ k < (0 : Int32).toNatClampNeg + (78 : Int32).toNatClampNeg then I 18 ((2 : Int32).toNatClampNeg + (k - (0 : Int32).toNatClampNeg)) else I c k) else I c k) 16 6 (((fun c k => if c = 18 then (if (0 : Int32).toNatClampNeg ≤ k ∧ k < (0 : Int32).toNatClampNeg + (78 : Int32).toNatClampNeg then I 18 ((2 : Int32).toNatClampNeg + (k - (0 : Int32).toNatClampNeg)) else I c k) else I c k) 16 6) - (1 : Int32))) 18 ((2 : Int32) * ((am_up (fun c k => if c = 18 then (if (0 : Int32).toNatClampNeg ≤ k ∧ k < (0 : Int32).toNatClampNeg + (78 : Int32).toNatClampNeg then I 18 ((2 : Int32).toNatClampNeg + (k - (0 : Int32).toNatClampNeg)) else I c k) else I c k) 16 6 (((fun c k => if c = 18 then (if (0 : Int32).toNatClampNeg ≤ k ∧ k < (0 : Int32).toNatClampNeg + (78 : Int32).toNatClampNeg then I 18 ((2 : Int32).toNatClampNeg + (k - (0 : Int32).toNatClampNeg)) else I c k) else I c k) 16 6) - (1 : Int32))) 16 6)).toNatClampNeg ((am_up (fun c k => if c = 18 then (if (0 : Int32).toNatClampNeg ≤ k ∧ k < (0 : Int32).toNatClampNeg + (78 : Int32).toNatClampNeg then I 18 ((2 : Int32).toNatClampNeg + (k - (0 : Int32).toNatClampNeg)) else I c k) else I c k) 16 6 (((fun c k => if c = 18 then (if (0 : Int32).toNatClampNeg ≤ k ∧ k < (0 : Int32).toNatClampNeg + (78 : Int32).toNatClampNeg then I 18 ((2 : Int32).toNatClampNeg + (k - (0 : Int32).toNatClampNeg)) else I c k) else I c k) 16 6) - (1 : Int32))) 16 5)) 16 6)) + (1 : Int32)).toNatClampNeg then none else some (none, am_sh (am_up (am_up (am_up (am_up (fun c k => if c = 18 then (if (0 : Int32).toNatClampNeg ≤ k ∧ k < (0 : Int32).toNatClampNeg + (78 : Int32).toNatClampNeg then I 18 ((2 : Int32).toNatClampNeg + (k - (0 : Int32).toNatClampNeg)) else I c k) else I c k) 16 6 (((fun c k => if c = 18 then (if (0 : Int32).toNatClampNeg ≤ k ∧ k < (0 : Int32).toNatClampNeg + (78 : Int32).toNatClampNeg then I 18 ((2 : Int32).toNatClampNeg + (k - (0 : Int32).toNatClampNeg)) else I c k) else I c k) 16 6) - (1 : Int32))) 18 ((2 : Int32) * ((am_up (fun c k => if c = 18 then (if (0 : Int32).toNatClampNeg ≤ k ∧ k < (0 : Int32).toNatClampNeg + (78 : Int32).toNatClampNeg then I 18 ((2 : Int32).toNatClampNeg + (k - (0 : Int32).toNatClampNeg)) else I c k) else I c k) 16 6 (((fun c k => if c = 18 then (if (0 : Int32).toNatClampNeg ≤ k ∧ k < (0 : Int32).toNatClampNeg + (78 : Int32).toNatClampNeg then I 18 ((2 : Int32).toNatClampNeg + (k - (0 : Int32).toNatClampNeg)) else I c k) else I c k) 16 6) - (1 : Int32))) 16 6)).toNatClampNeg ((am_up (fun c k => if c = 18 then (if (0 : Int32).toNatClampNeg ≤ k ∧ k < (0 : Int32).toNatClampNeg + (78 : Int32).toNatClampNeg then I 18 ((2 : Int32).toNatClampNeg + (k - (0 : Int32).toNatClampNeg)) else I c k) else I c k) 16 6 (((fun c k => if c = 18 then (if (0 : Int32).toNatClampNeg ≤ k ∧ k < (0 : Int32).toNatClampNeg + (78 : Int32).toNatClampNeg then I 18 ((2 : Int32).toNatClampNeg + (k - (0 : Int32).toNatClampNeg)) else I c k) else I c k) 16 6) - (1 : Int32))) 16 5)) 18 (((2 : Int32) * ((am_up (am_up (fun c k => if c = 18 then (if (0 : Int32).toNatClampNeg ≤ k ∧ k < (0 : Int32).toNatClampNeg + (78 : Int32).toNatClampNeg then I 18 ((2 : Int32).toNatClampNeg + (k - (0 : Int32).toNatClampNeg)) else I c k) else I c k) 16 6 (((fun c k => if c = 18 then (if (0 : Int32).toNatClampNeg ≤ k ∧ k < (0 : Int32).toNatClampNeg + (78 : Int32).toNatClampNeg then I 18 ((2 : Int32).toNatClampNeg + (k - (0 : Int32).toNatClampNeg)) else I c k) else I c k) 16 6) - (1 : Int32))) 18 ((2 : Int32) * ((am_up (fun c k => if c = 18 then (if (0 : Int32).toNatClampNeg ≤ k ∧ k < (0 : Int32).toNatClampNeg + (78 : Int32).toNatClampNeg then I 18 ((2 : Int32).toNatClampNeg + (k - (0 : Int32).toNatClampNeg)) else I c k) else I c k) 16 6 (((fun c k => if c = 18 then (if (0 : Int32).toNatClampNeg ≤ k ∧ k < (0 : Int32).toNatClampNeg + (78 : Int32).toNatClampNeg then I 18 ((2 : Int32).toNatClampNeg + (k - (0 : Int32).toNatClampNeg)) else I c k) else I c k) 16 6) - (1 : Int32))) 16 6)).toNatClampNeg ((am_up (fun c k => if c = 18 then (if (0 : Int32).toNatClampNeg ≤ k ∧ k < (0 : Int32).toNatClampNeg + (78 : Int32).toNatClampNeg then I 18 ((2 : Int32).toNatClampNeg + (k - (0 : Int32).toNatClampNeg)) else I c k) else I c k) 16 6 (((fun c k => if c = 18 then (if (0 : Int32).toNatClampNeg ≤ k ∧ k < (0 : Int32).toNatClampNeg + (78 : Int32).toNatClampNeg then I 18 ((2 : Int32).toNatClampNeg + (k - (0 : Int32).toNatClampNeg)) else I c k) else I c k) 16 6) - (1 : Int32))) 16 5)) 16 6)) + (1 : Int32)).toNatClampNeg x1) 16 6 (((am_up (am_up (am_up (fun c k => if c = 18 then (if (0 : Int32).toNatClampNeg ≤ k ∧ k < (0 : Int32).toNatClampNeg + (78 : Int32).toNatClampNeg then I 18 ((2 : Int32).toNatClampNeg + (k - (0 : Int32).toNatClampNeg)) else I c k) else I c k) 16 6 (((fun c k => if c = 18 then (if (0 : Int32).toNatClampNeg ≤ k ∧ k < (0 : Int32).toNatClampNeg + (78 : Int32).toNatClampNeg then I 18 ((2 : Int32).toNatClampNeg + (k - (0 : Int32).toNatClampNeg)) else I c k) else I c k) 16 6) - (1 : Int32))) 18 ((2 : Int32) * ((am_up (fun c k => if c = 18 then (if (0 : Int32).toNatClampNeg ≤ k ∧ k < (0 : Int32).toNatClampNeg + (78 : Int32).toNatClampNeg then I 18 ((2 : Int32).toNatClampNeg + (k - (0 : Int32).toNatClampNeg)) else I c k) else I c k) 16 6 (((fun c k => if c = 18 then (if (0 : Int32).toNatClampNeg ≤ k ∧ k < (0 : Int32).toNatClampNeg + (78 : Int32).toNatClampNeg then I 18 ((2 : Int32).toNatClampNeg + (k - (0 : Int32).toNatClampNeg)) else I c k) else I c k) 16 6) - (1 : Int32))) 16 6)).toNatClampNeg ((am_up (fun c k => if c = 18 then (if (0 : Int32).toNatClampNeg ≤ k ∧ k < (0 : Int32).toNatClampNeg + (78 : Int32).toNatClampNeg then I 18 ((2 : Int32).toNatClampNeg + (k - (0 : Int32).toNatClampNeg)) else I c k) else I c k) 16 6 (((fun c k => if c = 18 then (if (0 : Int32).toNatClampNeg ≤ k ∧ k < (0 : Int32).toNatClampNeg + (78 : Int32).toNatClampNeg then I 18 ((2 : Int32).toNatClampNeg + (k - (0 : Int32).toNatClampNeg)) else I c k) else I c k) 16 6) - (1 : Int32))) 16 5)) 18 (((2 : Int32) * ((am_up (am_up (fun c k => if c = 18 then (if (0 : Int32).toNatClampNeg ≤ k ∧ k < (0 : Int32).toNatClampNeg + (78 : Int32).toNatClampNeg then I 18 ((2 : Int32).toNatClampNeg + (k - (0 : Int32).toNatClampNeg)) else I c k) else I c k) 16 6 (((fun c k => if c = 18 then (if (0 : Int32).toNatClampNeg ≤ k ∧ k < (0 : Int32).toNatClampNeg + (78 : Int32).toNatClampNeg then I 18 ((2 : Int32).toNatClampNeg + (k - (0 : Int32).toNatClampNeg)) else I c k) else I c k) 16 6) - (1 : Int32))) 18 ((2 : Int32) * ((am_up (fun c k => if c = 18 then (if (0 : Int32).toNatClampNeg ≤ k ∧ k < (0 : Int32).toNatClampNeg + (78 : Int32).toNatClampNeg then I 18 ((2 : Int32).toNatClampNeg + (k - (0 : Int32).toNatClampNeg)) else I c k) else I c k) 16 6 (((fun c k => if c = 18 then (if (0 : Int32).toNatClampNeg ≤ k ∧ k < (0 : Int32).toNatClampNeg + (78 : Int32).toNatClampNeg then I 18 ((2 : Int32).toNatClampNeg + (k - (0 : Int32).toNatClampNeg)) else I c k) else I c k) 16 6) - (1 : Int32))) 16 6)).toNatClampNeg ((am_up (fun c k => if c = 18 then (if (0 : Int32).toNatClampNeg ≤ k ∧ k < (0 : Int32).toNatClampNeg + (78 : Int32).toNatClampNeg then I 18 ((2 : Int32).toNatClampNeg + (k - (0 : Int32).toNatClampNeg)) else I c k) else I c k) 16 6 (((fun c k => if c = 18 then (if (0 : Int32).toNatClampNeg ≤ k ∧ k < (0 : Int32).toNatClampNeg + (78 : Int32).toNatClampNeg then I 18 ((2 : Int32).toNatClampNeg + (k - (0 : Int32).toNatClampNeg)) else I c k) else I c k) 16 6) - (1 : Int32))) 16 5)) 16 6)) + (1 : Int32)).toNatClampNeg x1) 16 6) + (1 : Int32))) J))))) else (if ¬ ((x1 >>> (x2 &&& 31)) &&& (1 : Int32)) = (1 : Int32) then am_ev X amP_107 2 [.ref 16, .int x1, .int (x2 + (1 : Int32))] [] (am_sh I J) else (if x2 < 0 ∨ 10 ≤ x2.toNatClampNeg then none else am_ev X amP_107 2 [.ref 16, .int x1, .int (x2 + (1 : Int32))] [] (am_sh (am_up I (am_bd (x2.toNatClampNeg) + 1) 8 (0 : Int32)) J)))) := by
  refine (ev_iload rfl rfl).trans ?_
  refine (ev_aload rfl rfl).trans ?_
  refine (ev_getI rfl (by decide) am_K_16 (by decide) rfl).trans ?_
  refine (ev_icmp3 rfl).trans (am_ite (fun c1 => ?_) (fun c1 => ?_))
  · refine (ev_aload rfl rfl).trans ?_
    refine (ev_getI rfl (by decide) am_K_16 (by decide) rfl).trans ?_
    refine (ev_const1 (v := (40 : Int32)) rfl am_ci_40).trans ?_
    refine (ev_icmp1 rfl).trans (am_ite (fun c2 => ?_) (fun c2 => ?_))
    · refine (ev_aload rfl rfl).trans ?_
      refine (ev_getR rfl (by decide) am_K_16 (by decide) rfl am_R_16_7).trans ?_
      refine (ev_const0 (v := (2 : Int32)) rfl am_ci_2).trans ?_
      refine (ev_aload rfl rfl).trans ?_
      refine (ev_getI rfl (by decide) am_K_16 (by decide) rfl).trans ?_
      refine (ev_imul rfl).trans ?_
      refine (ev_aload rfl rfl).trans ?_
      refine (ev_getI rfl (by decide) am_K_16 (by decide) rfl).trans ?_
      refine (ev_iast rfl (by decide) am_K_18).trans (am_itn (fun g3 => ?_))
      refine (ev_aload rfl rfl).trans ?_
      refine (ev_getR rfl (by decide) am_K_16 (by decide) rfl am_R_16_7).trans ?_
      refine (ev_const0 (v := (2 : Int32)) rfl am_ci_2).trans ?_
      refine (ev_aload rfl rfl).trans ?_
      refine (ev_getI rfl (by decide) am_K_16 (by decide) rfl).trans ?_
      refine (ev_imul rfl).trans ?_
      refine (ev_const0 (v := (1 : Int32)) rfl am_ci_1).trans ?_
      refine (ev_iadd rfl).trans ?_
      refine (ev_iload rfl rfl).trans ?_
      refine (ev_iast rfl (by decide) am_K_18).trans (am_itn (fun g4 => ?_))
      refine (ev_aload rfl rfl).trans ?_
      refine (ev_dupr rfl).trans ?_
      refine (ev_getI rfl (by decide) am_K_16 (by decide) rfl).trans ?_
      refine (ev_const0 (v := (1 : Int32)) rfl am_ci_1).trans ?_
      refine (ev_iadd rfl).trans ?_
      refine (ev_putI rfl (by decide) am_K_16 (by decide) rfl).trans ?_
      exact ev_vret rfl
    · refine (ev_aload rfl rfl).trans ?_
      refine (ev_getR rfl (by decide) am_K_16 (by decide) rfl am_R_16_7).trans ?_
      refine (ev_const0 (v := (2 : Int32)) rfl am_ci_2).trans ?_
      refine (ev_aload rfl rfl).trans ?_
      refine (ev_getR rfl (by decide) am_K_16 (by decide) rfl am_R_16_7).trans ?_
      refine (ev_const0 (v := (0 : Int32)) rfl am_ci_0).trans ?_
      refine (ev_const1 (v := (78 : Int32)) rfl am_ci_78).trans ?_
      refine (ev_acpy rfl (by decide) am_K_18 (by decide) am_K_18 (by simp [Value.category])).trans (am_itn (fun g3 => ?_))
      refine (ev_aload rfl rfl).trans ?_
      refine (ev_dupr rfl).trans ?_
      refine (ev_getI rfl (by decide) am_K_16 (by decide) rfl).trans ?_
      refine (ev_const0 (v := (1 : Int32)) rfl am_ci_1).trans ?_
      refine (ev_isub rfl).trans ?_
      refine (ev_putI rfl (by decide) am_K_16 (by decide) rfl).trans ?_
      refine (ev_aload rfl rfl).trans ?_
      refine (ev_getR rfl (by decide) am_K_16 (by decide) rfl am_R_16_7).trans ?_
      refine (ev_const0 (v := (2 : Int32)) rfl am_ci_2).trans ?_
      refine (ev_aload rfl rfl).trans ?_
      refine (ev_getI rfl (by decide) am_K_16 (by decide) rfl).trans ?_
      refine (ev_imul rfl).trans ?_
      refine (ev_aload rfl rfl).trans ?_
      refine (ev_getI rfl (by decide) am_K_16 (by decide) rfl).trans ?_
      refine (ev_iast rfl (by decide) am_K_18).trans (am_itn (fun g4 => ?_))
      refine (ev_aload rfl rfl).trans ?_
      refine (ev_getR rfl (by decide) am_K_16 (by decide) rfl am_R_16_7).trans ?_
      refine (ev_const0 (v := (2 : Int32)) rfl am_ci_2).trans ?_
      refine (ev_aload rfl rfl).trans ?_
      refine (ev_getI rfl (by decide) am_K_16 (by decide) rfl).trans ?_
      refine (ev_imul rfl).trans ?_
      refine (ev_const0 (v := (1 : Int32)) rfl am_ci_1).trans ?_
      refine (ev_iadd rfl).trans ?_
      refine (ev_iload rfl rfl).trans ?_
      refine (ev_iast rfl (by decide) am_K_18).trans (am_itn (fun g5 => ?_))
      refine (ev_aload rfl rfl).trans ?_
      refine (ev_dupr rfl).trans ?_
      refine (ev_getI rfl (by decide) am_K_16 (by decide) rfl).trans ?_
      refine (ev_const0 (v := (1 : Int32)) rfl am_ci_1).trans ?_
      refine (ev_iadd rfl).trans ?_
      refine (ev_putI rfl (by decide) am_K_16 (by decide) rfl).trans ?_
      exact ev_vret rfl
  · refine (ev_iload rfl rfl).trans ?_
    refine (ev_iload rfl rfl).trans ?_
    refine (ev_ishr rfl).trans ?_
    refine (ev_const0 (v := (1 : Int32)) rfl am_ci_1).trans ?_
    refine (ev_iand rfl).trans ?_
    refine (ev_const0 (v := (1 : Int32)) rfl am_ci_1).trans ?_
    refine (ev_icmp1 rfl).trans (am_ite (fun c2 => ?_) (fun c2 => ?_))
    · refine (ev_iincv (v := (1 : Int32)) (ls' := [.ref 16, .int x1, .int (x2 + (1 : Int32))]) rfl am_ci_1 rfl rfl).trans ?_
      refine (ev_goto rfl).trans ?_
      rfl
    · refine (ev_aload rfl rfl).trans ?_
      refine (ev_getR rfl (by decide) am_K_16 (by decide) rfl am_R_16_0).trans ?_
      refine (ev_iload rfl rfl).trans ?_
      refine (ev_aald rfl (by decide) (Or.inl am_K_17) (f := am_bd) (fun k hk => am_R17 hk)).trans (am_itn (fun g3 => ?_))
      refine (ev_getR rfl (by have := am_bd_lt (by omega : (x2.toNatClampNeg) < 11); omega) (am_Kbd (by omega : (x2.toNatClampNeg) < 11)) (by decide) rfl (am_Rb2 (by omega : (x2.toNatClampNeg) < 11))).trans ?_
      refine (ev_const1 (v := (8 : Int32)) rfl am_ci_8).trans ?_
      refine (ev_const0 (v := (0 : Int32)) rfl am_ci_0).trans ?_
      refine (ev_iastC (jn := 8) rfl (by have := am_bd_lt (by omega : (x2.toNatClampNeg) < 11); omega) (am_Kbn (by omega : (x2.toNatClampNeg) < 11)) (by decide) (by decide)).trans ?_
      refine (ev_iincv (v := (1 : Int32)) (ls' := [.ref 16, .int x1, .int (x2 + (1 : Int32))]) rfl am_ci_1 rfl rfl).trans ?_
      refine (ev_goto rfl).trans ?_
      rfl
-- 108 X7_saveTo
set_option maxRecDepth 10000 in
theorem sg_108_e0 (X : am_X) (I : Nat → Nat → Int32) (J : Nat → Nat → Int64) (a1 : Nat) (n1 : Nat) (ha1 : a1 < 162) (ka1 : am_K a1 = (20, n1)) : am_ev X amP_108 0 [.ref 16, .ref a1, .null] [] (am_sh I J) = am_ev X amP_108 2 [.ref 16, .ref a1, .int (0 : Int32)] [] (am_sh I J) := by
  refine (ev_const0 (v := (0 : Int32)) rfl am_ci_0).trans ?_
  refine (ev_istore (ls' := [.ref 16, .ref a1, .int (0 : Int32)]) rfl (Nat.le_of_ble_eq_true rfl) rfl).trans ?_
  rfl
theorem cl_108 (X : am_X) (I : Nat → Nat → Int32) (J : Nat → Nat → Int64) (a1 : Nat) (n1 : Nat) : am_do X 108 [.ref 16, .ref a1] (am_sh I J) = am_ev X amP_108 0 [.ref 16, .ref a1, .null] [] (am_sh I J) := am_do_of rfl rfl rfl
set_option maxRecDepth 10000 in
theorem sg_108_2 (X : am_X) (I : Nat → Nat → Int32) (J : Nat → Nat → Int64) (a1 : Nat) (n1 : Nat) (x2 : Int32) (ha1 : a1 < 162) (ka1 : am_K a1 = (20, n1)) : am_ev X amP_108 2 [.ref 16, .ref a1, .int x2] [] (am_sh I J) = (if (I 16 2) ≤ x2 then (if (90 : Int32) < 0 ∨ n1 ≤ (90 : Int32).toNatClampNeg then none else (if (91 : Int32) < 0 ∨ n1 ≤ (91 : Int32).toNatClampNeg then none else (if (92 : Int32) < 0 ∨ n1 ≤ (92 : Int32).toNatClampNeg then none else (if (0 : Int32) < 0 ∨ (93 : Int32) < 0 ∨ (80 : Int32) < 0 ∨ 80 < (0 : Int32).toNatClampNeg + (80 : Int32).toNatClampNeg ∨ n1 < (93 : Int32).toNatClampNeg + (80 : Int32).toNatClampNeg then none else some (none, am_sh (fun c k => if c = a1 then (if (93 : Int32).toNatClampNeg ≤ k ∧ k < (93 : Int32).toNatClampNeg + (80 : Int32).toNatClampNeg then (am_up (am_up (am_up I a1 (90 : Int32).toNatClampNeg (I 16 3)) a1 (91 : Int32).toNatClampNeg ((am_up I a1 (90 : Int32).toNatClampNeg (I 16 3)) 16 5)) a1 (92 : Int32).toNatClampNeg ((am_up (am_up I a1 (90 : Int32).toNatClampNeg (I 16 3)) a1 (91 : Int32).toNatClampNeg ((am_up I a1 (90 : Int32).toNatClampNeg (I 16 3)) 16 5)) 16 6)) 18 ((0 : Int32).toNatClampNeg + (k - (93 : Int32).toNatClampNeg)) else (am_up (am_up (am_up I a1 (90 : Int32).toNatClampNeg (I 16 3)) a1 (91 : Int32).toNatClampNeg ((am_up I a1 (90 : Int32).toNatClampNeg (I 16 3)) 16 5)) a1 (92 : Int32).toNatClampNeg ((am_up (am_up I a1 (90 : Int32).toNatClampNeg (I 16 3)) a1 (91 : Int32).toNatClampNeg ((am_up I a1 (90 : Int32).toNatClampNeg (I 16 3)) 16 5)) 16 6)) c k) else (am_up (am_up (am_up I a1 (90 : Int32).toNatClampNeg (I 16 3)) a1 (91 : Int32).toNatClampNeg ((am_up I a1 (90 : Int32).toNatClampNeg (I 16 3)) 16 5)) a1 (92 : Int32).toNatClampNeg ((am_up (am_up I a1 (90 : Int32).toNatClampNeg (I 16 3)) a1 (91 : Int32).toNatClampNeg ((am_up I a1 (90 : Int32).toNatClampNeg (I 16 3)) 16 5)) 16 6)) c k) J))))) else (if x2 < 0 ∨ 10 ≤ x2.toNatClampNeg then none else (if (0 : Int32) < 0 ∨ (x2 * (9 : Int32)) < 0 ∨ (9 : Int32) < 0 ∨ 9 < (0 : Int32).toNatClampNeg + (9 : Int32).toNatClampNeg ∨ n1 < (x2 * (9 : Int32)).toNatClampNeg + (9 : Int32).toNatClampNeg then none else am_ev X amP_108 2 [.ref 16, .ref a1, .int (x2 + (1 : Int32))] [] (am_sh (fun c k => if c = a1 then (if (x2 * (9 : Int32)).toNatClampNeg ≤ k ∧ k < (x2 * (9 : Int32)).toNatClampNeg + (9 : Int32).toNatClampNeg then I (am_bd (x2.toNatClampNeg) + 1) ((0 : Int32).toNatClampNeg + (k - (x2 * (9 : Int32)).toNatClampNeg)) else I c k) else I c k) J)))) := by
  refine (ev_iload rfl rfl).trans ?_
  refine (ev_aload rfl rfl).trans ?_
  refine (ev_getI rfl (by decide) am_K_16 (by decide) rfl).trans ?_
  refine (ev_icmp3 rfl).trans (am_ite (fun c1 => ?_) (fun c1 => ?_))
  · refine (ev_aload rfl rfl).trans ?_
    refine (ev_const1 (v := (90 : Int32)) rfl am_ci_90).trans ?_
    refine (ev_aload rfl rfl).trans ?_
    refine (ev_getI rfl (by decide) am_K_16 (by decide) rfl).trans ?_
    refine (ev_iast rfl ha1 ka1).trans (am_itn (fun g2 => ?_))
    refine (ev_aload rfl rfl).trans ?_
    refine (ev_const1 (v := (91 : Int32)) rfl am_ci_91).trans ?_
    refine (ev_aload rfl rfl).trans ?_
    refine (ev_getI rfl (by decide) am_K_16 (by decide) rfl).trans ?_
    refine (ev_iast rfl ha1 ka1).trans (am_itn (fun g3 => ?_))
    refine (ev_aload rfl rfl).trans ?_
    refine (ev_const1 (v := (92 : Int32)) rfl am_ci_92).trans ?_
    refine (ev_aload rfl rfl).trans ?_
    refine (ev_getI rfl (by decide) am_K_16 (by decide) rfl).trans ?_
    refine (ev_iast rfl ha1 ka1).trans (am_itn (fun g4 => ?_))
    refine (ev_aload rfl rfl).trans ?_
    refine (ev_getR rfl (by decide) am_K_16 (by decide) rfl am_R_16_7).trans ?_
    refine (ev_const0 (v := (0 : Int32)) rfl am_ci_0).trans ?_
    refine (ev_aload rfl rfl).trans ?_
    refine (ev_const1 (v := (93 : Int32)) rfl am_ci_93).trans ?_
    refine (ev_const1 (v := (80 : Int32)) rfl am_ci_80).trans ?_
    refine (ev_acpy rfl (by decide) am_K_18 ha1 ka1 (by simp [Value.category])).trans (am_itn (fun g5 => ?_))
    exact ev_vret rfl
  · refine (ev_aload rfl rfl).trans ?_
    refine (ev_getR rfl (by decide) am_K_16 (by decide) rfl am_R_16_0).trans ?_
    refine (ev_iload rfl rfl).trans ?_
    refine (ev_aald rfl (by decide) (Or.inl am_K_17) (f := am_bd) (fun k hk => am_R17 hk)).trans (am_itn (fun g2 => ?_))
    refine (ev_getR rfl (by have := am_bd_lt (by omega : (x2.toNatClampNeg) < 11); omega) (am_Kbd (by omega : (x2.toNatClampNeg) < 11)) (by decide) rfl (am_Rb2 (by omega : (x2.toNatClampNeg) < 11))).trans ?_
    refine (ev_const0 (v := (0 : Int32)) rfl am_ci_0).trans ?_
    refine (ev_aload rfl rfl).trans ?_
    refine (ev_iload rfl rfl).trans ?_
    refine (ev_const1 (v := (9 : Int32)) rfl am_ci_9).trans ?_
    refine (ev_imul rfl).trans ?_
    refine (ev_const1 (v := (9 : Int32)) rfl am_ci_9).trans ?_
    refine (ev_acpy rfl (by have := am_bd_lt (by omega : (x2.toNatClampNeg) < 11); omega) (am_Kbn (by omega : (x2.toNatClampNeg) < 11)) ha1 ka1 (by simp [Value.category])).trans (am_itn (fun g3 => ?_))
    refine (ev_iincv (v := (1 : Int32)) (ls' := [.ref 16, .ref a1, .int (x2 + (1 : Int32))]) rfl am_ci_1 rfl rfl).trans ?_
    refine (ev_goto rfl).trans ?_
    rfl
-- 109 X7_takeBackFrom
set_option maxRecDepth 10000 in
theorem sg_109_e0 (X : am_X) (I : Nat → Nat → Int32) (J : Nat → Nat → Int64) (a1 : Nat) (n1 : Nat) (ha1 : a1 < 162) (ka1 : am_K a1 = (20, n1)) : am_ev X amP_109 0 [.ref 16, .ref a1, .null] [] (am_sh I J) = am_ev X amP_109 2 [.ref 16, .ref a1, .int (0 : Int32)] [] (am_sh I J) := by
  refine (ev_const0 (v := (0 : Int32)) rfl am_ci_0).trans ?_
  refine (ev_istore (ls' := [.ref 16, .ref a1, .int (0 : Int32)]) rfl (Nat.le_of_ble_eq_true rfl) rfl).trans ?_
  rfl
theorem cl_109 (X : am_X) (I : Nat → Nat → Int32) (J : Nat → Nat → Int64) (a1 : Nat) (n1 : Nat) : am_do X 109 [.ref 16, .ref a1] (am_sh I J) = am_ev X amP_109 0 [.ref 16, .ref a1, .null] [] (am_sh I J) := am_do_of rfl rfl rfl
set_option maxRecDepth 10000 in
theorem sg_109_2 (X : am_X) (I : Nat → Nat → Int32) (J : Nat → Nat → Int64) (a1 : Nat) (n1 : Nat) (x2 : Int32) (ha1 : a1 < 162) (ka1 : am_K a1 = (20, n1)) : am_ev X amP_109 2 [.ref 16, .ref a1, .int x2] [] (am_sh I J) = (if (I 16 2) ≤ x2 then (if (90 : Int32) < 0 ∨ n1 ≤ (90 : Int32).toNatClampNeg then none else (if (91 : Int32) < 0 ∨ n1 ≤ (91 : Int32).toNatClampNeg then none else (if (92 : Int32) < 0 ∨ n1 ≤ (92 : Int32).toNatClampNeg then none else (if (93 : Int32) < 0 ∨ (0 : Int32) < 0 ∨ (80 : Int32) < 0 ∨ n1 < (93 : Int32).toNatClampNeg + (80 : Int32).toNatClampNeg ∨ 80 < (0 : Int32).toNatClampNeg + (80 : Int32).toNatClampNeg then none else some (none, am_sh (fun c k => if c = 18 then (if (0 : Int32).toNatClampNeg ≤ k ∧ k < (0 : Int32).toNatClampNeg + (80 : Int32).toNatClampNeg then (am_up (am_up (am_up I 16 3 (I a1 (90 : Int32).toNatClampNeg)) 16 5 ((am_up I 16 3 (I a1 (90 : Int32).toNatClampNeg)) a1 (91 : Int32).toNatClampNeg)) 16 6 ((am_up (am_up I 16 3 (I a1 (90 : Int32).toNatClampNeg)) 16 5 ((am_up I 16 3 (I a1 (90 : Int32).toNatClampNeg)) a1 (91 : Int32).toNatClampNeg)) a1 (92 : Int32).toNatClampNeg)) a1 ((93 : Int32).toNatClampNeg + (k - (0 : Int32).toNatClampNeg)) else (am_up (am_up (am_up I 16 3 (I a1 (90 : Int32).toNatClampNeg)) 16 5 ((am_up I 16 3 (I a1 (90 : Int32).toNatClampNeg)) a1 (91 : Int32).toNatClampNeg)) 16 6 ((am_up (am_up I 16 3 (I a1 (90 : Int32).toNatClampNeg)) 16 5 ((am_up I 16 3 (I a1 (90 : Int32).toNatClampNeg)) a1 (91 : Int32).toNatClampNeg)) a1 (92 : Int32).toNatClampNeg)) c k) else (am_up (am_up (am_up I 16 3 (I a1 (90 : Int32).toNatClampNeg)) 16 5 ((am_up I 16 3 (I a1 (90 : Int32).toNatClampNeg)) a1 (91 : Int32).toNatClampNeg)) 16 6 ((am_up (am_up I 16 3 (I a1 (90 : Int32).toNatClampNeg)) 16 5 ((am_up I 16 3 (I a1 (90 : Int32).toNatClampNeg)) a1 (91 : Int32).toNatClampNeg)) a1 (92 : Int32).toNatClampNeg)) c k) J))))) else (if x2 < 0 ∨ 10 ≤ x2.toNatClampNeg then none else (if (x2 * (9 : Int32)) < 0 ∨ (0 : Int32) < 0 ∨ (9 : Int32) < 0 ∨ n1 < (x2 * (9 : Int32)).toNatClampNeg + (9 : Int32).toNatClampNeg ∨ 9 < (0 : Int32).toNatClampNeg + (9 : Int32).toNatClampNeg then none else (if x2 < 0 ∨ 10 ≤ x2.toNatClampNeg then none else (am_do X 31 [.ref (am_bd (x2.toNatClampNeg))] (am_sh (fun c k => if c = (am_bd (x2.toNatClampNeg) + 1) then (if (0 : Int32).toNatClampNeg ≤ k ∧ k < (0 : Int32).toNatClampNeg + (9 : Int32).toNatClampNeg then I a1 ((x2 * (9 : Int32)).toNatClampNeg + (k - (0 : Int32).toNatClampNeg)) else I c k) else I c k) J)).bind (fun q => am_ev X amP_109 23 [.ref 16, .ref a1, .int x2] (q.1.toList ++ []) q.2))))) := by
  refine (ev_iload rfl rfl).trans ?_
  refine (ev_aload rfl rfl).trans ?_
  refine (ev_getI rfl (by decide) am_K_16 (by decide) rfl).trans ?_
  refine (ev_icmp3 rfl).trans (am_ite (fun c1 => ?_) (fun c1 => ?_))
  · refine (ev_aload rfl rfl).trans ?_
    refine (ev_aload rfl rfl).trans ?_
    refine (ev_const1 (v := (90 : Int32)) rfl am_ci_90).trans ?_
    refine (ev_iald rfl ha1 ka1).trans (am_itn (fun g2 => ?_))
    refine (ev_putI rfl (by decide) am_K_16 (by decide) rfl).trans ?_
    refine (ev_aload rfl rfl).trans ?_
    refine (ev_aload rfl rfl).trans ?_
    refine (ev_const1 (v := (91 : Int32)) rfl am_ci_91).trans ?_
    refine (ev_iald rfl ha1 ka1).trans (am_itn (fun g3 => ?_))
    refine (ev_putI rfl (by decide) am_K_16 (by decide) rfl).trans ?_
    refine (ev_aload rfl rfl).trans ?_
    refine (ev_aload rfl rfl).trans ?_
    refine (ev_const1 (v := (92 : Int32)) rfl am_ci_92).trans ?_
    refine (ev_iald rfl ha1 ka1).trans (am_itn (fun g4 => ?_))
    refine (ev_putI rfl (by decide) am_K_16 (by decide) rfl).trans ?_
    refine (ev_aload rfl rfl).trans ?_
    refine (ev_const1 (v := (93 : Int32)) rfl am_ci_93).trans ?_
    refine (ev_aload rfl rfl).trans ?_
    refine (ev_getR rfl (by decide) am_K_16 (by decide) rfl am_R_16_7).trans ?_
    refine (ev_const0 (v := (0 : Int32)) rfl am_ci_0).trans ?_
    refine (ev_const1 (v := (80 : Int32)) rfl am_ci_80).trans ?_
    refine (ev_acpy rfl ha1 ka1 (by decide) am_K_18 (by simp [Value.category])).trans (am_itn (fun g5 => ?_))
    exact ev_vret rfl
  · refine (ev_aload rfl rfl).trans ?_
    refine (ev_iload rfl rfl).trans ?_
    refine (ev_const1 (v := (9 : Int32)) rfl am_ci_9).trans ?_
    refine (ev_imul rfl).trans ?_
    refine (ev_aload rfl rfl).trans ?_
    refine (ev_getR rfl (by decide) am_K_16 (by decide) rfl am_R_16_0).trans ?_
    refine (ev_iload rfl rfl).trans ?_
    refine (ev_aald rfl (by decide) (Or.inl am_K_17) (f := am_bd) (fun k hk => am_R17 hk)).trans (am_itn (fun g2 => ?_))
    refine (ev_getR rfl (by have := am_bd_lt (by omega : (x2.toNatClampNeg) < 11); omega) (am_Kbd (by omega : (x2.toNatClampNeg) < 11)) (by decide) rfl (am_Rb2 (by omega : (x2.toNatClampNeg) < 11))).trans ?_
    refine (ev_const0 (v := (0 : Int32)) rfl am_ci_0).trans ?_
    refine (ev_const1 (v := (9 : Int32)) rfl am_ci_9).trans ?_
    refine (ev_acpy rfl ha1 ka1 (by have := am_bd_lt (by omega : (x2.toNatClampNeg) < 11); omega) (am_Kbn (by omega : (x2.toNatClampNeg) < 11)) (by simp [Value.category])).trans (am_itn (fun g3 => ?_))
    refine (ev_aload rfl rfl).trans ?_
    refine (ev_getR rfl (by decide) am_K_16 (by decide) rfl am_R_16_0).trans ?_
    refine (ev_iload rfl rfl).trans ?_
    refine (ev_aald rfl (by decide) (Or.inl am_K_17) (f := am_bd) (fun k hk => am_R17 hk)).trans (am_itn (fun g4 => ?_))
    exact ev_invv (as := []) rfl (by have := am_bd_lt (by omega : (x2.toNatClampNeg) < 11); omega) (am_Kbd (by omega : (x2.toNatClampNeg) < 11)) rfl (by simp [Value.category])
set_option maxRecDepth 10000 in
theorem sg_109_23 (X : am_X) (I : Nat → Nat → Int32) (J : Nat → Nat → Int64) (a1 : Nat) (n1 : Nat) (x2 : Int32) (ha1 : a1 < 162) (ka1 : am_K a1 = (20, n1)) : am_ev X amP_109 23 [.ref 16, .ref a1, .int x2] [] (am_sh I J) = am_ev X amP_109 2 [.ref 16, .ref a1, .int (x2 + (1 : Int32))] [] (am_sh I J) := by
  refine (ev_iincv (v := (1 : Int32)) (ls' := [.ref 16, .ref a1, .int (x2 + (1 : Int32))]) rfl am_ci_1 rfl rfl).trans ?_
  refine (ev_goto rfl).trans ?_
  rfl
-- 111 X8_read
set_option maxRecDepth 10000 in
theorem sg_111_e0 (X : am_X) (I : Nat → Nat → Int32) (J : Nat → Nat → Int64) : am_ev X amP_111 0 [.ref 3, .null] [] (am_sh I J) = (am_do X 112 [.ref 3] (am_sh (am_up (am_up (am_up (am_up (am_up I 3 8 (0 : Int32)) 3 4 (0 : Int32)) 3 9 (0 : Int32)) 3 0 (0 : Int32)) 3 1 (-1 : Int32)) J)).bind (fun q => am_ev X amP_111 17 [.ref 3, .null] (q.1.toList ++ []) q.2) := by
  refine (ev_aload rfl rfl).trans ?_
  refine (ev_const0 (v := (0 : Int32)) rfl am_ci_0).trans ?_
  refine (ev_putI rfl (by decide) am_K_3 (by decide) rfl).trans ?_
  refine (ev_aload rfl rfl).trans ?_
  refine (ev_const0 (v := (0 : Int32)) rfl am_ci_0).trans ?_
  refine (ev_putI rfl (by decide) am_K_3 (by decide) rfl).trans ?_
  refine (ev_aload rfl rfl).trans ?_
  refine (ev_const0 (v := (0 : Int32)) rfl am_ci_0).trans ?_
  refine (ev_putZ rfl (by decide) am_K_3 (by decide) rfl (by decide)).trans ?_
  refine (ev_aload rfl rfl).trans ?_
  refine (ev_const0 (v := (0 : Int32)) rfl am_ci_0).trans ?_
  refine (ev_putI rfl (by decide) am_K_3 (by decide) rfl).trans ?_
  refine (ev_aload rfl rfl).trans ?_
  refine (ev_const0 (v := (-1 : Int32)) rfl am_ci_m1).trans ?_
  refine (ev_putI rfl (by decide) am_K_3 (by decide) rfl).trans ?_
  refine (ev_aload rfl rfl).trans ?_
  exact ev_invv (as := []) rfl (by decide) am_K_3 rfl (by simp [Value.category])
theorem cl_111 (X : am_X) (I : Nat → Nat → Int32) (J : Nat → Nat → Int64) : am_do X 111 [.ref 3] (am_sh I J) = am_ev X amP_111 0 [.ref 3, .null] [] (am_sh I J) := am_do_of rfl rfl rfl
set_option maxRecDepth 10000 in
theorem sg_111_17 (X : am_X) (I : Nat → Nat → Int32) (J : Nat → Nat → Int64) (w1 : Value) (hw1 : w1.category = 1) : am_ev X amP_111 17 [.ref 3, w1] [] (am_sh I J) = am_ev X amP_111 19 [.ref 3, .int (0 : Int32)] [] (am_sh I J) := by
  refine (ev_const0 (v := (0 : Int32)) rfl am_ci_0).trans ?_
  refine (ev_istore (ls' := [.ref 3, .int (0 : Int32)]) rfl (Nat.le_of_ble_eq_true rfl) rfl).trans ?_
  rfl
set_option maxRecDepth 10000 in
theorem sg_111_19 (X : am_X) (I : Nat → Nat → Int32) (J : Nat → Nat → Int64) (x1 : Int32) : am_ev X amP_111 19 [.ref 3, .int x1] [] (am_sh I J) = (if (10 : Int32) < x1 then (if ¬ (I 3 0) = 0 then some (some (.int (-1 : Int32)), am_sh I J) else some (some (.int ((I 3 4) + (1 : Int32))), am_sh I J)) else (if ¬ (I 3 0) = 0 then (if ¬ (I 3 0) = 0 then some (some (.int (-1 : Int32)), am_sh I J) else some (some (.int ((I 3 4) + (1 : Int32))), am_sh I J)) else (am_do X 114 [.ref 3] (am_sh I J)).bind (fun q => am_ev X amP_111 27 [.ref 3, .int x1] (q.1.toList ++ []) q.2))) := by
  refine (ev_iload rfl rfl).trans ?_
  refine (ev_const1 (v := (10 : Int32)) rfl am_ci_10).trans ?_
  refine (ev_icmp4 rfl).trans (am_ite (fun c1 => ?_) (fun c1 => ?_))
  · refine (ev_aload rfl rfl).trans ?_
    refine (ev_getI rfl (by decide) am_K_3 (by decide) rfl).trans ?_
    refine (ev_if1 rfl).trans (am_ite (fun c2 => ?_) (fun c2 => ?_))
    · refine (ev_const0 (v := (-1 : Int32)) rfl am_ci_m1).trans ?_
      exact ev_iret rfl
    · refine (ev_aload rfl rfl).trans ?_
      refine (ev_getI rfl (by decide) am_K_3 (by decide) rfl).trans ?_
      refine (ev_const0 (v := (1 : Int32)) rfl am_ci_1).trans ?_
      refine (ev_iadd rfl).trans ?_
      refine (ev_goto rfl).trans ?_
      exact ev_iret rfl
  · refine (ev_aload rfl rfl).trans ?_
    refine (ev_getI rfl (by decide) am_K_3 (by decide) rfl).trans ?_
    refine (ev_if1 rfl).trans (am_ite (fun c2 => ?_) (fun c2 => ?_))
    · refine (ev_aload rfl rfl).trans ?_
      refine (ev_getI rfl (by decide) am_K_3 (by decide) rfl).trans ?_
      refine (ev_if1 rfl).trans (am_ite (fun c3 => ?_) (fun c3 => ?_))
      · refine (ev_const0 (v := (-1 : Int32)) rfl am_ci_m1).trans ?_
        exact ev_iret rfl
      · refine (ev_aload rfl rfl).trans ?_
        refine (ev_getI rfl (by decide) am_K_3 (by decide) rfl).trans ?_
        refine (ev_const0 (v := (1 : Int32)) rfl am_ci_1).trans ?_
        refine (ev_iadd rfl).trans ?_
        refine (ev_goto rfl).trans ?_
        exact ev_iret rfl
    · refine (ev_aload rfl rfl).trans ?_
      exact ev_invv (as := []) rfl (by decide) am_K_3 rfl (by simp [Value.category])
set_option maxRecDepth 10000 in
theorem sg_111_27 (X : am_X) (I : Nat → Nat → Int32) (J : Nat → Nat → Int64) (x1 : Int32) : am_ev X amP_111 27 [.ref 3, .int x1] [] (am_sh I J) = (if (I 3 8) < (I 1 1) then (am_do X 113 [.ref 3] (am_sh I J)).bind (fun q => am_ev X amP_111 36 [.ref 3, .int x1] (q.1.toList ++ []) q.2) else (if ¬ (I 3 0) = 0 then some (some (.int (-1 : Int32)), am_sh I J) else some (some (.int ((I 3 4) + (1 : Int32))), am_sh I J))) := by
  refine (ev_aload rfl rfl).trans ?_
  refine (ev_getI rfl (by decide) am_K_3 (by decide) rfl).trans ?_
  refine (ev_aload rfl rfl).trans ?_
  refine (ev_getR rfl (by decide) am_K_3 (by decide) rfl am_R_3_7).trans ?_
  refine (ev_getI rfl (by decide) am_K_1 (by decide) rfl).trans ?_
  refine (ev_icmp2 rfl).trans (am_ite (fun c1 => ?_) (fun c1 => ?_))
  · refine (ev_aload rfl rfl).trans ?_
    exact ev_invv (as := []) rfl (by decide) am_K_3 rfl (by simp [Value.category])
  · refine (ev_goto rfl).trans ?_
    refine (ev_aload rfl rfl).trans ?_
    refine (ev_getI rfl (by decide) am_K_3 (by decide) rfl).trans ?_
    refine (ev_if1 rfl).trans (am_ite (fun c2 => ?_) (fun c2 => ?_))
    · refine (ev_const0 (v := (-1 : Int32)) rfl am_ci_m1).trans ?_
      exact ev_iret rfl
    · refine (ev_aload rfl rfl).trans ?_
      refine (ev_getI rfl (by decide) am_K_3 (by decide) rfl).trans ?_
      refine (ev_const0 (v := (1 : Int32)) rfl am_ci_1).trans ?_
      refine (ev_iadd rfl).trans ?_
      refine (ev_goto rfl).trans ?_
      exact ev_iret rfl
set_option maxRecDepth 10000 in
theorem sg_111_36 (X : am_X) (I : Nat → Nat → Int32) (J : Nat → Nat → Int64) (x1 : Int32) : am_ev X amP_111 36 [.ref 3, .int x1] [] (am_sh I J) = am_ev X amP_111 19 [.ref 3, .int (x1 + (1 : Int32))] [] (am_sh I J) := by
  refine (ev_iincv (v := (1 : Int32)) (ls' := [.ref 3, .int (x1 + (1 : Int32))]) rfl am_ci_1 rfl rfl).trans ?_
  refine (ev_goto rfl).trans ?_
  rfl
-- 112 X8_readGap
set_option maxRecDepth 10000 in
theorem sg_112_e0 (X : am_X) (I : Nat → Nat → Int32) (J : Nat → Nat → Int64) : am_ev X amP_112 0 [.ref 3] [] (am_sh I J) = (am_do X 115 [.ref 3, .int (0 : Int32)] (am_sh I J)).bind (fun q => am_ev X amP_112 3 [.ref 3] (q.1.toList ++ []) q.2) := by
  refine (ev_aload rfl rfl).trans ?_
  refine (ev_const0 (v := (0 : Int32)) rfl am_ci_0).trans ?_
  exact ev_invv (as := [.int (0 : Int32)]) rfl (by decide) am_K_3 rfl (by simp [Value.category])
theorem cl_112 (X : am_X) (I : Nat → Nat → Int32) (J : Nat → Nat → Int64) : am_do X 112 [.ref 3] (am_sh I J) = am_ev X amP_112 0 [.ref 3] [] (am_sh I J) := am_do_of rfl rfl rfl
set_option maxRecDepth 10000 in
theorem sg_112_3 (X : am_X) (I : Nat → Nat → Int32) (J : Nat → Nat → Int64) (x1 : Int32) : am_ev X amP_112 3 [.ref 3] [.int x1] (am_sh I J) = (if x1 = 0 then some (none, am_sh I J) else (am_do X 117 [.ref 3, .int (0 : Int32), .int (99 : Int32)] (am_sh I J)).bind (fun q => am_ev X amP_112 8 [.ref 3] (q.1.toList ++ []) q.2)) := by
  refine (ev_if0 rfl).trans (am_ite (fun c1 => ?_) (fun c1 => ?_))
  · exact ev_vret rfl
  · refine (ev_aload rfl rfl).trans ?_
    refine (ev_const0 (v := (0 : Int32)) rfl am_ci_0).trans ?_
    refine (ev_const1 (v := (99 : Int32)) rfl am_ci_99).trans ?_
    exact ev_invv (as := [.int (99 : Int32), .int (0 : Int32)]) rfl (by decide) am_K_3 rfl (by simp [Value.category])
set_option maxRecDepth 10000 in
theorem sg_112_8 (X : am_X) (I : Nat → Nat → Int32) (J : Nat → Nat → Int64) (x1 : Int32) : am_ev X amP_112 8 [.ref 3] [.int x1] (am_sh I J) = (if ¬ x1 = 0 then (am_do X 115 [.ref 3, .int (1 : Int32)] (am_sh (am_up I 3 2 (I 3 10)) J)).bind (fun q => am_ev X amP_112 17 [.ref 3] (q.1.toList ++ []) q.2) else some (none, am_sh I J)) := by
  refine (ev_if1 rfl).trans (am_ite (fun c1 => ?_) (fun c1 => ?_))
  · refine (ev_aload rfl rfl).trans ?_
    refine (ev_aload rfl rfl).trans ?_
    refine (ev_getI rfl (by decide) am_K_3 (by decide) rfl).trans ?_
    refine (ev_putI rfl (by decide) am_K_3 (by decide) rfl).trans ?_
    refine (ev_aload rfl rfl).trans ?_
    refine (ev_const0 (v := (1 : Int32)) rfl am_ci_1).trans ?_
    exact ev_invv (as := [.int (1 : Int32)]) rfl (by decide) am_K_3 rfl (by simp [Value.category])
  · exact ev_vret rfl
set_option maxRecDepth 10000 in
theorem sg_112_17 (X : am_X) (I : Nat → Nat → Int32) (J : Nat → Nat → Int64) (x1 : Int32) : am_ev X amP_112 17 [.ref 3] [.int x1] (am_sh I J) = (if x1 = 0 then some (none, am_sh I J) else (am_do X 117 [.ref 3, .int (0 : Int32), .int (20 : Int32)] (am_sh I J)).bind (fun q => am_ev X amP_112 22 [.ref 3] (q.1.toList ++ []) q.2)) := by
  refine (ev_if0 rfl).trans (am_ite (fun c1 => ?_) (fun c1 => ?_))
  · exact ev_vret rfl
  · refine (ev_aload rfl rfl).trans ?_
    refine (ev_const0 (v := (0 : Int32)) rfl am_ci_0).trans ?_
    refine (ev_const1 (v := (20 : Int32)) rfl am_ci_20).trans ?_
    exact ev_invv (as := [.int (20 : Int32), .int (0 : Int32)]) rfl (by decide) am_K_3 rfl (by simp [Value.category])
set_option maxRecDepth 10000 in
theorem sg_112_22 (X : am_X) (I : Nat → Nat → Int32) (J : Nat → Nat → Int64) (x1 : Int32) : am_ev X amP_112 22 [.ref 3] [.int x1] (am_sh I J) = (if ¬ x1 = 0 then (am_do X 118 [.ref 3] (am_sh (am_up I 3 3 (I 3 10)) J)).bind (fun q => am_ev X amP_112 30 [.ref 3] (q.1.toList ++ []) q.2) else some (none, am_sh I J)) := by
  refine (ev_if1 rfl).trans (am_ite (fun c1 => ?_) (fun c1 => ?_))
  · refine (ev_aload rfl rfl).trans ?_
    refine (ev_aload rfl rfl).trans ?_
    refine (ev_getI rfl (by decide) am_K_3 (by decide) rfl).trans ?_
    refine (ev_putI rfl (by decide) am_K_3 (by decide) rfl).trans ?_
    refine (ev_aload rfl rfl).trans ?_
    exact ev_invv (as := []) rfl (by decide) am_K_3 rfl (by simp [Value.category])
  · exact ev_vret rfl
set_option maxRecDepth 10000 in
theorem sg_112_30 (X : am_X) (I : Nat → Nat → Int32) (J : Nat → Nat → Int64) (x1 : Int32) : am_ev X amP_112 30 [.ref 3] [.int x1] (am_sh I J) = some (none, am_sh I J) := by
  refine (ev_popi rfl).trans ?_
  exact ev_vret rfl
-- 113 X8_readBody
set_option maxRecDepth 10000 in
theorem sg_113_e0 (X : am_X) (I : Nat → Nat → Int32) (J : Nat → Nat → Int64) : am_ev X amP_113 0 [.ref 3, .null, .null, .null] [] (am_sh I J) = (am_do X 115 [.ref 3, .int (2 : Int32)] (am_sh I J)).bind (fun q => am_ev X amP_113 6 [.ref 3, .int (I 3 8), .null, .null] (q.1.toList ++ []) q.2) := by
  refine (ev_aload rfl rfl).trans ?_
  refine (ev_getI rfl (by decide) am_K_3 (by decide) rfl).trans ?_
  refine (ev_istore (ls' := [.ref 3, .int (I 3 8), .null, .null]) rfl (Nat.le_of_ble_eq_true rfl) rfl).trans ?_
  refine (ev_aload rfl rfl).trans ?_
  refine (ev_const0 (v := (2 : Int32)) rfl am_ci_2).trans ?_
  exact ev_invv (as := [.int (2 : Int32)]) rfl (by decide) am_K_3 rfl (by simp [Value.category])
theorem cl_113 (X : am_X) (I : Nat → Nat → Int32) (J : Nat → Nat → Int64) : am_do X 113 [.ref 3] (am_sh I J) = am_ev X amP_113 0 [.ref 3, .null, .null, .null] [] (am_sh I J) := am_do_of rfl rfl rfl
set_option maxRecDepth 10000 in
theorem sg_113_6 (X : am_X) (I : Nat → Nat → Int32) (J : Nat → Nat → Int64) (x1 : Int32) (w2 : Value) (w3 : Value) (x4 : Int32) (hw2 : w2.category = 1) (hw3 : w3.category = 1) : am_ev X amP_113 6 [.ref 3, .int x1, w2, w3] [.int x4] (am_sh I J) = (if ¬ x4 = 0 then (if (I 3 4) < (10 : Int32) then (am_do X 116 [.ref 3] (am_sh I J)).bind (fun q => am_ev X amP_113 20 [.ref 3, .int x1, w2, w3] (q.1.toList ++ []) q.2) else (am_do X 120 [.ref 3, .int (5 : Int32), .int x1] (am_sh I J)).bind (fun q => am_ev X amP_113 16 [.ref 3, .int x1, w2, w3] (q.1.toList ++ []) q.2)) else some (none, am_sh I J)) := by
  refine (ev_if1 rfl).trans (am_ite (fun c1 => ?_) (fun c1 => ?_))
  · refine (ev_aload rfl rfl).trans ?_
    refine (ev_getI rfl (by decide) am_K_3 (by decide) rfl).trans ?_
    refine (ev_const1 (v := (10 : Int32)) rfl am_ci_10).trans ?_
    refine (ev_icmp2 rfl).trans (am_ite (fun c2 => ?_) (fun c2 => ?_))
    · refine (ev_aload rfl rfl).trans ?_
      exact ev_invv (as := []) rfl (by decide) am_K_3 rfl (by simp [Value.category])
    · refine (ev_aload rfl rfl).trans ?_
      refine (ev_const0 (v := (5 : Int32)) rfl am_ci_5).trans ?_
      refine (ev_iload rfl rfl).trans ?_
      exact ev_invv (as := [.int x1, .int (5 : Int32)]) rfl (by decide) am_K_3 rfl (by simp [Value.category])
  · exact ev_vret rfl
set_option maxRecDepth 10000 in
theorem sg_113_16 (X : am_X) (I : Nat → Nat → Int32) (J : Nat → Nat → Int64) (x1 : Int32) (w2 : Value) (w3 : Value) (x4 : Int32) (hw2 : w2.category = 1) (hw3 : w3.category = 1) : am_ev X amP_113 16 [.ref 3, .int x1, w2, w3] [.int x4] (am_sh I J) = some (none, am_sh I J) := by
  refine (ev_popi rfl).trans ?_
  exact ev_vret rfl
set_option maxRecDepth 10000 in
theorem sg_113_20 (X : am_X) (I : Nat → Nat → Int32) (J : Nat → Nat → Int64) (x1 : Int32) (w2 : Value) (w3 : Value) (x4 : Int32) (hw2 : w2.category = 1) (hw3 : w3.category = 1) : am_ev X amP_113 20 [.ref 3, .int x1, w2, w3] [.int x4] (am_sh I J) = (if ¬ x4 = 0 then (if (I 3 4) < 0 ∨ 10 ≤ (I 3 4).toNatClampNeg then none else am_ev X amP_113 30 [.ref 3, .int x1, .ref (6 + (I 3 4).toNatClampNeg), .int (0 : Int32)] [] (am_sh I J)) else some (none, am_sh I J)) := by
  refine (ev_if1 rfl).trans (am_ite (fun c1 => ?_) (fun c1 => ?_))
  · refine (ev_aload rfl rfl).trans ?_
    refine (ev_getR rfl (by decide) am_K_3 (by decide) rfl am_R_3_6).trans ?_
    refine (ev_aload rfl rfl).trans ?_
    refine (ev_getI rfl (by decide) am_K_3 (by decide) rfl).trans ?_
    refine (ev_aald rfl (by decide) (Or.inr am_K_5) (f := (fun k => 6 + k)) (fun k hk => am_R5 hk)).trans (am_itn (fun g2 => ?_))
    refine (ev_astore (ls' := [.ref 3, .int x1, .ref (6 + (I 3 4).toNatClampNeg), w3]) rfl (Nat.le_of_ble_eq_true rfl) rfl).trans ?_
    refine (ev_const0 (v := (0 : Int32)) rfl am_ci_0).trans ?_
    refine (ev_istore (ls' := [.ref 3, .int x1, .ref (6 + (I 3 4).toNatClampNeg), .int (0 : Int32)]) rfl (Nat.le_of_ble_eq_true rfl) rfl).trans ?_
    rfl
  · exact ev_vret rfl
set_option maxRecDepth 10000 in
theorem sg_113_30 (X : am_X) (I : Nat → Nat → Int32) (J : Nat → Nat → Int64) (x1 : Int32) (k2 : Nat) (x3 : Int32) (hk2 : k2 < 10) : am_ev X amP_113 30 [.ref 3, .int x1, .ref (6 + k2), .int x3] [] (am_sh I J) = (if (8 : Int32) ≤ x3 then (am_do X 118 [.ref 3] (am_sh I J)).bind (fun q => am_ev X amP_113 58 [.ref 3, .int x1, .ref (6 + k2), .int x3] (q.1.toList ++ []) q.2) else (am_do X 115 [.ref 3, .int ((3 : Int32) + x3)] (am_sh I J)).bind (fun q => am_ev X amP_113 38 [.ref 3, .int x1, .ref (6 + k2), .int x3] (q.1.toList ++ []) q.2)) := by
  refine (ev_iload rfl rfl).trans ?_
  refine (ev_const1 (v := (8 : Int32)) rfl am_ci_8).trans ?_
  refine (ev_icmp3 rfl).trans (am_ite (fun c1 => ?_) (fun c1 => ?_))
  · refine (ev_aload rfl rfl).trans ?_
    exact ev_invv (as := []) rfl (by decide) am_K_3 rfl (by simp [Value.category])
  · refine (ev_aload rfl rfl).trans ?_
    refine (ev_const0 (v := (3 : Int32)) rfl am_ci_3).trans ?_
    refine (ev_iload rfl rfl).trans ?_
    refine (ev_iadd rfl).trans ?_
    exact ev_invv (as := [.int ((3 : Int32) + x3)]) rfl (by decide) am_K_3 rfl (by simp [Value.category])
set_option maxRecDepth 10000 in
theorem sg_113_38 (X : am_X) (I : Nat → Nat → Int32) (J : Nat → Nat → Int64) (x1 : Int32) (k2 : Nat) (x3 : Int32) (x4 : Int32) (hk2 : k2 < 10) : am_ev X amP_113 38 [.ref 3, .int x1, .ref (6 + k2), .int x3] [.int x4] (am_sh I J) = (if x4 = 0 then some (none, am_sh I J) else (am_do X 27 [.ref (6 + k2), .int x3] (am_sh I J)).bind (fun q => am_ev X amP_113 43 [.ref 3, .int x1, .ref (6 + k2), .int x3] (q.1.toList ++ [.ref 3]) q.2)) := by
  refine (ev_if0 rfl).trans (am_ite (fun c1 => ?_) (fun c1 => ?_))
  · exact ev_vret rfl
  · refine (ev_aload rfl rfl).trans ?_
    refine (ev_aload rfl rfl).trans ?_
    refine (ev_iload rfl rfl).trans ?_
    exact ev_invs (as := [.int x3, .ref (6 + k2)]) rfl rfl (by simp [Value.category])
set_option maxRecDepth 10000 in
theorem sg_113_43 (X : am_X) (I : Nat → Nat → Int32) (J : Nat → Nat → Int64) (x1 : Int32) (k2 : Nat) (x3 : Int32) (x4 : Int32) (hk2 : k2 < 10) : am_ev X amP_113 43 [.ref 3, .int x1, .ref (6 + k2), .int x3] [.int x4, .ref 3] (am_sh I J) = (am_do X 28 [.ref (6 + k2), .int x3] (am_sh I J)).bind (fun q => am_ev X amP_113 46 [.ref 3, .int x1, .ref (6 + k2), .int x3] (q.1.toList ++ [.int x4, .ref 3]) q.2) := by
  refine (ev_aload rfl rfl).trans ?_
  refine (ev_iload rfl rfl).trans ?_
  exact ev_invs (as := [.int x3, .ref (6 + k2)]) rfl rfl (by simp [Value.category])
set_option maxRecDepth 10000 in
theorem sg_113_46 (X : am_X) (I : Nat → Nat → Int32) (J : Nat → Nat → Int64) (x1 : Int32) (k2 : Nat) (x3 : Int32) (x4 : Int32) (x5 : Int32) (hk2 : k2 < 10) : am_ev X amP_113 46 [.ref 3, .int x1, .ref (6 + k2), .int x3] [.int x5, .int x4, .ref 3] (am_sh I J) = (am_do X 117 [.ref 3, .int x4, .int x5] (am_sh I J)).bind (fun q => am_ev X amP_113 47 [.ref 3, .int x1, .ref (6 + k2), .int x3] (q.1.toList ++ []) q.2) := by
  exact ev_invv (as := [.int x5, .int x4]) rfl (by decide) am_K_3 rfl (by simp [Value.category])
set_option maxRecDepth 10000 in
theorem sg_113_47 (X : am_X) (I : Nat → Nat → Int32) (J : Nat → Nat → Int64) (x1 : Int32) (k2 : Nat) (x3 : Int32) (x4 : Int32) (hk2 : k2 < 10) : am_ev X amP_113 47 [.ref 3, .int x1, .ref (6 + k2), .int x3] [.int x4] (am_sh I J) = (if ¬ x4 = 0 then (if x3 < 0 ∨ 9 ≤ x3.toNatClampNeg then none else am_ev X amP_113 30 [.ref 3, .int x1, .ref (6 + k2), .int (x3 + (1 : Int32))] [] (am_sh (am_up I (6 + k2) x3.toNatClampNeg (I 3 10)) J)) else some (none, am_sh I J)) := by
  refine (ev_if1 rfl).trans (am_ite (fun c1 => ?_) (fun c1 => ?_))
  · refine (ev_aload rfl rfl).trans ?_
    refine (ev_iload rfl rfl).trans ?_
    refine (ev_aload rfl rfl).trans ?_
    refine (ev_getI rfl (by decide) am_K_3 (by decide) rfl).trans ?_
    refine (ev_iast rfl (by omega) (am_K6 hk2)).trans (am_itn (fun g2 => ?_))
    refine (ev_iincv (v := (1 : Int32)) (ls' := [.ref 3, .int x1, .ref (6 + k2), .int (x3 + (1 : Int32))]) rfl am_ci_1 rfl rfl).trans ?_
    refine (ev_goto rfl).trans ?_
    rfl
  · exact ev_vret rfl
set_option maxRecDepth 10000 in
theorem sg_113_58 (X : am_X) (I : Nat → Nat → Int32) (J : Nat → Nat → Int64) (x1 : Int32) (k2 : Nat) (x3 : Int32) (x4 : Int32) (hk2 : k2 < 10) : am_ev X amP_113 58 [.ref 3, .int x1, .ref (6 + k2), .int x3] [.int x4] (am_sh I J) = (if x4 = 0 then some (none, am_sh I J) else some (none, am_sh (am_up (am_up I (6 + k2) 8 (1 : Int32)) 3 4 (((am_up I (6 + k2) 8 (1 : Int32)) 3 4) + (1 : Int32))) J)) := by
  refine (ev_if0 rfl).trans (am_ite (fun c1 => ?_) (fun c1 => ?_))
  · exact ev_vret rfl
  · refine (ev_aload rfl rfl).trans ?_
    refine (ev_const1 (v := (8 : Int32)) rfl am_ci_8).trans ?_
    refine (ev_const0 (v := (1 : Int32)) rfl am_ci_1).trans ?_
    refine (ev_iastC (jn := 8) rfl (by omega) (am_K6 hk2) (by decide) (by decide)).trans ?_
    refine (ev_aload rfl rfl).trans ?_
    refine (ev_dupr rfl).trans ?_
    refine (ev_getI rfl (by decide) am_K_3 (by decide) rfl).trans ?_
    refine (ev_const0 (v := (1 : Int32)) rfl am_ci_1).trans ?_
    refine (ev_iadd rfl).trans ?_
    refine (ev_putI rfl (by decide) am_K_3 (by decide) rfl).trans ?_
    exact ev_vret rfl
-- 114 X8_skipBlanks
set_option maxRecDepth 10000 in
theorem sg_114_e0 (X : am_X) (I : Nat → Nat → Int32) (J : Nat → Nat → Int64) : am_ev X amP_114 0 [.ref 3] [] (am_sh I J) = (if (I 1 1) ≤ (I 3 8) then some (none, am_sh I J) else (am_do X 125 [.ref 1, .int (I 3 8)] (am_sh I J)).bind (fun q => am_ev X amP_114 11 [.ref 3] (q.1.toList ++ []) q.2)) := by
  refine (ev_aload rfl rfl).trans ?_
  refine (ev_getI rfl (by decide) am_K_3 (by decide) rfl).trans ?_
  refine (ev_aload rfl rfl).trans ?_
  refine (ev_getR rfl (by decide) am_K_3 (by decide) rfl am_R_3_7).trans ?_
  refine (ev_getI rfl (by decide) am_K_1 (by decide) rfl).trans ?_
  refine (ev_icmp3 rfl).trans (am_ite (fun c1 => ?_) (fun c1 => ?_))
  · exact ev_vret rfl
  · refine (ev_aload rfl rfl).trans ?_
    refine (ev_getR rfl (by decide) am_K_3 (by decide) rfl am_R_3_7).trans ?_
    refine (ev_aload rfl rfl).trans ?_
    refine (ev_getI rfl (by decide) am_K_3 (by decide) rfl).trans ?_
    exact ev_invv (as := [.int (I 3 8)]) rfl (by decide) am_K_1 rfl (by simp [Value.category])
theorem cl_114 (X : am_X) (I : Nat → Nat → Int32) (J : Nat → Nat → Int64) : am_do X 114 [.ref 3] (am_sh I J) = am_ev X amP_114 0 [.ref 3] [] (am_sh I J) := am_do_of rfl rfl rfl
set_option maxRecDepth 10000 in
theorem sg_114_0 (X : am_X) (I : Nat → Nat → Int32) (J : Nat → Nat → Int64) : am_ev X amP_114 0 [.ref 3] [] (am_sh I J) = (if (I 1 1) ≤ (I 3 8) then some (none, am_sh I J) else (am_do X 125 [.ref 1, .int (I 3 8)] (am_sh I J)).bind (fun q => am_ev X amP_114 11 [.ref 3] (q.1.toList ++ []) q.2)) := by
  refine (ev_aload rfl rfl).trans ?_
  refine (ev_getI rfl (by decide) am_K_3 (by decide) rfl).trans ?_
  refine (ev_aload rfl rfl).trans ?_
  refine (ev_getR rfl (by decide) am_K_3 (by decide) rfl am_R_3_7).trans ?_
  refine (ev_getI rfl (by decide) am_K_1 (by decide) rfl).trans ?_
  refine (ev_icmp3 rfl).trans (am_ite (fun c1 => ?_) (fun c1 => ?_))
  · exact ev_vret rfl
  · refine (ev_aload rfl rfl).trans ?_
    refine (ev_getR rfl (by decide) am_K_3 (by decide) rfl am_R_3_7).trans ?_
    refine (ev_aload rfl rfl).trans ?_
    refine (ev_getI rfl (by decide) am_K_3 (by decide) rfl).trans ?_
    exact ev_invv (as := [.int (I 3 8)]) rfl (by decide) am_K_1 rfl (by simp [Value.category])
set_option maxRecDepth 10000 in
theorem sg_114_11 (X : am_X) (I : Nat → Nat → Int32) (J : Nat → Nat → Int64) (x1 : Int32) : am_ev X amP_114 11 [.ref 3] [.int x1] (am_sh I J) = (if x1 = (32 : Int32) then am_ev X amP_114 0 [.ref 3] [] (am_sh (am_up (am_up I 3 8 ((I 3 8) + (1 : Int32))) 3 9 (0 : Int32)) J) else (am_do X 125 [.ref 1, .int (I 3 8)] (am_sh I J)).bind (fun q => am_ev X amP_114 18 [.ref 3] (q.1.toList ++ []) q.2)) := by
  refine (ev_const1 (v := (32 : Int32)) rfl am_ci_32).trans ?_
  refine (ev_icmp0 rfl).trans (am_ite (fun c1 => ?_) (fun c1 => ?_))
  · refine (ev_aload rfl rfl).trans ?_
    refine (ev_dupr rfl).trans ?_
    refine (ev_getI rfl (by decide) am_K_3 (by decide) rfl).trans ?_
    refine (ev_const0 (v := (1 : Int32)) rfl am_ci_1).trans ?_
    refine (ev_iadd rfl).trans ?_
    refine (ev_putI rfl (by decide) am_K_3 (by decide) rfl).trans ?_
    refine (ev_aload rfl rfl).trans ?_
    refine (ev_const0 (v := (0 : Int32)) rfl am_ci_0).trans ?_
    refine (ev_putZ rfl (by decide) am_K_3 (by decide) rfl (by decide)).trans ?_
    refine (ev_goto rfl).trans ?_
    rfl
  · refine (ev_aload rfl rfl).trans ?_
    refine (ev_getR rfl (by decide) am_K_3 (by decide) rfl am_R_3_7).trans ?_
    refine (ev_aload rfl rfl).trans ?_
    refine (ev_getI rfl (by decide) am_K_3 (by decide) rfl).trans ?_
    exact ev_invv (as := [.int (I 3 8)]) rfl (by decide) am_K_1 rfl (by simp [Value.category])
set_option maxRecDepth 10000 in
theorem sg_114_18 (X : am_X) (I : Nat → Nat → Int32) (J : Nat → Nat → Int64) (x1 : Int32) : am_ev X amP_114 18 [.ref 3] [.int x1] (am_sh I J) = (if ¬ x1 = (10 : Int32) then some (none, am_sh I J) else am_ev X amP_114 0 [.ref 3] [] (am_sh (am_up (am_up I 3 8 ((I 3 8) + (1 : Int32))) 3 9 (0 : Int32)) J)) := by
  refine (ev_const1 (v := (10 : Int32)) rfl am_ci_10).trans ?_
  refine (ev_icmp1 rfl).trans (am_ite (fun c1 => ?_) (fun c1 => ?_))
  · exact ev_vret rfl
  · refine (ev_aload rfl rfl).trans ?_
    refine (ev_dupr rfl).trans ?_
    refine (ev_getI rfl (by decide) am_K_3 (by decide) rfl).trans ?_
    refine (ev_const0 (v := (1 : Int32)) rfl am_ci_1).trans ?_
    refine (ev_iadd rfl).trans ?_
    refine (ev_putI rfl (by decide) am_K_3 (by decide) rfl).trans ?_
    refine (ev_aload rfl rfl).trans ?_
    refine (ev_const0 (v := (0 : Int32)) rfl am_ci_0).trans ?_
    refine (ev_putZ rfl (by decide) am_K_3 (by decide) rfl (by decide)).trans ?_
    refine (ev_goto rfl).trans ?_
    rfl
