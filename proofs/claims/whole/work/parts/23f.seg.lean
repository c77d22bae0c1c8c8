-- 148 X10_seek
set_option maxRecDepth 10000 in
theorem sg_148_e0 (X : am_X) (I : Nat → Nat → Int32) (J : Nat → Nat → Int64) (x1 : Int32) (x2 : Int32) : am_ev X amP_148 0 [.ref 96, .int x1, .int x2, .null, .null, .null, .null, .null] [] (am_sh I J) = am_ev X amP_148 2 [.ref 96, .int x1, .int x2, .int (1 : Int32), .null, .null, .null, .null] [] (am_sh I J) := by
  refine (ev_const0 (v := (1 : Int32)) rfl am_ci_1).trans ?_
  refine (ev_istore (ls' := [.ref 96, .int x1, .int x2, .int (1 : Int32), .null, .null, .null, .null]) rfl (Nat.le_of_ble_eq_true rfl) rfl).trans ?_
  rfl
theorem cl_148 (X : am_X) (I : Nat → Nat → Int32) (J : Nat → Nat → Int64) (x1 : Int32) (x2 : Int32) : am_do X 148 [.ref 96, .int x1, .int x2] (am_sh I J) = am_ev X amP_148 0 [.ref 96, .int x1, .int x2, .null, .null, .null, .null, .null] [] (am_sh I J) := am_do_of rfl rfl rfl
set_option maxRecDepth 10000 in
theorem sg_148_2 (X : am_X) (I : Nat → Nat → Int32) (J : Nat → Nat → Int64) (x1 : Int32) (x2 : Int32) (x3 : Int32) (w4 : Value) (w5 : Value) (w6 : Value) (w7 : Value) (hw4 : w4.category = 1) (hw5 : w5.category = 1) (hw6 : w6.category = 1) (hw7 : w7.category = 1) : am_ev X amP_148 2 [.ref 96, .int x1, .int x2, .int x3, w4, w5, w6, w7] [] (am_sh I J) = (if (99 : Int32) < x3 then some (some (.int (0 : Int32)), am_sh I J) else (if x1 = 0 then some (some (.int (0 : Int32)), am_sh I J) else am_ev X amP_148 9 [.ref 96, .int x1, .int x2, .int x3, .int (0 : Int32), w5, w6, w7] [] (am_sh I J))) := by
  refine (ev_iload rfl rfl).trans ?_
  refine (ev_const1 (v := (99 : Int32)) rfl am_ci_99).trans ?_
  refine (ev_icmp4 rfl).trans (am_ite (fun c1 => ?_) (fun c1 => ?_))
  · refine (ev_const0 (v := (0 : Int32)) rfl am_ci_0).trans ?_
    exact ev_zret rfl (by decide)
  · refine (ev_iload rfl rfl).trans ?_
    refine (ev_if0 rfl).trans (am_ite (fun c2 => ?_) (fun c2 => ?_))
    · refine (ev_const0 (v := (0 : Int32)) rfl am_ci_0).trans ?_
      exact ev_zret rfl (by decide)
    · refine (ev_const0 (v := (0 : Int32)) rfl am_ci_0).trans ?_
      refine (ev_istore (ls' := [.ref 96, .int x1, .int x2, .int x3, .int (0 : Int32), w5, w6, w7]) rfl (Nat.le_of_ble_eq_true rfl) rfl).trans ?_
      rfl
set_option maxRecDepth 10000 in
theorem sg_148_9 (X : am_X) (I : Nat → Nat → Int32) (J : Nat → Nat → Int64) (x1 : Int32) (x2 : Int32) (x3 : Int32) (x4 : Int32) (w5 : Value) (w6 : Value) (w7 : Value) (hw5 : w5.category = 1) (hw6 : w6.category = 1) (hw7 : w7.category = 1) : am_ev X amP_148 9 [.ref 96, .int x1, .int x2, .int x3, .int x4, w5, w6, w7] [] (am_sh I J) = (if (I 16 2) ≤ x4 then am_ev X amP_148 2 [.ref 96, .int x1, .int x2, .int (x3 + (1 : Int32)), .int x4, w5, w6, w7] [] (am_sh I J) else (if ¬ ((x1 >>> (x4 &&& 31)) &&& (1 : Int32)) = (1 : Int32) then am_ev X amP_148 27 [.ref 96, .int x1, .int x2, .int x3, .int x4, .int (0 : Int32), .int (0 : Int32), w7] [] (am_sh I J) else am_ev X amP_148 27 [.ref 96, .int x1, .int x2, .int x3, .int x4, .int (12 : Int32), .int (0 : Int32), w7] [] (am_sh I J))) := by
  refine (ev_iload rfl rfl).trans ?_
  refine (ev_aload rfl rfl).trans ?_
  refine (ev_getR rfl (by decide) am_K_96 (by decide) rfl am_R_96_0).trans ?_
  refine (ev_getI rfl (by decide) am_K_16 (by decide) rfl).trans ?_
  refine (ev_icmp3 rfl).trans (am_ite (fun c1 => ?_) (fun c1 => ?_))
  · refine (ev_iincv (v := (1 : Int32)) (ls' := [.ref 96, .int x1, .int x2, .int (x3 + (1 : Int32)), .int x4, w5, w6, w7]) rfl am_ci_1 rfl rfl).trans ?_
    refine (ev_goto rfl).trans ?_
    rfl
  · refine (ev_iload rfl rfl).trans ?_
    refine (ev_iload rfl rfl).trans ?_
    refine (ev_ishr rfl).trans ?_
    refine (ev_const0 (v := (1 : Int32)) rfl am_ci_1).trans ?_
    refine (ev_iand rfl).trans ?_
    refine (ev_const0 (v := (1 : Int32)) rfl am_ci_1).trans ?_
    refine (ev_icmp1 rfl).trans (am_ite (fun c2 => ?_) (fun c2 => ?_))
    · refine (ev_const0 (v := (0 : Int32)) rfl am_ci_0).trans ?_
      refine (ev_istore (ls' := [.ref 96, .int x1, .int x2, .int x3, .int x4, .int (0 : Int32), w6, w7]) rfl (Nat.le_of_ble_eq_true rfl) rfl).trans ?_
      refine (ev_const0 (v := (0 : Int32)) rfl am_ci_0).trans ?_
      refine (ev_istore (ls' := [.ref 96, .int x1, .int x2, .int x3, .int x4, .int (0 : Int32), .int (0 : Int32), w7]) rfl (Nat.le_of_ble_eq_true rfl) rfl).trans ?_
      rfl
    · refine (ev_const1 (v := (12 : Int32)) rfl am_ci_12).trans ?_
      refine (ev_goto rfl).trans ?_
      refine (ev_istore (ls' := [.ref 96, .int x1, .int x2, .int x3, .int x4, .int (12 : Int32), w6, w7]) rfl (Nat.le_of_ble_eq_true rfl) rfl).trans ?_
      refine (ev_const0 (v := (0 : Int32)) rfl am_ci_0).trans ?_
      refine (ev_istore (ls' := [.ref 96, .int x1, .int x2, .int x3, .int x4, .int (12 : Int32), .int (0 : Int32), w7]) rfl (Nat.le_of_ble_eq_true rfl) rfl).trans ?_
      rfl
set_option maxRecDepth 10000 in
theorem sg_148_27 (X : am_X) (I : Nat → Nat → Int32) (J : Nat → Nat → Int64) (x1 : Int32) (x2 : Int32) (x3 : Int32) (x4 : Int32) (x5 : Int32) (x6 : Int32) (w7 : Value) (hw7 : w7.category = 1) : am_ev X amP_148 27 [.ref 96, .int x1, .int x2, .int x3, .int x4, .int x5, .int x6, w7] [] (am_sh I J) = (if x5 ≤ x6 then am_ev X amP_148 9 [.ref 96, .int x1, .int x2, .int x3, .int (x4 + (1 : Int32)), .int x5, .int x6, w7] [] (am_sh I J) else (if x4 < 0 ∨ 10 ≤ x4.toNatClampNeg then none else (am_do X 45 [.ref (am_bd (x4.toNatClampNeg)), .int (x6 / (2 : Int32)), .int x3, .int (x6 - x6 / (2 : Int32) * (2 : Int32))] (am_sh I J)).bind (fun q => am_ev X amP_148 43 [.ref 96, .int x1, .int x2, .int x3, .int x4, .int x5, .int x6, w7] (q.1.toList ++ []) q.2))) := by
  refine (ev_iload rfl rfl).trans ?_
  refine (ev_iload rfl rfl).trans ?_
  refine (ev_icmp3 rfl).trans (am_ite (fun c1 => ?_) (fun c1 => ?_))
  · refine (ev_iincv (v := (1 : Int32)) (ls' := [.ref 96, .int x1, .int x2, .int x3, .int (x4 + (1 : Int32)), .int x5, .int x6, w7]) rfl am_ci_1 rfl rfl).trans ?_
    refine (ev_goto rfl).trans ?_
    rfl
  · refine (ev_aload rfl rfl).trans ?_
    refine (ev_getR rfl (by decide) am_K_96 (by decide) rfl am_R_96_0).trans ?_
    refine (ev_getR rfl (by decide) am_K_16 (by decide) rfl am_R_16_0).trans ?_
    refine (ev_iload rfl rfl).trans ?_
    refine (ev_aald rfl (by decide) (Or.inl am_K_17) (f := am_bd) (fun k hk => am_R17 hk)).trans (am_itn (fun g2 => ?_))
    refine (ev_iload rfl rfl).trans ?_
    refine (ev_const0 (v := (2 : Int32)) rfl am_ci_2).trans ?_
    refine (ev_idivN (by decide) rfl).trans ?_
    refine (ev_iload rfl rfl).trans ?_
    refine (ev_iload rfl rfl).trans ?_
    refine (ev_const0 (v := (2 : Int32)) rfl am_ci_2).trans ?_
    refine (ev_iremN (by decide) rfl).trans ?_
    exact ev_invv (as := [.int (x6 - x6 / (2 : Int32) * (2 : Int32)), .int x3, .int (x6 / (2 : Int32))]) rfl (by have := am_bd_lt (by omega : (x4.toNatClampNeg) < 11); omega) (am_Kbd (by omega : (x4.toNatClampNeg) < 11)) rfl (by simp [Value.category])
set_option maxRecDepth 10000 in
theorem sg_148_43 (X : am_X) (I : Nat → Nat → Int32) (J : Nat → Nat → Int64) (x1 : Int32) (x2 : Int32) (x3 : Int32) (x4 : Int32) (x5 : Int32) (x6 : Int32) (w7 : Value) (x8 : Int32) (hw7 : w7.category = 1) : am_ev X amP_148 43 [.ref 96, .int x1, .int x2, .int x3, .int x4, .int x5, .int x6, w7] [.int x8] (am_sh I J) = (if x8 = (-1 : Int32) then am_ev X amP_148 27 [.ref 96, .int x1, .int x2, .int x3, .int x4, .int x5, .int (x6 + (1 : Int32)), .int x8] [] (am_sh I J) else (am_do X 150 [.ref 96, .int x4, .int (x6 / (2 : Int32)), .int x8, .int x2] (am_sh I J)).bind (fun q => am_ev X amP_148 55 [.ref 96, .int x1, .int x2, .int x3, .int x4, .int x5, .int x6, .int x8] (q.1.toList ++ []) q.2)) := by
  refine (ev_istore (ls' := [.ref 96, .int x1, .int x2, .int x3, .int x4, .int x5, .int x6, .int x8]) rfl (Nat.le_of_ble_eq_true rfl) rfl).trans ?_
  refine (ev_iload rfl rfl).trans ?_
  refine (ev_const0 (v := (-1 : Int32)) rfl am_ci_m1).trans ?_
  refine (ev_icmp0 rfl).trans (am_ite (fun c1 => ?_) (fun c1 => ?_))
  · refine (ev_iincv (v := (1 : Int32)) (ls' := [.ref 96, .int x1, .int x2, .int x3, .int x4, .int x5, .int (x6 + (1 : Int32)), .int x8]) rfl am_ci_1 rfl rfl).trans ?_
    refine (ev_goto rfl).trans ?_
    rfl
  · refine (ev_aload rfl rfl).trans ?_
    refine (ev_iload rfl rfl).trans ?_
    refine (ev_iload rfl rfl).trans ?_
    refine (ev_const0 (v := (2 : Int32)) rfl am_ci_2).trans ?_
    refine (ev_idivN (by decide) rfl).trans ?_
    refine (ev_iload rfl rfl).trans ?_
    refine (ev_iload rfl rfl).trans ?_
    exact ev_invv (as := [.int x2, .int x8, .int (x6 / (2 : Int32)), .int x4]) rfl (by decide) am_K_96 rfl (by simp [Value.category])
set_option maxRecDepth 10000 in
theorem sg_148_55 (X : am_X) (I : Nat → Nat → Int32) (J : Nat → Nat → Int64) (x1 : Int32) (x2 : Int32) (x3 : Int32) (x4 : Int32) (x5 : Int32) (x6 : Int32) (x7 : Int32) (x8 : Int32) : am_ev X amP_148 55 [.ref 96, .int x1, .int x2, .int x3, .int x4, .int x5, .int x6, .int x7] [.int x8] (am_sh I J) = (if x8 = 0 then am_ev X amP_148 27 [.ref 96, .int x1, .int x2, .int x3, .int x4, .int x5, .int (x6 + (1 : Int32)), .int x7] [] (am_sh I J) else (am_do X 149 [.ref 96, .int x4, .int (x6 / (2 : Int32)), .int x7, .int x3] (am_sh I J)).bind (fun q => am_ev X amP_148 64 [.ref 96, .int x1, .int x2, .int x3, .int x4, .int x5, .int x6, .int x7] (q.1.toList ++ []) q.2)) := by
  refine (ev_if0 rfl).trans (am_ite (fun c1 => ?_) (fun c1 => ?_))
  · refine (ev_iincv (v := (1 : Int32)) (ls' := [.ref 96, .int x1, .int x2, .int x3, .int x4, .int x5, .int (x6 + (1 : Int32)), .int x7]) rfl am_ci_1 rfl rfl).trans ?_
    refine (ev_goto rfl).trans ?_
    rfl
  · refine (ev_aload rfl rfl).trans ?_
    refine (ev_iload rfl rfl).trans ?_
    refine (ev_iload rfl rfl).trans ?_
    refine (ev_const0 (v := (2 : Int32)) rfl am_ci_2).trans ?_
    refine (ev_idivN (by decide) rfl).trans ?_
    refine (ev_iload rfl rfl).trans ?_
    refine (ev_iload rfl rfl).trans ?_
    exact ev_invv (as := [.int x3, .int x7, .int (x6 / (2 : Int32)), .int x4]) rfl (by decide) am_K_96 rfl (by simp [Value.category])
set_option maxRecDepth 10000 in
theorem sg_148_64 (X : am_X) (I : Nat → Nat → Int32) (J : Nat → Nat → Int64) (x1 : Int32) (x2 : Int32) (x3 : Int32) (x4 : Int32) (x5 : Int32) (x6 : Int32) (x7 : Int32) : am_ev X amP_148 64 [.ref 96, .int x1, .int x2, .int x3, .int x4, .int x5, .int x6, .int x7] [] (am_sh I J) = some (some (.int (1 : Int32)), am_sh I J) := by
  refine (ev_const0 (v := (1 : Int32)) rfl am_ci_1).trans ?_
  exact ev_zret rfl (by decide)
-- 149 X10_note
set_option maxRecDepth 10000 in
theorem sg_149_e0 (X : am_X) (I : Nat → Nat → Int32) (J : Nat → Nat → Int64) (x1 : Int32) (x2 : Int32) (x3 : Int32) (x4 : Int32) : am_ev X amP_149 0 [.ref 96, .int x1, .int x2, .int x3, .int x4] [] (am_sh I J) = some (none, am_sh (am_up (am_up (am_up (am_up I 103 0 x1) 103 1 x2) 103 2 x3) 103 3 x4) J) := by
  refine (ev_aload rfl rfl).trans ?_
  refine (ev_getR rfl (by decide) am_K_96 (by decide) rfl am_R_96_4).trans ?_
  refine (ev_const0 (v := (0 : Int32)) rfl am_ci_0).trans ?_
  refine (ev_iload rfl rfl).trans ?_
  refine (ev_iastC (jn := 0) rfl (by decide) am_K_103 (by decide) (by decide)).trans ?_
  refine (ev_aload rfl rfl).trans ?_
  refine (ev_getR rfl (by decide) am_K_96 (by decide) rfl am_R_96_4).trans ?_
  refine (ev_const0 (v := (1 : Int32)) rfl am_ci_1).trans ?_
  refine (ev_iload rfl rfl).trans ?_
  refine (ev_iastC (jn := 1) rfl (by decide) am_K_103 (by decide) (by decide)).trans ?_
  refine (ev_aload rfl rfl).trans ?_
  refine (ev_getR rfl (by decide) am_K_96 (by decide) rfl am_R_96_4).trans ?_
  refine (ev_const0 (v := (2 : Int32)) rfl am_ci_2).trans ?_
  refine (ev_iload rfl rfl).trans ?_
  refine (ev_iastC (jn := 2) rfl (by decide) am_K_103 (by decide) (by decide)).trans ?_
  refine (ev_aload rfl rfl).trans ?_
  refine (ev_getR rfl (by decide) am_K_96 (by decide) rfl am_R_96_4).trans ?_
  refine (ev_const0 (v := (3 : Int32)) rfl am_ci_3).trans ?_
  refine (ev_iload rfl rfl).trans ?_
  refine (ev_iastC (jn := 3) rfl (by decide) am_K_103 (by decide) (by decide)).trans ?_
  exact ev_vret rfl
theorem cl_149 (X : am_X) (I : Nat → Nat → Int32) (J : Nat → Nat → Int64) (x1 : Int32) (x2 : Int32) (x3 : Int32) (x4 : Int32) : am_do X 149 [.ref 96, .int x1, .int x2, .int x3, .int x4] (am_sh I J) = am_ev X amP_149 0 [.ref 96, .int x1, .int x2, .int x3, .int x4] [] (am_sh I J) := am_do_of rfl rfl rfl
-- 150 X10_reaches
set_option maxRecDepth 10000 in
theorem sg_150_e0 (X : am_X) (I : Nat → Nat → Int32) (J : Nat → Nat → Int64) (x1 : Int32) (x2 : Int32) (x3 : Int32) (x4 : Int32) : am_ev X amP_150 0 [.ref 96, .int x1, .int x2, .int x3, .int x4] [] (am_sh I J) = (if x1 < 0 ∨ 10 ≤ x1.toNatClampNeg then none else (am_do X 139 [.ref 96, .ref (am_bd (x1.toNatClampNeg)), .int x2, .int x3] (am_sh I J)).bind (fun q => am_ev X amP_150 9 [.ref 96, .int x1, .int x2, .int x3, .int x4] (q.1.toList ++ []) q.2)) := by
  refine (ev_aload rfl rfl).trans ?_
  refine (ev_aload rfl rfl).trans ?_
  refine (ev_getR rfl (by decide) am_K_96 (by decide) rfl am_R_96_0).trans ?_
  refine (ev_getR rfl (by decide) am_K_16 (by decide) rfl am_R_16_0).trans ?_
  refine (ev_iload rfl rfl).trans ?_
  refine (ev_aald rfl (by decide) (Or.inl am_K_17) (f := am_bd) (fun k hk => am_R17 hk)).trans (am_itn (fun g1 => ?_))
  refine (ev_iload rfl rfl).trans ?_
  refine (ev_iload rfl rfl).trans ?_
  exact ev_invv (as := [.int x3, .int x2, .ref (am_bd (x1.toNatClampNeg))]) rfl (by decide) am_K_96 rfl (by simp [Value.category])
theorem cl_150 (X : am_X) (I : Nat → Nat → Int32) (J : Nat → Nat → Int64) (x1 : Int32) (x2 : Int32) (x3 : Int32) (x4 : Int32) : am_do X 150 [.ref 96, .int x1, .int x2, .int x3, .int x4] (am_sh I J) = am_ev X amP_150 0 [.ref 96, .int x1, .int x2, .int x3, .int x4] [] (am_sh I J) := am_do_of rfl rfl rfl
set_option maxRecDepth 10000 in
theorem sg_150_9 (X : am_X) (I : Nat → Nat → Int32) (J : Nat → Nat → Int64) (x1 : Int32) (x2 : Int32) (x3 : Int32) (x4 : Int32) (x5 : Int32) : am_ev X amP_150 9 [.ref 96, .int x1, .int x2, .int x3, .int x4] [.int x5] (am_sh I J) = (if ¬ x5 = 0 then (am_do X 31 [.ref 97] (am_sh I J)).bind (fun q => am_ev X amP_150 15 [.ref 96, .int x1, .int x2, .int x3, .int x4] (q.1.toList ++ []) q.2) else some (some (.int (0 : Int32)), am_sh I J)) := by
  refine (ev_if1 rfl).trans (am_ite (fun c1 => ?_) (fun c1 => ?_))
  · refine (ev_aload rfl rfl).trans ?_
    refine (ev_getR rfl (by decide) am_K_96 (by decide) rfl am_R_96_3).trans ?_
    exact ev_invv (as := []) rfl (by decide) am_K_97 rfl (by simp [Value.category])
  · refine (ev_const0 (v := (0 : Int32)) rfl am_ci_0).trans ?_
    exact ev_zret rfl (by decide)
set_option maxRecDepth 10000 in
theorem sg_150_15 (X : am_X) (I : Nat → Nat → Int32) (J : Nat → Nat → Int64) (x1 : Int32) (x2 : Int32) (x3 : Int32) (x4 : Int32) : am_ev X amP_150 15 [.ref 96, .int x1, .int x2, .int x3, .int x4] [] (am_sh I J) = (if ¬ x4 = 0 then (am_do X 141 [.ref 96, .int x1] (am_sh I J)).bind (fun q => am_ev X amP_150 23 [.ref 96, .int x1, .int x2, .int x3, .int x4] (q.1.toList ++ []) q.2) else (am_do X 136 [.ref 96] (am_sh I J)).bind (fun q => am_ev X amP_150 19 [.ref 96, .int x1, .int x2, .int x3, .int x4] (q.1.toList ++ []) q.2)) := by
  refine (ev_iload rfl rfl).trans ?_
  refine (ev_if1 rfl).trans (am_ite (fun c1 => ?_) (fun c1 => ?_))
  · refine (ev_aload rfl rfl).trans ?_
    refine (ev_iload rfl rfl).trans ?_
    exact ev_invv (as := [.int x1]) rfl (by decide) am_K_96 rfl (by simp [Value.category])
  · refine (ev_aload rfl rfl).trans ?_
    exact ev_invv (as := []) rfl (by decide) am_K_96 rfl (by simp [Value.category])
set_option maxRecDepth 10000 in
theorem sg_150_19 (X : am_X) (I : Nat → Nat → Int32) (J : Nat → Nat → Int64) (x1 : Int32) (x2 : Int32) (x3 : Int32) (x4 : Int32) (x5 : Int32) (z0 : x5 = 0 ∨ x5 = 1) : am_ev X amP_150 19 [.ref 96, .int x1, .int x2, .int x3, .int x4] [.int x5] (am_sh I J) = some (some (.int x5), am_sh I J) := by
  refine (ev_goto rfl).trans ?_
  exact ev_zret rfl z0
set_option maxRecDepth 10000 in
theorem sg_150_23 (X : am_X) (I : Nat → Nat → Int32) (J : Nat → Nat → Int64) (x1 : Int32) (x2 : Int32) (x3 : Int32) (x4 : Int32) (x5 : Int32) (z0 : x5 = 0 ∨ x5 = 1) : am_ev X amP_150 23 [.ref 96, .int x1, .int x2, .int x3, .int x4] [.int x5] (am_sh I J) = some (some (.int x5), am_sh I J) := by
  exact ev_zret rfl z0
-- 151 X10_seekTwo
set_option maxRecDepth 10000 in
theorem sg_151_e0 (X : am_X) (I : Nat → Nat → Int32) (J : Nat → Nat → Int64) (x1 : Int32) : am_ev X amP_151 0 [.ref 96, .int x1, .null, .null, .null] [] (am_sh I J) = (if x1 < 0 ∨ 10 ≤ x1.toNatClampNeg then none else am_ev X amP_151 11 [.ref 96, .int x1, .int (I (am_bd (x1.toNatClampNeg) + 1) 7), .int (2 : Int32), .null] [] (am_sh I J)) := by
  refine (ev_aload rfl rfl).trans ?_
  refine (ev_getR rfl (by decide) am_K_96 (by decide) rfl am_R_96_0).trans ?_
  refine (ev_getR rfl (by decide) am_K_16 (by decide) rfl am_R_16_0).trans ?_
  refine (ev_iload rfl rfl).trans ?_
  refine (ev_aald rfl (by decide) (Or.inl am_K_17) (f := am_bd) (fun k hk => am_R17 hk)).trans (am_itn (fun g1 => ?_))
  refine (ev_getR rfl (by have := am_bd_lt (by omega : (x1.toNatClampNeg) < 11); omega) (am_Kbd (by omega : (x1.toNatClampNeg) < 11)) (by decide) rfl (am_Rb2 (by omega : (x1.toNatClampNeg) < 11))).trans ?_
  refine (ev_const1 (v := (7 : Int32)) rfl am_ci_7).trans ?_
  refine (ev_ialdC (jn := 7) rfl (by have := am_bd_lt (by omega : (x1.toNatClampNeg) < 11); omega) (am_Kbn (by omega : (x1.toNatClampNeg) < 11)) (by decide) (by decide)).trans ?_
  refine (ev_istore (ls' := [.ref 96, .int x1, .int (I (am_bd (x1.toNatClampNeg) + 1) 7), .null, .null]) rfl (Nat.le_of_ble_eq_true rfl) rfl).trans ?_
  refine (ev_const0 (v := (2 : Int32)) rfl am_ci_2).trans ?_
  refine (ev_istore (ls' := [.ref 96, .int x1, .int (I (am_bd (x1.toNatClampNeg) + 1) 7), .int (2 : Int32), .null]) rfl (Nat.le_of_ble_eq_true rfl) rfl).trans ?_
  rfl
theorem cl_151 (X : am_X) (I : Nat → Nat → Int32) (J : Nat → Nat → Int64) (x1 : Int32) : am_do X 151 [.ref 96, .int x1] (am_sh I J) = am_ev X amP_151 0 [.ref 96, .int x1, .null, .null, .null] [] (am_sh I J) := am_do_of rfl rfl rfl
set_option maxRecDepth 10000 in
theorem sg_151_11 (X : am_X) (I : Nat → Nat → Int32) (J : Nat → Nat → Int64) (x1 : Int32) (x2 : Int32) (x3 : Int32) (w4 : Value) (hw4 : w4.category = 1) : am_ev X amP_151 11 [.ref 96, .int x1, .int x2, .int x3, w4] [] (am_sh I J) = (if (30 : Int32) < x3 then some (some (.int (0 : Int32)), am_sh I J) else (if x2 < x3 then some (some (.int (0 : Int32)), am_sh I J) else am_ev X amP_151 19 [.ref 96, .int x1, .int x2, .int x3, .int (0 : Int32)] [] (am_sh I J))) := by
  refine (ev_iload rfl rfl).trans ?_
  refine (ev_const1 (v := (30 : Int32)) rfl am_ci_30).trans ?_
  refine (ev_icmp4 rfl).trans (am_ite (fun c1 => ?_) (fun c1 => ?_))
  · refine (ev_const0 (v := (0 : Int32)) rfl am_ci_0).trans ?_
    exact ev_zret rfl (by decide)
  · refine (ev_iload rfl rfl).trans ?_
    refine (ev_iload rfl rfl).trans ?_
    refine (ev_icmp4 rfl).trans (am_ite (fun c2 => ?_) (fun c2 => ?_))
    · refine (ev_const0 (v := (0 : Int32)) rfl am_ci_0).trans ?_
      exact ev_zret rfl (by decide)
    · refine (ev_const0 (v := (0 : Int32)) rfl am_ci_0).trans ?_
      refine (ev_istore (ls' := [.ref 96, .int x1, .int x2, .int x3, .int (0 : Int32)]) rfl (Nat.le_of_ble_eq_true rfl) rfl).trans ?_
      rfl
set_option maxRecDepth 10000 in
theorem sg_151_19 (X : am_X) (I : Nat → Nat → Int32) (J : Nat → Nat → Int64) (x1 : Int32) (x2 : Int32) (x3 : Int32) (x4 : Int32) : am_ev X amP_151 19 [.ref 96, .int x1, .int x2, .int x3, .int x4] [] (am_sh I J) = (if (30 : Int32) ≤ x4 then am_ev X amP_151 11 [.ref 96, .int x1, .int x2, .int (x3 + (1 : Int32)), .int x4] [] (am_sh I J) else (am_do X 152 [.ref 96, .int x1, .int (x4 / (5 : Int32)), .int ((x4 - x4 / (5 : Int32) * (5 : Int32)) + (1 : Int32)), .int x3] (am_sh I J)).bind (fun q => am_ev X amP_151 34 [.ref 96, .int x1, .int x2, .int x3, .int x4] (q.1.toList ++ []) q.2)) := by
  refine (ev_iload rfl rfl).trans ?_
  refine (ev_const1 (v := (30 : Int32)) rfl am_ci_30).trans ?_
  refine (ev_icmp3 rfl).trans (am_ite (fun c1 => ?_) (fun c1 => ?_))
  · refine (ev_iincv (v := (1 : Int32)) (ls' := [.ref 96, .int x1, .int x2, .int (x3 + (1 : Int32)), .int x4]) rfl am_ci_1 rfl rfl).trans ?_
    refine (ev_goto rfl).trans ?_
    rfl
  · refine (ev_aload rfl rfl).trans ?_
    refine (ev_iload rfl rfl).trans ?_
    refine (ev_iload rfl rfl).trans ?_
    refine (ev_const0 (v := (5 : Int32)) rfl am_ci_5).trans ?_
    refine (ev_idivN (by decide) rfl).trans ?_
    refine (ev_iload rfl rfl).trans ?_
    refine (ev_const0 (v := (5 : Int32)) rfl am_ci_5).trans ?_
    refine (ev_iremN (by decide) rfl).trans ?_
    refine (ev_const0 (v := (1 : Int32)) rfl am_ci_1).trans ?_
    refine (ev_iadd rfl).trans ?_
    refine (ev_iload rfl rfl).trans ?_
    exact ev_invv (as := [.int x3, .int ((x4 - x4 / (5 : Int32) * (5 : Int32)) + (1 : Int32)), .int (x4 / (5 : Int32)), .int x1]) rfl (by decide) am_K_96 rfl (by simp [Value.category])
set_option maxRecDepth 10000 in
theorem sg_151_34 (X : am_X) (I : Nat → Nat → Int32) (J : Nat → Nat → Int64) (x1 : Int32) (x2 : Int32) (x3 : Int32) (x4 : Int32) (x5 : Int32) : am_ev X amP_151 34 [.ref 96, .int x1, .int x2, .int x3, .int x4] [.int x5] (am_sh I J) = (if x5 = 0 then am_ev X amP_151 19 [.ref 96, .int x1, .int x2, .int x3, .int (x4 + (1 : Int32))] [] (am_sh I J) else some (some (.int (1 : Int32)), am_sh (am_up I 103 4 x3) J)) := by
  refine (ev_if0 rfl).trans (am_ite (fun c1 => ?_) (fun c1 => ?_))
  · refine (ev_iincv (v := (1 : Int32)) (ls' := [.ref 96, .int x1, .int x2, .int x3, .int (x4 + (1 : Int32))]) rfl am_ci_1 rfl rfl).trans ?_
    refine (ev_goto rfl).trans ?_
    rfl
  · refine (ev_aload rfl rfl).trans ?_
    refine (ev_getR rfl (by decide) am_K_96 (by decide) rfl am_R_96_4).trans ?_
    refine (ev_const0 (v := (4 : Int32)) rfl am_ci_4).trans ?_
    refine (ev_iload rfl rfl).trans ?_
    refine (ev_iastC (jn := 4) rfl (by decide) am_K_103 (by decide) (by decide)).trans ?_
    refine (ev_const0 (v := (1 : Int32)) rfl am_ci_1).trans ?_
    exact ev_zret rfl (by decide)
-- 152 X10_seekSecond
set_option maxRecDepth 10000 in
theorem sg_152_e0 (X : am_X) (I : Nat → Nat → Int32) (J : Nat → Nat → Int64) (x1 : Int32) (x2 : Int32) (x3 : Int32) (x4 : Int32) : am_ev X amP_152 0 [.ref 96, .int x1, .int x2, .int x3, .int x4, .null, .null, .null, .null, .null] [] (am_sh I J) = (if x1 < 0 ∨ 10 ≤ x1.toNatClampNeg then none else (am_do X 44 [.ref (am_bd (x1.toNatClampNeg)), .int x2, .int x3] (am_sh I J)).bind (fun q => am_ev X amP_152 11 [.ref 96, .int x1, .int x2, .int x3, .int x4, .ref (am_bd (x1.toNatClampNeg)), .null, .null, .null, .null] (q.1.toList ++ [.int x4]) q.2)) := by
  refine (ev_aload rfl rfl).trans ?_
  refine (ev_getR rfl (by decide) am_K_96 (by decide) rfl am_R_96_0).trans ?_
  refine (ev_getR rfl (by decide) am_K_16 (by decide) rfl am_R_16_0).trans ?_
  refine (ev_iload rfl rfl).trans ?_
  refine (ev_aald rfl (by decide) (Or.inl am_K_17) (f := am_bd) (fun k hk => am_R17 hk)).trans (am_itn (fun g1 => ?_))
  refine (ev_astore (ls' := [.ref 96, .int x1, .int x2, .int x3, .int x4, .ref (am_bd (x1.toNatClampNeg)), .null, .null, .null, .null]) rfl (Nat.le_of_ble_eq_true rfl) rfl).trans ?_
  refine (ev_iload rfl rfl).trans ?_
  refine (ev_aload rfl rfl).trans ?_
  refine (ev_iload rfl rfl).trans ?_
  refine (ev_iload rfl rfl).trans ?_
  exact ev_invv (as := [.int x3, .int x2]) rfl (by have := am_bd_lt (by omega : (x1.toNatClampNeg) < 11); omega) (am_Kbd (by omega : (x1.toNatClampNeg) < 11)) rfl (by simp [Value.category])
theorem cl_152 (X : am_X) (I : Nat → Nat → Int32) (J : Nat → Nat → Int64) (x1 : Int32) (x2 : Int32) (x3 : Int32) (x4 : Int32) : am_do X 152 [.ref 96, .int x1, .int x2, .int x3, .int x4] (am_sh I J) = am_ev X amP_152 0 [.ref 96, .int x1, .int x2, .int x3, .int x4, .null, .null, .null, .null, .null] [] (am_sh I J) := am_do_of rfl rfl rfl
set_option maxRecDepth 10000 in
theorem sg_152_11 (X : am_X) (I : Nat → Nat → Int32) (J : Nat → Nat → Int64) (x1 : Int32) (x2 : Int32) (x3 : Int32) (x4 : Int32) (b5 : Nat) (w6 : Value) (w7 : Value) (w8 : Value) (w9 : Value) (x10 : Int32) (x11 : Int32) (hb5 : b5 < 11) (hw6 : w6.category = 1) (hw7 : w7.category = 1) (hw8 : w8.category = 1) (hw9 : w9.category = 1) : am_ev X amP_152 11 [.ref 96, .int x1, .int x2, .int x3, .int x4, .ref (am_bd b5), w6, w7, w8, w9] [.int x11, .int x10] (am_sh I J) = (if (x10 - x11) < (1 : Int32) then some (some (.int (0 : Int32)), am_sh I J) else (am_do X 46 [.ref (am_bd b5), .int x2, .int x3] (am_sh I J)).bind (fun q => am_ev X amP_152 20 [.ref 96, .int x1, .int x2, .int x3, .int x4, .ref (am_bd b5), .int (x10 - x11), w7, w8, w9] (q.1.toList ++ []) q.2)) := by
  refine (ev_isub rfl).trans ?_
  refine (ev_istore (ls' := [.ref 96, .int x1, .int x2, .int x3, .int x4, .ref (am_bd b5), .int (x10 - x11), w7, w8, w9]) rfl (Nat.le_of_ble_eq_true rfl) rfl).trans ?_
  refine (ev_iload rfl rfl).trans ?_
  refine (ev_const0 (v := (1 : Int32)) rfl am_ci_1).trans ?_
  refine (ev_icmp2 rfl).trans (am_ite (fun c1 => ?_) (fun c1 => ?_))
  · refine (ev_const0 (v := (0 : Int32)) rfl am_ci_0).trans ?_
    exact ev_zret rfl (by decide)
  · refine (ev_aload rfl rfl).trans ?_
    refine (ev_iload rfl rfl).trans ?_
    refine (ev_iload rfl rfl).trans ?_
    exact ev_invv (as := [.int x3, .int x2]) rfl (by have := am_bd_lt hb5; omega) (am_Kbd hb5) rfl (by simp [Value.category])
set_option maxRecDepth 10000 in
theorem sg_152_20 (X : am_X) (I : Nat → Nat → Int32) (J : Nat → Nat → Int64) (x1 : Int32) (x2 : Int32) (x3 : Int32) (x4 : Int32) (b5 : Nat) (x6 : Int32) (w7 : Value) (w8 : Value) (w9 : Value) (x10 : Int32) (hb5 : b5 < 11) (hw7 : w7.category = 1) (hw8 : w8.category = 1) (hw9 : w9.category = 1) : am_ev X amP_152 20 [.ref 96, .int x1, .int x2, .int x3, .int x4, .ref (am_bd b5), .int x6, w7, w8, w9] [.int x10] (am_sh I J) = (if ¬ x10 = 0 then am_ev X amP_152 25 [.ref 96, .int x1, .int x2, .int x3, .int x4, .ref (am_bd b5), .int x6, .int (0 : Int32), w8, w9] [] (am_sh I J) else some (some (.int (0 : Int32)), am_sh I J)) := by
  refine (ev_if1 rfl).trans (am_ite (fun c1 => ?_) (fun c1 => ?_))
  · refine (ev_const0 (v := (0 : Int32)) rfl am_ci_0).trans ?_
    refine (ev_istore (ls' := [.ref 96, .int x1, .int x2, .int x3, .int x4, .ref (am_bd b5), .int x6, .int (0 : Int32), w8, w9]) rfl (Nat.le_of_ble_eq_true rfl) rfl).trans ?_
    rfl
  · refine (ev_const0 (v := (0 : Int32)) rfl am_ci_0).trans ?_
    exact ev_zret rfl (by decide)
set_option maxRecDepth 10000 in
theorem sg_152_25 (X : am_X) (I : Nat → Nat → Int32) (J : Nat → Nat → Int64) (x1 : Int32) (x2 : Int32) (x3 : Int32) (x4 : Int32) (b5 : Nat) (x6 : Int32) (x7 : Int32) (w8 : Value) (w9 : Value) (hb5 : b5 < 11) (hw8 : w8.category = 1) (hw9 : w9.category = 1) : am_ev X amP_152 25 [.ref 96, .int x1, .int x2, .int x3, .int x4, .ref (am_bd b5), .int x6, .int x7, w8, w9] [] (am_sh I J) = (if (30 : Int32) ≤ x7 then some (some (.int (0 : Int32)), am_sh I J) else (am_do X 44 [.ref (am_bd b5), .int (x7 / (5 : Int32)), .int ((x7 - x7 / (5 : Int32) * (5 : Int32)) + (1 : Int32))] (am_sh I J)).bind (fun q => am_ev X amP_152 42 [.ref 96, .int x1, .int x2, .int x3, .int x4, .ref (am_bd b5), .int x6, .int x7, .int (x7 / (5 : Int32)), .int ((x7 - x7 / (5 : Int32) * (5 : Int32)) + (1 : Int32))] (q.1.toList ++ []) q.2)) := by
  refine (ev_iload rfl rfl).trans ?_
  refine (ev_const1 (v := (30 : Int32)) rfl am_ci_30).trans ?_
  refine (ev_icmp3 rfl).trans (am_ite (fun c1 => ?_) (fun c1 => ?_))
  · refine (ev_const0 (v := (0 : Int32)) rfl am_ci_0).trans ?_
    exact ev_zret rfl (by decide)
  · refine (ev_iload rfl rfl).trans ?_
    refine (ev_const0 (v := (5 : Int32)) rfl am_ci_5).trans ?_
    refine (ev_idivN (by decide) rfl).trans ?_
    refine (ev_istore (ls' := [.ref 96, .int x1, .int x2, .int x3, .int x4, .ref (am_bd b5), .int x6, .int x7, .int (x7 / (5 : Int32)), w9]) rfl (Nat.le_of_ble_eq_true rfl) rfl).trans ?_
    refine (ev_iload rfl rfl).trans ?_
    refine (ev_const0 (v := (5 : Int32)) rfl am_ci_5).trans ?_
    refine (ev_iremN (by decide) rfl).trans ?_
    refine (ev_const0 (v := (1 : Int32)) rfl am_ci_1).trans ?_
    refine (ev_iadd rfl).trans ?_
    refine (ev_istore (ls' := [.ref 96, .int x1, .int x2, .int x3, .int x4, .ref (am_bd b5), .int x6, .int x7, .int (x7 / (5 : Int32)), .int ((x7 - x7 / (5 : Int32) * (5 : Int32)) + (1 : Int32))]) rfl (Nat.le_of_ble_eq_true rfl) rfl).trans ?_
    refine (ev_aload rfl rfl).trans ?_
    refine (ev_iload rfl rfl).trans ?_
    refine (ev_iload rfl rfl).trans ?_
    exact ev_invv (as := [.int ((x7 - x7 / (5 : Int32) * (5 : Int32)) + (1 : Int32)), .int (x7 / (5 : Int32))]) rfl (by have := am_bd_lt hb5; omega) (am_Kbd hb5) rfl (by simp [Value.category])
set_option maxRecDepth 10000 in
theorem sg_152_42 (X : am_X) (I : Nat → Nat → Int32) (J : Nat → Nat → Int64) (x1 : Int32) (x2 : Int32) (x3 : Int32) (x4 : Int32) (b5 : Nat) (x6 : Int32) (x7 : Int32) (x8 : Int32) (x9 : Int32) (x10 : Int32) (hb5 : b5 < 11) : am_ev X amP_152 42 [.ref 96, .int x1, .int x2, .int x3, .int x4, .ref (am_bd b5), .int x6, .int x7, .int x8, .int x9] [.int x10] (am_sh I J) = (if ¬ x10 = x6 then am_ev X amP_152 25 [.ref 96, .int x1, .int x2, .int x3, .int x4, .ref (am_bd b5), .int x6, .int (x7 + (1 : Int32)), .int x8, .int x9] [] (am_sh I J) else (am_do X 153 [.ref 96, .ref (am_bd b5), .int x2, .int x3, .int x8, .int x9] (am_sh I J)).bind (fun q => am_ev X amP_152 51 [.ref 96, .int x1, .int x2, .int x3, .int x4, .ref (am_bd b5), .int x6, .int x7, .int x8, .int x9] (q.1.toList ++ []) q.2)) := by
  refine (ev_iload rfl rfl).trans ?_
  refine (ev_icmp1 rfl).trans (am_ite (fun c1 => ?_) (fun c1 => ?_))
  · refine (ev_iincv (v := (1 : Int32)) (ls' := [.ref 96, .int x1, .int x2, .int x3, .int x4, .ref (am_bd b5), .int x6, .int (x7 + (1 : Int32)), .int x8, .int x9]) rfl am_ci_1 rfl rfl).trans ?_
    refine (ev_goto rfl).trans ?_
    rfl
  · refine (ev_aload rfl rfl).trans ?_
    refine (ev_aload rfl rfl).trans ?_
    refine (ev_iload rfl rfl).trans ?_
    refine (ev_iload rfl rfl).trans ?_
    refine (ev_iload rfl rfl).trans ?_
    refine (ev_iload rfl rfl).trans ?_
    exact ev_invv (as := [.int x9, .int x8, .int x3, .int x2, .ref (am_bd b5)]) rfl (by decide) am_K_96 rfl (by simp [Value.category])
set_option maxRecDepth 10000 in
theorem sg_152_51 (X : am_X) (I : Nat → Nat → Int32) (J : Nat → Nat → Int64) (x1 : Int32) (x2 : Int32) (x3 : Int32) (x4 : Int32) (b5 : Nat) (x6 : Int32) (x7 : Int32) (x8 : Int32) (x9 : Int32) (x10 : Int32) (hb5 : b5 < 11) : am_ev X amP_152 51 [.ref 96, .int x1, .int x2, .int x3, .int x4, .ref (am_bd b5), .int x6, .int x7, .int x8, .int x9] [.int x10] (am_sh I J) = (if ¬ x10 = 0 then am_ev X amP_152 25 [.ref 96, .int x1, .int x2, .int x3, .int x4, .ref (am_bd b5), .int x6, .int (x7 + (1 : Int32)), .int x8, .int x9] [] (am_sh I J) else (am_do X 139 [.ref 96, .ref (am_bd b5), .int x2, .int x3] (am_sh I J)).bind (fun q => am_ev X amP_152 57 [.ref 96, .int x1, .int x2, .int x3, .int x4, .ref (am_bd b5), .int x6, .int x7, .int x8, .int x9] (q.1.toList ++ []) q.2)) := by
  refine (ev_if1 rfl).trans (am_ite (fun c1 => ?_) (fun c1 => ?_))
  · refine (ev_iincv (v := (1 : Int32)) (ls' := [.ref 96, .int x1, .int x2, .int x3, .int x4, .ref (am_bd b5), .int x6, .int (x7 + (1 : Int32)), .int x8, .int x9]) rfl am_ci_1 rfl rfl).trans ?_
    refine (ev_goto rfl).trans ?_
    rfl
  · refine (ev_aload rfl rfl).trans ?_
    refine (ev_aload rfl rfl).trans ?_
    refine (ev_iload rfl rfl).trans ?_
    refine (ev_iload rfl rfl).trans ?_
    exact ev_invv (as := [.int x3, .int x2, .ref (am_bd b5)]) rfl (by decide) am_K_96 rfl (by simp [Value.category])
set_option maxRecDepth 10000 in
theorem sg_152_57 (X : am_X) (I : Nat → Nat → Int32) (J : Nat → Nat → Int64) (x1 : Int32) (x2 : Int32) (x3 : Int32) (x4 : Int32) (b5 : Nat) (x6 : Int32) (x7 : Int32) (x8 : Int32) (x9 : Int32) (x10 : Int32) (hb5 : b5 < 11) : am_ev X amP_152 57 [.ref 96, .int x1, .int x2, .int x3, .int x4, .ref (am_bd b5), .int x6, .int x7, .int x8, .int x9] [.int x10] (am_sh I J) = (if x10 = 0 then am_ev X amP_152 25 [.ref 96, .int x1, .int x2, .int x3, .int x4, .ref (am_bd b5), .int x6, .int (x7 + (1 : Int32)), .int x8, .int x9] [] (am_sh I J) else (am_do X 46 [.ref 97, .int x8, .int x9] (am_sh I J)).bind (fun q => am_ev X amP_152 63 [.ref 96, .int x1, .int x2, .int x3, .int x4, .ref (am_bd b5), .int x6, .int x7, .int x8, .int x9] (q.1.toList ++ []) q.2)) := by
  refine (ev_if0 rfl).trans (am_ite (fun c1 => ?_) (fun c1 => ?_))
  · refine (ev_iincv (v := (1 : Int32)) (ls' := [.ref 96, .int x1, .int x2, .int x3, .int x4, .ref (am_bd b5), .int x6, .int (x7 + (1 : Int32)), .int x8, .int x9]) rfl am_ci_1 rfl rfl).trans ?_
    refine (ev_goto rfl).trans ?_
    rfl
  · refine (ev_aload rfl rfl).trans ?_
    refine (ev_getR rfl (by decide) am_K_96 (by decide) rfl am_R_96_3).trans ?_
    refine (ev_iload rfl rfl).trans ?_
    refine (ev_iload rfl rfl).trans ?_
    exact ev_invv (as := [.int x9, .int x8]) rfl (by decide) am_K_97 rfl (by simp [Value.category])
set_option maxRecDepth 10000 in
theorem sg_152_63 (X : am_X) (I : Nat → Nat → Int32) (J : Nat → Nat → Int64) (x1 : Int32) (x2 : Int32) (x3 : Int32) (x4 : Int32) (b5 : Nat) (x6 : Int32) (x7 : Int32) (x8 : Int32) (x9 : Int32) (x10 : Int32) (hb5 : b5 < 11) : am_ev X amP_152 63 [.ref 96, .int x1, .int x2, .int x3, .int x4, .ref (am_bd b5), .int x6, .int x7, .int x8, .int x9] [.int x10] (am_sh I J) = (if ¬ x10 = 0 then (am_do X 47 [.ref 97, .int x8, .int x9] (am_sh I J)).bind (fun q => am_ev X amP_152 70 [.ref 96, .int x1, .int x2, .int x3, .int x4, .ref (am_bd b5), .int x6, .int x7, .int x8, .int x9] (q.1.toList ++ []) q.2) else am_ev X amP_152 25 [.ref 96, .int x1, .int x2, .int x3, .int x4, .ref (am_bd b5), .int x6, .int (x7 + (1 : Int32)), .int x8, .int x9] [] (am_sh I J)) := by
  refine (ev_if1 rfl).trans (am_ite (fun c1 => ?_) (fun c1 => ?_))
  · refine (ev_aload rfl rfl).trans ?_
    refine (ev_getR rfl (by decide) am_K_96 (by decide) rfl am_R_96_3).trans ?_
    refine (ev_iload rfl rfl).trans ?_
    refine (ev_iload rfl rfl).trans ?_
    exact ev_invv (as := [.int x9, .int x8]) rfl (by decide) am_K_97 rfl (by simp [Value.category])
  · refine (ev_goto rfl).trans ?_
    refine (ev_iincv (v := (1 : Int32)) (ls' := [.ref 96, .int x1, .int x2, .int x3, .int x4, .ref (am_bd b5), .int x6, .int (x7 + (1 : Int32)), .int x8, .int x9]) rfl am_ci_1 rfl rfl).trans ?_
    refine (ev_goto rfl).trans ?_
    rfl
set_option maxRecDepth 10000 in
theorem sg_152_70 (X : am_X) (I : Nat → Nat → Int32) (J : Nat → Nat → Int64) (x1 : Int32) (x2 : Int32) (x3 : Int32) (x4 : Int32) (b5 : Nat) (x6 : Int32) (x7 : Int32) (x8 : Int32) (x9 : Int32) (hb5 : b5 < 11) : am_ev X amP_152 70 [.ref 96, .int x1, .int x2, .int x3, .int x4, .ref (am_bd b5), .int x6, .int x7, .int x8, .int x9] [] (am_sh I J) = (am_do X 31 [.ref 97] (am_sh I J)).bind (fun q => am_ev X amP_152 73 [.ref 96, .int x1, .int x2, .int x3, .int x4, .ref (am_bd b5), .int x6, .int x7, .int x8, .int x9] (q.1.toList ++ []) q.2) := by
  refine (ev_aload rfl rfl).trans ?_
  refine (ev_getR rfl (by decide) am_K_96 (by decide) rfl am_R_96_3).trans ?_
  exact ev_invv (as := []) rfl (by decide) am_K_97 rfl (by simp [Value.category])
set_option maxRecDepth 10000 in
theorem sg_152_73 (X : am_X) (I : Nat → Nat → Int32) (J : Nat → Nat → Int64) (x1 : Int32) (x2 : Int32) (x3 : Int32) (x4 : Int32) (b5 : Nat) (x6 : Int32) (x7 : Int32) (x8 : Int32) (x9 : Int32) (hb5 : b5 < 11) : am_ev X amP_152 73 [.ref 96, .int x1, .int x2, .int x3, .int x4, .ref (am_bd b5), .int x6, .int x7, .int x8, .int x9] [] (am_sh I J) = (am_do X 141 [.ref 96, .int x1] (am_sh I J)).bind (fun q => am_ev X amP_152 76 [.ref 96, .int x1, .int x2, .int x3, .int x4, .ref (am_bd b5), .int x6, .int x7, .int x8, .int x9] (q.1.toList ++ []) q.2) := by
  refine (ev_aload rfl rfl).trans ?_
  refine (ev_iload rfl rfl).trans ?_
  exact ev_invv (as := [.int x1]) rfl (by decide) am_K_96 rfl (by simp [Value.category])
set_option maxRecDepth 10000 in
theorem sg_152_76 (X : am_X) (I : Nat → Nat → Int32) (J : Nat → Nat → Int64) (x1 : Int32) (x2 : Int32) (x3 : Int32) (x4 : Int32) (b5 : Nat) (x6 : Int32) (x7 : Int32) (x8 : Int32) (x9 : Int32) (x10 : Int32) (hb5 : b5 < 11) : am_ev X amP_152 76 [.ref 96, .int x1, .int x2, .int x3, .int x4, .ref (am_bd b5), .int x6, .int x7, .int x8, .int x9] [.int x10] (am_sh I J) = (if x10 = 0 then am_ev X amP_152 25 [.ref 96, .int x1, .int x2, .int x3, .int x4, .ref (am_bd b5), .int x6, .int (x7 + (1 : Int32)), .int x8, .int x9] [] (am_sh I J) else (am_do X 149 [.ref 96, .int x2, .int x3, .int x8, .int x9] (am_sh I J)).bind (fun q => am_ev X amP_152 83 [.ref 96, .int x1, .int x2, .int x3, .int x4, .ref (am_bd b5), .int x6, .int x7, .int x8, .int x9] (q.1.toList ++ []) q.2)) := by
  refine (ev_if0 rfl).trans (am_ite (fun c1 => ?_) (fun c1 => ?_))
  · refine (ev_iincv (v := (1 : Int32)) (ls' := [.ref 96, .int x1, .int x2, .int x3, .int x4, .ref (am_bd b5), .int x6, .int (x7 + (1 : Int32)), .int x8, .int x9]) rfl am_ci_1 rfl rfl).trans ?_
    refine (ev_goto rfl).trans ?_
    rfl
  · refine (ev_aload rfl rfl).trans ?_
    refine (ev_iload rfl rfl).trans ?_
    refine (ev_iload rfl rfl).trans ?_
    refine (ev_iload rfl rfl).trans ?_
    refine (ev_iload rfl rfl).trans ?_
    exact ev_invv (as := [.int x9, .int x8, .int x3, .int x2]) rfl (by decide) am_K_96 rfl (by simp [Value.category])
set_option maxRecDepth 10000 in
theorem sg_152_83 (X : am_X) (I : Nat → Nat → Int32) (J : Nat → Nat → Int64) (x1 : Int32) (x2 : Int32) (x3 : Int32) (x4 : Int32) (b5 : Nat) (x6 : Int32) (x7 : Int32) (x8 : Int32) (x9 : Int32) (hb5 : b5 < 11) : am_ev X amP_152 83 [.ref 96, .int x1, .int x2, .int x3, .int x4, .ref (am_bd b5), .int x6, .int x7, .int x8, .int x9] [] (am_sh I J) = some (some (.int (1 : Int32)), am_sh I J) := by
  refine (ev_const0 (v := (1 : Int32)) rfl am_ci_1).trans ?_
  exact ev_zret rfl (by decide)
-- 153 X10_isTriedAlready
set_option maxRecDepth 10000 in
theorem sg_153_e0 (X : am_X) (I : Nat → Nat → Int32) (J : Nat → Nat → Int64) (b1 : Nat) (x2 : Int32) (x3 : Int32) (x4 : Int32) (x5 : Int32) (hb1 : b1 < 11) : am_ev X amP_153 0 [.ref 96, .ref (am_bd b1), .int x2, .int x3, .int x4, .int x5, .null] [] (am_sh I J) = (if x4 < x2 then (am_do X 139 [.ref 96, .ref (am_bd b1), .int x4, .int x5] (am_sh I J)).bind (fun q => am_ev X amP_153 20 [.ref 96, .ref (am_bd b1), .int x2, .int x3, .int x4, .int x5, .int (1 : Int32)] (q.1.toList ++ []) q.2) else (if ¬ x4 = x2 then some (some (.int (0 : Int32)), am_sh I J) else (if x3 ≤ x5 then some (some (.int (0 : Int32)), am_sh I J) else (am_do X 139 [.ref 96, .ref (am_bd b1), .int x4, .int x5] (am_sh I J)).bind (fun q => am_ev X amP_153 20 [.ref 96, .ref (am_bd b1), .int x2, .int x3, .int x4, .int x5, .int (1 : Int32)] (q.1.toList ++ []) q.2)))) := by
  refine (ev_iload rfl rfl).trans ?_
  refine (ev_iload rfl rfl).trans ?_
  refine (ev_icmp2 rfl).trans (am_ite (fun c1 => ?_) (fun c1 => ?_))
  · refine (ev_const0 (v := (1 : Int32)) rfl am_ci_1).trans ?_
    refine (ev_goto rfl).trans ?_
    refine (ev_istore (ls' := [.ref 96, .ref (am_bd b1), .int x2, .int x3, .int x4, .int x5, .int (1 : Int32)]) rfl (Nat.le_of_ble_eq_true rfl) rfl).trans ?_
    refine (ev_iload rfl rfl).trans ?_
    refine ((ev_if0 rfl).trans (if_neg (by decide))).trans ?_
    refine (ev_aload rfl rfl).trans ?_
    refine (ev_aload rfl rfl).trans ?_
    refine (ev_iload rfl rfl).trans ?_
    refine (ev_iload rfl rfl).trans ?_
    exact ev_invv (as := [.int x5, .int x4, .ref (am_bd b1)]) rfl (by decide) am_K_96 rfl (by simp [Value.category])
  · refine (ev_iload rfl rfl).trans ?_
    refine (ev_iload rfl rfl).trans ?_
    refine (ev_icmp1 rfl).trans (am_ite (fun c2 => ?_) (fun c2 => ?_))
    · refine (ev_const0 (v := (0 : Int32)) rfl am_ci_0).trans ?_
      refine (ev_istore (ls' := [.ref 96, .ref (am_bd b1), .int x2, .int x3, .int x4, .int x5, .int (0 : Int32)]) rfl (Nat.le_of_ble_eq_true rfl) rfl).trans ?_
      refine (ev_iload rfl rfl).trans ?_
      refine ((ev_if0 rfl).trans (if_pos (by decide))).trans ?_
      refine (ev_const0 (v := (0 : Int32)) rfl am_ci_0).trans ?_
      exact ev_zret rfl (by decide)
    · refine (ev_iload rfl rfl).trans ?_
      refine (ev_iload rfl rfl).trans ?_
      refine (ev_icmp3 rfl).trans (am_ite (fun c3 => ?_) (fun c3 => ?_))
      · refine (ev_const0 (v := (0 : Int32)) rfl am_ci_0).trans ?_
        refine (ev_istore (ls' := [.ref 96, .ref (am_bd b1), .int x2, .int x3, .int x4, .int x5, .int (0 : Int32)]) rfl (Nat.le_of_ble_eq_true rfl) rfl).trans ?_
        refine (ev_iload rfl rfl).trans ?_
        refine ((ev_if0 rfl).trans (if_pos (by decide))).trans ?_
        refine (ev_const0 (v := (0 : Int32)) rfl am_ci_0).trans ?_
        exact ev_zret rfl (by decide)
      · refine (ev_const0 (v := (1 : Int32)) rfl am_ci_1).trans ?_
        refine (ev_goto rfl).trans ?_
        refine (ev_istore (ls' := [.ref 96, .ref (am_bd b1), .int x2, .int x3, .int x4, .int x5, .int (1 : Int32)]) rfl (Nat.le_of_ble_eq_true rfl) rfl).trans ?_
        refine (ev_iload rfl rfl).trans ?_
        refine ((ev_if0 rfl).trans (if_neg (by decide))).trans ?_
        refine (ev_aload rfl rfl).trans ?_
        refine (ev_aload rfl rfl).trans ?_
        refine (ev_iload rfl rfl).trans ?_
        refine (ev_iload rfl rfl).trans ?_
        exact ev_invv (as := [.int x5, .int x4, .ref (am_bd b1)]) rfl (by decide) am_K_96 rfl (by simp [Value.category])
theorem cl_153 (X : am_X) (I : Nat → Nat → Int32) (J : Nat → Nat → Int64) (b1 : Nat) (x2 : Int32) (x3 : Int32) (x4 : Int32) (x5 : Int32) : am_do X 153 [.ref 96, .ref (am_bd b1), .int x2, .int x3, .int x4, .int x5] (am_sh I J) = am_ev X amP_153 0 [.ref 96, .ref (am_bd b1), .int x2, .int x3, .int x4, .int x5, .null] [] (am_sh I J) := am_do_of rfl rfl rfl
set_option maxRecDepth 10000 in
theorem sg_153_20 (X : am_X) (I : Nat → Nat → Int32) (J : Nat → Nat → Int64) (b1 : Nat) (x2 : Int32) (x3 : Int32) (x4 : Int32) (x5 : Int32) (x6 : Int32) (x7 : Int32) (hb1 : b1 < 11) : am_ev X amP_153 20 [.ref 96, .ref (am_bd b1), .int x2, .int x3, .int x4, .int x5, .int x6] [.int x7] (am_sh I J) = (if x7 = 0 then some (some (.int (0 : Int32)), am_sh I J) else (am_do X 46 [.ref 97, .int x2, .int x3] (am_sh I J)).bind (fun q => am_ev X amP_153 26 [.ref 96, .ref (am_bd b1), .int x2, .int x3, .int x4, .int x5, .int x6] (q.1.toList ++ []) q.2)) := by
  refine (ev_if0 rfl).trans (am_ite (fun c1 => ?_) (fun c1 => ?_))
  · refine (ev_const0 (v := (0 : Int32)) rfl am_ci_0).trans ?_
    exact ev_zret rfl (by decide)
  · refine (ev_aload rfl rfl).trans ?_
    refine (ev_getR rfl (by decide) am_K_96 (by decide) rfl am_R_96_3).trans ?_
    refine (ev_iload rfl rfl).trans ?_
    refine (ev_iload rfl rfl).trans ?_
    exact ev_invv (as := [.int x3, .int x2]) rfl (by decide) am_K_97 rfl (by simp [Value.category])
set_option maxRecDepth 10000 in
theorem sg_153_26 (X : am_X) (I : Nat → Nat → Int32) (J : Nat → Nat → Int64) (b1 : Nat) (x2 : Int32) (x3 : Int32) (x4 : Int32) (x5 : Int32) (x6 : Int32) (x7 : Int32) (hb1 : b1 < 11) : am_ev X amP_153 26 [.ref 96, .ref (am_bd b1), .int x2, .int x3, .int x4, .int x5, .int x6] [.int x7] (am_sh I J) = (if x7 = 0 then some (some (.int (0 : Int32)), am_sh I J) else some (some (.int (1 : Int32)), am_sh I J)) := by
  refine (ev_if0 rfl).trans (am_ite (fun c1 => ?_) (fun c1 => ?_))
  · refine (ev_const0 (v := (0 : Int32)) rfl am_ci_0).trans ?_
    exact ev_zret rfl (by decide)
  · refine (ev_const0 (v := (1 : Int32)) rfl am_ci_1).trans ?_
    refine (ev_goto rfl).trans ?_
    exact ev_zret rfl (by decide)
-- 155 X11_feed
set_option maxRecDepth 10000 in
theorem sg_155_e0 (X : am_X) (I : Nat → Nat → Int32) (J : Nat → Nat → Int64) (x1 : Int32) (x2 : Int32) (x3 : Int32) (x4 : Int32) (x5 : Int32) : am_ev X amP_155 0 [.ref 0, .int x1, .int x2, .int x3, .int x4, .int x5] [] (am_sh I J) = (am_do X 123 [.ref 1, .int (20 : Int32)] (am_sh I J)).bind (fun q => am_ev X amP_155 4 [.ref 0, .int x1, .int x2, .int x3, .int x4, .int x5] (q.1.toList ++ []) q.2) := by
  refine (ev_aload rfl rfl).trans ?_
  refine (ev_getR rfl (by decide) am_K_0 (by decide) rfl am_R_0_0).trans ?_
  refine (ev_const1 (v := (20 : Int32)) rfl am_ci_20).trans ?_
  exact ev_invv (as := [.int (20 : Int32)]) rfl (by decide) am_K_1 rfl (by simp [Value.category])
theorem cl_155 (X : am_X) (I : Nat → Nat → Int32) (J : Nat → Nat → Int64) (x1 : Int32) (x2 : Int32) (x3 : Int32) (x4 : Int32) (x5 : Int32) : am_do X 155 [.ref 0, .int x1, .int x2, .int x3, .int x4, .int x5] (am_sh I J) = am_ev X amP_155 0 [.ref 0, .int x1, .int x2, .int x3, .int x4, .int x5] [] (am_sh I J) := am_do_of rfl rfl rfl
set_option maxRecDepth 10000 in
theorem sg_155_4 (X : am_X) (I : Nat → Nat → Int32) (J : Nat → Nat → Int64) (x1 : Int32) (x2 : Int32) (x3 : Int32) (x4 : Int32) (x5 : Int32) (x6 : Int32) : am_ev X amP_155 4 [.ref 0, .int x1, .int x2, .int x3, .int x4, .int x5] [.int x6] (am_sh I J) = (if ¬ x6 = 0 then (am_do X 124 [.ref 1, .int x1] (am_sh I J)).bind (fun q => am_ev X amP_155 13 [.ref 0, .int x1, .int x2, .int x3, .int x4, .int x5] (q.1.toList ++ []) q.2) else (am_do X 208 [.ref 0, .int (0 : Int32)] (am_sh I J)).bind (fun q => am_ev X amP_155 8 [.ref 0, .int x1, .int x2, .int x3, .int x4, .int x5] (q.1.toList ++ []) q.2)) := by
  refine (ev_if1 rfl).trans (am_ite (fun c1 => ?_) (fun c1 => ?_))
  · refine (ev_aload rfl rfl).trans ?_
    refine (ev_getR rfl (by decide) am_K_0 (by decide) rfl am_R_0_0).trans ?_
    refine (ev_iload rfl rfl).trans ?_
    exact ev_invv (as := [.int x1]) rfl (by decide) am_K_1 rfl (by simp [Value.category])
  · refine (ev_aload rfl rfl).trans ?_
    refine (ev_const0 (v := (0 : Int32)) rfl am_ci_0).trans ?_
    exact ev_invv (as := [.int (0 : Int32)]) rfl (by decide) am_K_0 rfl (by simp [Value.category])
set_option maxRecDepth 10000 in
theorem sg_155_8 (X : am_X) (I : Nat → Nat → Int32) (J : Nat → Nat → Int64) (x1 : Int32) (x2 : Int32) (x3 : Int32) (x4 : Int32) (x5 : Int32) (x6 : Int32) : am_ev X amP_155 8 [.ref 0, .int x1, .int x2, .int x3, .int x4, .int x5] [.int x6] (am_sh I J) = some (some (.int x6), am_sh I J) := by
  exact ev_iret rfl
set_option maxRecDepth 10000 in
theorem sg_155_13 (X : am_X) (I : Nat → Nat → Int32) (J : Nat → Nat → Int64) (x1 : Int32) (x2 : Int32) (x3 : Int32) (x4 : Int32) (x5 : Int32) : am_ev X amP_155 13 [.ref 0, .int x1, .int x2, .int x3, .int x4, .int x5] [] (am_sh I J) = (am_do X 124 [.ref 1, .int x2] (am_sh I J)).bind (fun q => am_ev X amP_155 17 [.ref 0, .int x1, .int x2, .int x3, .int x4, .int x5] (q.1.toList ++ []) q.2) := by
  refine (ev_aload rfl rfl).trans ?_
  refine (ev_getR rfl (by decide) am_K_0 (by decide) rfl am_R_0_0).trans ?_
  refine (ev_iload rfl rfl).trans ?_
  exact ev_invv (as := [.int x2]) rfl (by decide) am_K_1 rfl (by simp [Value.category])
set_option maxRecDepth 10000 in
theorem sg_155_17 (X : am_X) (I : Nat → Nat → Int32) (J : Nat → Nat → Int64) (x1 : Int32) (x2 : Int32) (x3 : Int32) (x4 : Int32) (x5 : Int32) : am_ev X amP_155 17 [.ref 0, .int x1, .int x2, .int x3, .int x4, .int x5] [] (am_sh I J) = (am_do X 124 [.ref 1, .int x3] (am_sh I J)).bind (fun q => am_ev X amP_155 21 [.ref 0, .int x1, .int x2, .int x3, .int x4, .int x5] (q.1.toList ++ []) q.2) := by
  refine (ev_aload rfl rfl).trans ?_
  refine (ev_getR rfl (by decide) am_K_0 (by decide) rfl am_R_0_0).trans ?_
  refine (ev_iload rfl rfl).trans ?_
  exact ev_invv (as := [.int x3]) rfl (by decide) am_K_1 rfl (by simp [Value.category])
set_option maxRecDepth 10000 in
theorem sg_155_21 (X : am_X) (I : Nat → Nat → Int32) (J : Nat → Nat → Int64) (x1 : Int32) (x2 : Int32) (x3 : Int32) (x4 : Int32) (x5 : Int32) : am_ev X amP_155 21 [.ref 0, .int x1, .int x2, .int x3, .int x4, .int x5] [] (am_sh I J) = (am_do X 124 [.ref 1, .int x4] (am_sh I J)).bind (fun q => am_ev X amP_155 25 [.ref 0, .int x1, .int x2, .int x3, .int x4, .int x5] (q.1.toList ++ []) q.2) := by
  refine (ev_aload rfl rfl).trans ?_
  refine (ev_getR rfl (by decide) am_K_0 (by decide) rfl am_R_0_0).trans ?_
  refine (ev_iload rfl rfl).trans ?_
  exact ev_invv (as := [.int x4]) rfl (by decide) am_K_1 rfl (by simp [Value.category])
set_option maxRecDepth 10000 in
theorem sg_155_25 (X : am_X) (I : Nat → Nat → Int32) (J : Nat → Nat → Int64) (x1 : Int32) (x2 : Int32) (x3 : Int32) (x4 : Int32) (x5 : Int32) : am_ev X amP_155 25 [.ref 0, .int x1, .int x2, .int x3, .int x4, .int x5] [] (am_sh I J) = (am_do X 124 [.ref 1, .int x5] (am_sh I J)).bind (fun q => am_ev X amP_155 29 [.ref 0, .int x1, .int x2, .int x3, .int x4, .int x5] (q.1.toList ++ []) q.2) := by
  refine (ev_aload rfl rfl).trans ?_
  refine (ev_getR rfl (by decide) am_K_0 (by decide) rfl am_R_0_0).trans ?_
  refine (ev_iload rfl rfl).trans ?_
  exact ev_invv (as := [.int x5]) rfl (by decide) am_K_1 rfl (by simp [Value.category])
set_option maxRecDepth 10000 in
theorem sg_155_29 (X : am_X) (I : Nat → Nat → Int32) (J : Nat → Nat → Int64) (x1 : Int32) (x2 : Int32) (x3 : Int32) (x4 : Int32) (x5 : Int32) : am_ev X amP_155 29 [.ref 0, .int x1, .int x2, .int x3, .int x4, .int x5] [] (am_sh I J) = some (some (.int (I 1 1)), am_sh I J) := by
  refine (ev_aload rfl rfl).trans ?_
  refine (ev_getR rfl (by decide) am_K_0 (by decide) rfl am_R_0_0).trans ?_
  refine (ev_getI rfl (by decide) am_K_1 (by decide) rfl).trans ?_
  exact ev_iret rfl
-- 156 X11_end
set_option maxRecDepth 10000 in
theorem sg_156_e0 (X : am_X) (I : Nat → Nat → Int32) (J : Nat → Nat → Int64) (x1 : Int32) : am_ev X amP_156 0 [.ref 0, .int x1] [] (am_sh I J) = (if x1 < 0 then (am_do X 208 [.ref 0, .int (0 : Int32)] (am_sh I J)).bind (fun q => am_ev X amP_156 10 [.ref 0, .int x1] (q.1.toList ++ []) q.2) else (if x1 ≤ (I 1 1) then some (some (.int (1 : Int32)), am_sh (am_up I 1 1 x1) J) else (am_do X 208 [.ref 0, .int (0 : Int32)] (am_sh I J)).bind (fun q => am_ev X amP_156 10 [.ref 0, .int x1] (q.1.toList ++ []) q.2))) := by
  refine (ev_iload rfl rfl).trans ?_
  refine (ev_if2 rfl).trans (am_ite (fun c1 => ?_) (fun c1 => ?_))
  · refine (ev_aload rfl rfl).trans ?_
    refine (ev_const0 (v := (0 : Int32)) rfl am_ci_0).trans ?_
    exact ev_invv (as := [.int (0 : Int32)]) rfl (by decide) am_K_0 rfl (by simp [Value.category])
  · refine (ev_iload rfl rfl).trans ?_
    refine (ev_aload rfl rfl).trans ?_
    refine (ev_getR rfl (by decide) am_K_0 (by decide) rfl am_R_0_0).trans ?_
    refine (ev_getI rfl (by decide) am_K_1 (by decide) rfl).trans ?_
    refine (ev_icmp5 rfl).trans (am_ite (fun c2 => ?_) (fun c2 => ?_))
    · refine (ev_aload rfl rfl).trans ?_
      refine (ev_getR rfl (by decide) am_K_0 (by decide) rfl am_R_0_0).trans ?_
      refine (ev_iload rfl rfl).trans ?_
      refine (ev_putI rfl (by decide) am_K_1 (by decide) rfl).trans ?_
      refine (ev_const0 (v := (1 : Int32)) rfl am_ci_1).trans ?_
      exact ev_zret rfl (by decide)
    · refine (ev_aload rfl rfl).trans ?_
      refine (ev_const0 (v := (0 : Int32)) rfl am_ci_0).trans ?_
      exact ev_invv (as := [.int (0 : Int32)]) rfl (by decide) am_K_0 rfl (by simp [Value.category])
theorem cl_156 (X : am_X) (I : Nat → Nat → Int32) (J : Nat → Nat → Int64) (x1 : Int32) : am_do X 156 [.ref 0, .int x1] (am_sh I J) = am_ev X amP_156 0 [.ref 0, .int x1] [] (am_sh I J) := am_do_of rfl rfl rfl
set_option maxRecDepth 10000 in
theorem sg_156_10 (X : am_X) (I : Nat → Nat → Int32) (J : Nat → Nat → Int64) (x1 : Int32) (x2 : Int32) : am_ev X amP_156 10 [.ref 0, .int x1] [.int x2] (am_sh I J) = (if x2 = (-1 : Int32) then some (some (.int (0 : Int32)), am_sh I J) else some (some (.int (1 : Int32)), am_sh I J)) := by
  refine (ev_const0 (v := (-1 : Int32)) rfl am_ci_m1).trans ?_
  refine (ev_icmp0 rfl).trans (am_ite (fun c1 => ?_) (fun c1 => ?_))
  · refine (ev_const0 (v := (0 : Int32)) rfl am_ci_0).trans ?_
    exact ev_zret rfl (by decide)
  · refine (ev_const0 (v := (1 : Int32)) rfl am_ci_1).trans ?_
    refine (ev_goto rfl).trans ?_
    exact ev_zret rfl (by decide)
-- 157 X11_sky
set_option maxRecDepth 10000 in
theorem sg_157_e0 (X : am_X) (I : Nat → Nat → Int32) (J : Nat → Nat → Int64) : am_ev X amP_157 0 [.ref 0, .null] [] (am_sh I J) = (am_do X 111 [.ref 3] (am_sh I J)).bind (fun q => am_ev X amP_157 3 [.ref 0, .null] (q.1.toList ++ []) q.2) := by
  refine (ev_aload rfl rfl).trans ?_
  refine (ev_getR rfl (by decide) am_K_0 (by decide) rfl am_R_0_1).trans ?_
  exact ev_invv (as := []) rfl (by decide) am_K_3 rfl (by simp [Value.category])
theorem cl_157 (X : am_X) (I : Nat → Nat → Int32) (J : Nat → Nat → Int64) : am_do X 157 [.ref 0] (am_sh I J) = am_ev X amP_157 0 [.ref 0, .null] [] (am_sh I J) := am_do_of rfl rfl rfl
set_option maxRecDepth 10000 in
theorem sg_157_3 (X : am_X) (I : Nat → Nat → Int32) (J : Nat → Nat → Int64) (w1 : Value) (x2 : Int32) (hw1 : w1.category = 1) : am_ev X amP_157 3 [.ref 0, w1] [.int x2] (am_sh I J) = (if ¬ x2 = (-1 : Int32) then (am_do X 106 [.ref 16, .ref 3] (am_sh (am_up I 1 1 (0 : Int32)) J)).bind (fun q => am_ev X amP_157 20 [.ref 0, .int x2] (q.1.toList ++ []) q.2) else (am_do X 208 [.ref 0, .int (1 : Int32)] (am_sh (am_up I 1 1 (0 : Int32)) J)).bind (fun q => am_ev X amP_157 14 [.ref 0, .int x2] (q.1.toList ++ []) q.2)) := by
  refine (ev_istore (ls' := [.ref 0, .int x2]) rfl (Nat.le_of_ble_eq_true rfl) rfl).trans ?_
  refine (ev_aload rfl rfl).trans ?_
  refine (ev_getR rfl (by decide) am_K_0 (by decide) rfl am_R_0_0).trans ?_
  refine (ev_const0 (v := (0 : Int32)) rfl am_ci_0).trans ?_
  refine (ev_putI rfl (by decide) am_K_1 (by decide) rfl).trans ?_
  refine (ev_iload rfl rfl).trans ?_
  refine (ev_const0 (v := (-1 : Int32)) rfl am_ci_m1).trans ?_
  refine (ev_icmp1 rfl).trans (am_ite (fun c1 => ?_) (fun c1 => ?_))
  · refine (ev_aload rfl rfl).trans ?_
    refine (ev_getR rfl (by decide) am_K_0 (by decide) rfl am_R_0_2).trans ?_
    refine (ev_aload rfl rfl).trans ?_
    refine (ev_getR rfl (by decide) am_K_0 (by decide) rfl am_R_0_1).trans ?_
    exact ev_invv (as := [.ref 3]) rfl (by decide) am_K_16 rfl (by simp [Value.category])
  · refine (ev_aload rfl rfl).trans ?_
    refine (ev_const0 (v := (1 : Int32)) rfl am_ci_1).trans ?_
    exact ev_invv (as := [.int (1 : Int32)]) rfl (by decide) am_K_0 rfl (by simp [Value.category])
set_option maxRecDepth 10000 in
theorem sg_157_14 (X : am_X) (I : Nat → Nat → Int32) (J : Nat → Nat → Int64) (x1 : Int32) (x2 : Int32) : am_ev X amP_157 14 [.ref 0, .int x1] [.int x2] (am_sh I J) = some (some (.int x2), am_sh I J) := by
  exact ev_iret rfl
set_option maxRecDepth 10000 in
theorem sg_157_20 (X : am_X) (I : Nat → Nat → Int32) (J : Nat → Nat → Int64) (x1 : Int32) : am_ev X amP_157 20 [.ref 0, .int x1] [] (am_sh I J) = (am_do X 1 [.ref 106] (am_sh (am_up I 128 1 (0 : Int32)) J)).bind (fun q => am_ev X amP_157 27 [.ref 0, .int x1] (q.1.toList ++ []) q.2) := by
  refine (ev_aload rfl rfl).trans ?_
  refine (ev_getR rfl (by decide) am_K_0 (by decide) rfl am_R_0_8).trans ?_
  refine (ev_const0 (v := (0 : Int32)) rfl am_ci_0).trans ?_
  refine (ev_putI rfl (by decide) am_K_128 (by decide) rfl).trans ?_
  refine (ev_aload rfl rfl).trans ?_
  refine (ev_getR rfl (by decide) am_K_0 (by decide) rfl am_R_0_7).trans ?_
  exact ev_invv (as := []) rfl (by decide) am_K_106 rfl (by simp [Value.category])
set_option maxRecDepth 10000 in
theorem sg_157_27 (X : am_X) (I : Nat → Nat → Int32) (J : Nat → Nat → Int64) (x1 : Int32) : am_ev X amP_157 27 [.ref 0, .int x1] [] (am_sh I J) = some (some (.int x1), am_sh I J) := by
  refine (ev_iload rfl rfl).trans ?_
  exact ev_iret rfl
-- 158 X11_fault
set_option maxRecDepth 10000 in
theorem sg_158_e0 (X : am_X) (I : Nat → Nat → Int32) (J : Nat → Nat → Int64) (x1 : Int32) : am_ev X amP_158 0 [.ref 0, .int x1] [] (am_sh I J) = (if ¬ x1 = 0 then (if ¬ x1 = (1 : Int32) then some (some (.int (-1 : Int32)), am_sh I J) else some (some (.int (I 3 1)), am_sh I J)) else some (some (.int (I 3 0)), am_sh I J)) := by
  refine (ev_iload rfl rfl).trans ?_
  refine (ev_if1 rfl).trans (am_ite (fun c1 => ?_) (fun c1 => ?_))
  · refine (ev_iload rfl rfl).trans ?_
    refine (ev_const0 (v := (1 : Int32)) rfl am_ci_1).trans ?_
    refine (ev_icmp1 rfl).trans (am_ite (fun c2 => ?_) (fun c2 => ?_))
    · refine (ev_const0 (v := (-1 : Int32)) rfl am_ci_m1).trans ?_
      exact ev_iret rfl
    · refine (ev_aload rfl rfl).trans ?_
      refine (ev_getR rfl (by decide) am_K_0 (by decide) rfl am_R_0_1).trans ?_
      refine (ev_getI rfl (by decide) am_K_3 (by decide) rfl).trans ?_
      refine (ev_goto rfl).trans ?_
      exact ev_iret rfl
  · refine (ev_aload rfl rfl).trans ?_
    refine (ev_getR rfl (by decide) am_K_0 (by decide) rfl am_R_0_1).trans ?_
    refine (ev_getI rfl (by decide) am_K_3 (by decide) rfl).trans ?_
    exact ev_iret rfl
theorem cl_158 (X : am_X) (I : Nat → Nat → Int32) (J : Nat → Nat → Int64) (x1 : Int32) : am_do X 158 [.ref 0, .int x1] (am_sh I J) = am_ev X amP_158 0 [.ref 0, .int x1] [] (am_sh I J) := am_do_of rfl rfl rfl
-- 159 X11_has
set_option maxRecDepth 10000 in
theorem sg_159_e0 (X : am_X) (I : Nat → Nat → Int32) (J : Nat → Nat → Int64) (x1 : Int32) : am_ev X amP_159 0 [.ref 0, .int x1] [] (am_sh I J) = (if x1 = (0 : Int32) then some (some (.int (I 16 2)), am_sh I J) else (if x1 = (1 : Int32) then (am_do X 102 [.ref 16] (am_sh I J)).bind (fun q => am_ev X amP_159 9 [.ref 0, .int x1] (q.1.toList ++ []) q.2) else (if x1 = (2 : Int32) then some (some (.int (I 16 3)), am_sh I J) else (if x1 = (3 : Int32) then some (some (.int (I 16 5)), am_sh I J) else (if x1 = (4 : Int32) then (am_do X 59 [.ref 83] (am_sh I J)).bind (fun q => am_ev X amP_159 22 [.ref 0, .int x1] (q.1.toList ++ []) q.2) else (if x1 = (5 : Int32) then some (some (.int (I 128 1)), am_sh I J) else (if x1 = (6 : Int32) then some (some (.int (I 106 6)), am_sh I J) else (if x1 = (7 : Int32) then some (some (.int (I 106 7)), am_sh I J) else (if x1 = (8 : Int32) then (am_do X 88 [.ref 79, .int (x1 - (7 : Int32))] (am_sh I J)).bind (fun q => am_ev X amP_159 41 [.ref 0, .int x1] (q.1.toList ++ []) q.2) else (if x1 = (9 : Int32) then (am_do X 88 [.ref 79, .int (x1 - (7 : Int32))] (am_sh I J)).bind (fun q => am_ev X amP_159 41 [.ref 0, .int x1] (q.1.toList ++ []) q.2) else (if x1 = (10 : Int32) then (am_do X 88 [.ref 79, .int (x1 - (7 : Int32))] (am_sh I J)).bind (fun q => am_ev X amP_159 41 [.ref 0, .int x1] (q.1.toList ++ []) q.2) else (if x1 = (11 : Int32) then (am_do X 88 [.ref 79, .int (0 : Int32)] (am_sh I J)).bind (fun q => am_ev X amP_159 46 [.ref 0, .int x1] (q.1.toList ++ []) q.2) else (if x1 = (12 : Int32) then some (some (.int (I 16 6)), am_sh I J) else (if x1 = (13 : Int32) then some (some (.int (I 16 4)), am_sh I J) else (if x1 = (14 : Int32) then (am_do X 61 [.ref 83] (am_sh I J)).bind (fun q => am_ev X amP_159 58 [.ref 0, .int x1] (q.1.toList ++ []) q.2) else some (some (.int (-1 : Int32)), am_sh I J)))))))))))))))) := by
  refine (ev_iload rfl rfl).trans ?_
  refine (am_dec (x1 = (0 : Int32))).trans (am_ite (fun s1_0 => ?_) (fun s1_0 => ?_))
  · refine (ev_tswIn (k := 0) rfl (by rw [s1_0]; decide) rfl).trans ?_
    refine (ev_aload rfl rfl).trans ?_
    refine (ev_getR rfl (by decide) am_K_0 (by decide) rfl am_R_0_2).trans ?_
    refine (ev_getI rfl (by decide) am_K_16 (by decide) rfl).trans ?_
    exact ev_iret rfl
  refine (am_dec (x1 = (1 : Int32))).trans (am_ite (fun s1_1 => ?_) (fun s1_1 => ?_))
  · refine (ev_tswIn (k := 1) rfl (by rw [s1_1]; decide) rfl).trans ?_
    refine (ev_aload rfl rfl).trans ?_
    refine (ev_getR rfl (by decide) am_K_0 (by decide) rfl am_R_0_2).trans ?_
    exact ev_invv (as := []) rfl (by decide) am_K_16 rfl (by simp [Value.category])
  refine (am_dec (x1 = (2 : Int32))).trans (am_ite (fun s1_2 => ?_) (fun s1_2 => ?_))
  · refine (ev_tswIn (k := 2) rfl (by rw [s1_2]; decide) rfl).trans ?_
    refine (ev_aload rfl rfl).trans ?_
    refine (ev_getR rfl (by decide) am_K_0 (by decide) rfl am_R_0_2).trans ?_
    refine (ev_getI rfl (by decide) am_K_16 (by decide) rfl).trans ?_
    exact ev_iret rfl
  refine (am_dec (x1 = (3 : Int32))).trans (am_ite (fun s1_3 => ?_) (fun s1_3 => ?_))
  · refine (ev_tswIn (k := 3) rfl (by rw [s1_3]; decide) rfl).trans ?_
    refine (ev_aload rfl rfl).trans ?_
    refine (ev_getR rfl (by decide) am_K_0 (by decide) rfl am_R_0_2).trans ?_
    refine (ev_getI rfl (by decide) am_K_16 (by decide) rfl).trans ?_
    exact ev_iret rfl
  refine (am_dec (x1 = (4 : Int32))).trans (am_ite (fun s1_4 => ?_) (fun s1_4 => ?_))
  · refine (ev_tswIn (k := 4) rfl (by rw [s1_4]; decide) rfl).trans ?_
    refine (ev_aload rfl rfl).trans ?_
    refine (ev_getR rfl (by decide) am_K_0 (by decide) rfl am_R_0_4).trans ?_
    exact ev_invv (as := []) rfl (by decide) am_K_83 rfl (by simp [Value.category])
  refine (am_dec (x1 = (5 : Int32))).trans (am_ite (fun s1_5 => ?_) (fun s1_5 => ?_))
  · refine (ev_tswIn (k := 5) rfl (by rw [s1_5]; decide) rfl).trans ?_
    refine (ev_aload rfl rfl).trans ?_
    refine (ev_getR rfl (by decide) am_K_0 (by decide) rfl am_R_0_8).trans ?_
    refine (ev_getI rfl (by decide) am_K_128 (by decide) rfl).trans ?_
    exact ev_iret rfl
  refine (am_dec (x1 = (6 : Int32))).trans (am_ite (fun s1_6 => ?_) (fun s1_6 => ?_))
  · refine (ev_tswIn (k := 6) rfl (by rw [s1_6]; decide) rfl).trans ?_
    refine (ev_aload rfl rfl).trans ?_
    refine (ev_getR rfl (by decide) am_K_0 (by decide) rfl am_R_0_7).trans ?_
    refine (ev_getI rfl (by decide) am_K_106 (by decide) rfl).trans ?_
    exact ev_iret rfl
  refine (am_dec (x1 = (7 : Int32))).trans (am_ite (fun s1_7 => ?_) (fun s1_7 => ?_))
  · refine (ev_tswIn (k := 7) rfl (by rw [s1_7]; decide) rfl).trans ?_
    refine (ev_aload rfl rfl).trans ?_
    refine (ev_getR rfl (by decide) am_K_0 (by decide) rfl am_R_0_7).trans ?_
    refine (ev_getI rfl (by decide) am_K_106 (by decide) rfl).trans ?_
    exact ev_iret rfl
  refine (am_dec (x1 = (8 : Int32))).trans (am_ite (fun s1_8 => ?_) (fun s1_8 => ?_))
  · refine (ev_tswIn (k := 8) rfl (by rw [s1_8]; decide) rfl).trans ?_
    refine (ev_aload rfl rfl).trans ?_
    refine (ev_getR rfl (by decide) am_K_0 (by decide) rfl am_R_0_3).trans ?_
    refine (ev_iload rfl rfl).trans ?_
    refine (ev_const1 (v := (7 : Int32)) rfl am_ci_7).trans ?_
    refine (ev_isub rfl).trans ?_
    exact ev_invv (as := [.int (x1 - (7 : Int32))]) rfl (by decide) am_K_79 rfl (by simp [Value.category])
  refine (am_dec (x1 = (9 : Int32))).trans (am_ite (fun s1_9 => ?_) (fun s1_9 => ?_))
  · refine (ev_tswIn (k := 9) rfl (by rw [s1_9]; decide) rfl).trans ?_
    refine (ev_aload rfl rfl).trans ?_
    refine (ev_getR rfl (by decide) am_K_0 (by decide) rfl am_R_0_3).trans ?_
    refine (ev_iload rfl rfl).trans ?_
    refine (ev_const1 (v := (7 : Int32)) rfl am_ci_7).trans ?_
    refine (ev_isub rfl).trans ?_
    exact ev_invv (as := [.int (x1 - (7 : Int32))]) rfl (by decide) am_K_79 rfl (by simp [Value.category])
  refine (am_dec (x1 = (10 : Int32))).trans (am_ite (fun s1_10 => ?_) (fun s1_10 => ?_))
  · refine (ev_tswIn (k := 10) rfl (by rw [s1_10]; decide) rfl).trans ?_
    refine (ev_aload rfl rfl).trans ?_
    refine (ev_getR rfl (by decide) am_K_0 (by decide) rfl am_R_0_3).trans ?_
    refine (ev_iload rfl rfl).trans ?_
    refine (ev_const1 (v := (7 : Int32)) rfl am_ci_7).trans ?_
    refine (ev_isub rfl).trans ?_
    exact ev_invv (as := [.int (x1 - (7 : Int32))]) rfl (by decide) am_K_79 rfl (by simp [Value.category])
  refine (am_dec (x1 = (11 : Int32))).trans (am_ite (fun s1_11 => ?_) (fun s1_11 => ?_))
  · refine (ev_tswIn (k := 11) rfl (by rw [s1_11]; decide) rfl).trans ?_
    refine (ev_aload rfl rfl).trans ?_
    refine (ev_getR rfl (by decide) am_K_0 (by decide) rfl am_R_0_3).trans ?_
    refine (ev_const0 (v := (0 : Int32)) rfl am_ci_0).trans ?_
    exact ev_invv (as := [.int (0 : Int32)]) rfl (by decide) am_K_79 rfl (by simp [Value.category])
  refine (am_dec (x1 = (12 : Int32))).trans (am_ite (fun s1_12 => ?_) (fun s1_12 => ?_))
  · refine (ev_tswIn (k := 12) rfl (by rw [s1_12]; decide) rfl).trans ?_
    refine (ev_aload rfl rfl).trans ?_
    refine (ev_getR rfl (by decide) am_K_0 (by decide) rfl am_R_0_2).trans ?_
    refine (ev_getI rfl (by decide) am_K_16 (by decide) rfl).trans ?_
    exact ev_iret rfl
  refine (am_dec (x1 = (13 : Int32))).trans (am_ite (fun s1_13 => ?_) (fun s1_13 => ?_))
  · refine (ev_tswIn (k := 13) rfl (by rw [s1_13]; decide) rfl).trans ?_
    refine (ev_aload rfl rfl).trans ?_
    refine (ev_getR rfl (by decide) am_K_0 (by decide) rfl am_R_0_2).trans ?_
    refine (ev_getI rfl (by decide) am_K_16 (by decide) rfl).trans ?_
    exact ev_iret rfl
  refine (am_dec (x1 = (14 : Int32))).trans (am_ite (fun s1_14 => ?_) (fun s1_14 => ?_))
  · refine (ev_tswIn (k := 14) rfl (by rw [s1_14]; decide) rfl).trans ?_
    refine (ev_aload rfl rfl).trans ?_
    refine (ev_getR rfl (by decide) am_K_0 (by decide) rfl am_R_0_4).trans ?_
    exact ev_invv (as := []) rfl (by decide) am_K_83 rfl (by simp [Value.category])
  refine (ev_tswOut rfl (by have q0 := am_neT s1_0 (n := 0) (by decide); have q1 := am_neT s1_1 (n := 1) (by decide); have q2 := am_neT s1_2 (n := 2) (by decide); have q3 := am_neT s1_3 (n := 3) (by decide); have q4 := am_neT s1_4 (n := 4) (by decide); have q5 := am_neT s1_5 (n := 5) (by decide); have q6 := am_neT s1_6 (n := 6) (by decide); have q7 := am_neT s1_7 (n := 7) (by decide); have q8 := am_neT s1_8 (n := 8) (by decide); have q9 := am_neT s1_9 (n := 9) (by decide); have q10 := am_neT s1_10 (n := 10) (by decide); have q11 := am_neT s1_11 (n := 11) (by decide); have q12 := am_neT s1_12 (n := 12) (by decide); have q13 := am_neT s1_13 (n := 13) (by decide); have q14 := am_neT s1_14 (n := 14) (by decide); simp only [List.length_cons, List.length_nil]; omega)).trans ?_
  refine (ev_const0 (v := (-1 : Int32)) rfl am_ci_m1).trans ?_
  exact ev_iret rfl
theorem cl_159 (X : am_X) (I : Nat → Nat → Int32) (J : Nat → Nat → Int64) (x1 : Int32) : am_do X 159 [.ref 0, .int x1] (am_sh I J) = am_ev X amP_159 0 [.ref 0, .int x1] [] (am_sh I J) := am_do_of rfl rfl rfl
set_option maxRecDepth 10000 in
theorem sg_159_9 (X : am_X) (I : Nat → Nat → Int32) (J : Nat → Nat → Int64) (x1 : Int32) (x2 : Int32) : am_ev X amP_159 9 [.ref 0, .int x1] [.int x2] (am_sh I J) = (am_do X 348 [.int x2] (am_sh I J)).bind (fun q => am_ev X amP_159 10 [.ref 0, .int x1] (q.1.toList ++ []) q.2) := by
  exact ev_invs (as := [.int x2]) rfl rfl (by simp [Value.category])
set_option maxRecDepth 10000 in
theorem sg_159_10 (X : am_X) (I : Nat → Nat → Int32) (J : Nat → Nat → Int64) (x1 : Int32) (x2 : Int32) : am_ev X amP_159 10 [.ref 0, .int x1] [.int x2] (am_sh I J) = some (some (.int x2), am_sh I J) := by
  exact ev_iret rfl
set_option maxRecDepth 10000 in
theorem sg_159_22 (X : am_X) (I : Nat → Nat → Int32) (J : Nat → Nat → Int64) (x1 : Int32) (x2 : Int32) : am_ev X amP_159 22 [.ref 0, .int x1] [.int x2] (am_sh I J) = some (some (.int x2), am_sh I J) := by
  exact ev_iret rfl
set_option maxRecDepth 10000 in
theorem sg_159_41 (X : am_X) (I : Nat → Nat → Int32) (J : Nat → Nat → Int64) (x1 : Int32) (x2 : Int32) : am_ev X amP_159 41 [.ref 0, .int x1] [.int x2] (am_sh I J) = some (some (.int x2), am_sh I J) := by
  exact ev_iret rfl
set_option maxRecDepth 10000 in
theorem sg_159_46 (X : am_X) (I : Nat → Nat → Int32) (J : Nat → Nat → Int64) (x1 : Int32) (x2 : Int32) : am_ev X amP_159 46 [.ref 0, .int x1] [.int x2] (am_sh I J) = some (some (.int x2), am_sh I J) := by
  exact ev_iret rfl
set_option maxRecDepth 10000 in
theorem sg_159_58 (X : am_X) (I : Nat → Nat → Int32) (J : Nat → Nat → Int64) (x1 : Int32) (x2 : Int32) : am_ev X amP_159 58 [.ref 0, .int x1] [.int x2] (am_sh I J) = some (some (.int x2), am_sh I J) := by
  exact ev_iret rfl
-- 160 X11_letter
set_option maxRecDepth 10000 in
theorem sg_160_e0 (X : am_X) (I : Nat → Nat → Int32) (J : Nat → Nat → Int64) (x1 : Int32) (x2 : Int32) : am_ev X amP_160 0 [.ref 0, .int x1, .int x2] [] (am_sh I J) = (am_do X 99 [.ref 16, .int x1] (am_sh I J)).bind (fun q => am_ev X amP_160 4 [.ref 0, .int x1, .int x2] (q.1.toList ++ []) q.2) := by
  refine (ev_aload rfl rfl).trans ?_
  refine (ev_getR rfl (by decide) am_K_0 (by decide) rfl am_R_0_2).trans ?_
  refine (ev_iload rfl rfl).trans ?_
  exact ev_invv (as := [.int x1]) rfl (by decide) am_K_16 rfl (by simp [Value.category])
theorem cl_160 (X : am_X) (I : Nat → Nat → Int32) (J : Nat → Nat → Int64) (x1 : Int32) (x2 : Int32) : am_do X 160 [.ref 0, .int x1, .int x2] (am_sh I J) = am_ev X amP_160 0 [.ref 0, .int x1, .int x2] [] (am_sh I J) := am_do_of rfl rfl rfl
set_option maxRecDepth 10000 in
theorem sg_160_4 (X : am_X) (I : Nat → Nat → Int32) (J : Nat → Nat → Int64) (x1 : Int32) (x2 : Int32) (x3 : Int32) : am_ev X amP_160 4 [.ref 0, .int x1, .int x2] [.int x3] (am_sh I J) = (if x3 = 0 then some (some (.int (-1 : Int32)), am_sh I J) else (if x2 < 0 then some (some (.int (-1 : Int32)), am_sh I J) else (if x2 < (6 : Int32) then (if x1 < 0 ∨ 10 ≤ x1.toNatClampNeg then none else (am_do X 130 [.int (I (am_bd (x1.toNatClampNeg)) 0), .int x2] (am_sh I J)).bind (fun q => am_ev X amP_160 20 [.ref 0, .int x1, .int x2] (q.1.toList ++ []) q.2)) else some (some (.int (-1 : Int32)), am_sh I J)))) := by
  refine (ev_if0 rfl).trans (am_ite (fun c1 => ?_) (fun c1 => ?_))
  · refine (ev_const0 (v := (-1 : Int32)) rfl am_ci_m1).trans ?_
    exact ev_iret rfl
  · refine (ev_iload rfl rfl).trans ?_
    refine (ev_if2 rfl).trans (am_ite (fun c2 => ?_) (fun c2 => ?_))
    · refine (ev_const0 (v := (-1 : Int32)) rfl am_ci_m1).trans ?_
      exact ev_iret rfl
    · refine (ev_iload rfl rfl).trans ?_
      refine (ev_const1 (v := (6 : Int32)) rfl am_ci_6).trans ?_
      refine (ev_icmp2 rfl).trans (am_ite (fun c3 => ?_) (fun c3 => ?_))
      · refine (ev_aload rfl rfl).trans ?_
        refine (ev_getR rfl (by decide) am_K_0 (by decide) rfl am_R_0_2).trans ?_
        refine (ev_getR rfl (by decide) am_K_16 (by decide) rfl am_R_16_0).trans ?_
        refine (ev_iload rfl rfl).trans ?_
        refine (ev_aald rfl (by decide) (Or.inl am_K_17) (f := am_bd) (fun k hk => am_R17 hk)).trans (am_itn (fun g4 => ?_))
        refine (ev_getI rfl (by have := am_bd_lt (by omega : (x1.toNatClampNeg) < 11); omega) (am_Kbd (by omega : (x1.toNatClampNeg) < 11)) (by decide) rfl).trans ?_
        refine (ev_iload rfl rfl).trans ?_
        exact ev_invs (as := [.int x2, .int (I (am_bd (x1.toNatClampNeg)) 0)]) rfl rfl (by simp [Value.category])
      · refine (ev_const0 (v := (-1 : Int32)) rfl am_ci_m1).trans ?_
        exact ev_iret rfl
set_option maxRecDepth 10000 in
theorem sg_160_20 (X : am_X) (I : Nat → Nat → Int32) (J : Nat → Nat → Int64) (x1 : Int32) (x2 : Int32) (x3 : Int32) : am_ev X amP_160 20 [.ref 0, .int x1, .int x2] [.int x3] (am_sh I J) = some (some (.int x3), am_sh I J) := by
  exact ev_iret rfl
-- 161 X11_named
set_option maxRecDepth 10000 in
theorem sg_161_e0 (X : am_X) (I : Nat → Nat → Int32) (J : Nat → Nat → Int64) : am_ev X amP_161 0 [.ref 0, .null, .null] [] (am_sh I J) = (am_do X 126 [.ref 1, .int (0 : Int32)] (am_sh I J)).bind (fun q => am_ev X amP_161 4 [.ref 0, .null, .null] (q.1.toList ++ []) q.2) := by
  refine (ev_aload rfl rfl).trans ?_
  refine (ev_getR rfl (by decide) am_K_0 (by decide) rfl am_R_0_0).trans ?_
  refine (ev_const0 (v := (0 : Int32)) rfl am_ci_0).trans ?_
  exact ev_invv (as := [.int (0 : Int32)]) rfl (by decide) am_K_1 rfl (by simp [Value.category])
theorem cl_161 (X : am_X) (I : Nat → Nat → Int32) (J : Nat → Nat → Int64) : am_do X 161 [.ref 0] (am_sh I J) = am_ev X amP_161 0 [.ref 0, .null, .null] [] (am_sh I J) := am_do_of rfl rfl rfl
set_option maxRecDepth 10000 in
theorem sg_161_4 (X : am_X) (I : Nat → Nat → Int32) (J : Nat → Nat → Int64) (w1 : Value) (w2 : Value) (x3 : Int32) (hw1 : w1.category = 1) (hw2 : w2.category = 1) : am_ev X amP_161 4 [.ref 0, w1, w2] [.int x3] (am_sh I J) = (if ¬ x3 = (I 1 1) then some (some (.int (-1 : Int32)), am_sh (am_up I 1 1 (0 : Int32)) J) else (am_do X 128 [.ref 1, .int (0 : Int32), .int x3] (am_sh I J)).bind (fun q => am_ev X amP_161 15 [.ref 0, .int x3, w2] (q.1.toList ++ []) q.2)) := by
  refine (ev_istore (ls' := [.ref 0, .int x3, w2]) rfl (Nat.le_of_ble_eq_true rfl) rfl).trans ?_
  refine (ev_iload rfl rfl).trans ?_
  refine (ev_aload rfl rfl).trans ?_
  refine (ev_getR rfl (by decide) am_K_0 (by decide) rfl am_R_0_0).trans ?_
  refine (ev_getI rfl (by decide) am_K_1 (by decide) rfl).trans ?_
  refine (ev_icmp1 rfl).trans (am_ite (fun c1 => ?_) (fun c1 => ?_))
  · refine (ev_const0 (v := (-1 : Int32)) rfl am_ci_m1).trans ?_
    refine (ev_istore (ls' := [.ref 0, .int x3, .int (-1 : Int32)]) rfl (Nat.le_of_ble_eq_true rfl) rfl).trans ?_
    refine (ev_aload rfl rfl).trans ?_
    refine (ev_getR rfl (by decide) am_K_0 (by decide) rfl am_R_0_0).trans ?_
    refine (ev_const0 (v := (0 : Int32)) rfl am_ci_0).trans ?_
    refine (ev_putI rfl (by decide) am_K_1 (by decide) rfl).trans ?_
    refine (ev_iload rfl rfl).trans ?_
    refine (ev_const0 (v := (-1 : Int32)) rfl am_ci_m1).trans ?_
    refine ((ev_icmp1 rfl).trans (if_neg (by decide))).trans ?_
    refine (ev_const0 (v := (-1 : Int32)) rfl am_ci_m1).trans ?_
    refine (ev_goto rfl).trans ?_
    exact ev_iret rfl
  · refine (ev_aload rfl rfl).trans ?_
    refine (ev_getR rfl (by decide) am_K_0 (by decide) rfl am_R_0_0).trans ?_
    refine (ev_const0 (v := (0 : Int32)) rfl am_ci_0).trans ?_
    refine (ev_iload rfl rfl).trans ?_
    exact ev_invv (as := [.int x3, .int (0 : Int32)]) rfl (by decide) am_K_1 rfl (by simp [Value.category])
set_option maxRecDepth 10000 in
theorem sg_161_15 (X : am_X) (I : Nat → Nat → Int32) (J : Nat → Nat → Int64) (x1 : Int32) (w2 : Value) (x3 : Int32) (hw2 : w2.category = 1) : am_ev X amP_161 15 [.ref 0, .int x1, w2] [.int x3] (am_sh I J) = (if ¬ x3 = (-1 : Int32) then (am_do X 103 [.ref 16, .int x3] (am_sh (am_up I 1 1 (0 : Int32)) J)).bind (fun q => am_ev X amP_161 31 [.ref 0, .int x1, .int x3] (q.1.toList ++ []) q.2) else some (some (.int (-1 : Int32)), am_sh (am_up I 1 1 (0 : Int32)) J)) := by
  refine (ev_goto rfl).trans ?_
  refine (ev_istore (ls' := [.ref 0, .int x1, .int x3]) rfl (Nat.le_of_ble_eq_true rfl) rfl).trans ?_
  refine (ev_aload rfl rfl).trans ?_
  refine (ev_getR rfl (by decide) am_K_0 (by decide) rfl am_R_0_0).trans ?_
  refine (ev_const0 (v := (0 : Int32)) rfl am_ci_0).trans ?_
  refine (ev_putI rfl (by decide) am_K_1 (by decide) rfl).trans ?_
  refine (ev_iload rfl rfl).trans ?_
  refine (ev_const0 (v := (-1 : Int32)) rfl am_ci_m1).trans ?_
  refine (ev_icmp1 rfl).trans (am_ite (fun c1 => ?_) (fun c1 => ?_))
  · refine (ev_aload rfl rfl).trans ?_
    refine (ev_getR rfl (by decide) am_K_0 (by decide) rfl am_R_0_2).trans ?_
    refine (ev_iload rfl rfl).trans ?_
    exact ev_invv (as := [.int x3]) rfl (by decide) am_K_16 rfl (by simp [Value.category])
  · refine (ev_const0 (v := (-1 : Int32)) rfl am_ci_m1).trans ?_
    refine (ev_goto rfl).trans ?_
    exact ev_iret rfl
set_option maxRecDepth 10000 in
theorem sg_161_31 (X : am_X) (I : Nat → Nat → Int32) (J : Nat → Nat → Int64) (x1 : Int32) (x2 : Int32) (x3 : Int32) : am_ev X amP_161 31 [.ref 0, .int x1, .int x2] [.int x3] (am_sh I J) = some (some (.int x3), am_sh I J) := by
  exact ev_iret rfl
-- 162 X11_body
set_option maxRecDepth 10000 in
theorem sg_162_e0 (X : am_X) (I : Nat → Nat → Int32) (J : Nat → Nat → Int64) (x1 : Int32) (x2 : Int32) : am_ev X amP_162 0 [.ref 0, .int x1, .int x2] [] (am_sh I J) = (am_do X 99 [.ref 16, .int x1] (am_sh I J)).bind (fun q => am_ev X amP_162 4 [.ref 0, .int x1, .int x2] (q.1.toList ++ []) q.2) := by
  refine (ev_aload rfl rfl).trans ?_
  refine (ev_getR rfl (by decide) am_K_0 (by decide) rfl am_R_0_2).trans ?_
  refine (ev_iload rfl rfl).trans ?_
  exact ev_invv (as := [.int x1]) rfl (by decide) am_K_16 rfl (by simp [Value.category])
theorem cl_162 (X : am_X) (I : Nat → Nat → Int32) (J : Nat → Nat → Int64) (x1 : Int32) (x2 : Int32) : am_do X 162 [.ref 0, .int x1, .int x2] (am_sh I J) = am_ev X amP_162 0 [.ref 0, .int x1, .int x2] [] (am_sh I J) := am_do_of rfl rfl rfl
set_option maxRecDepth 10000 in
theorem sg_162_4 (X : am_X) (I : Nat → Nat → Int32) (J : Nat → Nat → Int64) (x1 : Int32) (x2 : Int32) (x3 : Int32) : am_ev X amP_162 4 [.ref 0, .int x1, .int x2] [.int x3] (am_sh I J) = (if x3 = 0 then some (some (.int (-1 : Int32)), am_sh I J) else (if x2 < 0 then some (some (.int (-1 : Int32)), am_sh I J) else (if x2 < (9 : Int32) then (if x1 < 0 ∨ 10 ≤ x1.toNatClampNeg then none else (if x2 < 0 ∨ 9 ≤ x2.toNatClampNeg then none else some (some (.int (I (am_bd (x1.toNatClampNeg) + 1) x2.toNatClampNeg)), am_sh I J))) else some (some (.int (-1 : Int32)), am_sh I J)))) := by
  refine (ev_if0 rfl).trans (am_ite (fun c1 => ?_) (fun c1 => ?_))
  · refine (ev_const0 (v := (-1 : Int32)) rfl am_ci_m1).trans ?_
    exact ev_iret rfl
  · refine (ev_iload rfl rfl).trans ?_
    refine (ev_if2 rfl).trans (am_ite (fun c2 => ?_) (fun c2 => ?_))
    · refine (ev_const0 (v := (-1 : Int32)) rfl am_ci_m1).trans ?_
      exact ev_iret rfl
    · refine (ev_iload rfl rfl).trans ?_
      refine (ev_const1 (v := (9 : Int32)) rfl am_ci_9).trans ?_
      refine (ev_icmp2 rfl).trans (am_ite (fun c3 => ?_) (fun c3 => ?_))
      · refine (ev_aload rfl rfl).trans ?_
        refine (ev_getR rfl (by decide) am_K_0 (by decide) rfl am_R_0_2).trans ?_
        refine (ev_getR rfl (by decide) am_K_16 (by decide) rfl am_R_16_0).trans ?_
        refine (ev_iload rfl rfl).trans ?_
        refine (ev_aald rfl (by decide) (Or.inl am_K_17) (f := am_bd) (fun k hk => am_R17 hk)).trans (am_itn (fun g4 => ?_))
        refine (ev_getR rfl (by have := am_bd_lt (by omega : (x1.toNatClampNeg) < 11); omega) (am_Kbd (by omega : (x1.toNatClampNeg) < 11)) (by decide) rfl (am_Rb2 (by omega : (x1.toNatClampNeg) < 11))).trans ?_
        refine (ev_iload rfl rfl).trans ?_
        refine (ev_iald rfl (by have := am_bd_lt (by omega : (x1.toNatClampNeg) < 11); omega) (am_Kbn (by omega : (x1.toNatClampNeg) < 11))).trans (am_itn (fun g5 => ?_))
        exact ev_iret rfl
      · refine (ev_const0 (v := (-1 : Int32)) rfl am_ci_m1).trans ?_
        exact ev_iret rfl
-- 163 X11_spot
set_option maxRecDepth 10000 in
theorem sg_163_e0 (X : am_X) (I : Nat → Nat → Int32) (J : Nat → Nat → Int64) (x1 : Int32) (x2 : Int32) (x3 : Int32) : am_ev X amP_163 0 [.ref 0, .int x1, .int x2, .int x3] [] (am_sh I J) = (am_do X 99 [.ref 16, .int x1] (am_sh I J)).bind (fun q => am_ev X amP_163 4 [.ref 0, .int x1, .int x2, .int x3] (q.1.toList ++ []) q.2) := by
  refine (ev_aload rfl rfl).trans ?_
  refine (ev_getR rfl (by decide) am_K_0 (by decide) rfl am_R_0_2).trans ?_
  refine (ev_iload rfl rfl).trans ?_
  exact ev_invv (as := [.int x1]) rfl (by decide) am_K_16 rfl (by simp [Value.category])
theorem cl_163 (X : am_X) (I : Nat → Nat → Int32) (J : Nat → Nat → Int64) (x1 : Int32) (x2 : Int32) (x3 : Int32) : am_do X 163 [.ref 0, .int x1, .int x2, .int x3] (am_sh I J) = am_ev X amP_163 0 [.ref 0, .int x1, .int x2, .int x3] [] (am_sh I J) := am_do_of rfl rfl rfl
set_option maxRecDepth 10000 in
theorem sg_163_4 (X : am_X) (I : Nat → Nat → Int32) (J : Nat → Nat → Int64) (x1 : Int32) (x2 : Int32) (x3 : Int32) (x4 : Int32) : am_ev X amP_163 4 [.ref 0, .int x1, .int x2, .int x3] [.int x4] (am_sh I J) = (if x4 = 0 then some (some (.int (-1000000 : Int32)), am_sh I J) else (am_do X 209 [.int x2] (am_sh I J)).bind (fun q => am_ev X amP_163 7 [.ref 0, .int x1, .int x2, .int x3] (q.1.toList ++ []) q.2)) := by
  refine (ev_if0 rfl).trans (am_ite (fun c1 => ?_) (fun c1 => ?_))
  · refine (ev_const3 (v := (-1000000 : Int32)) rfl am_ci_m1000000).trans ?_
    exact ev_iret rfl
  · refine (ev_iload rfl rfl).trans ?_
    exact ev_invs (as := [.int x2]) rfl rfl (by simp [Value.category])
set_option maxRecDepth 10000 in
theorem sg_163_7 (X : am_X) (I : Nat → Nat → Int32) (J : Nat → Nat → Int64) (x1 : Int32) (x2 : Int32) (x3 : Int32) (x4 : Int32) : am_ev X amP_163 7 [.ref 0, .int x1, .int x2, .int x3] [.int x4] (am_sh I J) = (if ¬ x4 = 0 then (if x1 < 0 ∨ 10 ≤ x1.toNatClampNeg then none else (am_do X 34 [.ref (am_bd (x1.toNatClampNeg)), .int x2, .int x3] (am_sh I J)).bind (fun q => am_ev X amP_163 18 [.ref 0, .int x1, .int x2, .int x3] (q.1.toList ++ []) q.2)) else some (some (.int (-1000000 : Int32)), am_sh I J)) := by
  refine (ev_if1 rfl).trans (am_ite (fun c1 => ?_) (fun c1 => ?_))
  · refine (ev_aload rfl rfl).trans ?_
    refine (ev_getR rfl (by decide) am_K_0 (by decide) rfl am_R_0_2).trans ?_
    refine (ev_getR rfl (by decide) am_K_16 (by decide) rfl am_R_16_0).trans ?_
    refine (ev_iload rfl rfl).trans ?_
    refine (ev_aald rfl (by decide) (Or.inl am_K_17) (f := am_bd) (fun k hk => am_R17 hk)).trans (am_itn (fun g2 => ?_))
    refine (ev_iload rfl rfl).trans ?_
    refine (ev_iload rfl rfl).trans ?_
    exact ev_invv (as := [.int x3, .int x2]) rfl (by have := am_bd_lt (by omega : (x1.toNatClampNeg) < 11); omega) (am_Kbd (by omega : (x1.toNatClampNeg) < 11)) rfl (by simp [Value.category])
  · refine (ev_const3 (v := (-1000000 : Int32)) rfl am_ci_m1000000).trans ?_
    exact ev_iret rfl
set_option maxRecDepth 10000 in
theorem sg_163_18 (X : am_X) (I : Nat → Nat → Int32) (J : Nat → Nat → Int64) (x1 : Int32) (x2 : Int32) (x3 : Int32) (x4 : Int32) : am_ev X amP_163 18 [.ref 0, .int x1, .int x2, .int x3] [.int x4] (am_sh I J) = some (some (.int x4), am_sh I J) := by
  exact ev_iret rfl
-- 164 X11_far
set_option maxRecDepth 10000 in
theorem sg_164_e0 (X : am_X) (I : Nat → Nat → Int32) (J : Nat → Nat → Int64) (x1 : Int32) (x2 : Int32) (x3 : Int32) : am_ev X amP_164 0 [.ref 0, .int x1, .int x2, .int x3, .null, .null] [] (am_sh I J) = (am_do X 100 [.ref 16, .int x1, .int x2] (am_sh I J)).bind (fun q => am_ev X amP_164 5 [.ref 0, .int x1, .int x2, .int x3, .null, .null] (q.1.toList ++ []) q.2) := by
  refine (ev_aload rfl rfl).trans ?_
  refine (ev_getR rfl (by decide) am_K_0 (by decide) rfl am_R_0_2).trans ?_
  refine (ev_iload rfl rfl).trans ?_
  refine (ev_iload rfl rfl).trans ?_
  exact ev_invv (as := [.int x2, .int x1]) rfl (by decide) am_K_16 rfl (by simp [Value.category])
theorem cl_164 (X : am_X) (I : Nat → Nat → Int32) (J : Nat → Nat → Int64) (x1 : Int32) (x2 : Int32) (x3 : Int32) : am_do X 164 [.ref 0, .int x1, .int x2, .int x3] (am_sh I J) = am_ev X amP_164 0 [.ref 0, .int x1, .int x2, .int x3, .null, .null] [] (am_sh I J) := am_do_of rfl rfl rfl
set_option maxRecDepth 10000 in
theorem sg_164_5 (X : am_X) (I : Nat → Nat → Int32) (J : Nat → Nat → Int64) (x1 : Int32) (x2 : Int32) (x3 : Int32) (w4 : Value) (w5 : Value) (x6 : Int32) (hw4 : w4.category = 1) (hw5 : w5.category = 1) : am_ev X amP_164 5 [.ref 0, .int x1, .int x2, .int x3, w4, w5] [.int x6] (am_sh I J) = (if x6 = 0 then some (some (.int (-1 : Int32)), am_sh I J) else (am_do X 209 [.int x3] (am_sh I J)).bind (fun q => am_ev X amP_164 8 [.ref 0, .int x1, .int x2, .int x3, w4, w5] (q.1.toList ++ []) q.2)) := by
  refine (ev_if0 rfl).trans (am_ite (fun c1 => ?_) (fun c1 => ?_))
  · refine (ev_const0 (v := (-1 : Int32)) rfl am_ci_m1).trans ?_
    exact ev_iret rfl
  · refine (ev_iload rfl rfl).trans ?_
    exact ev_invs (as := [.int x3]) rfl rfl (by simp [Value.category])
set_option maxRecDepth 10000 in
theorem sg_164_8 (X : am_X) (I : Nat → Nat → Int32) (J : Nat → Nat → Int64) (x1 : Int32) (x2 : Int32) (x3 : Int32) (w4 : Value) (w5 : Value) (x6 : Int32) (hw4 : w4.category = 1) (hw5 : w5.category = 1) : am_ev X amP_164 8 [.ref 0, .int x1, .int x2, .int x3, w4, w5] [.int x6] (am_sh I J) = (if ¬ x6 = 0 then (if x1 < 0 ∨ 10 ≤ x1.toNatClampNeg then none else (if x2 < 0 ∨ 10 ≤ x2.toNatClampNeg then none else (am_do X 30 [.ref (am_bd (x1.toNatClampNeg)), .int x3] (am_sh I J)).bind (fun q => am_ev X amP_164 27 [.ref 0, .int x1, .int x2, .int x3, .ref (am_bd (x1.toNatClampNeg)), .ref (am_bd (x2.toNatClampNeg))] (q.1.toList ++ [.ref (am_bd (x1.toNatClampNeg))]) q.2))) else some (some (.int (-1 : Int32)), am_sh I J)) := by
  refine (ev_if1 rfl).trans (am_ite (fun c1 => ?_) (fun c1 => ?_))
  · refine (ev_aload rfl rfl).trans ?_
    refine (ev_getR rfl (by decide) am_K_0 (by decide) rfl am_R_0_2).trans ?_
    refine (ev_getR rfl (by decide) am_K_16 (by decide) rfl am_R_16_0).trans ?_
    refine (ev_iload rfl rfl).trans ?_
    refine (ev_aald rfl (by decide) (Or.inl am_K_17) (f := am_bd) (fun k hk => am_R17 hk)).trans (am_itn (fun g2 => ?_))
    refine (ev_astore (ls' := [.ref 0, .int x1, .int x2, .int x3, .ref (am_bd (x1.toNatClampNeg)), w5]) rfl (Nat.le_of_ble_eq_true rfl) rfl).trans ?_
    refine (ev_aload rfl rfl).trans ?_
    refine (ev_getR rfl (by decide) am_K_0 (by decide) rfl am_R_0_2).trans ?_
    refine (ev_getR rfl (by decide) am_K_16 (by decide) rfl am_R_16_0).trans ?_
    refine (ev_iload rfl rfl).trans ?_
    refine (ev_aald rfl (by decide) (Or.inl am_K_17) (f := am_bd) (fun k hk => am_R17 hk)).trans (am_itn (fun g3 => ?_))
    refine (ev_astore (ls' := [.ref 0, .int x1, .int x2, .int x3, .ref (am_bd (x1.toNatClampNeg)), .ref (am_bd (x2.toNatClampNeg))]) rfl (Nat.le_of_ble_eq_true rfl) rfl).trans ?_
    refine (ev_aload rfl rfl).trans ?_
    refine (ev_aload rfl rfl).trans ?_
    refine (ev_iload rfl rfl).trans ?_
    exact ev_invv (as := [.int x3]) rfl (by have := am_bd_lt (by omega : (x1.toNatClampNeg) < 11); omega) (am_Kbd (by omega : (x1.toNatClampNeg) < 11)) rfl (by simp [Value.category])
  · refine (ev_const0 (v := (-1 : Int32)) rfl am_ci_m1).trans ?_
    exact ev_iret rfl
set_option maxRecDepth 10000 in
theorem sg_164_27 (X : am_X) (I : Nat → Nat → Int32) (J : Nat → Nat → Int64) (x1 : Int32) (x2 : Int32) (x3 : Int32) (b4 : Nat) (b5 : Nat) (b6 : Nat) (x7 : Int32) (hb4 : b4 < 11) (hb5 : b5 < 11) (hb6 : b6 < 11) : am_ev X amP_164 27 [.ref 0, .int x1, .int x2, .int x3, .ref (am_bd b4), .ref (am_bd b5)] [.int x7, .ref (am_bd b6)] (am_sh I J) = (am_do X 30 [.ref (am_bd b5), .int x3] (am_sh I J)).bind (fun q => am_ev X amP_164 31 [.ref 0, .int x1, .int x2, .int x3, .ref (am_bd b4), .ref (am_bd b5)] (q.1.toList ++ [.ref (am_bd b5), .int x7, .ref (am_bd b6)]) q.2) := by
  refine (ev_aload rfl rfl).trans ?_
  refine (ev_aload rfl rfl).trans ?_
  refine (ev_iload rfl rfl).trans ?_
  exact ev_invv (as := [.int x3]) rfl (by have := am_bd_lt hb5; omega) (am_Kbd hb5) rfl (by simp [Value.category])
set_option maxRecDepth 10000 in
theorem sg_164_31 (X : am_X) (I : Nat → Nat → Int32) (J : Nat → Nat → Int64) (x1 : Int32) (x2 : Int32) (x3 : Int32) (b4 : Nat) (b5 : Nat) (b6 : Nat) (x7 : Int32) (b8 : Nat) (x9 : Int32) (hb4 : b4 < 11) (hb5 : b5 < 11) (hb6 : b6 < 11) (hb8 : b8 < 11) : am_ev X amP_164 31 [.ref 0, .int x1, .int x2, .int x3, .ref (am_bd b4), .ref (am_bd b5)] [.int x9, .ref (am_bd b8), .int x7, .ref (am_bd b6)] (am_sh I J) = (am_do X 35 [.ref (am_bd b6), .int x7, .ref (am_bd b8), .int x9] (am_sh I J)).bind (fun q => am_ev X amP_164 32 [.ref 0, .int x1, .int x2, .int x3, .ref (am_bd b4), .ref (am_bd b5)] (q.1.toList ++ []) q.2) := by
  exact ev_invv (as := [.int x9, .ref (am_bd b8), .int x7]) rfl (by have := am_bd_lt hb6; omega) (am_Kbd hb6) rfl (by simp [Value.category])
set_option maxRecDepth 10000 in
theorem sg_164_32 (X : am_X) (I : Nat → Nat → Int32) (J : Nat → Nat → Int64) (x1 : Int32) (x2 : Int32) (x3 : Int32) (b4 : Nat) (b5 : Nat) (x6 : Int32) (hb4 : b4 < 11) (hb5 : b5 < 11) : am_ev X amP_164 32 [.ref 0, .int x1, .int x2, .int x3, .ref (am_bd b4), .ref (am_bd b5)] [.int x6] (am_sh I J) = some (some (.int x6), am_sh I J) := by
  exact ev_iret rfl
-- 165 X11_lean
set_option maxRecDepth 10000 in
theorem sg_165_e0 (X : am_X) (I : Nat → Nat → Int32) (J : Nat → Nat → Int64) (x1 : Int32) (x2 : Int32) (x3 : Int32) : am_ev X amP_165 0 [.ref 0, .int x1, .int x2, .int x3, .null] [] (am_sh I J) = (am_do X 100 [.ref 16, .int x1, .int x2] (am_sh I J)).bind (fun q => am_ev X amP_165 5 [.ref 0, .int x1, .int x2, .int x3, .null] (q.1.toList ++ []) q.2) := by
  refine (ev_aload rfl rfl).trans ?_
  refine (ev_getR rfl (by decide) am_K_0 (by decide) rfl am_R_0_2).trans ?_
  refine (ev_iload rfl rfl).trans ?_
  refine (ev_iload rfl rfl).trans ?_
  exact ev_invv (as := [.int x2, .int x1]) rfl (by decide) am_K_16 rfl (by simp [Value.category])
theorem cl_165 (X : am_X) (I : Nat → Nat → Int32) (J : Nat → Nat → Int64) (x1 : Int32) (x2 : Int32) (x3 : Int32) : am_do X 165 [.ref 0, .int x1, .int x2, .int x3] (am_sh I J) = am_ev X amP_165 0 [.ref 0, .int x1, .int x2, .int x3, .null] [] (am_sh I J) := am_do_of rfl rfl rfl
set_option maxRecDepth 10000 in
theorem sg_165_5 (X : am_X) (I : Nat → Nat → Int32) (J : Nat → Nat → Int64) (x1 : Int32) (x2 : Int32) (x3 : Int32) (w4 : Value) (x5 : Int32) (hw4 : w4.category = 1) : am_ev X amP_165 5 [.ref 0, .int x1, .int x2, .int x3, w4] [.int x5] (am_sh I J) = (if x5 = 0 then some (some (.int (-1000000 : Int32)), am_sh I J) else (am_do X 209 [.int x3] (am_sh I J)).bind (fun q => am_ev X amP_165 8 [.ref 0, .int x1, .int x2, .int x3, w4] (q.1.toList ++ []) q.2)) := by
  refine (ev_if0 rfl).trans (am_ite (fun c1 => ?_) (fun c1 => ?_))
  · refine (ev_const3 (v := (-1000000 : Int32)) rfl am_ci_m1000000).trans ?_
    exact ev_iret rfl
  · refine (ev_iload rfl rfl).trans ?_
    exact ev_invs (as := [.int x3]) rfl rfl (by simp [Value.category])
set_option maxRecDepth 10000 in
theorem sg_165_8 (X : am_X) (I : Nat → Nat → Int32) (J : Nat → Nat → Int64) (x1 : Int32) (x2 : Int32) (x3 : Int32) (w4 : Value) (x5 : Int32) (hw4 : w4.category = 1) : am_ev X amP_165 8 [.ref 0, .int x1, .int x2, .int x3, w4] [.int x5] (am_sh I J) = (if ¬ x5 = 0 then (if x1 < 0 ∨ 10 ≤ x1.toNatClampNeg then none else (if x2 < 0 ∨ 10 ≤ x2.toNatClampNeg then none else (am_do X 30 [.ref (am_bd (x1.toNatClampNeg)), .int x3] (am_sh I J)).bind (fun q => am_ev X amP_165 26 [.ref 0, .int x1, .int x2, .int x3, .ref (am_bd (x1.toNatClampNeg))] (q.1.toList ++ [.ref (am_bd (x2.toNatClampNeg)), .ref (am_bd (x1.toNatClampNeg))]) q.2))) else some (some (.int (-1000000 : Int32)), am_sh I J)) := by
  refine (ev_if1 rfl).trans (am_ite (fun c1 => ?_) (fun c1 => ?_))
  · refine (ev_aload rfl rfl).trans ?_
    refine (ev_getR rfl (by decide) am_K_0 (by decide) rfl am_R_0_2).trans ?_
    refine (ev_getR rfl (by decide) am_K_16 (by decide) rfl am_R_16_0).trans ?_
    refine (ev_iload rfl rfl).trans ?_
    refine (ev_aald rfl (by decide) (Or.inl am_K_17) (f := am_bd) (fun k hk => am_R17 hk)).trans (am_itn (fun g2 => ?_))
    refine (ev_astore (ls' := [.ref 0, .int x1, .int x2, .int x3, .ref (am_bd (x1.toNatClampNeg))]) rfl (Nat.le_of_ble_eq_true rfl) rfl).trans ?_
    refine (ev_aload rfl rfl).trans ?_
    refine (ev_aload rfl rfl).trans ?_
    refine (ev_getR rfl (by decide) am_K_0 (by decide) rfl am_R_0_2).trans ?_
    refine (ev_getR rfl (by decide) am_K_16 (by decide) rfl am_R_16_0).trans ?_
    refine (ev_iload rfl rfl).trans ?_
    refine (ev_aald rfl (by decide) (Or.inl am_K_17) (f := am_bd) (fun k hk => am_R17 hk)).trans (am_itn (fun g3 => ?_))
    refine (ev_aload rfl rfl).trans ?_
    refine (ev_iload rfl rfl).trans ?_
    exact ev_invv (as := [.int x3]) rfl (by have := am_bd_lt (by omega : (x1.toNatClampNeg) < 11); omega) (am_Kbd (by omega : (x1.toNatClampNeg) < 11)) rfl (by simp [Value.category])
  · refine (ev_const3 (v := (-1000000 : Int32)) rfl am_ci_m1000000).trans ?_
    exact ev_iret rfl
set_option maxRecDepth 10000 in
theorem sg_165_26 (X : am_X) (I : Nat → Nat → Int32) (J : Nat → Nat → Int64) (x1 : Int32) (x2 : Int32) (x3 : Int32) (b4 : Nat) (b5 : Nat) (b6 : Nat) (x7 : Int32) (hb4 : b4 < 11) (hb5 : b5 < 11) (hb6 : b6 < 11) : am_ev X amP_165 26 [.ref 0, .int x1, .int x2, .int x3, .ref (am_bd b4)] [.int x7, .ref (am_bd b6), .ref (am_bd b5)] (am_sh I J) = (am_do X 37 [.ref (am_bd b5), .ref (am_bd b6), .int x7] (am_sh I J)).bind (fun q => am_ev X amP_165 27 [.ref 0, .int x1, .int x2, .int x3, .ref (am_bd b4)] (q.1.toList ++ []) q.2) := by
  exact ev_invv (as := [.int x7, .ref (am_bd b6)]) rfl (by have := am_bd_lt hb5; omega) (am_Kbd hb5) rfl (by simp [Value.category])
set_option maxRecDepth 10000 in
theorem sg_165_27 (X : am_X) (I : Nat → Nat → Int32) (J : Nat → Nat → Int64) (x1 : Int32) (x2 : Int32) (x3 : Int32) (b4 : Nat) (x5 : Int32) (hb4 : b4 < 11) : am_ev X amP_165 27 [.ref 0, .int x1, .int x2, .int x3, .ref (am_bd b4)] [.int x5] (am_sh I J) = some (some (.int x5), am_sh I J) := by
  exact ev_iret rfl
-- 166 X11_sieve
set_option maxRecDepth 10000 in
theorem sg_166_e0 (X : am_X) (I : Nat → Nat → Int32) (J : Nat → Nat → Int64) (x1 : Int32) (x2 : Int32) : am_ev X amP_166 0 [.ref 0, .int x1, .int x2] [] (am_sh I J) = (am_do X 100 [.ref 16, .int x1, .int x2] (am_sh I J)).bind (fun q => am_ev X amP_166 5 [.ref 0, .int x1, .int x2] (q.1.toList ++ []) q.2) := by
  refine (ev_aload rfl rfl).trans ?_
  refine (ev_getR rfl (by decide) am_K_0 (by decide) rfl am_R_0_2).trans ?_
  refine (ev_iload rfl rfl).trans ?_
  refine (ev_iload rfl rfl).trans ?_
  exact ev_invv (as := [.int x2, .int x1]) rfl (by decide) am_K_16 rfl (by simp [Value.category])
theorem cl_166 (X : am_X) (I : Nat → Nat → Int32) (J : Nat → Nat → Int64) (x1 : Int32) (x2 : Int32) : am_do X 166 [.ref 0, .int x1, .int x2] (am_sh I J) = am_ev X amP_166 0 [.ref 0, .int x1, .int x2] [] (am_sh I J) := am_do_of rfl rfl rfl
set_option maxRecDepth 10000 in
theorem sg_166_5 (X : am_X) (I : Nat → Nat → Int32) (J : Nat → Nat → Int64) (x1 : Int32) (x2 : Int32) (x3 : Int32) : am_ev X amP_166 5 [.ref 0, .int x1, .int x2] [.int x3] (am_sh I J) = (if x3 = 0 then some (some (.int (-1 : Int32)), am_sh I J) else (am_do X 81 [.ref 79, .int x1, .int x2] (am_sh I J)).bind (fun q => am_ev X amP_166 11 [.ref 0, .int x1, .int x2] (q.1.toList ++ []) q.2)) := by
  refine (ev_if0 rfl).trans (am_ite (fun c1 => ?_) (fun c1 => ?_))
  · refine (ev_const0 (v := (-1 : Int32)) rfl am_ci_m1).trans ?_
    exact ev_iret rfl
  · refine (ev_aload rfl rfl).trans ?_
    refine (ev_getR rfl (by decide) am_K_0 (by decide) rfl am_R_0_3).trans ?_
    refine (ev_iload rfl rfl).trans ?_
    refine (ev_iload rfl rfl).trans ?_
    exact ev_invv (as := [.int x2, .int x1]) rfl (by decide) am_K_79 rfl (by simp [Value.category])
set_option maxRecDepth 10000 in
theorem sg_166_11 (X : am_X) (I : Nat → Nat → Int32) (J : Nat → Nat → Int64) (x1 : Int32) (x2 : Int32) (x3 : Int32) : am_ev X amP_166 11 [.ref 0, .int x1, .int x2] [.int x3] (am_sh I J) = some (some (.int x3), am_sh I J) := by
  refine (ev_goto rfl).trans ?_
  exact ev_iret rfl
-- 167 X11_window
set_option maxRecDepth 10000 in
theorem sg_167_e0 (X : am_X) (I : Nat → Nat → Int32) (J : Nat → Nat → Int64) (x1 : Int32) (x2 : Int32) (x3 : Int32) : am_ev X amP_167 0 [.ref 0, .int x1, .int x2, .int x3] [] (am_sh I J) = (am_do X 100 [.ref 16, .int x1, .int x2] (am_sh I J)).bind (fun q => am_ev X amP_167 5 [.ref 0, .int x1, .int x2, .int x3] (q.1.toList ++ []) q.2) := by
  refine (ev_aload rfl rfl).trans ?_
  refine (ev_getR rfl (by decide) am_K_0 (by decide) rfl am_R_0_2).trans ?_
  refine (ev_iload rfl rfl).trans ?_
  refine (ev_iload rfl rfl).trans ?_
  exact ev_invv (as := [.int x2, .int x1]) rfl (by decide) am_K_16 rfl (by simp [Value.category])
theorem cl_167 (X : am_X) (I : Nat → Nat → Int32) (J : Nat → Nat → Int64) (x1 : Int32) (x2 : Int32) (x3 : Int32) : am_do X 167 [.ref 0, .int x1, .int x2, .int x3] (am_sh I J) = am_ev X amP_167 0 [.ref 0, .int x1, .int x2, .int x3] [] (am_sh I J) := am_do_of rfl rfl rfl
set_option maxRecDepth 10000 in
theorem sg_167_5 (X : am_X) (I : Nat → Nat → Int32) (J : Nat → Nat → Int64) (x1 : Int32) (x2 : Int32) (x3 : Int32) (x4 : Int32) : am_ev X amP_167 5 [.ref 0, .int x1, .int x2, .int x3] [.int x4] (am_sh I J) = (if x4 = 0 then some (some (.int (-1 : Int32)), am_sh I J) else (am_do X 85 [.ref 79, .int x1, .int x2, .int x3] (am_sh I J)).bind (fun q => am_ev X amP_167 12 [.ref 0, .int x1, .int x2, .int x3] (q.1.toList ++ []) q.2)) := by
  refine (ev_if0 rfl).trans (am_ite (fun c1 => ?_) (fun c1 => ?_))
  · refine (ev_const0 (v := (-1 : Int32)) rfl am_ci_m1).trans ?_
    exact ev_iret rfl
  · refine (ev_aload rfl rfl).trans ?_
    refine (ev_getR rfl (by decide) am_K_0 (by decide) rfl am_R_0_3).trans ?_
    refine (ev_iload rfl rfl).trans ?_
    refine (ev_iload rfl rfl).trans ?_
    refine (ev_iload rfl rfl).trans ?_
    exact ev_invv (as := [.int x3, .int x2, .int x1]) rfl (by decide) am_K_79 rfl (by simp [Value.category])
set_option maxRecDepth 10000 in
theorem sg_167_12 (X : am_X) (I : Nat → Nat → Int32) (J : Nat → Nat → Int64) (x1 : Int32) (x2 : Int32) (x3 : Int32) (x4 : Int32) : am_ev X amP_167 12 [.ref 0, .int x1, .int x2, .int x3] [.int x4] (am_sh I J) = some (some (.int x4), am_sh I J) := by
  refine (ev_goto rfl).trans ?_
  exact ev_iret rfl
-- 168 X11_times
set_option maxRecDepth 10000 in
theorem sg_168_e0 (X : am_X) (I : Nat → Nat → Int32) (J : Nat → Nat → Int64) (x1 : Int32) (x2 : Int32) (x3 : Int32) : am_ev X amP_168 0 [.ref 0, .int x1, .int x2, .int x3] [] (am_sh I J) = (am_do X 100 [.ref 16, .int x1, .int x2] (am_sh I J)).bind (fun q => am_ev X amP_168 5 [.ref 0, .int x1, .int x2, .int x3] (q.1.toList ++ []) q.2) := by
  refine (ev_aload rfl rfl).trans ?_
  refine (ev_getR rfl (by decide) am_K_0 (by decide) rfl am_R_0_2).trans ?_
  refine (ev_iload rfl rfl).trans ?_
  refine (ev_iload rfl rfl).trans ?_
  exact ev_invv (as := [.int x2, .int x1]) rfl (by decide) am_K_16 rfl (by simp [Value.category])
theorem cl_168 (X : am_X) (I : Nat → Nat → Int32) (J : Nat → Nat → Int64) (x1 : Int32) (x2 : Int32) (x3 : Int32) : am_do X 168 [.ref 0, .int x1, .int x2, .int x3] (am_sh I J) = am_ev X amP_168 0 [.ref 0, .int x1, .int x2, .int x3] [] (am_sh I J) := am_do_of rfl rfl rfl
set_option maxRecDepth 10000 in
theorem sg_168_5 (X : am_X) (I : Nat → Nat → Int32) (J : Nat → Nat → Int64) (x1 : Int32) (x2 : Int32) (x3 : Int32) (x4 : Int32) : am_ev X amP_168 5 [.ref 0, .int x1, .int x2, .int x3] [.int x4] (am_sh I J) = (if x4 = 0 then some (some (.int (-1 : Int32)), am_sh I J) else (am_do X 86 [.ref 79, .int x1, .int x2, .int x3] (am_sh I J)).bind (fun q => am_ev X amP_168 12 [.ref 0, .int x1, .int x2, .int x3] (q.1.toList ++ []) q.2)) := by
  refine (ev_if0 rfl).trans (am_ite (fun c1 => ?_) (fun c1 => ?_))
  · refine (ev_const0 (v := (-1 : Int32)) rfl am_ci_m1).trans ?_
    exact ev_iret rfl
  · refine (ev_aload rfl rfl).trans ?_
    refine (ev_getR rfl (by decide) am_K_0 (by decide) rfl am_R_0_3).trans ?_
    refine (ev_iload rfl rfl).trans ?_
    refine (ev_iload rfl rfl).trans ?_
    refine (ev_iload rfl rfl).trans ?_
    exact ev_invv (as := [.int x3, .int x2, .int x1]) rfl (by decide) am_K_79 rfl (by simp [Value.category])
set_option maxRecDepth 10000 in
theorem sg_168_12 (X : am_X) (I : Nat → Nat → Int32) (J : Nat → Nat → Int64) (x1 : Int32) (x2 : Int32) (x3 : Int32) (x4 : Int32) : am_ev X amP_168 12 [.ref 0, .int x1, .int x2, .int x3] [.int x4] (am_sh I J) = some (some (.int x4), am_sh I J) := by
  refine (ev_goto rfl).trans ?_
  exact ev_iret rfl
-- 169 X11_closest
set_option maxRecDepth 10000 in
theorem sg_169_e0 (X : am_X) (I : Nat → Nat → Int32) (J : Nat → Nat → Int64) (x1 : Int32) (x2 : Int32) (x3 : Int32) : am_ev X amP_169 0 [.ref 0, .int x1, .int x2, .int x3] [] (am_sh I J) = (am_do X 100 [.ref 16, .int x1, .int x2] (am_sh I J)).bind (fun q => am_ev X amP_169 5 [.ref 0, .int x1, .int x2, .int x3] (q.1.toList ++ []) q.2) := by
  refine (ev_aload rfl rfl).trans ?_
  refine (ev_getR rfl (by decide) am_K_0 (by decide) rfl am_R_0_2).trans ?_
  refine (ev_iload rfl rfl).trans ?_
  refine (ev_iload rfl rfl).trans ?_
  exact ev_invv (as := [.int x2, .int x1]) rfl (by decide) am_K_16 rfl (by simp [Value.category])
theorem cl_169 (X : am_X) (I : Nat → Nat → Int32) (J : Nat → Nat → Int64) (x1 : Int32) (x2 : Int32) (x3 : Int32) : am_do X 169 [.ref 0, .int x1, .int x2, .int x3] (am_sh I J) = am_ev X amP_169 0 [.ref 0, .int x1, .int x2, .int x3] [] (am_sh I J) := am_do_of rfl rfl rfl
set_option maxRecDepth 10000 in
theorem sg_169_5 (X : am_X) (I : Nat → Nat → Int32) (J : Nat → Nat → Int64) (x1 : Int32) (x2 : Int32) (x3 : Int32) (x4 : Int32) : am_ev X amP_169 5 [.ref 0, .int x1, .int x2, .int x3] [.int x4] (am_sh I J) = (if ¬ x4 = 0 then (if x3 = (0 : Int32) then (am_do X 54 [.ref 83, .int x1, .int x2] (am_sh I J)).bind (fun q => am_ev X amP_169 15 [.ref 0, .int x1, .int x2, .int x3] (q.1.toList ++ []) q.2) else (if x3 = (1 : Int32) then (am_do X 52 [.ref 83, .int x1, .int x2] (am_sh I J)).bind (fun q => am_ev X amP_169 21 [.ref 0, .int x1, .int x2, .int x3] (q.1.toList ++ []) q.2) else (if x3 = (2 : Int32) then (if x1 < 0 ∨ 10 ≤ x1.toNatClampNeg then none else (if x2 < 0 ∨ 10 ≤ x2.toNatClampNeg then none else (am_do X 40 [.ref (am_bd (x1.toNatClampNeg)), .ref (am_bd (x2.toNatClampNeg))] (am_sh I J)).bind (fun q => am_ev X amP_169 33 [.ref 0, .int x1, .int x2, .int x3] (q.1.toList ++ []) q.2))) else (if x3 = (3 : Int32) then (am_do X 56 [.ref 83, .int x1, .int x2] (am_sh I J)).bind (fun q => am_ev X amP_169 39 [.ref 0, .int x1, .int x2, .int x3] (q.1.toList ++ []) q.2) else some (some (.int (-1 : Int32)), am_sh I J))))) else some (some (.int (-1 : Int32)), am_sh I J)) := by
  refine (ev_if1 rfl).trans (am_ite (fun c1 => ?_) (fun c1 => ?_))
  · refine (ev_iload rfl rfl).trans ?_
    refine (am_dec (x3 = (0 : Int32))).trans (am_ite (fun s2_0 => ?_) (fun s2_0 => ?_))
    · refine (ev_tswIn (k := 0) rfl (by rw [s2_0]; decide) rfl).trans ?_
      refine (ev_aload rfl rfl).trans ?_
      refine (ev_getR rfl (by decide) am_K_0 (by decide) rfl am_R_0_4).trans ?_
      refine (ev_iload rfl rfl).trans ?_
      refine (ev_iload rfl rfl).trans ?_
      exact ev_invv (as := [.int x2, .int x1]) rfl (by decide) am_K_83 rfl (by simp [Value.category])
    refine (am_dec (x3 = (1 : Int32))).trans (am_ite (fun s2_1 => ?_) (fun s2_1 => ?_))
    · refine (ev_tswIn (k := 1) rfl (by rw [s2_1]; decide) rfl).trans ?_
      refine (ev_aload rfl rfl).trans ?_
      refine (ev_getR rfl (by decide) am_K_0 (by decide) rfl am_R_0_4).trans ?_
      refine (ev_iload rfl rfl).trans ?_
      refine (ev_iload rfl rfl).trans ?_
      exact ev_invv (as := [.int x2, .int x1]) rfl (by decide) am_K_83 rfl (by simp [Value.category])
    refine (am_dec (x3 = (2 : Int32))).trans (am_ite (fun s2_2 => ?_) (fun s2_2 => ?_))
    · refine (ev_tswIn (k := 2) rfl (by rw [s2_2]; decide) rfl).trans ?_
      refine (ev_aload rfl rfl).trans ?_
      refine (ev_getR rfl (by decide) am_K_0 (by decide) rfl am_R_0_2).trans ?_
      refine (ev_getR rfl (by decide) am_K_16 (by decide) rfl am_R_16_0).trans ?_
      refine (ev_iload rfl rfl).trans ?_
      refine (ev_aald rfl (by decide) (Or.inl am_K_17) (f := am_bd) (fun k hk => am_R17 hk)).trans (am_itn (fun g3 => ?_))
      refine (ev_aload rfl rfl).trans ?_
      refine (ev_getR rfl (by decide) am_K_0 (by decide) rfl am_R_0_2).trans ?_
      refine (ev_getR rfl (by decide) am_K_16 (by decide) rfl am_R_16_0).trans ?_
      refine (ev_iload rfl rfl).trans ?_
      refine (ev_aald rfl (by decide) (Or.inl am_K_17) (f := am_bd) (fun k hk => am_R17 hk)).trans (am_itn (fun g4 => ?_))
      exact ev_invv (as := [.ref (am_bd (x2.toNatClampNeg))]) rfl (by have := am_bd_lt (by omega : (x1.toNatClampNeg) < 11); omega) (am_Kbd (by omega : (x1.toNatClampNeg) < 11)) rfl (by simp [Value.category])
    refine (am_dec (x3 = (3 : Int32))).trans (am_ite (fun s2_3 => ?_) (fun s2_3 => ?_))
    · refine (ev_tswIn (k := 3) rfl (by rw [s2_3]; decide) rfl).trans ?_
      refine (ev_aload rfl rfl).trans ?_
      refine (ev_getR rfl (by decide) am_K_0 (by decide) rfl am_R_0_4).trans ?_
      refine (ev_iload rfl rfl).trans ?_
      refine (ev_iload rfl rfl).trans ?_
      exact ev_invv (as := [.int x2, .int x1]) rfl (by decide) am_K_83 rfl (by simp [Value.category])
    refine (ev_tswOut rfl (by have q0 := am_neT s2_0 (n := 0) (by decide); have q1 := am_neT s2_1 (n := 1) (by decide); have q2 := am_neT s2_2 (n := 2) (by decide); have q3 := am_neT s2_3 (n := 3) (by decide); simp only [List.length_cons, List.length_nil]; omega)).trans ?_
    refine (ev_const0 (v := (-1 : Int32)) rfl am_ci_m1).trans ?_
    exact ev_iret rfl
  · refine (ev_const0 (v := (-1 : Int32)) rfl am_ci_m1).trans ?_
    exact ev_iret rfl
set_option maxRecDepth 10000 in
theorem sg_169_15 (X : am_X) (I : Nat → Nat → Int32) (J : Nat → Nat → Int64) (x1 : Int32) (x2 : Int32) (x3 : Int32) (x4 : Int32) : am_ev X amP_169 15 [.ref 0, .int x1, .int x2, .int x3] [.int x4] (am_sh I J) = some (some (.int x4), am_sh I J) := by
  exact ev_iret rfl
set_option maxRecDepth 10000 in
theorem sg_169_21 (X : am_X) (I : Nat → Nat → Int32) (J : Nat → Nat → Int64) (x1 : Int32) (x2 : Int32) (x3 : Int32) (x4 : Int32) : am_ev X amP_169 21 [.ref 0, .int x1, .int x2, .int x3] [.int x4] (am_sh I J) = some (some (.int x4), am_sh I J) := by
  exact ev_iret rfl
set_option maxRecDepth 10000 in
theorem sg_169_33 (X : am_X) (I : Nat → Nat → Int32) (J : Nat → Nat → Int64) (x1 : Int32) (x2 : Int32) (x3 : Int32) (x4 : Int32) : am_ev X amP_169 33 [.ref 0, .int x1, .int x2, .int x3] [.int x4] (am_sh I J) = some (some (.int x4), am_sh I J) := by
  exact ev_iret rfl
set_option maxRecDepth 10000 in
theorem sg_169_39 (X : am_X) (I : Nat → Nat → Int32) (J : Nat → Nat → Int64) (x1 : Int32) (x2 : Int32) (x3 : Int32) (x4 : Int32) : am_ev X amP_169 39 [.ref 0, .int x1, .int x2, .int x3] [.int x4] (am_sh I J) = (if x4 = 0 then some (some (.int (0 : Int32)), am_sh I J) else some (some (.int (1 : Int32)), am_sh I J)) := by
  refine (ev_if0 rfl).trans (am_ite (fun c1 => ?_) (fun c1 => ?_))
  · refine (ev_const0 (v := (0 : Int32)) rfl am_ci_0).trans ?_
    exact ev_iret rfl
  · refine (ev_const0 (v := (1 : Int32)) rfl am_ci_1).trans ?_
    refine (ev_goto rfl).trans ?_
    exact ev_iret rfl
-- 170 X11_box
set_option maxRecDepth 10000 in
theorem sg_170_e0 (X : am_X) (I : Nat → Nat → Int32) (J : Nat → Nat → Int64) (x1 : Int32) (x2 : Int32) (x3 : Int32) (x4 : Int32) : am_ev X amP_170 0 [.ref 0, .int x1, .int x2, .int x3, .int x4] [] (am_sh I J) = (am_do X 99 [.ref 16, .int x1] (am_sh I J)).bind (fun q => am_ev X amP_170 4 [.ref 0, .int x1, .int x2, .int x3, .int x4] (q.1.toList ++ []) q.2) := by
  refine (ev_aload rfl rfl).trans ?_
  refine (ev_getR rfl (by decide) am_K_0 (by decide) rfl am_R_0_2).trans ?_
  refine (ev_iload rfl rfl).trans ?_
  exact ev_invv (as := [.int x1]) rfl (by decide) am_K_16 rfl (by simp [Value.category])
theorem cl_170 (X : am_X) (I : Nat → Nat → Int32) (J : Nat → Nat → Int64) (x1 : Int32) (x2 : Int32) (x3 : Int32) (x4 : Int32) : am_do X 170 [.ref 0, .int x1, .int x2, .int x3, .int x4] (am_sh I J) = am_ev X amP_170 0 [.ref 0, .int x1, .int x2, .int x3, .int x4] [] (am_sh I J) := am_do_of rfl rfl rfl
set_option maxRecDepth 10000 in
theorem sg_170_4 (X : am_X) (I : Nat → Nat → Int32) (J : Nat → Nat → Int64) (x1 : Int32) (x2 : Int32) (x3 : Int32) (x4 : Int32) (x5 : Int32) : am_ev X amP_170 4 [.ref 0, .int x1, .int x2, .int x3, .int x4] [.int x5] (am_sh I J) = (if x5 = 0 then some (some (.int (-1000000 : Int32)), am_sh I J) else (am_do X 210 [.int x2, .int x3] (am_sh I J)).bind (fun q => am_ev X amP_170 8 [.ref 0, .int x1, .int x2, .int x3, .int x4] (q.1.toList ++ []) q.2)) := by
  refine (ev_if0 rfl).trans (am_ite (fun c1 => ?_) (fun c1 => ?_))
  · refine (ev_const3 (v := (-1000000 : Int32)) rfl am_ci_m1000000).trans ?_
    exact ev_iret rfl
  · refine (ev_iload rfl rfl).trans ?_
    refine (ev_iload rfl rfl).trans ?_
    exact ev_invs (as := [.int x3, .int x2]) rfl rfl (by simp [Value.category])
set_option maxRecDepth 10000 in
theorem sg_170_8 (X : am_X) (I : Nat → Nat → Int32) (J : Nat → Nat → Int64) (x1 : Int32) (x2 : Int32) (x3 : Int32) (x4 : Int32) (x5 : Int32) : am_ev X amP_170 8 [.ref 0, .int x1, .int x2, .int x3, .int x4] [.int x5] (am_sh I J) = (if x5 = 0 then some (some (.int (-1000000 : Int32)), am_sh I J) else (if x4 < 0 then some (some (.int (-1000000 : Int32)), am_sh I J) else (if x4 < (Int32.ofNat 6) then (if x1 < 0 ∨ 10 ≤ x1.toNatClampNeg then none else (am_do X 42 [.ref (am_bd (x1.toNatClampNeg)), .ref 136, .int x2, .int x3] (am_sh I J)).bind (fun q => am_ev X amP_170 28 [.ref 0, .int x1, .int x2, .int x3, .int x4] (q.1.toList ++ []) q.2)) else some (some (.int (-1000000 : Int32)), am_sh I J)))) := by
  refine (ev_if0 rfl).trans (am_ite (fun c1 => ?_) (fun c1 => ?_))
  · refine (ev_const3 (v := (-1000000 : Int32)) rfl am_ci_m1000000).trans ?_
    exact ev_iret rfl
  · refine (ev_iload rfl rfl).trans ?_
    refine (ev_if2 rfl).trans (am_ite (fun c2 => ?_) (fun c2 => ?_))
    · refine (ev_const3 (v := (-1000000 : Int32)) rfl am_ci_m1000000).trans ?_
      exact ev_iret rfl
    · refine (ev_iload rfl rfl).trans ?_
      refine (ev_aload rfl rfl).trans ?_
      refine (ev_getR rfl (by decide) am_K_0 (by decide) rfl am_R_0_10).trans ?_
      refine (ev_alen rfl (by decide) am_K_136 (by decide) (by decide)).trans ?_
      refine (ev_icmp2 rfl).trans (am_ite (fun c3 => ?_) (fun c3 => ?_))
      · refine (ev_aload rfl rfl).trans ?_
        refine (ev_getR rfl (by decide) am_K_0 (by decide) rfl am_R_0_2).trans ?_
        refine (ev_getR rfl (by decide) am_K_16 (by decide) rfl am_R_16_0).trans ?_
        refine (ev_iload rfl rfl).trans ?_
        refine (ev_aald rfl (by decide) (Or.inl am_K_17) (f := am_bd) (fun k hk => am_R17 hk)).trans (am_itn (fun g4 => ?_))
        refine (ev_aload rfl rfl).trans ?_
        refine (ev_getR rfl (by decide) am_K_0 (by decide) rfl am_R_0_10).trans ?_
        refine (ev_iload rfl rfl).trans ?_
        refine (ev_iload rfl rfl).trans ?_
        exact ev_invv (as := [.int x3, .int x2, .ref 136]) rfl (by have := am_bd_lt (by omega : (x1.toNatClampNeg) < 11); omega) (am_Kbd (by omega : (x1.toNatClampNeg) < 11)) rfl (by simp [Value.category])
      · refine (ev_const3 (v := (-1000000 : Int32)) rfl am_ci_m1000000).trans ?_
        exact ev_iret rfl
set_option maxRecDepth 10000 in
theorem sg_170_28 (X : am_X) (I : Nat → Nat → Int32) (J : Nat → Nat → Int64) (x1 : Int32) (x2 : Int32) (x3 : Int32) (x4 : Int32) : am_ev X amP_170 28 [.ref 0, .int x1, .int x2, .int x3, .int x4] [] (am_sh I J) = (if x4 < 0 ∨ 6 ≤ x4.toNatClampNeg then none else some (some (.int (I 136 x4.toNatClampNeg)), am_sh I J)) := by
  refine (ev_aload rfl rfl).trans ?_
  refine (ev_getR rfl (by decide) am_K_0 (by decide) rfl am_R_0_10).trans ?_
  refine (ev_iload rfl rfl).trans ?_
  refine (ev_iald rfl (by decide) am_K_136).trans (am_itn (fun g1 => ?_))
  exact ev_iret rfl
-- 171 X11_apart
set_option maxRecDepth 10000 in
theorem sg_171_e0 (X : am_X) (I : Nat → Nat → Int32) (J : Nat → Nat → Int64) (x1 : Int32) (x2 : Int32) (x3 : Int32) (x4 : Int32) : am_ev X amP_171 0 [.ref 0, .int x1, .int x2, .int x3, .int x4, .null, .null, .null, .null, .null] [] (am_sh I J) = (am_do X 100 [.ref 16, .int x1, .int x2] (am_sh I J)).bind (fun q => am_ev X amP_171 5 [.ref 0, .int x1, .int x2, .int x3, .int x4, .null, .null, .null, .null, .null] (q.1.toList ++ []) q.2) := by
  refine (ev_aload rfl rfl).trans ?_
  refine (ev_getR rfl (by decide) am_K_0 (by decide) rfl am_R_0_2).trans ?_
  refine (ev_iload rfl rfl).trans ?_
  refine (ev_iload rfl rfl).trans ?_
  exact ev_invv (as := [.int x2, .int x1]) rfl (by decide) am_K_16 rfl (by simp [Value.category])
theorem cl_171 (X : am_X) (I : Nat → Nat → Int32) (J : Nat → Nat → Int64) (x1 : Int32) (x2 : Int32) (x3 : Int32) (x4 : Int32) : am_do X 171 [.ref 0, .int x1, .int x2, .int x3, .int x4] (am_sh I J) = am_ev X amP_171 0 [.ref 0, .int x1, .int x2, .int x3, .int x4, .null, .null, .null, .null, .null] [] (am_sh I J) := am_do_of rfl rfl rfl
set_option maxRecDepth 10000 in
theorem sg_171_5 (X : am_X) (I : Nat → Nat → Int32) (J : Nat → Nat → Int64) (x1 : Int32) (x2 : Int32) (x3 : Int32) (x4 : Int32) (w5 : Value) (w6 : Value) (w7 : Value) (w8 : Value) (w9 : Value) (x10 : Int32) (hw5 : w5.category = 1) (hw6 : w6.category = 1) (hw7 : w7.category = 1) (hw8 : w8.category = 1) (hw9 : w9.category = 1) : am_ev X amP_171 5 [.ref 0, .int x1, .int x2, .int x3, .int x4, w5, w6, w7, w8, w9] [.int x10] (am_sh I J) = (if x10 = 0 then some (some (.int (-1 : Int32)), am_sh I J) else (am_do X 210 [.int x3, .int x4] (am_sh I J)).bind (fun q => am_ev X amP_171 9 [.ref 0, .int x1, .int x2, .int x3, .int x4, w5, w6, w7, w8, w9] (q.1.toList ++ []) q.2)) := by
  refine (ev_if0 rfl).trans (am_ite (fun c1 => ?_) (fun c1 => ?_))
  · refine (ev_const0 (v := (-1 : Int32)) rfl am_ci_m1).trans ?_
    exact ev_iret rfl
  · refine (ev_iload rfl rfl).trans ?_
    refine (ev_iload rfl rfl).trans ?_
    exact ev_invs (as := [.int x4, .int x3]) rfl rfl (by simp [Value.category])
set_option maxRecDepth 10000 in
theorem sg_171_9 (X : am_X) (I : Nat → Nat → Int32) (J : Nat → Nat → Int64) (x1 : Int32) (x2 : Int32) (x3 : Int32) (x4 : Int32) (w5 : Value) (w6 : Value) (w7 : Value) (w8 : Value) (w9 : Value) (x10 : Int32) (hw5 : w5.category = 1) (hw6 : w6.category = 1) (hw7 : w7.category = 1) (hw8 : w8.category = 1) (hw9 : w9.category = 1) : am_ev X amP_171 9 [.ref 0, .int x1, .int x2, .int x3, .int x4, w5, w6, w7, w8, w9] [.int x10] (am_sh I J) = (if ¬ x10 = 0 then (if x1 < 0 ∨ 10 ≤ x1.toNatClampNeg then none else (am_do X 42 [.ref (am_bd (x1.toNatClampNeg)), .ref 136, .int x3, .int x4] (am_sh I J)).bind (fun q => am_ev X amP_171 22 [.ref 0, .int x1, .int x2, .int x3, .int x4, w5, w6, w7, w8, w9] (q.1.toList ++ []) q.2)) else some (some (.int (-1 : Int32)), am_sh I J)) := by
  refine (ev_if1 rfl).trans (am_ite (fun c1 => ?_) (fun c1 => ?_))
  · refine (ev_aload rfl rfl).trans ?_
    refine (ev_getR rfl (by decide) am_K_0 (by decide) rfl am_R_0_2).trans ?_
    refine (ev_getR rfl (by decide) am_K_16 (by decide) rfl am_R_16_0).trans ?_
    refine (ev_iload rfl rfl).trans ?_
    refine (ev_aald rfl (by decide) (Or.inl am_K_17) (f := am_bd) (fun k hk => am_R17 hk)).trans (am_itn (fun g2 => ?_))
    refine (ev_aload rfl rfl).trans ?_
    refine (ev_getR rfl (by decide) am_K_0 (by decide) rfl am_R_0_10).trans ?_
    refine (ev_iload rfl rfl).trans ?_
    refine (ev_iload rfl rfl).trans ?_
    exact ev_invv (as := [.int x4, .int x3, .ref 136]) rfl (by have := am_bd_lt (by omega : (x1.toNatClampNeg) < 11); omega) (am_Kbd (by omega : (x1.toNatClampNeg) < 11)) rfl (by simp [Value.category])
  · refine (ev_const0 (v := (-1 : Int32)) rfl am_ci_m1).trans ?_
    exact ev_iret rfl
set_option maxRecDepth 10000 in
theorem sg_171_22 (X : am_X) (I : Nat → Nat → Int32) (J : Nat → Nat → Int64) (x1 : Int32) (x2 : Int32) (x3 : Int32) (x4 : Int32) (w5 : Value) (w6 : Value) (w7 : Value) (w8 : Value) (w9 : Value) (hw5 : w5.category = 1) (hw6 : w6.category = 1) (hw7 : w7.category = 1) (hw8 : w8.category = 1) (hw9 : w9.category = 1) : am_ev X amP_171 22 [.ref 0, .int x1, .int x2, .int x3, .int x4, w5, w6, w7, w8, w9] [] (am_sh I J) = (if x2 < 0 ∨ 10 ≤ x2.toNatClampNeg then none else (am_do X 42 [.ref (am_bd (x2.toNatClampNeg)), .ref 137, .int x3, .int x4] (am_sh I J)).bind (fun q => am_ev X amP_171 32 [.ref 0, .int x1, .int x2, .int x3, .int x4, w5, w6, w7, w8, w9] (q.1.toList ++ []) q.2)) := by
  refine (ev_aload rfl rfl).trans ?_
  refine (ev_getR rfl (by decide) am_K_0 (by decide) rfl am_R_0_2).trans ?_
  refine (ev_getR rfl (by decide) am_K_16 (by decide) rfl am_R_16_0).trans ?_
  refine (ev_iload rfl rfl).trans ?_
  refine (ev_aald rfl (by decide) (Or.inl am_K_17) (f := am_bd) (fun k hk => am_R17 hk)).trans (am_itn (fun g1 => ?_))
  refine (ev_aload rfl rfl).trans ?_
  refine (ev_getR rfl (by decide) am_K_0 (by decide) rfl am_R_0_11).trans ?_
  refine (ev_iload rfl rfl).trans ?_
  refine (ev_iload rfl rfl).trans ?_
  exact ev_invv (as := [.int x4, .int x3, .ref 137]) rfl (by have := am_bd_lt (by omega : (x2.toNatClampNeg) < 11); omega) (am_Kbd (by omega : (x2.toNatClampNeg) < 11)) rfl (by simp [Value.category])
set_option maxRecDepth 10000 in
theorem sg_171_32 (X : am_X) (I : Nat → Nat → Int32) (J : Nat → Nat → Int64) (x1 : Int32) (x2 : Int32) (x3 : Int32) (x4 : Int32) (w5 : Value) (w6 : Value) (w7 : Value) (w8 : Value) (w9 : Value) (hw5 : w5.category = 1) (hw6 : w6.category = 1) (hw7 : w7.category = 1) (hw8 : w8.category = 1) (hw9 : w9.category = 1) : am_ev X amP_171 32 [.ref 0, .int x1, .int x2, .int x3, .int x4, w5, w6, w7, w8, w9] [] (am_sh I J) = am_ev X amP_171 36 [.ref 0, .int x1, .int x2, .int x3, .int x4, .int (0 : Int32), .int (0 : Int32), w7, w8, w9] [] (am_sh I J) := by
  refine (ev_const0 (v := (0 : Int32)) rfl am_ci_0).trans ?_
  refine (ev_istore (ls' := [.ref 0, .int x1, .int x2, .int x3, .int x4, .int (0 : Int32), w6, w7, w8, w9]) rfl (Nat.le_of_ble_eq_true rfl) rfl).trans ?_
  refine (ev_const0 (v := (0 : Int32)) rfl am_ci_0).trans ?_
  refine (ev_istore (ls' := [.ref 0, .int x1, .int x2, .int x3, .int x4, .int (0 : Int32), .int (0 : Int32), w7, w8, w9]) rfl (Nat.le_of_ble_eq_true rfl) rfl).trans ?_
  rfl
set_option maxRecDepth 10000 in
theorem sg_171_36 (X : am_X) (I : Nat → Nat → Int32) (J : Nat → Nat → Int64) (x1 : Int32) (x2 : Int32) (x3 : Int32) (x4 : Int32) (x5 : Int32) (x6 : Int32) (w7 : Value) (w8 : Value) (w9 : Value) (hw7 : w7.category = 1) (hw8 : w8.category = 1) (hw9 : w9.category = 1) : am_ev X amP_171 36 [.ref 0, .int x1, .int x2, .int x3, .int x4, .int x5, .int x6, w7, w8, w9] [] (am_sh I J) = (if (3 : Int32) ≤ x6 then some (some (.int x5), am_sh I J) else (if x6 < 0 ∨ 6 ≤ x6.toNatClampNeg then none else (if (x6 + (3 : Int32)) < 0 ∨ 6 ≤ (x6 + (3 : Int32)).toNatClampNeg then none else (if x6 < 0 ∨ 6 ≤ x6.toNatClampNeg then none else (if (x6 + (3 : Int32)) < 0 ∨ 6 ≤ (x6 + (3 : Int32)).toNatClampNeg then none else (am_do X 352 [.int ((I 137 x6.toNatClampNeg) - (I 136 (x6 + (3 : Int32)).toNatClampNeg)), .int ((I 136 x6.toNatClampNeg) - (I 137 (x6 + (3 : Int32)).toNatClampNeg))] (am_sh I J)).bind (fun q => am_ev X amP_171 67 [.ref 0, .int x1, .int x2, .int x3, .int x4, .int x5, .int x6, .int ((I 137 x6.toNatClampNeg) - (I 136 (x6 + (3 : Int32)).toNatClampNeg)), .int ((I 136 x6.toNatClampNeg) - (I 137 (x6 + (3 : Int32)).toNatClampNeg)), w9] (q.1.toList ++ [.int (0 : Int32)]) q.2)))))) := by
  refine (ev_iload rfl rfl).trans ?_
  refine (ev_const0 (v := (3 : Int32)) rfl am_ci_3).trans ?_
  refine (ev_icmp3 rfl).trans (am_ite (fun c1 => ?_) (fun c1 => ?_))
  · refine (ev_iload rfl rfl).trans ?_
    exact ev_iret rfl
  · refine (ev_aload rfl rfl).trans ?_
    refine (ev_getR rfl (by decide) am_K_0 (by decide) rfl am_R_0_11).trans ?_
    refine (ev_iload rfl rfl).trans ?_
    refine (ev_iald rfl (by decide) am_K_137).trans (am_itn (fun g2 => ?_))
    refine (ev_aload rfl rfl).trans ?_
    refine (ev_getR rfl (by decide) am_K_0 (by decide) rfl am_R_0_10).trans ?_
    refine (ev_iload rfl rfl).trans ?_
    refine (ev_const0 (v := (3 : Int32)) rfl am_ci_3).trans ?_
    refine (ev_iadd rfl).trans ?_
    refine (ev_iald rfl (by decide) am_K_136).trans (am_itn (fun g3 => ?_))
    refine (ev_isub rfl).trans ?_
    refine (ev_istore (ls' := [.ref 0, .int x1, .int x2, .int x3, .int x4, .int x5, .int x6, .int ((I 137 x6.toNatClampNeg) - (I 136 (x6 + (3 : Int32)).toNatClampNeg)), w8, w9]) rfl (Nat.le_of_ble_eq_true rfl) rfl).trans ?_
    refine (ev_aload rfl rfl).trans ?_
    refine (ev_getR rfl (by decide) am_K_0 (by decide) rfl am_R_0_10).trans ?_
    refine (ev_iload rfl rfl).trans ?_
    refine (ev_iald rfl (by decide) am_K_136).trans (am_itn (fun g4 => ?_))
    refine (ev_aload rfl rfl).trans ?_
    refine (ev_getR rfl (by decide) am_K_0 (by decide) rfl am_R_0_11).trans ?_
    refine (ev_iload rfl rfl).trans ?_
    refine (ev_const0 (v := (3 : Int32)) rfl am_ci_3).trans ?_
    refine (ev_iadd rfl).trans ?_
    refine (ev_iald rfl (by decide) am_K_137).trans (am_itn (fun g5 => ?_))
    refine (ev_isub rfl).trans ?_
    refine (ev_istore (ls' := [.ref 0, .int x1, .int x2, .int x3, .int x4, .int x5, .int x6, .int ((I 137 x6.toNatClampNeg) - (I 136 (x6 + (3 : Int32)).toNatClampNeg)), .int ((I 136 x6.toNatClampNeg) - (I 137 (x6 + (3 : Int32)).toNatClampNeg)), w9]) rfl (Nat.le_of_ble_eq_true rfl) rfl).trans ?_
    refine (ev_const0 (v := (0 : Int32)) rfl am_ci_0).trans ?_
    refine (ev_iload rfl rfl).trans ?_
    refine (ev_iload rfl rfl).trans ?_
    exact ev_invs (as := [.int ((I 136 x6.toNatClampNeg) - (I 137 (x6 + (3 : Int32)).toNatClampNeg)), .int ((I 137 x6.toNatClampNeg) - (I 136 (x6 + (3 : Int32)).toNatClampNeg))]) rfl rfl (by simp [Value.category])
set_option maxRecDepth 10000 in
theorem sg_171_67 (X : am_X) (I : Nat → Nat → Int32) (J : Nat → Nat → Int64) (x1 : Int32) (x2 : Int32) (x3 : Int32) (x4 : Int32) (x5 : Int32) (x6 : Int32) (x7 : Int32) (x8 : Int32) (w9 : Value) (x10 : Int32) (x11 : Int32) (hw9 : w9.category = 1) : am_ev X amP_171 67 [.ref 0, .int x1, .int x2, .int x3, .int x4, .int x5, .int x6, .int x7, .int x8, w9] [.int x11, .int x10] (am_sh I J) = (am_do X 352 [.int x10, .int x11] (am_sh I J)).bind (fun q => am_ev X amP_171 68 [.ref 0, .int x1, .int x2, .int x3, .int x4, .int x5, .int x6, .int x7, .int x8, w9] (q.1.toList ++ []) q.2) := by
  exact ev_invs (as := [.int x11, .int x10]) rfl rfl (by simp [Value.category])
set_option maxRecDepth 10000 in
theorem sg_171_68 (X : am_X) (I : Nat → Nat → Int32) (J : Nat → Nat → Int64) (x1 : Int32) (x2 : Int32) (x3 : Int32) (x4 : Int32) (x5 : Int32) (x6 : Int32) (x7 : Int32) (x8 : Int32) (w9 : Value) (x10 : Int32) (hw9 : w9.category = 1) : am_ev X amP_171 68 [.ref 0, .int x1, .int x2, .int x3, .int x4, .int x5, .int x6, .int x7, .int x8, w9] [.int x10] (am_sh I J) = am_ev X amP_171 36 [.ref 0, .int x1, .int x2, .int x3, .int x4, .int (x5 + (x10 * x10)), .int (x6 + (1 : Int32)), .int x7, .int x8, .int x10] [] (am_sh I J) := by
  refine (ev_istore (ls' := [.ref 0, .int x1, .int x2, .int x3, .int x4, .int x5, .int x6, .int x7, .int x8, .int x10]) rfl (Nat.le_of_ble_eq_true rfl) rfl).trans ?_
  refine (ev_iload rfl rfl).trans ?_
  refine (ev_iload rfl rfl).trans ?_
  refine (ev_iload rfl rfl).trans ?_
  refine (ev_imul rfl).trans ?_
  refine (ev_iadd rfl).trans ?_
  refine (ev_istore (ls' := [.ref 0, .int x1, .int x2, .int x3, .int x4, .int (x5 + (x10 * x10)), .int x6, .int x7, .int x8, .int x10]) rfl (Nat.le_of_ble_eq_true rfl) rfl).trans ?_
  refine (ev_iincv (v := (1 : Int32)) (ls' := [.ref 0, .int x1, .int x2, .int x3, .int x4, .int (x5 + (x10 * x10)), .int (x6 + (1 : Int32)), .int x7, .int x8, .int x10]) rfl am_ci_1 rfl rfl).trans ?_
  refine (ev_goto rfl).trans ?_
  rfl
-- 172 X11_passes
set_option maxRecDepth 10000 in
theorem sg_172_e0 (X : am_X) (I : Nat → Nat → Int32) (J : Nat → Nat → Int64) (x1 : Int32) (x2 : Int32) : am_ev X amP_172 0 [.ref 0, .int x1, .int x2] [] (am_sh I J) = (am_do X 100 [.ref 16, .int x1, .int x2] (am_sh I J)).bind (fun q => am_ev X amP_172 5 [.ref 0, .int x1, .int x2] (q.1.toList ++ []) q.2) := by
  refine (ev_aload rfl rfl).trans ?_
  refine (ev_getR rfl (by decide) am_K_0 (by decide) rfl am_R_0_2).trans ?_
  refine (ev_iload rfl rfl).trans ?_
  refine (ev_iload rfl rfl).trans ?_
  exact ev_invv (as := [.int x2, .int x1]) rfl (by decide) am_K_16 rfl (by simp [Value.category])
theorem cl_172 (X : am_X) (I : Nat → Nat → Int32) (J : Nat → Nat → Int64) (x1 : Int32) (x2 : Int32) : am_do X 172 [.ref 0, .int x1, .int x2] (am_sh I J) = am_ev X amP_172 0 [.ref 0, .int x1, .int x2] [] (am_sh I J) := am_do_of rfl rfl rfl
set_option maxRecDepth 10000 in
theorem sg_172_5 (X : am_X) (I : Nat → Nat → Int32) (J : Nat → Nat → Int64) (x1 : Int32) (x2 : Int32) (x3 : Int32) : am_ev X amP_172 5 [.ref 0, .int x1, .int x2] [.int x3] (am_sh I J) = (if x3 = 0 then some (some (.int (-1 : Int32)), am_sh I J) else (am_do X 65 [.ref 83, .int x1, .int x2, .int (-1 : Int32)] (am_sh I J)).bind (fun q => am_ev X amP_172 12 [.ref 0, .int x1, .int x2] (q.1.toList ++ []) q.2)) := by
  refine (ev_if0 rfl).trans (am_ite (fun c1 => ?_) (fun c1 => ?_))
  · refine (ev_const0 (v := (-1 : Int32)) rfl am_ci_m1).trans ?_
    exact ev_iret rfl
  · refine (ev_aload rfl rfl).trans ?_
    refine (ev_getR rfl (by decide) am_K_0 (by decide) rfl am_R_0_4).trans ?_
    refine (ev_iload rfl rfl).trans ?_
    refine (ev_iload rfl rfl).trans ?_
    refine (ev_const0 (v := (-1 : Int32)) rfl am_ci_m1).trans ?_
    exact ev_invv (as := [.int (-1 : Int32), .int x2, .int x1]) rfl (by decide) am_K_83 rfl (by simp [Value.category])
set_option maxRecDepth 10000 in
theorem sg_172_12 (X : am_X) (I : Nat → Nat → Int32) (J : Nat → Nat → Int64) (x1 : Int32) (x2 : Int32) (x3 : Int32) : am_ev X amP_172 12 [.ref 0, .int x1, .int x2] [.int x3] (am_sh I J) = some (some (.int x3), am_sh I J) := by
  refine (ev_goto rfl).trans ?_
  exact ev_iret rfl
-- 173 X11_pass
set_option maxRecDepth 10000 in
theorem sg_173_e0 (X : am_X) (I : Nat → Nat → Int32) (J : Nat → Nat → Int64) (x1 : Int32) (x2 : Int32) (x3 : Int32) (x4 : Int32) : am_ev X amP_173 0 [.ref 0, .int x1, .int x2, .int x3, .int x4] [] (am_sh I J) = (am_do X 100 [.ref 16, .int x1, .int x2] (am_sh I J)).bind (fun q => am_ev X amP_173 5 [.ref 0, .int x1, .int x2, .int x3, .int x4] (q.1.toList ++ []) q.2) := by
  refine (ev_aload rfl rfl).trans ?_
  refine (ev_getR rfl (by decide) am_K_0 (by decide) rfl am_R_0_2).trans ?_
  refine (ev_iload rfl rfl).trans ?_
  refine (ev_iload rfl rfl).trans ?_
  exact ev_invv (as := [.int x2, .int x1]) rfl (by decide) am_K_16 rfl (by simp [Value.category])
theorem cl_173 (X : am_X) (I : Nat → Nat → Int32) (J : Nat → Nat → Int64) (x1 : Int32) (x2 : Int32) (x3 : Int32) (x4 : Int32) : am_do X 173 [.ref 0, .int x1, .int x2, .int x3, .int x4] (am_sh I J) = am_ev X amP_173 0 [.ref 0, .int x1, .int x2, .int x3, .int x4] [] (am_sh I J) := am_do_of rfl rfl rfl
set_option maxRecDepth 10000 in
theorem sg_173_5 (X : am_X) (I : Nat → Nat → Int32) (J : Nat → Nat → Int64) (x1 : Int32) (x2 : Int32) (x3 : Int32) (x4 : Int32) (x5 : Int32) : am_ev X amP_173 5 [.ref 0, .int x1, .int x2, .int x3, .int x4] [.int x5] (am_sh I J) = (if x5 = 0 then some (some (.int (-1 : Int32)), am_sh I J) else (if x3 < 0 then some (some (.int (-1 : Int32)), am_sh I J) else (if x4 < 0 then some (some (.int (-1 : Int32)), am_sh I J) else (if x4 < (Int32.ofNat 4) then (am_do X 65 [.ref 83, .int x1, .int x2, .int x3] (am_sh I J)).bind (fun q => am_ev X amP_173 25 [.ref 0, .int x1, .int x2, .int x3, .int x4] (q.1.toList ++ [.int x3]) q.2) else some (some (.int (-1 : Int32)), am_sh I J))))) := by
  refine (ev_if0 rfl).trans (am_ite (fun c1 => ?_) (fun c1 => ?_))
  · refine (ev_const0 (v := (-1 : Int32)) rfl am_ci_m1).trans ?_
    exact ev_iret rfl
  · refine (ev_iload rfl rfl).trans ?_
    refine (ev_if2 rfl).trans (am_ite (fun c2 => ?_) (fun c2 => ?_))
    · refine (ev_const0 (v := (-1 : Int32)) rfl am_ci_m1).trans ?_
      exact ev_iret rfl
    · refine (ev_iload rfl rfl).trans ?_
      refine (ev_if2 rfl).trans (am_ite (fun c3 => ?_) (fun c3 => ?_))
      · refine (ev_const0 (v := (-1 : Int32)) rfl am_ci_m1).trans ?_
        exact ev_iret rfl
      · refine (ev_iload rfl rfl).trans ?_
        refine (ev_aload rfl rfl).trans ?_
        refine (ev_getR rfl (by decide) am_K_0 (by decide) rfl am_R_0_4).trans ?_
        refine (ev_getR rfl (by decide) am_K_83 (by decide) rfl am_R_83_4).trans ?_
        refine (ev_alen rfl (by decide) am_K_87 (by decide) (by decide)).trans ?_
        refine (ev_icmp2 rfl).trans (am_ite (fun c4 => ?_) (fun c4 => ?_))
        · refine (ev_iload rfl rfl).trans ?_
          refine (ev_aload rfl rfl).trans ?_
          refine (ev_getR rfl (by decide) am_K_0 (by decide) rfl am_R_0_4).trans ?_
          refine (ev_iload rfl rfl).trans ?_
          refine (ev_iload rfl rfl).trans ?_
          refine (ev_iload rfl rfl).trans ?_
          exact ev_invv (as := [.int x3, .int x2, .int x1]) rfl (by decide) am_K_83 rfl (by simp [Value.category])
        · refine (ev_const0 (v := (-1 : Int32)) rfl am_ci_m1).trans ?_
          exact ev_iret rfl
set_option maxRecDepth 10000 in
theorem sg_173_25 (X : am_X) (I : Nat → Nat → Int32) (J : Nat → Nat → Int64) (x1 : Int32) (x2 : Int32) (x3 : Int32) (x4 : Int32) (x5 : Int32) (x6 : Int32) : am_ev X amP_173 25 [.ref 0, .int x1, .int x2, .int x3, .int x4] [.int x6, .int x5] (am_sh I J) = (if x6 ≤ x5 then some (some (.int (-1 : Int32)), am_sh I J) else (if x4 < 0 ∨ 4 ≤ x4.toNatClampNeg then none else some (some (.int (I 87 x4.toNatClampNeg)), am_sh I J))) := by
  refine (ev_icmp3 rfl).trans (am_ite (fun c1 => ?_) (fun c1 => ?_))
  · refine (ev_const0 (v := (-1 : Int32)) rfl am_ci_m1).trans ?_
    exact ev_iret rfl
  · refine (ev_aload rfl rfl).trans ?_
    refine (ev_getR rfl (by decide) am_K_0 (by decide) rfl am_R_0_4).trans ?_
    refine (ev_getR rfl (by decide) am_K_83 (by decide) rfl am_R_83_4).trans ?_
    refine (ev_iload rfl rfl).trans ?_
    refine (ev_iald rfl (by decide) am_K_87).trans (am_itn (fun g2 => ?_))
    refine (ev_goto rfl).trans ?_
    exact ev_iret rfl
-- 174 X11_list
set_option maxRecDepth 10000 in
theorem sg_174_e0 (X : am_X) (I : Nat → Nat → Int32) (J : Nat → Nat → Int64) (x1 : Int32) (x2 : Int32) : am_ev X amP_174 0 [.ref 0, .int x1, .int x2, .null, .null, .null] [] (am_sh I J) = (if x1 < 0 then some (some (.int (-1 : Int32)), am_sh I J) else (if x2 < 0 then some (some (.int (-1 : Int32)), am_sh I J) else (if x2 ≤ (3 : Int32) then (am_do X 62 [.ref 83, .int x1] (am_sh I J)).bind (fun q => am_ev X amP_174 13 [.ref 0, .int x1, .int x2, .null, .null, .null] (q.1.toList ++ []) q.2) else some (some (.int (-1 : Int32)), am_sh I J)))) := by
  refine (ev_iload rfl rfl).trans ?_
  refine (ev_if2 rfl).trans (am_ite (fun c1 => ?_) (fun c1 => ?_))
  · refine (ev_const0 (v := (-1 : Int32)) rfl am_ci_m1).trans ?_
    exact ev_iret rfl
  · refine (ev_iload rfl rfl).trans ?_
    refine (ev_if2 rfl).trans (am_ite (fun c2 => ?_) (fun c2 => ?_))
    · refine (ev_const0 (v := (-1 : Int32)) rfl am_ci_m1).trans ?_
      exact ev_iret rfl
    · refine (ev_iload rfl rfl).trans ?_
      refine (ev_const0 (v := (3 : Int32)) rfl am_ci_3).trans ?_
      refine (ev_icmp5 rfl).trans (am_ite (fun c3 => ?_) (fun c3 => ?_))
      · refine (ev_aload rfl rfl).trans ?_
        refine (ev_getR rfl (by decide) am_K_0 (by decide) rfl am_R_0_4).trans ?_
        refine (ev_iload rfl rfl).trans ?_
        exact ev_invv (as := [.int x1]) rfl (by decide) am_K_83 rfl (by simp [Value.category])
      · refine (ev_const0 (v := (-1 : Int32)) rfl am_ci_m1).trans ?_
        exact ev_iret rfl
theorem cl_174 (X : am_X) (I : Nat → Nat → Int32) (J : Nat → Nat → Int64) (x1 : Int32) (x2 : Int32) : am_do X 174 [.ref 0, .int x1, .int x2] (am_sh I J) = am_ev X amP_174 0 [.ref 0, .int x1, .int x2, .null, .null, .null] [] (am_sh I J) := am_do_of rfl rfl rfl
set_option maxRecDepth 10000 in
theorem sg_174_13 (X : am_X) (I : Nat → Nat → Int32) (J : Nat → Nat → Int64) (x1 : Int32) (x2 : Int32) (w3 : Value) (w4 : Value) (w5 : Value) (x6 : Int32) (hw3 : w3.category = 1) (hw4 : w4.category = 1) (hw5 : w5.category = 1) : am_ev X amP_174 13 [.ref 0, .int x1, .int x2, w3, w4, w5] [.int x6] (am_sh I J) = (if ¬ x6 = (-1 : Int32) then (if x2 = (0 : Int32) then some (some (.int (x6 / (10 : Int32))), am_sh I J) else (if x2 = (1 : Int32) then some (some (.int (x6 - x6 / (10 : Int32) * (10 : Int32))), am_sh I J) else (if x2 = (2 : Int32) then (am_do X 54 [.ref 83, .int (x6 / (10 : Int32)), .int (x6 - x6 / (10 : Int32) * (10 : Int32))] (am_sh I J)).bind (fun q => am_ev X amP_174 38 [.ref 0, .int x1, .int x2, .int x6, .int (x6 / (10 : Int32)), .int (x6 - x6 / (10 : Int32) * (10 : Int32))] (q.1.toList ++ []) q.2) else (am_do X 52 [.ref 83, .int (x6 / (10 : Int32)), .int (x6 - x6 / (10 : Int32) * (10 : Int32))] (am_sh I J)).bind (fun q => am_ev X amP_174 44 [.ref 0, .int x1, .int x2, .int x6, .int (x6 / (10 : Int32)), .int (x6 - x6 / (10 : Int32) * (10 : Int32))] (q.1.toList ++ []) q.2)))) else some (some (.int (-1 : Int32)), am_sh I J)) := by
  refine (ev_istore (ls' := [.ref 0, .int x1, .int x2, .int x6, w4, w5]) rfl (Nat.le_of_ble_eq_true rfl) rfl).trans ?_
  refine (ev_iload rfl rfl).trans ?_
  refine (ev_const0 (v := (-1 : Int32)) rfl am_ci_m1).trans ?_
  refine (ev_icmp1 rfl).trans (am_ite (fun c1 => ?_) (fun c1 => ?_))
  · refine (ev_iload rfl rfl).trans ?_
    refine (ev_const1 (v := (10 : Int32)) rfl am_ci_10).trans ?_
    refine (ev_idivN (by decide) rfl).trans ?_
    refine (ev_istore (ls' := [.ref 0, .int x1, .int x2, .int x6, .int (x6 / (10 : Int32)), w5]) rfl (Nat.le_of_ble_eq_true rfl) rfl).trans ?_
    refine (ev_iload rfl rfl).trans ?_
    refine (ev_const1 (v := (10 : Int32)) rfl am_ci_10).trans ?_
    refine (ev_iremN (by decide) rfl).trans ?_
    refine (ev_istore (ls' := [.ref 0, .int x1, .int x2, .int x6, .int (x6 / (10 : Int32)), .int (x6 - x6 / (10 : Int32) * (10 : Int32))]) rfl (Nat.le_of_ble_eq_true rfl) rfl).trans ?_
    refine (ev_iload rfl rfl).trans ?_
    refine (am_dec (x2 = (0 : Int32))).trans (am_ite (fun s2_0 => ?_) (fun s2_0 => ?_))
    · refine (ev_tswIn (k := 0) rfl (by rw [s2_0]; decide) rfl).trans ?_
      refine (ev_iload rfl rfl).trans ?_
      exact ev_iret rfl
    refine (am_dec (x2 = (1 : Int32))).trans (am_ite (fun s2_1 => ?_) (fun s2_1 => ?_))
    · refine (ev_tswIn (k := 1) rfl (by rw [s2_1]; decide) rfl).trans ?_
      refine (ev_iload rfl rfl).trans ?_
      exact ev_iret rfl
    refine (am_dec (x2 = (2 : Int32))).trans (am_ite (fun s2_2 => ?_) (fun s2_2 => ?_))
    · refine (ev_tswIn (k := 2) rfl (by rw [s2_2]; decide) rfl).trans ?_
      refine (ev_aload rfl rfl).trans ?_
      refine (ev_getR rfl (by decide) am_K_0 (by decide) rfl am_R_0_4).trans ?_
      refine (ev_iload rfl rfl).trans ?_
      refine (ev_iload rfl rfl).trans ?_
      exact ev_invv (as := [.int (x6 - x6 / (10 : Int32) * (10 : Int32)), .int (x6 / (10 : Int32))]) rfl (by decide) am_K_83 rfl (by simp [Value.category])
    refine (ev_tswOut rfl (by have q0 := am_neT s2_0 (n := 0) (by decide); have q1 := am_neT s2_1 (n := 1) (by decide); have q2 := am_neT s2_2 (n := 2) (by decide); simp only [List.length_cons, List.length_nil]; omega)).trans ?_
    refine (ev_aload rfl rfl).trans ?_
    refine (ev_getR rfl (by decide) am_K_0 (by decide) rfl am_R_0_4).trans ?_
    refine (ev_iload rfl rfl).trans ?_
    refine (ev_iload rfl rfl).trans ?_
    exact ev_invv (as := [.int (x6 - x6 / (10 : Int32) * (10 : Int32)), .int (x6 / (10 : Int32))]) rfl (by decide) am_K_83 rfl (by simp [Value.category])
  · refine (ev_const0 (v := (-1 : Int32)) rfl am_ci_m1).trans ?_
    exact ev_iret rfl
set_option maxRecDepth 10000 in
theorem sg_174_38 (X : am_X) (I : Nat → Nat → Int32) (J : Nat → Nat → Int64) (x1 : Int32) (x2 : Int32) (x3 : Int32) (x4 : Int32) (x5 : Int32) (x6 : Int32) : am_ev X amP_174 38 [.ref 0, .int x1, .int x2, .int x3, .int x4, .int x5] [.int x6] (am_sh I J) = some (some (.int x6), am_sh I J) := by
  exact ev_iret rfl
set_option maxRecDepth 10000 in
theorem sg_174_44 (X : am_X) (I : Nat → Nat → Int32) (J : Nat → Nat → Int64) (x1 : Int32) (x2 : Int32) (x3 : Int32) (x4 : Int32) (x5 : Int32) (x6 : Int32) : am_ev X amP_174 44 [.ref 0, .int x1, .int x2, .int x3, .int x4, .int x5] [.int x6] (am_sh I J) = some (some (.int x6), am_sh I J) := by
  exact ev_iret rfl
-- 175 X11_next
set_option maxRecDepth 10000 in
theorem sg_175_e0 (X : am_X) (I : Nat → Nat → Int32) (J : Nat → Nat → Int64) (x1 : Int32) : am_ev X amP_175 0 [.ref 0, .int x1] [] (am_sh I J) = (if x1 < 0 then some (some (.int (-1 : Int32)), am_sh I J) else (if x1 < (Int32.ofNat 4) then (am_do X 24 [.ref 89] (am_sh I J)).bind (fun q => am_ev X amP_175 13 [.ref 0, .int x1] (q.1.toList ++ []) q.2) else some (some (.int (-1 : Int32)), am_sh I J))) := by
  refine (ev_iload rfl rfl).trans ?_
  refine (ev_if2 rfl).trans (am_ite (fun c1 => ?_) (fun c1 => ?_))
  · refine (ev_const0 (v := (-1 : Int32)) rfl am_ci_m1).trans ?_
    exact ev_iret rfl
  · refine (ev_iload rfl rfl).trans ?_
    refine (ev_aload rfl rfl).trans ?_
    refine (ev_getR rfl (by decide) am_K_0 (by decide) rfl am_R_0_5).trans ?_
    refine (ev_getR rfl (by decide) am_K_89 (by decide) rfl am_R_89_7).trans ?_
    refine (ev_alen rfl (by decide) am_K_95 (by decide) (by decide)).trans ?_
    refine (ev_icmp2 rfl).trans (am_ite (fun c2 => ?_) (fun c2 => ?_))
    · refine (ev_aload rfl rfl).trans ?_
      refine (ev_getR rfl (by decide) am_K_0 (by decide) rfl am_R_0_5).trans ?_
      exact ev_invv (as := []) rfl (by decide) am_K_89 rfl (by simp [Value.category])
    · refine (ev_const0 (v := (-1 : Int32)) rfl am_ci_m1).trans ?_
      exact ev_iret rfl
theorem cl_175 (X : am_X) (I : Nat → Nat → Int32) (J : Nat → Nat → Int64) (x1 : Int32) : am_do X 175 [.ref 0, .int x1] (am_sh I J) = am_ev X amP_175 0 [.ref 0, .int x1] [] (am_sh I J) := am_do_of rfl rfl rfl
set_option maxRecDepth 10000 in
theorem sg_175_13 (X : am_X) (I : Nat → Nat → Int32) (J : Nat → Nat → Int64) (x1 : Int32) (x2 : Int32) : am_ev X amP_175 13 [.ref 0, .int x1] [.int x2] (am_sh I J) = (if x2 = 0 then some (some (.int (-1 : Int32)), am_sh I J) else (if x1 < 0 ∨ 4 ≤ x1.toNatClampNeg then none else some (some (.int (I 95 x1.toNatClampNeg)), am_sh I J))) := by
  refine (ev_if0 rfl).trans (am_ite (fun c1 => ?_) (fun c1 => ?_))
  · refine (ev_const0 (v := (-1 : Int32)) rfl am_ci_m1).trans ?_
    exact ev_iret rfl
  · refine (ev_aload rfl rfl).trans ?_
    refine (ev_getR rfl (by decide) am_K_0 (by decide) rfl am_R_0_5).trans ?_
    refine (ev_getR rfl (by decide) am_K_89 (by decide) rfl am_R_89_7).trans ?_
    refine (ev_iload rfl rfl).trans ?_
    refine (ev_iald rfl (by decide) am_K_95).trans (am_itn (fun g2 => ?_))
    refine (ev_goto rfl).trans ?_
    exact ev_iret rfl
-- 176 X11_threats
set_option maxRecDepth 10000 in
theorem sg_176_e0 (X : am_X) (I : Nat → Nat → Int32) (J : Nat → Nat → Int64) (x1 : Int32) : am_ev X amP_176 0 [.ref 0, .int x1] [] (am_sh I J) = (am_do X 99 [.ref 16, .int x1] (am_sh I J)).bind (fun q => am_ev X amP_176 4 [.ref 0, .int x1] (q.1.toList ++ []) q.2) := by
  refine (ev_aload rfl rfl).trans ?_
  refine (ev_getR rfl (by decide) am_K_0 (by decide) rfl am_R_0_2).trans ?_
  refine (ev_iload rfl rfl).trans ?_
  exact ev_invv (as := [.int x1]) rfl (by decide) am_K_16 rfl (by simp [Value.category])
theorem cl_176 (X : am_X) (I : Nat → Nat → Int32) (J : Nat → Nat → Int64) (x1 : Int32) : am_do X 176 [.ref 0, .int x1] (am_sh I J) = am_ev X amP_176 0 [.ref 0, .int x1] [] (am_sh I J) := am_do_of rfl rfl rfl
set_option maxRecDepth 10000 in
theorem sg_176_4 (X : am_X) (I : Nat → Nat → Int32) (J : Nat → Nat → Int64) (x1 : Int32) (x2 : Int32) : am_ev X amP_176 4 [.ref 0, .int x1] [.int x2] (am_sh I J) = (if x2 = 0 then some (some (.int (-1 : Int32)), am_sh I J) else (am_do X 58 [.ref 83, .int x1] (am_sh I J)).bind (fun q => am_ev X amP_176 9 [.ref 0, .int x1] (q.1.toList ++ []) q.2)) := by
  refine (ev_if0 rfl).trans (am_ite (fun c1 => ?_) (fun c1 => ?_))
  · refine (ev_const0 (v := (-1 : Int32)) rfl am_ci_m1).trans ?_
    exact ev_iret rfl
  · refine (ev_aload rfl rfl).trans ?_
    refine (ev_getR rfl (by decide) am_K_0 (by decide) rfl am_R_0_4).trans ?_
    refine (ev_iload rfl rfl).trans ?_
    exact ev_invv (as := [.int x1]) rfl (by decide) am_K_83 rfl (by simp [Value.category])
set_option maxRecDepth 10000 in
theorem sg_176_9 (X : am_X) (I : Nat → Nat → Int32) (J : Nat → Nat → Int64) (x1 : Int32) (x2 : Int32) : am_ev X amP_176 9 [.ref 0, .int x1] [.int x2] (am_sh I J) = (am_do X 348 [.int x2] (am_sh I J)).bind (fun q => am_ev X amP_176 10 [.ref 0, .int x1] (q.1.toList ++ []) q.2) := by
  exact ev_invs (as := [.int x2]) rfl rfl (by simp [Value.category])
set_option maxRecDepth 10000 in
theorem sg_176_10 (X : am_X) (I : Nat → Nat → Int32) (J : Nat → Nat → Int64) (x1 : Int32) (x2 : Int32) : am_ev X amP_176 10 [.ref 0, .int x1] [.int x2] (am_sh I J) = some (some (.int x2), am_sh I J) := by
  refine (ev_goto rfl).trans ?_
  exact ev_iret rfl
-- 177 X11_group
set_option maxRecDepth 10000 in
theorem sg_177_e0 (X : am_X) (I : Nat → Nat → Int32) (J : Nat → Nat → Int64) (x1 : Int32) : am_ev X amP_177 0 [.ref 0, .int x1] [] (am_sh I J) = (am_do X 101 [.ref 16, .int x1] (am_sh I J)).bind (fun q => am_ev X amP_177 4 [.ref 0, .int x1] (q.1.toList ++ []) q.2) := by
  refine (ev_aload rfl rfl).trans ?_
  refine (ev_getR rfl (by decide) am_K_0 (by decide) rfl am_R_0_2).trans ?_
  refine (ev_iload rfl rfl).trans ?_
  exact ev_invv (as := [.int x1]) rfl (by decide) am_K_16 rfl (by simp [Value.category])
theorem cl_177 (X : am_X) (I : Nat → Nat → Int32) (J : Nat → Nat → Int64) (x1 : Int32) : am_do X 177 [.ref 0, .int x1] (am_sh I J) = am_ev X amP_177 0 [.ref 0, .int x1] [] (am_sh I J) := am_do_of rfl rfl rfl
set_option maxRecDepth 10000 in
theorem sg_177_4 (X : am_X) (I : Nat → Nat → Int32) (J : Nat → Nat → Int64) (x1 : Int32) (x2 : Int32) : am_ev X amP_177 4 [.ref 0, .int x1] [.int x2] (am_sh I J) = (if x2 = 0 then some (some (.int (-1 : Int32)), am_sh I J) else (am_do X 60 [.ref 83, .int x1] (am_sh I J)).bind (fun q => am_ev X amP_177 9 [.ref 0, .int x1] (q.1.toList ++ []) q.2)) := by
  refine (ev_if0 rfl).trans (am_ite (fun c1 => ?_) (fun c1 => ?_))
  · refine (ev_const0 (v := (-1 : Int32)) rfl am_ci_m1).trans ?_
    exact ev_iret rfl
  · refine (ev_aload rfl rfl).trans ?_
    refine (ev_getR rfl (by decide) am_K_0 (by decide) rfl am_R_0_4).trans ?_
    refine (ev_iload rfl rfl).trans ?_
    exact ev_invv (as := [.int x1]) rfl (by decide) am_K_83 rfl (by simp [Value.category])
set_option maxRecDepth 10000 in
theorem sg_177_9 (X : am_X) (I : Nat → Nat → Int32) (J : Nat → Nat → Int64) (x1 : Int32) (x2 : Int32) : am_ev X amP_177 9 [.ref 0, .int x1] [.int x2] (am_sh I J) = some (some (.int x2), am_sh I J) := by
  refine (ev_goto rfl).trans ?_
  exact ev_iret rfl
-- 178 X11_chances
set_option maxRecDepth 10000 in
theorem sg_178_e0 (X : am_X) (I : Nat → Nat → Int32) (J : Nat → Nat → Int64) (x1 : Int32) (x2 : Int32) (x3 : Int32) (x4 : Int32) : am_ev X amP_178 0 [.ref 0, .int x1, .int x2, .int x3, .int x4] [] (am_sh I J) = (am_do X 100 [.ref 16, .int x1, .int x2] (am_sh I J)).bind (fun q => am_ev X amP_178 5 [.ref 0, .int x1, .int x2, .int x3, .int x4] (q.1.toList ++ []) q.2) := by
  refine (ev_aload rfl rfl).trans ?_
  refine (ev_getR rfl (by decide) am_K_0 (by decide) rfl am_R_0_2).trans ?_
  refine (ev_iload rfl rfl).trans ?_
  refine (ev_iload rfl rfl).trans ?_
  exact ev_invv (as := [.int x2, .int x1]) rfl (by decide) am_K_16 rfl (by simp [Value.category])
theorem cl_178 (X : am_X) (I : Nat → Nat → Int32) (J : Nat → Nat → Int64) (x1 : Int32) (x2 : Int32) (x3 : Int32) (x4 : Int32) : am_do X 178 [.ref 0, .int x1, .int x2, .int x3, .int x4] (am_sh I J) = am_ev X amP_178 0 [.ref 0, .int x1, .int x2, .int x3, .int x4] [] (am_sh I J) := am_do_of rfl rfl rfl
set_option maxRecDepth 10000 in
theorem sg_178_5 (X : am_X) (I : Nat → Nat → Int32) (J : Nat → Nat → Int64) (x1 : Int32) (x2 : Int32) (x3 : Int32) (x4 : Int32) (x5 : Int32) : am_ev X amP_178 5 [.ref 0, .int x1, .int x2, .int x3, .int x4] [.int x5] (am_sh I J) = (if x5 = 0 then some (some (.int (-1 : Int32)), am_sh I J) else (am_do X 211 [.int x3] (am_sh I J)).bind (fun q => am_ev X amP_178 8 [.ref 0, .int x1, .int x2, .int x3, .int x4] (q.1.toList ++ []) q.2)) := by
  refine (ev_if0 rfl).trans (am_ite (fun c1 => ?_) (fun c1 => ?_))
  · refine (ev_const0 (v := (-1 : Int32)) rfl am_ci_m1).trans ?_
    exact ev_iret rfl
  · refine (ev_iload rfl rfl).trans ?_
    exact ev_invs (as := [.int x3]) rfl rfl (by simp [Value.category])
set_option maxRecDepth 10000 in
theorem sg_178_8 (X : am_X) (I : Nat → Nat → Int32) (J : Nat → Nat → Int64) (x1 : Int32) (x2 : Int32) (x3 : Int32) (x4 : Int32) (x5 : Int32) : am_ev X amP_178 8 [.ref 0, .int x1, .int x2, .int x3, .int x4] [.int x5] (am_sh I J) = (if ¬ x5 = 0 then (if ¬ x4 = (1 : Int32) then (if ¬ x4 = 0 then some (some (.int (-1 : Int32)), am_sh I J) else (am_do X 67 [.ref 83, .int x1, .int x2, .int x3] (am_sh I J)).bind (fun q => am_ev X amP_178 34 [.ref 0, .int x1, .int x2, .int x3, .int x4] (q.1.toList ++ []) q.2)) else some (some (.int ((((2 : Int32) * x3) + (1 : Int32)) * (((2 : Int32) * x3) + (1 : Int32)))), am_sh I J)) else some (some (.int (-1 : Int32)), am_sh I J)) := by
  refine (ev_if1 rfl).trans (am_ite (fun c1 => ?_) (fun c1 => ?_))
  · refine (ev_iload rfl rfl).trans ?_
    refine (ev_const0 (v := (1 : Int32)) rfl am_ci_1).trans ?_
    refine (ev_icmp1 rfl).trans (am_ite (fun c2 => ?_) (fun c2 => ?_))
    · refine (ev_iload rfl rfl).trans ?_
      refine (ev_if1 rfl).trans (am_ite (fun c3 => ?_) (fun c3 => ?_))
      · refine (ev_const0 (v := (-1 : Int32)) rfl am_ci_m1).trans ?_
        exact ev_iret rfl
      · refine (ev_aload rfl rfl).trans ?_
        refine (ev_getR rfl (by decide) am_K_0 (by decide) rfl am_R_0_4).trans ?_
        refine (ev_iload rfl rfl).trans ?_
        refine (ev_iload rfl rfl).trans ?_
        refine (ev_iload rfl rfl).trans ?_
        exact ev_invv (as := [.int x3, .int x2, .int x1]) rfl (by decide) am_K_83 rfl (by simp [Value.category])
    · refine (ev_const0 (v := (2 : Int32)) rfl am_ci_2).trans ?_
      refine (ev_iload rfl rfl).trans ?_
      refine (ev_imul rfl).trans ?_
      refine (ev_const0 (v := (1 : Int32)) rfl am_ci_1).trans ?_
      refine (ev_iadd rfl).trans ?_
      refine (ev_const0 (v := (2 : Int32)) rfl am_ci_2).trans ?_
      refine (ev_iload rfl rfl).trans ?_
      refine (ev_imul rfl).trans ?_
      refine (ev_const0 (v := (1 : Int32)) rfl am_ci_1).trans ?_
      refine (ev_iadd rfl).trans ?_
      refine (ev_imul rfl).trans ?_
      exact ev_iret rfl
  · refine (ev_const0 (v := (-1 : Int32)) rfl am_ci_m1).trans ?_
    exact ev_iret rfl
set_option maxRecDepth 10000 in
theorem sg_178_34 (X : am_X) (I : Nat → Nat → Int32) (J : Nat → Nat → Int64) (x1 : Int32) (x2 : Int32) (x3 : Int32) (x4 : Int32) (x5 : Int32) : am_ev X amP_178 34 [.ref 0, .int x1, .int x2, .int x3, .int x4] [.int x5] (am_sh I J) = some (some (.int x5), am_sh I J) := by
  refine (ev_goto rfl).trans ?_
  exact ev_iret rfl
-- 179 X11_margin
set_option maxRecDepth 10000 in
theorem sg_179_e0 (X : am_X) (I : Nat → Nat → Int32) (J : Nat → Nat → Int64) (x1 : Int32) (x2 : Int32) : am_ev X amP_179 0 [.ref 0, .int x1, .int x2] [] (am_sh I J) = (am_do X 100 [.ref 16, .int x1, .int x2] (am_sh I J)).bind (fun q => am_ev X amP_179 5 [.ref 0, .int x1, .int x2] (q.1.toList ++ []) q.2) := by
  refine (ev_aload rfl rfl).trans ?_
  refine (ev_getR rfl (by decide) am_K_0 (by decide) rfl am_R_0_2).trans ?_
  refine (ev_iload rfl rfl).trans ?_
  refine (ev_iload rfl rfl).trans ?_
  exact ev_invv (as := [.int x2, .int x1]) rfl (by decide) am_K_16 rfl (by simp [Value.category])
theorem cl_179 (X : am_X) (I : Nat → Nat → Int32) (J : Nat → Nat → Int64) (x1 : Int32) (x2 : Int32) : am_do X 179 [.ref 0, .int x1, .int x2] (am_sh I J) = am_ev X amP_179 0 [.ref 0, .int x1, .int x2] [] (am_sh I J) := am_do_of rfl rfl rfl
set_option maxRecDepth 10000 in
theorem sg_179_5 (X : am_X) (I : Nat → Nat → Int32) (J : Nat → Nat → Int64) (x1 : Int32) (x2 : Int32) (x3 : Int32) : am_ev X amP_179 5 [.ref 0, .int x1, .int x2] [.int x3] (am_sh I J) = (if x3 = 0 then some (some (.int (-1 : Int32)), am_sh I J) else (am_do X 68 [.ref 83, .int x1, .int x2] (am_sh I J)).bind (fun q => am_ev X amP_179 11 [.ref 0, .int x1, .int x2] (q.1.toList ++ []) q.2)) := by
  refine (ev_if0 rfl).trans (am_ite (fun c1 => ?_) (fun c1 => ?_))
  · refine (ev_const0 (v := (-1 : Int32)) rfl am_ci_m1).trans ?_
    exact ev_iret rfl
  · refine (ev_aload rfl rfl).trans ?_
    refine (ev_getR rfl (by decide) am_K_0 (by decide) rfl am_R_0_4).trans ?_
    refine (ev_iload rfl rfl).trans ?_
    refine (ev_iload rfl rfl).trans ?_
    exact ev_invv (as := [.int x2, .int x1]) rfl (by decide) am_K_83 rfl (by simp [Value.category])
set_option maxRecDepth 10000 in
theorem sg_179_11 (X : am_X) (I : Nat → Nat → Int32) (J : Nat → Nat → Int64) (x1 : Int32) (x2 : Int32) (x3 : Int32) : am_ev X amP_179 11 [.ref 0, .int x1, .int x2] [.int x3] (am_sh I J) = some (some (.int x3), am_sh I J) := by
  refine (ev_goto rfl).trans ?_
  exact ev_iret rfl
-- 180 X11_watch
set_option maxRecDepth 10000 in
theorem sg_180_e0 (X : am_X) (I : Nat → Nat → Int32) (J : Nat → Nat → Int64) (x1 : Int32) (x2 : Int32) : am_ev X amP_180 0 [.ref 0, .int x1, .int x2] [] (am_sh I J) = (am_do X 211 [.int x1] (am_sh I J)).bind (fun q => am_ev X amP_180 2 [.ref 0, .int x1, .int x2] (q.1.toList ++ []) q.2) := by
  refine (ev_iload rfl rfl).trans ?_
  exact ev_invs (as := [.int x1]) rfl rfl (by simp [Value.category])
theorem cl_180 (X : am_X) (I : Nat → Nat → Int32) (J : Nat → Nat → Int64) (x1 : Int32) (x2 : Int32) : am_do X 180 [.ref 0, .int x1, .int x2] (am_sh I J) = am_ev X amP_180 0 [.ref 0, .int x1, .int x2] [] (am_sh I J) := am_do_of rfl rfl rfl
set_option maxRecDepth 10000 in
theorem sg_180_2 (X : am_X) (I : Nat → Nat → Int32) (J : Nat → Nat → Int64) (x1 : Int32) (x2 : Int32) (x3 : Int32) : am_ev X amP_180 2 [.ref 0, .int x1, .int x2] [.int x3] (am_sh I J) = (if x3 = 0 then some (some (.int (-1 : Int32)), am_sh I J) else (if x2 < 0 then some (some (.int (-1 : Int32)), am_sh I J) else (if x2 < (Int32.ofNat 3) then (am_do X 71 [.ref 83, .int x1] (am_sh I J)).bind (fun q => am_ev X amP_180 17 [.ref 0, .int x1, .int x2] (q.1.toList ++ []) q.2) else some (some (.int (-1 : Int32)), am_sh I J)))) := by
  refine (ev_if0 rfl).trans (am_ite (fun c1 => ?_) (fun c1 => ?_))
  · refine (ev_const0 (v := (-1 : Int32)) rfl am_ci_m1).trans ?_
    exact ev_iret rfl
  · refine (ev_iload rfl rfl).trans ?_
    refine (ev_if2 rfl).trans (am_ite (fun c2 => ?_) (fun c2 => ?_))
    · refine (ev_const0 (v := (-1 : Int32)) rfl am_ci_m1).trans ?_
      exact ev_iret rfl
    · refine (ev_iload rfl rfl).trans ?_
      refine (ev_aload rfl rfl).trans ?_
      refine (ev_getR rfl (by decide) am_K_0 (by decide) rfl am_R_0_4).trans ?_
      refine (ev_getR rfl (by decide) am_K_83 (by decide) rfl am_R_83_5).trans ?_
      refine (ev_alen rfl (by decide) am_K_88 (by decide) (by decide)).trans ?_
      refine (ev_icmp2 rfl).trans (am_ite (fun c3 => ?_) (fun c3 => ?_))
      · refine (ev_aload rfl rfl).trans ?_
        refine (ev_getR rfl (by decide) am_K_0 (by decide) rfl am_R_0_4).trans ?_
        refine (ev_iload rfl rfl).trans ?_
        exact ev_invv (as := [.int x1]) rfl (by decide) am_K_83 rfl (by simp [Value.category])
      · refine (ev_const0 (v := (-1 : Int32)) rfl am_ci_m1).trans ?_
        exact ev_iret rfl
set_option maxRecDepth 10000 in
theorem sg_180_17 (X : am_X) (I : Nat → Nat → Int32) (J : Nat → Nat → Int64) (x1 : Int32) (x2 : Int32) (x3 : Int32) : am_ev X amP_180 17 [.ref 0, .int x1, .int x2] [.int x3] (am_sh I J) = (if x3 = 0 then some (some (.int (-1 : Int32)), am_sh I J) else (if x2 < 0 ∨ 3 ≤ x2.toNatClampNeg then none else some (some (.int (I 88 x2.toNatClampNeg)), am_sh I J))) := by
  refine (ev_if0 rfl).trans (am_ite (fun c1 => ?_) (fun c1 => ?_))
  · refine (ev_const0 (v := (-1 : Int32)) rfl am_ci_m1).trans ?_
    exact ev_iret rfl
  · refine (ev_aload rfl rfl).trans ?_
    refine (ev_getR rfl (by decide) am_K_0 (by decide) rfl am_R_0_4).trans ?_
    refine (ev_getR rfl (by decide) am_K_83 (by decide) rfl am_R_83_5).trans ?_
    refine (ev_iload rfl rfl).trans ?_
    refine (ev_iald rfl (by decide) am_K_88).trans (am_itn (fun g2 => ?_))
    refine (ev_goto rfl).trans ?_
    exact ev_iret rfl
-- 181 X11_remains
set_option maxRecDepth 10000 in
theorem sg_181_e0 (X : am_X) (I : Nat → Nat → Int32) (J : Nat → Nat → Int64) (x1 : Int32) (x2 : Int32) : am_ev X amP_181 0 [.ref 0, .int x1, .int x2, .null] [] (am_sh I J) = (if x1 < 0 then some (some (.int (-1 : Int32)), am_sh I J) else (if x2 < 0 then some (some (.int (-1 : Int32)), am_sh I J) else (if x2 ≤ (1 : Int32) then (am_do X 89 [.ref 79, .int x1] (am_sh I J)).bind (fun q => am_ev X amP_181 13 [.ref 0, .int x1, .int x2, .null] (q.1.toList ++ []) q.2) else some (some (.int (-1 : Int32)), am_sh I J)))) := by
  refine (ev_iload rfl rfl).trans ?_
  refine (ev_if2 rfl).trans (am_ite (fun c1 => ?_) (fun c1 => ?_))
  · refine (ev_const0 (v := (-1 : Int32)) rfl am_ci_m1).trans ?_
    exact ev_iret rfl
  · refine (ev_iload rfl rfl).trans ?_
    refine (ev_if2 rfl).trans (am_ite (fun c2 => ?_) (fun c2 => ?_))
    · refine (ev_const0 (v := (-1 : Int32)) rfl am_ci_m1).trans ?_
      exact ev_iret rfl
    · refine (ev_iload rfl rfl).trans ?_
      refine (ev_const0 (v := (1 : Int32)) rfl am_ci_1).trans ?_
      refine (ev_icmp5 rfl).trans (am_ite (fun c3 => ?_) (fun c3 => ?_))
      · refine (ev_aload rfl rfl).trans ?_
        refine (ev_getR rfl (by decide) am_K_0 (by decide) rfl am_R_0_3).trans ?_
        refine (ev_iload rfl rfl).trans ?_
        exact ev_invv (as := [.int x1]) rfl (by decide) am_K_79 rfl (by simp [Value.category])
      · refine (ev_const0 (v := (-1 : Int32)) rfl am_ci_m1).trans ?_
        exact ev_iret rfl
theorem cl_181 (X : am_X) (I : Nat → Nat → Int32) (J : Nat → Nat → Int64) (x1 : Int32) (x2 : Int32) : am_do X 181 [.ref 0, .int x1, .int x2] (am_sh I J) = am_ev X amP_181 0 [.ref 0, .int x1, .int x2, .null] [] (am_sh I J) := am_do_of rfl rfl rfl
set_option maxRecDepth 10000 in
theorem sg_181_13 (X : am_X) (I : Nat → Nat → Int32) (J : Nat → Nat → Int64) (x1 : Int32) (x2 : Int32) (w3 : Value) (x4 : Int32) (hw3 : w3.category = 1) : am_ev X amP_181 13 [.ref 0, .int x1, .int x2, w3] [.int x4] (am_sh I J) = (if ¬ x4 = (-1 : Int32) then (if ¬ x2 = 0 then some (some (.int (x4 - x4 / (10 : Int32) * (10 : Int32))), am_sh I J) else some (some (.int (x4 / (10 : Int32))), am_sh I J)) else some (some (.int (-1 : Int32)), am_sh I J)) := by
  refine (ev_istore (ls' := [.ref 0, .int x1, .int x2, .int x4]) rfl (Nat.le_of_ble_eq_true rfl) rfl).trans ?_
  refine (ev_iload rfl rfl).trans ?_
  refine (ev_const0 (v := (-1 : Int32)) rfl am_ci_m1).trans ?_
  refine (ev_icmp1 rfl).trans (am_ite (fun c1 => ?_) (fun c1 => ?_))
  · refine (ev_iload rfl rfl).trans ?_
    refine (ev_if1 rfl).trans (am_ite (fun c2 => ?_) (fun c2 => ?_))
    · refine (ev_iload rfl rfl).trans ?_
      refine (ev_const1 (v := (10 : Int32)) rfl am_ci_10).trans ?_
      refine (ev_iremN (by decide) rfl).trans ?_
      exact ev_iret rfl
    · refine (ev_iload rfl rfl).trans ?_
      refine (ev_const1 (v := (10 : Int32)) rfl am_ci_10).trans ?_
      refine (ev_idivN (by decide) rfl).trans ?_
      refine (ev_goto rfl).trans ?_
      exact ev_iret rfl
  · refine (ev_const0 (v := (-1 : Int32)) rfl am_ci_m1).trans ?_
    exact ev_iret rfl
