-- 288 X12_list
set_option maxRecDepth 10000 in
theorem sg_288_e0 (X : am_X) (I : Nat → Nat → Int32) (J : Nat → Nat → Int64) (x1 : Int32) (x2 : Int32) : am_ev X amP_288 0 [.ref 139, .int x1, .int x2] [] (am_sh I J) = (am_do X 214 [.int x2, .int (0 : Int32), .int (3 : Int32)] (am_sh I J)).bind (fun q => am_ev X amP_288 4 [.ref 139, .int x1, .int x2] (q.1.toList ++ []) q.2) := by
  refine (ev_iload rfl rfl).trans ?_
  refine (ev_const0 (v := (0 : Int32)) rfl am_ci_0).trans ?_
  refine (ev_const0 (v := (3 : Int32)) rfl am_ci_3).trans ?_
  exact ev_invs (as := [.int (3 : Int32), .int (0 : Int32), .int x2]) rfl rfl (by simp [Value.category])
theorem cl_288 (X : am_X) (I : Nat → Nat → Int32) (J : Nat → Nat → Int64) (x1 : Int32) (x2 : Int32) : am_do X 288 [.ref 139, .int x1, .int x2] (am_sh I J) = am_ev X amP_288 0 [.ref 139, .int x1, .int x2] [] (am_sh I J) := am_do_of rfl rfl rfl
set_option maxRecDepth 10000 in
theorem sg_288_4 (X : am_X) (I : Nat → Nat → Int32) (J : Nat → Nat → Int64) (x1 : Int32) (x2 : Int32) (x3 : Int32) : am_ev X amP_288 4 [.ref 139, .int x1, .int x2] [.int x3] (am_sh I J) = (if x3 = 0 then some (some (.int (-1 : Int32)), am_sh I J) else (am_do X 287 [.ref 139] (am_sh I J)).bind (fun q => am_ev X amP_288 9 [.ref 139, .int x1, .int x2] (q.1.toList ++ [.int (0 : Int32), .int x1]) q.2)) := by
  refine (ev_if0 rfl).trans (am_ite (fun c1 => ?_) (fun c1 => ?_))
  · refine (ev_const0 (v := (-1 : Int32)) rfl am_ci_m1).trans ?_
    exact ev_iret rfl
  · refine (ev_iload rfl rfl).trans ?_
    refine (ev_const0 (v := (0 : Int32)) rfl am_ci_0).trans ?_
    refine (ev_aload rfl rfl).trans ?_
    exact ev_invv (as := []) rfl (by decide) am_K_139 rfl (by simp [Value.category])
set_option maxRecDepth 10000 in
theorem sg_288_9 (X : am_X) (I : Nat → Nat → Int32) (J : Nat → Nat → Int64) (x1 : Int32) (x2 : Int32) (x3 : Int32) (x4 : Int32) (x5 : Int32) : am_ev X amP_288 9 [.ref 139, .int x1, .int x2] [.int x5, .int x4, .int x3] (am_sh I J) = (am_do X 214 [.int x3, .int x4, .int (x5 - (1 : Int32))] (am_sh I J)).bind (fun q => am_ev X amP_288 12 [.ref 139, .int x1, .int x2] (q.1.toList ++ []) q.2) := by
  refine (ev_const0 (v := (1 : Int32)) rfl am_ci_1).trans ?_
  refine (ev_isub rfl).trans ?_
  exact ev_invs (as := [.int (x5 - (1 : Int32)), .int x4, .int x3]) rfl rfl (by simp [Value.category])
set_option maxRecDepth 10000 in
theorem sg_288_12 (X : am_X) (I : Nat → Nat → Int32) (J : Nat → Nat → Int64) (x1 : Int32) (x2 : Int32) (x3 : Int32) : am_ev X amP_288 12 [.ref 139, .int x1, .int x2] [.int x3] (am_sh I J) = (if ¬ x3 = 0 then (if ¬ x2 = 0 then (if ¬ x2 = (1 : Int32) then (if ¬ x2 = (2 : Int32) then (if x1 < 0 ∨ 45 ≤ x1.toNatClampNeg then none else some (some (.int (I 154 x1.toNatClampNeg)), am_sh I J)) else (if x1 < 0 ∨ 45 ≤ x1.toNatClampNeg then none else some (some (.int (I 153 x1.toNatClampNeg)), am_sh I J))) else (if x1 < 0 ∨ 45 ≤ x1.toNatClampNeg then none else some (some (.int (I 152 x1.toNatClampNeg)), am_sh I J))) else (if x1 < 0 ∨ 45 ≤ x1.toNatClampNeg then none else some (some (.int (I 151 x1.toNatClampNeg)), am_sh I J))) else some (some (.int (-1 : Int32)), am_sh I J)) := by
  refine (ev_if1 rfl).trans (am_ite (fun c1 => ?_) (fun c1 => ?_))
  · refine (ev_iload rfl rfl).trans ?_
    refine (ev_if1 rfl).trans (am_ite (fun c2 => ?_) (fun c2 => ?_))
    · refine (ev_iload rfl rfl).trans ?_
      refine (ev_const0 (v := (1 : Int32)) rfl am_ci_1).trans ?_
      refine (ev_icmp1 rfl).trans (am_ite (fun c3 => ?_) (fun c3 => ?_))
      · refine (ev_iload rfl rfl).trans ?_
        refine (ev_const0 (v := (2 : Int32)) rfl am_ci_2).trans ?_
        refine (ev_icmp1 rfl).trans (am_ite (fun c4 => ?_) (fun c4 => ?_))
        · refine (ev_aload rfl rfl).trans ?_
          refine (ev_getR rfl (by decide) am_K_139 (by decide) rfl am_R_139_29).trans ?_
          refine (ev_iload rfl rfl).trans ?_
          refine (ev_iald rfl (by decide) am_K_154).trans (am_itn (fun g5 => ?_))
          exact ev_iret rfl
        · refine (ev_aload rfl rfl).trans ?_
          refine (ev_getR rfl (by decide) am_K_139 (by decide) rfl am_R_139_28).trans ?_
          refine (ev_iload rfl rfl).trans ?_
          refine (ev_iald rfl (by decide) am_K_153).trans (am_itn (fun g5 => ?_))
          refine (ev_goto rfl).trans ?_
          exact ev_iret rfl
      · refine (ev_aload rfl rfl).trans ?_
        refine (ev_getR rfl (by decide) am_K_139 (by decide) rfl am_R_139_27).trans ?_
        refine (ev_iload rfl rfl).trans ?_
        refine (ev_iald rfl (by decide) am_K_152).trans (am_itn (fun g4 => ?_))
        refine (ev_goto rfl).trans ?_
        exact ev_iret rfl
    · refine (ev_aload rfl rfl).trans ?_
      refine (ev_getR rfl (by decide) am_K_139 (by decide) rfl am_R_139_26).trans ?_
      refine (ev_iload rfl rfl).trans ?_
      refine (ev_iald rfl (by decide) am_K_151).trans (am_itn (fun g3 => ?_))
      refine (ev_goto rfl).trans ?_
      exact ev_iret rfl
  · refine (ev_const0 (v := (-1 : Int32)) rfl am_ci_m1).trans ?_
    exact ev_iret rfl
-- 289 X12_next
set_option maxRecDepth 10000 in
theorem sg_289_e0 (X : am_X) (I : Nat → Nat → Int32) (J : Nat → Nat → Int64) (x1 : Int32) : am_ev X amP_289 0 [.ref 139, .int x1, .null, .null, .null] [] (am_sh I J) = (am_do X 214 [.int x1, .int (0 : Int32), .int (3 : Int32)] (am_sh I J)).bind (fun q => am_ev X amP_289 4 [.ref 139, .int x1, .null, .null, .null] (q.1.toList ++ []) q.2) := by
  refine (ev_iload rfl rfl).trans ?_
  refine (ev_const0 (v := (0 : Int32)) rfl am_ci_0).trans ?_
  refine (ev_const0 (v := (3 : Int32)) rfl am_ci_3).trans ?_
  exact ev_invs (as := [.int (3 : Int32), .int (0 : Int32), .int x1]) rfl rfl (by simp [Value.category])
theorem cl_289 (X : am_X) (I : Nat → Nat → Int32) (J : Nat → Nat → Int64) (x1 : Int32) : am_do X 289 [.ref 139, .int x1] (am_sh I J) = am_ev X amP_289 0 [.ref 139, .int x1, .null, .null, .null] [] (am_sh I J) := am_do_of rfl rfl rfl
set_option maxRecDepth 10000 in
theorem sg_289_4 (X : am_X) (I : Nat → Nat → Int32) (J : Nat → Nat → Int64) (x1 : Int32) (w2 : Value) (w3 : Value) (w4 : Value) (x5 : Int32) (hw2 : w2.category = 1) (hw3 : w3.category = 1) (hw4 : w4.category = 1) : am_ev X amP_289 4 [.ref 139, .int x1, w2, w3, w4] [.int x5] (am_sh I J) = (if ¬ x5 = 0 then am_ev X amP_289 12 [.ref 139, .int x1, .int (I 148 1), w3, w4] [] (am_sh I J) else some (some (.int (-1 : Int32)), am_sh I J)) := by
  refine (ev_if1 rfl).trans (am_ite (fun c1 => ?_) (fun c1 => ?_))
  · refine (ev_aload rfl rfl).trans ?_
    refine (ev_getR rfl (by decide) am_K_139 (by decide) rfl am_R_139_22).trans ?_
    refine (ev_const0 (v := (1 : Int32)) rfl am_ci_1).trans ?_
    refine (ev_ialdC (jn := 1) rfl (by decide) am_K_148 (by decide) (by decide)).trans ?_
    refine (ev_istore (ls' := [.ref 139, .int x1, .int (I 148 1), w3, w4]) rfl (Nat.le_of_ble_eq_true rfl) rfl).trans ?_
    rfl
  · refine (ev_const0 (v := (-1 : Int32)) rfl am_ci_m1).trans ?_
    exact ev_iret rfl
set_option maxRecDepth 10000 in
theorem sg_289_12 (X : am_X) (I : Nat → Nat → Int32) (J : Nat → Nat → Int64) (x1 : Int32) (x2 : Int32) (w3 : Value) (w4 : Value) (hw3 : w3.category = 1) (hw4 : w4.category = 1) : am_ev X amP_289 12 [.ref 139, .int x1, .int x2, w3, w4] [] (am_sh I J) = (if ((I 148 1) + (2400 : Int32)) < x2 then some (some (.int (-1 : Int32)), am_sh I J) else am_ev X amP_289 22 [.ref 139, .int x1, .int x2, .int (0 : Int32), w4] [] (am_sh I J)) := by
  refine (ev_iload rfl rfl).trans ?_
  refine (ev_aload rfl rfl).trans ?_
  refine (ev_getR rfl (by decide) am_K_139 (by decide) rfl am_R_139_22).trans ?_
  refine (ev_const0 (v := (1 : Int32)) rfl am_ci_1).trans ?_
  refine (ev_ialdC (jn := 1) rfl (by decide) am_K_148 (by decide) (by decide)).trans ?_
  refine (ev_const2 (v := (2400 : Int32)) rfl am_ci_2400).trans ?_
  refine (ev_iadd rfl).trans ?_
  refine (ev_icmp4 rfl).trans (am_ite (fun c1 => ?_) (fun c1 => ?_))
  · refine (ev_const0 (v := (-1 : Int32)) rfl am_ci_m1).trans ?_
    exact ev_iret rfl
  · refine (ev_const0 (v := (0 : Int32)) rfl am_ci_0).trans ?_
    refine (ev_istore (ls' := [.ref 139, .int x1, .int x2, .int (0 : Int32), w4]) rfl (Nat.le_of_ble_eq_true rfl) rfl).trans ?_
    rfl
set_option maxRecDepth 10000 in
theorem sg_289_22 (X : am_X) (I : Nat → Nat → Int32) (J : Nat → Nat → Int64) (x1 : Int32) (x2 : Int32) (x3 : Int32) (w4 : Value) (hw4 : w4.category = 1) : am_ev X amP_289 22 [.ref 139, .int x1, .int x2, .int x3, w4] [] (am_sh I J) = (if (I 139 1) ≤ x3 then am_ev X amP_289 12 [.ref 139, .int x1, .int (x2 + (1 : Int32)), .int x3, w4] [] (am_sh I J) else am_ev X amP_289 30 [.ref 139, .int x1, .int x2, .int x3, .int (x3 + (1 : Int32))] [] (am_sh I J)) := by
  refine (ev_iload rfl rfl).trans ?_
  refine (ev_aload rfl rfl).trans ?_
  refine (ev_getI rfl (by decide) am_K_139 (by decide) rfl).trans ?_
  refine (ev_icmp3 rfl).trans (am_ite (fun c1 => ?_) (fun c1 => ?_))
  · refine (ev_iincv (v := (1 : Int32)) (ls' := [.ref 139, .int x1, .int (x2 + (1 : Int32)), .int x3, w4]) rfl am_ci_1 rfl rfl).trans ?_
    refine (ev_goto rfl).trans ?_
    rfl
  · refine (ev_iload rfl rfl).trans ?_
    refine (ev_const0 (v := (1 : Int32)) rfl am_ci_1).trans ?_
    refine (ev_iadd rfl).trans ?_
    refine (ev_istore (ls' := [.ref 139, .int x1, .int x2, .int x3, .int (x3 + (1 : Int32))]) rfl (Nat.le_of_ble_eq_true rfl) rfl).trans ?_
    rfl
set_option maxRecDepth 10000 in
theorem sg_289_30 (X : am_X) (I : Nat → Nat → Int32) (J : Nat → Nat → Int64) (x1 : Int32) (x2 : Int32) (x3 : Int32) (x4 : Int32) : am_ev X amP_289 30 [.ref 139, .int x1, .int x2, .int x3, .int x4] [] (am_sh I J) = (if (I 139 1) ≤ x4 then am_ev X amP_289 22 [.ref 139, .int x1, .int x2, .int (x3 + (1 : Int32)), .int x4] [] (am_sh I J) else (am_do X 243 [.ref 139, .int x3] (am_sh I J)).bind (fun q => am_ev X amP_289 37 [.ref 139, .int x1, .int x2, .int x3, .int x4] (q.1.toList ++ []) q.2)) := by
  refine (ev_iload rfl rfl).trans ?_
  refine (ev_aload rfl rfl).trans ?_
  refine (ev_getI rfl (by decide) am_K_139 (by decide) rfl).trans ?_
  refine (ev_icmp3 rfl).trans (am_ite (fun c1 => ?_) (fun c1 => ?_))
  · refine (ev_iincv (v := (1 : Int32)) (ls' := [.ref 139, .int x1, .int x2, .int (x3 + (1 : Int32)), .int x4]) rfl am_ci_1 rfl rfl).trans ?_
    refine (ev_goto rfl).trans ?_
    rfl
  · refine (ev_aload rfl rfl).trans ?_
    refine (ev_iload rfl rfl).trans ?_
    exact ev_invv (as := [.int x3]) rfl (by decide) am_K_139 rfl (by simp [Value.category])
set_option maxRecDepth 10000 in
theorem sg_289_37 (X : am_X) (I : Nat → Nat → Int32) (J : Nat → Nat → Int64) (x1 : Int32) (x2 : Int32) (x3 : Int32) (x4 : Int32) (x5 : Int32) : am_ev X amP_289 37 [.ref 139, .int x1, .int x2, .int x3, .int x4] [.int x5] (am_sh I J) = (if x5 = 0 then am_ev X amP_289 30 [.ref 139, .int x1, .int x2, .int x3, .int (x4 + (1 : Int32))] [] (am_sh I J) else (am_do X 243 [.ref 139, .int x4] (am_sh I J)).bind (fun q => am_ev X amP_289 41 [.ref 139, .int x1, .int x2, .int x3, .int x4] (q.1.toList ++ []) q.2)) := by
  refine (ev_if0 rfl).trans (am_ite (fun c1 => ?_) (fun c1 => ?_))
  · refine (ev_iincv (v := (1 : Int32)) (ls' := [.ref 139, .int x1, .int x2, .int x3, .int (x4 + (1 : Int32))]) rfl am_ci_1 rfl rfl).trans ?_
    refine (ev_goto rfl).trans ?_
    rfl
  · refine (ev_aload rfl rfl).trans ?_
    refine (ev_iload rfl rfl).trans ?_
    exact ev_invv (as := [.int x4]) rfl (by decide) am_K_139 rfl (by simp [Value.category])
set_option maxRecDepth 10000 in
theorem sg_289_41 (X : am_X) (I : Nat → Nat → Int32) (J : Nat → Nat → Int64) (x1 : Int32) (x2 : Int32) (x3 : Int32) (x4 : Int32) (x5 : Int32) : am_ev X amP_289 41 [.ref 139, .int x1, .int x2, .int x3, .int x4] [.int x5] (am_sh I J) = (if x5 = 0 then am_ev X amP_289 30 [.ref 139, .int x1, .int x2, .int x3, .int (x4 + (1 : Int32))] [] (am_sh I J) else (am_do X 250 [.ref 139, .int x3, .int x4, .int x2] (am_sh I J)).bind (fun q => am_ev X amP_289 47 [.ref 139, .int x1, .int x2, .int x3, .int x4] (q.1.toList ++ []) q.2)) := by
  refine (ev_if0 rfl).trans (am_ite (fun c1 => ?_) (fun c1 => ?_))
  · refine (ev_iincv (v := (1 : Int32)) (ls' := [.ref 139, .int x1, .int x2, .int x3, .int (x4 + (1 : Int32))]) rfl am_ci_1 rfl rfl).trans ?_
    refine (ev_goto rfl).trans ?_
    rfl
  · refine (ev_aload rfl rfl).trans ?_
    refine (ev_iload rfl rfl).trans ?_
    refine (ev_iload rfl rfl).trans ?_
    refine (ev_iload rfl rfl).trans ?_
    exact ev_invv (as := [.int x2, .int x4, .int x3]) rfl (by decide) am_K_139 rfl (by simp [Value.category])
set_option maxRecDepth 10000 in
theorem sg_289_47 (X : am_X) (I : Nat → Nat → Int32) (J : Nat → Nat → Int64) (x1 : Int32) (x2 : Int32) (x3 : Int32) (x4 : Int32) (x5 : Int32) : am_ev X amP_289 47 [.ref 139, .int x1, .int x2, .int x3, .int x4] [.int x5] (am_sh I J) = (am_do X 252 [.ref 139] (am_sh I J)).bind (fun q => am_ev X amP_289 49 [.ref 139, .int x1, .int x2, .int x3, .int x4] (q.1.toList ++ [.int x5]) q.2) := by
  refine (ev_aload rfl rfl).trans ?_
  exact ev_invv (as := []) rfl (by decide) am_K_139 rfl (by simp [Value.category])
set_option maxRecDepth 10000 in
theorem sg_289_49 (X : am_X) (I : Nat → Nat → Int32) (J : Nat → Nat → Int64) (x1 : Int32) (x2 : Int32) (x3 : Int32) (x4 : Int32) (x5 : Int32) (x6 : Int32) : am_ev X amP_289 49 [.ref 139, .int x1, .int x2, .int x3, .int x4] [.int x6, .int x5] (am_sh I J) = (if x5 ≤ x6 then (if ¬ x1 = 0 then (if ¬ x1 = (1 : Int32) then (if ¬ x1 = (2 : Int32) then (am_do X 250 [.ref 139, .int x3, .int x4, .int x2] (am_sh I J)).bind (fun q => am_ev X amP_289 70 [.ref 139, .int x1, .int x2, .int x3, .int x4] (q.1.toList ++ []) q.2) else some (some (.int x4), am_sh I J)) else some (some (.int x3), am_sh I J)) else some (some (.int x2), am_sh I J)) else am_ev X amP_289 30 [.ref 139, .int x1, .int x2, .int x3, .int (x4 + (1 : Int32))] [] (am_sh I J)) := by
  refine (ev_icmp5 rfl).trans (am_ite (fun c1 => ?_) (fun c1 => ?_))
  · refine (ev_iload rfl rfl).trans ?_
    refine (ev_if1 rfl).trans (am_ite (fun c2 => ?_) (fun c2 => ?_))
    · refine (ev_iload rfl rfl).trans ?_
      refine (ev_const0 (v := (1 : Int32)) rfl am_ci_1).trans ?_
      refine (ev_icmp1 rfl).trans (am_ite (fun c3 => ?_) (fun c3 => ?_))
      · refine (ev_iload rfl rfl).trans ?_
        refine (ev_const0 (v := (2 : Int32)) rfl am_ci_2).trans ?_
        refine (ev_icmp1 rfl).trans (am_ite (fun c4 => ?_) (fun c4 => ?_))
        · refine (ev_aload rfl rfl).trans ?_
          refine (ev_iload rfl rfl).trans ?_
          refine (ev_iload rfl rfl).trans ?_
          refine (ev_iload rfl rfl).trans ?_
          exact ev_invv (as := [.int x2, .int x4, .int x3]) rfl (by decide) am_K_139 rfl (by simp [Value.category])
        · refine (ev_iload rfl rfl).trans ?_
          refine (ev_goto rfl).trans ?_
          exact ev_iret rfl
      · refine (ev_iload rfl rfl).trans ?_
        refine (ev_goto rfl).trans ?_
        exact ev_iret rfl
    · refine (ev_iload rfl rfl).trans ?_
      refine (ev_goto rfl).trans ?_
      exact ev_iret rfl
  · refine (ev_goto rfl).trans ?_
    refine (ev_iincv (v := (1 : Int32)) (ls' := [.ref 139, .int x1, .int x2, .int x3, .int (x4 + (1 : Int32))]) rfl am_ci_1 rfl rfl).trans ?_
    refine (ev_goto rfl).trans ?_
    rfl
set_option maxRecDepth 10000 in
theorem sg_289_70 (X : am_X) (I : Nat → Nat → Int32) (J : Nat → Nat → Int64) (x1 : Int32) (x2 : Int32) (x3 : Int32) (x4 : Int32) (x5 : Int32) : am_ev X amP_289 70 [.ref 139, .int x1, .int x2, .int x3, .int x4] [.int x5] (am_sh I J) = some (some (.int x5), am_sh I J) := by
  exact ev_iret rfl
-- 290 X12_threatsOf
set_option maxRecDepth 10000 in
theorem sg_290_e0 (X : am_X) (I : Nat → Nat → Int32) (J : Nat → Nat → Int64) (x1 : Int32) : am_ev X amP_290 0 [.ref 139, .int x1, .null, .null] [] (am_sh I J) = am_ev X amP_290 4 [.ref 139, .int x1, .int (0 : Int32), .int (0 : Int32)] [] (am_sh I J) := by
  refine (ev_const0 (v := (0 : Int32)) rfl am_ci_0).trans ?_
  refine (ev_istore (ls' := [.ref 139, .int x1, .int (0 : Int32), .null]) rfl (Nat.le_of_ble_eq_true rfl) rfl).trans ?_
  refine (ev_const0 (v := (0 : Int32)) rfl am_ci_0).trans ?_
  refine (ev_istore (ls' := [.ref 139, .int x1, .int (0 : Int32), .int (0 : Int32)]) rfl (Nat.le_of_ble_eq_true rfl) rfl).trans ?_
  rfl
theorem cl_290 (X : am_X) (I : Nat → Nat → Int32) (J : Nat → Nat → Int64) (x1 : Int32) : am_do X 290 [.ref 139, .int x1] (am_sh I J) = am_ev X amP_290 0 [.ref 139, .int x1, .null, .null] [] (am_sh I J) := am_do_of rfl rfl rfl
set_option maxRecDepth 10000 in
theorem sg_290_4 (X : am_X) (I : Nat → Nat → Int32) (J : Nat → Nat → Int64) (x1 : Int32) (x2 : Int32) (x3 : Int32) : am_ev X amP_290 4 [.ref 139, .int x1, .int x2, .int x3] [] (am_sh I J) = (if (I 139 1) ≤ x3 then some (some (.int x2), am_sh I J) else (if x3 = x1 then am_ev X amP_290 4 [.ref 139, .int x1, .int (x2 + (0 : Int32)), .int (x3 + (1 : Int32))] [] (am_sh I J) else (am_do X 243 [.ref 139, .int x3] (am_sh I J)).bind (fun q => am_ev X amP_290 15 [.ref 139, .int x1, .int x2, .int x3] (q.1.toList ++ [.int x2]) q.2))) := by
  refine (ev_iload rfl rfl).trans ?_
  refine (ev_aload rfl rfl).trans ?_
  refine (ev_getI rfl (by decide) am_K_139 (by decide) rfl).trans ?_
  refine (ev_icmp3 rfl).trans (am_ite (fun c1 => ?_) (fun c1 => ?_))
  · refine (ev_iload rfl rfl).trans ?_
    exact ev_iret rfl
  · refine (ev_iload rfl rfl).trans ?_
    refine (ev_iload rfl rfl).trans ?_
    refine (ev_iload rfl rfl).trans ?_
    refine (ev_icmp0 rfl).trans (am_ite (fun c2 => ?_) (fun c2 => ?_))
    · refine (ev_const0 (v := (0 : Int32)) rfl am_ci_0).trans ?_
      refine (ev_iadd rfl).trans ?_
      refine (ev_istore (ls' := [.ref 139, .int x1, .int (x2 + (0 : Int32)), .int x3]) rfl (Nat.le_of_ble_eq_true rfl) rfl).trans ?_
      refine (ev_iincv (v := (1 : Int32)) (ls' := [.ref 139, .int x1, .int (x2 + (0 : Int32)), .int (x3 + (1 : Int32))]) rfl am_ci_1 rfl rfl).trans ?_
      refine (ev_goto rfl).trans ?_
      rfl
    · refine (ev_aload rfl rfl).trans ?_
      refine (ev_iload rfl rfl).trans ?_
      exact ev_invv (as := [.int x3]) rfl (by decide) am_K_139 rfl (by simp [Value.category])
set_option maxRecDepth 10000 in
theorem sg_290_15 (X : am_X) (I : Nat → Nat → Int32) (J : Nat → Nat → Int64) (x1 : Int32) (x2 : Int32) (x3 : Int32) (x4 : Int32) (x5 : Int32) : am_ev X amP_290 15 [.ref 139, .int x1, .int x2, .int x3] [.int x5, .int x4] (am_sh I J) = (if x5 = 0 then am_ev X amP_290 4 [.ref 139, .int x1, .int (x4 + (0 : Int32)), .int (x3 + (1 : Int32))] [] (am_sh I J) else (am_do X 252 [.ref 139] (am_sh I J)).bind (fun q => am_ev X amP_290 21 [.ref 139, .int x1, .int x2, .int x3] (q.1.toList ++ [.int x3, .int x1, .ref 139, .int x4]) q.2)) := by
  refine (ev_if0 rfl).trans (am_ite (fun c1 => ?_) (fun c1 => ?_))
  · refine (ev_const0 (v := (0 : Int32)) rfl am_ci_0).trans ?_
    refine (ev_iadd rfl).trans ?_
    refine (ev_istore (ls' := [.ref 139, .int x1, .int (x4 + (0 : Int32)), .int x3]) rfl (Nat.le_of_ble_eq_true rfl) rfl).trans ?_
    refine (ev_iincv (v := (1 : Int32)) (ls' := [.ref 139, .int x1, .int (x4 + (0 : Int32)), .int (x3 + (1 : Int32))]) rfl am_ci_1 rfl rfl).trans ?_
    refine (ev_goto rfl).trans ?_
    rfl
  · refine (ev_aload rfl rfl).trans ?_
    refine (ev_iload rfl rfl).trans ?_
    refine (ev_iload rfl rfl).trans ?_
    refine (ev_aload rfl rfl).trans ?_
    exact ev_invv (as := []) rfl (by decide) am_K_139 rfl (by simp [Value.category])
set_option maxRecDepth 10000 in
theorem sg_290_21 (X : am_X) (I : Nat → Nat → Int32) (J : Nat → Nat → Int64) (x1 : Int32) (x2 : Int32) (x3 : Int32) (x4 : Int32) (x5 : Int32) (x6 : Int32) (x7 : Int32) : am_ev X amP_290 21 [.ref 139, .int x1, .int x2, .int x3] [.int x7, .int x6, .int x5, .ref 139, .int x4] (am_sh I J) = (am_do X 253 [.ref 139, .int x5, .int x6, .int x7] (am_sh I J)).bind (fun q => am_ev X amP_290 22 [.ref 139, .int x1, .int x2, .int x3] (q.1.toList ++ [.int x4]) q.2) := by
  exact ev_invv (as := [.int x7, .int x6, .int x5]) rfl (by decide) am_K_139 rfl (by simp [Value.category])
set_option maxRecDepth 10000 in
theorem sg_290_22 (X : am_X) (I : Nat → Nat → Int32) (J : Nat → Nat → Int64) (x1 : Int32) (x2 : Int32) (x3 : Int32) (x4 : Int32) (x5 : Int32) : am_ev X amP_290 22 [.ref 139, .int x1, .int x2, .int x3] [.int x5, .int x4] (am_sh I J) = (if x5 = 0 then am_ev X amP_290 4 [.ref 139, .int x1, .int (x4 + (0 : Int32)), .int (x3 + (1 : Int32))] [] (am_sh I J) else am_ev X amP_290 4 [.ref 139, .int x1, .int (x4 + (1 : Int32)), .int (x3 + (1 : Int32))] [] (am_sh I J)) := by
  refine (ev_if0 rfl).trans (am_ite (fun c1 => ?_) (fun c1 => ?_))
  · refine (ev_const0 (v := (0 : Int32)) rfl am_ci_0).trans ?_
    refine (ev_iadd rfl).trans ?_
    refine (ev_istore (ls' := [.ref 139, .int x1, .int (x4 + (0 : Int32)), .int x3]) rfl (Nat.le_of_ble_eq_true rfl) rfl).trans ?_
    refine (ev_iincv (v := (1 : Int32)) (ls' := [.ref 139, .int x1, .int (x4 + (0 : Int32)), .int (x3 + (1 : Int32))]) rfl am_ci_1 rfl rfl).trans ?_
    refine (ev_goto rfl).trans ?_
    rfl
  · refine (ev_const0 (v := (1 : Int32)) rfl am_ci_1).trans ?_
    refine (ev_goto rfl).trans ?_
    refine (ev_iadd rfl).trans ?_
    refine (ev_istore (ls' := [.ref 139, .int x1, .int (x4 + (1 : Int32)), .int x3]) rfl (Nat.le_of_ble_eq_true rfl) rfl).trans ?_
    refine (ev_iincv (v := (1 : Int32)) (ls' := [.ref 139, .int x1, .int (x4 + (1 : Int32)), .int (x3 + (1 : Int32))]) rfl am_ci_1 rfl rfl).trans ?_
    refine (ev_goto rfl).trans ?_
    rfl
-- 291 X12_threats
set_option maxRecDepth 10000 in
theorem sg_291_e0 (X : am_X) (I : Nat → Nat → Int32) (J : Nat → Nat → Int64) (x1 : Int32) : am_ev X amP_291 0 [.ref 139, .int x1] [] (am_sh I J) = (am_do X 256 [.ref 139, .int x1] (am_sh I J)).bind (fun q => am_ev X amP_291 3 [.ref 139, .int x1] (q.1.toList ++ []) q.2) := by
  refine (ev_aload rfl rfl).trans ?_
  refine (ev_iload rfl rfl).trans ?_
  exact ev_invv (as := [.int x1]) rfl (by decide) am_K_139 rfl (by simp [Value.category])
theorem cl_291 (X : am_X) (I : Nat → Nat → Int32) (J : Nat → Nat → Int64) (x1 : Int32) : am_do X 291 [.ref 139, .int x1] (am_sh I J) = am_ev X amP_291 0 [.ref 139, .int x1] [] (am_sh I J) := am_do_of rfl rfl rfl
set_option maxRecDepth 10000 in
theorem sg_291_3 (X : am_X) (I : Nat → Nat → Int32) (J : Nat → Nat → Int64) (x1 : Int32) (x2 : Int32) : am_ev X amP_291 3 [.ref 139, .int x1] [.int x2] (am_sh I J) = (if x2 = 0 then some (some (.int (-1 : Int32)), am_sh I J) else (am_do X 290 [.ref 139, .int x1] (am_sh I J)).bind (fun q => am_ev X amP_291 7 [.ref 139, .int x1] (q.1.toList ++ []) q.2)) := by
  refine (ev_if0 rfl).trans (am_ite (fun c1 => ?_) (fun c1 => ?_))
  · refine (ev_const0 (v := (-1 : Int32)) rfl am_ci_m1).trans ?_
    exact ev_iret rfl
  · refine (ev_aload rfl rfl).trans ?_
    refine (ev_iload rfl rfl).trans ?_
    exact ev_invv (as := [.int x1]) rfl (by decide) am_K_139 rfl (by simp [Value.category])
set_option maxRecDepth 10000 in
theorem sg_291_7 (X : am_X) (I : Nat → Nat → Int32) (J : Nat → Nat → Int64) (x1 : Int32) (x2 : Int32) : am_ev X amP_291 7 [.ref 139, .int x1] [.int x2] (am_sh I J) = some (some (.int x2), am_sh I J) := by
  refine (ev_goto rfl).trans ?_
  exact ev_iret rfl
-- 292 X12_laysGroups
set_option maxRecDepth 10000 in
theorem sg_292_e0 (X : am_X) (I : Nat → Nat → Int32) (J : Nat → Nat → Int64) : am_ev X amP_292 0 [.ref 139, .null, .null, .null, .null, .null] [] (am_sh I J) = am_ev X amP_292 2 [.ref 139, .int (0 : Int32), .null, .null, .null, .null] [] (am_sh I J) := by
  refine (ev_const0 (v := (0 : Int32)) rfl am_ci_0).trans ?_
  refine (ev_istore (ls' := [.ref 139, .int (0 : Int32), .null, .null, .null, .null]) rfl (Nat.le_of_ble_eq_true rfl) rfl).trans ?_
  rfl
theorem cl_292 (X : am_X) (I : Nat → Nat → Int32) (J : Nat → Nat → Int64) : am_do X 292 [.ref 139] (am_sh I J) = am_ev X amP_292 0 [.ref 139, .null, .null, .null, .null, .null] [] (am_sh I J) := am_do_of rfl rfl rfl
set_option maxRecDepth 10000 in
theorem sg_292_2 (X : am_X) (I : Nat → Nat → Int32) (J : Nat → Nat → Int64) (x1 : Int32) (w2 : Value) (w3 : Value) (w4 : Value) (w5 : Value) (hw2 : w2.category = 1) (hw3 : w3.category = 1) (hw4 : w4.category = 1) (hw5 : w5.category = 1) : am_ev X amP_292 2 [.ref 139, .int x1, w2, w3, w4, w5] [] (am_sh I J) = (if (I 139 1) ≤ x1 then am_ev X amP_292 15 [.ref 139, .int (0 : Int32), w2, w3, w4, w5] [] (am_sh I J) else (if x1 < 0 ∨ 10 ≤ x1.toNatClampNeg then none else am_ev X amP_292 2 [.ref 139, .int (x1 + (1 : Int32)), w2, w3, w4, w5] [] (am_sh (am_up I 155 x1.toNatClampNeg x1) J))) := by
  refine (ev_iload rfl rfl).trans ?_
  refine (ev_aload rfl rfl).trans ?_
  refine (ev_getI rfl (by decide) am_K_139 (by decide) rfl).trans ?_
  refine (ev_icmp3 rfl).trans (am_ite (fun c1 => ?_) (fun c1 => ?_))
  · refine (ev_const0 (v := (0 : Int32)) rfl am_ci_0).trans ?_
    refine (ev_istore (ls' := [.ref 139, .int (0 : Int32), w2, w3, w4, w5]) rfl (Nat.le_of_ble_eq_true rfl) rfl).trans ?_
    rfl
  · refine (ev_aload rfl rfl).trans ?_
    refine (ev_getR rfl (by decide) am_K_139 (by decide) rfl am_R_139_30).trans ?_
    refine (ev_iload rfl rfl).trans ?_
    refine (ev_iload rfl rfl).trans ?_
    refine (ev_iast rfl (by decide) am_K_155).trans (am_itn (fun g2 => ?_))
    refine (ev_iincv (v := (1 : Int32)) (ls' := [.ref 139, .int (x1 + (1 : Int32)), w2, w3, w4, w5]) rfl am_ci_1 rfl rfl).trans ?_
    refine (ev_goto rfl).trans ?_
    rfl
set_option maxRecDepth 10000 in
theorem sg_292_15 (X : am_X) (I : Nat → Nat → Int32) (J : Nat → Nat → Int64) (x1 : Int32) (w2 : Value) (w3 : Value) (w4 : Value) (w5 : Value) (hw2 : w2.category = 1) (hw3 : w3.category = 1) (hw4 : w4.category = 1) (hw5 : w5.category = 1) : am_ev X amP_292 15 [.ref 139, .int x1, w2, w3, w4, w5] [] (am_sh I J) = (if (I 139 1) ≤ x1 then some (none, am_sh I J) else am_ev X amP_292 23 [.ref 139, .int x1, .int (x1 + (1 : Int32)), w3, w4, w5] [] (am_sh I J)) := by
  refine (ev_iload rfl rfl).trans ?_
  refine (ev_aload rfl rfl).trans ?_
  refine (ev_getI rfl (by decide) am_K_139 (by decide) rfl).trans ?_
  refine (ev_icmp3 rfl).trans (am_ite (fun c1 => ?_) (fun c1 => ?_))
  · exact ev_vret rfl
  · refine (ev_iload rfl rfl).trans ?_
    refine (ev_const0 (v := (1 : Int32)) rfl am_ci_1).trans ?_
    refine (ev_iadd rfl).trans ?_
    refine (ev_istore (ls' := [.ref 139, .int x1, .int (x1 + (1 : Int32)), w3, w4, w5]) rfl (Nat.le_of_ble_eq_true rfl) rfl).trans ?_
    rfl
set_option maxRecDepth 10000 in
theorem sg_292_23 (X : am_X) (I : Nat → Nat → Int32) (J : Nat → Nat → Int64) (x1 : Int32) (x2 : Int32) (w3 : Value) (w4 : Value) (w5 : Value) (hw3 : w3.category = 1) (hw4 : w4.category = 1) (hw5 : w5.category = 1) : am_ev X amP_292 23 [.ref 139, .int x1, .int x2, w3, w4, w5] [] (am_sh I J) = (if (I 139 1) ≤ x2 then am_ev X amP_292 15 [.ref 139, .int (x1 + (1 : Int32)), .int x2, w3, w4, w5] [] (am_sh I J) else (am_do X 254 [.ref 139, .int x1, .int x2] (am_sh I J)).bind (fun q => am_ev X amP_292 31 [.ref 139, .int x1, .int x2, w3, w4, w5] (q.1.toList ++ []) q.2)) := by
  refine (ev_iload rfl rfl).trans ?_
  refine (ev_aload rfl rfl).trans ?_
  refine (ev_getI rfl (by decide) am_K_139 (by decide) rfl).trans ?_
  refine (ev_icmp3 rfl).trans (am_ite (fun c1 => ?_) (fun c1 => ?_))
  · refine (ev_iincv (v := (1 : Int32)) (ls' := [.ref 139, .int (x1 + (1 : Int32)), .int x2, w3, w4, w5]) rfl am_ci_1 rfl rfl).trans ?_
    refine (ev_goto rfl).trans ?_
    rfl
  · refine (ev_aload rfl rfl).trans ?_
    refine (ev_iload rfl rfl).trans ?_
    refine (ev_iload rfl rfl).trans ?_
    exact ev_invv (as := [.int x2, .int x1]) rfl (by decide) am_K_139 rfl (by simp [Value.category])
set_option maxRecDepth 10000 in
theorem sg_292_31 (X : am_X) (I : Nat → Nat → Int32) (J : Nat → Nat → Int64) (x1 : Int32) (x2 : Int32) (w3 : Value) (w4 : Value) (w5 : Value) (x6 : Int32) (hw3 : w3.category = 1) (hw4 : w4.category = 1) (hw5 : w5.category = 1) : am_ev X amP_292 31 [.ref 139, .int x1, .int x2, w3, w4, w5] [.int x6] (am_sh I J) = (if ¬ x6 = 0 then (if x1 < 0 ∨ 10 ≤ x1.toNatClampNeg then none else (if x2 < 0 ∨ 10 ≤ x2.toNatClampNeg then none else (am_do X 215 [.int (I 155 x1.toNatClampNeg), .int (I 155 x2.toNatClampNeg)] (am_sh I J)).bind (fun q => am_ev X amP_292 42 [.ref 139, .int x1, .int x2, w3, w4, w5] (q.1.toList ++ []) q.2))) else am_ev X amP_292 23 [.ref 139, .int x1, .int (x2 + (1 : Int32)), w3, w4, w5] [] (am_sh I J)) := by
  refine (ev_if1 rfl).trans (am_ite (fun c1 => ?_) (fun c1 => ?_))
  · refine (ev_aload rfl rfl).trans ?_
    refine (ev_getR rfl (by decide) am_K_139 (by decide) rfl am_R_139_30).trans ?_
    refine (ev_iload rfl rfl).trans ?_
    refine (ev_iald rfl (by decide) am_K_155).trans (am_itn (fun g2 => ?_))
    refine (ev_aload rfl rfl).trans ?_
    refine (ev_getR rfl (by decide) am_K_139 (by decide) rfl am_R_139_30).trans ?_
    refine (ev_iload rfl rfl).trans ?_
    refine (ev_iald rfl (by decide) am_K_155).trans (am_itn (fun g3 => ?_))
    exact ev_invs (as := [.int (I 155 x2.toNatClampNeg), .int (I 155 x1.toNatClampNeg)]) rfl rfl (by simp [Value.category])
  · refine (ev_goto rfl).trans ?_
    refine (ev_iincv (v := (1 : Int32)) (ls' := [.ref 139, .int x1, .int (x2 + (1 : Int32)), w3, w4, w5]) rfl am_ci_1 rfl rfl).trans ?_
    refine (ev_goto rfl).trans ?_
    rfl
set_option maxRecDepth 10000 in
theorem sg_292_42 (X : am_X) (I : Nat → Nat → Int32) (J : Nat → Nat → Int64) (x1 : Int32) (x2 : Int32) (w3 : Value) (w4 : Value) (w5 : Value) (x6 : Int32) (hw3 : w3.category = 1) (hw4 : w4.category = 1) (hw5 : w5.category = 1) : am_ev X amP_292 42 [.ref 139, .int x1, .int x2, w3, w4, w5] [.int x6] (am_sh I J) = (if x1 < 0 ∨ 10 ≤ x1.toNatClampNeg then none else (if x2 < 0 ∨ 10 ≤ x2.toNatClampNeg then none else (am_do X 216 [.int (I 155 x1.toNatClampNeg), .int (I 155 x2.toNatClampNeg)] (am_sh I J)).bind (fun q => am_ev X amP_292 52 [.ref 139, .int x1, .int x2, .int x6, w4, w5] (q.1.toList ++ []) q.2))) := by
  refine (ev_istore (ls' := [.ref 139, .int x1, .int x2, .int x6, w4, w5]) rfl (Nat.le_of_ble_eq_true rfl) rfl).trans ?_
  refine (ev_aload rfl rfl).trans ?_
  refine (ev_getR rfl (by decide) am_K_139 (by decide) rfl am_R_139_30).trans ?_
  refine (ev_iload rfl rfl).trans ?_
  refine (ev_iald rfl (by decide) am_K_155).trans (am_itn (fun g1 => ?_))
  refine (ev_aload rfl rfl).trans ?_
  refine (ev_getR rfl (by decide) am_K_139 (by decide) rfl am_R_139_30).trans ?_
  refine (ev_iload rfl rfl).trans ?_
  refine (ev_iald rfl (by decide) am_K_155).trans (am_itn (fun g2 => ?_))
  exact ev_invs (as := [.int (I 155 x2.toNatClampNeg), .int (I 155 x1.toNatClampNeg)]) rfl rfl (by simp [Value.category])
set_option maxRecDepth 10000 in
theorem sg_292_52 (X : am_X) (I : Nat → Nat → Int32) (J : Nat → Nat → Int64) (x1 : Int32) (x2 : Int32) (x3 : Int32) (w4 : Value) (w5 : Value) (x6 : Int32) (hw4 : w4.category = 1) (hw5 : w5.category = 1) : am_ev X amP_292 52 [.ref 139, .int x1, .int x2, .int x3, w4, w5] [.int x6] (am_sh I J) = am_ev X amP_292 55 [.ref 139, .int x1, .int x2, .int x3, .int x6, .int (0 : Int32)] [] (am_sh I J) := by
  refine (ev_istore (ls' := [.ref 139, .int x1, .int x2, .int x3, .int x6, w5]) rfl (Nat.le_of_ble_eq_true rfl) rfl).trans ?_
  refine (ev_const0 (v := (0 : Int32)) rfl am_ci_0).trans ?_
  refine (ev_istore (ls' := [.ref 139, .int x1, .int x2, .int x3, .int x6, .int (0 : Int32)]) rfl (Nat.le_of_ble_eq_true rfl) rfl).trans ?_
  rfl
set_option maxRecDepth 10000 in
theorem sg_292_55 (X : am_X) (I : Nat → Nat → Int32) (J : Nat → Nat → Int64) (x1 : Int32) (x2 : Int32) (x3 : Int32) (x4 : Int32) (x5 : Int32) : am_ev X amP_292 55 [.ref 139, .int x1, .int x2, .int x3, .int x4, .int x5] [] (am_sh I J) = (if (I 139 1) ≤ x5 then am_ev X amP_292 23 [.ref 139, .int x1, .int (x2 + (1 : Int32)), .int x3, .int x4, .int x5] [] (am_sh I J) else (if x5 < 0 ∨ 10 ≤ x5.toNatClampNeg then none else (if ¬ (I 155 x5.toNatClampNeg) = x4 then (if x5 < 0 ∨ 10 ≤ x5.toNatClampNeg then none else (if x5 < 0 ∨ 10 ≤ x5.toNatClampNeg then none else am_ev X amP_292 55 [.ref 139, .int x1, .int x2, .int x3, .int x4, .int (x5 + (1 : Int32))] [] (am_sh (am_up I 155 x5.toNatClampNeg (I 155 x5.toNatClampNeg)) J))) else (if x5 < 0 ∨ 10 ≤ x5.toNatClampNeg then none else am_ev X amP_292 55 [.ref 139, .int x1, .int x2, .int x3, .int x4, .int (x5 + (1 : Int32))] [] (am_sh (am_up I 155 x5.toNatClampNeg x3) J))))) := by
  refine (ev_iload rfl rfl).trans ?_
  refine (ev_aload rfl rfl).trans ?_
  refine (ev_getI rfl (by decide) am_K_139 (by decide) rfl).trans ?_
  refine (ev_icmp3 rfl).trans (am_ite (fun c1 => ?_) (fun c1 => ?_))
  · refine (ev_iincv (v := (1 : Int32)) (ls' := [.ref 139, .int x1, .int (x2 + (1 : Int32)), .int x3, .int x4, .int x5]) rfl am_ci_1 rfl rfl).trans ?_
    refine (ev_goto rfl).trans ?_
    rfl
  · refine (ev_aload rfl rfl).trans ?_
    refine (ev_getR rfl (by decide) am_K_139 (by decide) rfl am_R_139_30).trans ?_
    refine (ev_iload rfl rfl).trans ?_
    refine (ev_aload rfl rfl).trans ?_
    refine (ev_getR rfl (by decide) am_K_139 (by decide) rfl am_R_139_30).trans ?_
    refine (ev_iload rfl rfl).trans ?_
    refine (ev_iald rfl (by decide) am_K_155).trans (am_itn (fun g2 => ?_))
    refine (ev_iload rfl rfl).trans ?_
    refine (ev_icmp1 rfl).trans (am_ite (fun c3 => ?_) (fun c3 => ?_))
    · refine (ev_aload rfl rfl).trans ?_
      refine (ev_getR rfl (by decide) am_K_139 (by decide) rfl am_R_139_30).trans ?_
      refine (ev_iload rfl rfl).trans ?_
      refine (ev_iald rfl (by decide) am_K_155).trans (am_itn (fun g4 => ?_))
      refine (ev_iast rfl (by decide) am_K_155).trans (am_itn (fun g5 => ?_))
      refine (ev_iincv (v := (1 : Int32)) (ls' := [.ref 139, .int x1, .int x2, .int x3, .int x4, .int (x5 + (1 : Int32))]) rfl am_ci_1 rfl rfl).trans ?_
      refine (ev_goto rfl).trans ?_
      rfl
    · refine (ev_iload rfl rfl).trans ?_
      refine (ev_goto rfl).trans ?_
      refine (ev_iast rfl (by decide) am_K_155).trans (am_itn (fun g4 => ?_))
      refine (ev_iincv (v := (1 : Int32)) (ls' := [.ref 139, .int x1, .int x2, .int x3, .int x4, .int (x5 + (1 : Int32))]) rfl am_ci_1 rfl rfl).trans ?_
      refine (ev_goto rfl).trans ?_
      rfl
-- 293 X12_group
set_option maxRecDepth 10000 in
theorem sg_293_e0 (X : am_X) (I : Nat → Nat → Int32) (J : Nat → Nat → Int64) (x1 : Int32) : am_ev X amP_293 0 [.ref 139, .int x1] [] (am_sh I J) = (am_do X 256 [.ref 139, .int x1] (am_sh I J)).bind (fun q => am_ev X amP_293 3 [.ref 139, .int x1] (q.1.toList ++ []) q.2) := by
  refine (ev_aload rfl rfl).trans ?_
  refine (ev_iload rfl rfl).trans ?_
  exact ev_invv (as := [.int x1]) rfl (by decide) am_K_139 rfl (by simp [Value.category])
theorem cl_293 (X : am_X) (I : Nat → Nat → Int32) (J : Nat → Nat → Int64) (x1 : Int32) : am_do X 293 [.ref 139, .int x1] (am_sh I J) = am_ev X amP_293 0 [.ref 139, .int x1] [] (am_sh I J) := am_do_of rfl rfl rfl
set_option maxRecDepth 10000 in
theorem sg_293_3 (X : am_X) (I : Nat → Nat → Int32) (J : Nat → Nat → Int64) (x1 : Int32) (x2 : Int32) : am_ev X amP_293 3 [.ref 139, .int x1] [.int x2] (am_sh I J) = (if x2 = 0 then some (some (.int (-1 : Int32)), am_sh I J) else (am_do X 243 [.ref 139, .int x1] (am_sh I J)).bind (fun q => am_ev X amP_293 7 [.ref 139, .int x1] (q.1.toList ++ []) q.2)) := by
  refine (ev_if0 rfl).trans (am_ite (fun c1 => ?_) (fun c1 => ?_))
  · refine (ev_const0 (v := (-1 : Int32)) rfl am_ci_m1).trans ?_
    exact ev_iret rfl
  · refine (ev_aload rfl rfl).trans ?_
    refine (ev_iload rfl rfl).trans ?_
    exact ev_invv (as := [.int x1]) rfl (by decide) am_K_139 rfl (by simp [Value.category])
set_option maxRecDepth 10000 in
theorem sg_293_7 (X : am_X) (I : Nat → Nat → Int32) (J : Nat → Nat → Int64) (x1 : Int32) (x2 : Int32) : am_ev X amP_293 7 [.ref 139, .int x1] [.int x2] (am_sh I J) = (if ¬ x2 = 0 then (am_do X 292 [.ref 139] (am_sh I J)).bind (fun q => am_ev X amP_293 12 [.ref 139, .int x1] (q.1.toList ++ []) q.2) else some (some (.int (-1 : Int32)), am_sh I J)) := by
  refine (ev_if1 rfl).trans (am_ite (fun c1 => ?_) (fun c1 => ?_))
  · refine (ev_aload rfl rfl).trans ?_
    exact ev_invv (as := []) rfl (by decide) am_K_139 rfl (by simp [Value.category])
  · refine (ev_const0 (v := (-1 : Int32)) rfl am_ci_m1).trans ?_
    exact ev_iret rfl
set_option maxRecDepth 10000 in
theorem sg_293_12 (X : am_X) (I : Nat → Nat → Int32) (J : Nat → Nat → Int64) (x1 : Int32) : am_ev X amP_293 12 [.ref 139, .int x1] [] (am_sh I J) = (if x1 < 0 ∨ 10 ≤ x1.toNatClampNeg then none else some (some (.int (I 155 x1.toNatClampNeg)), am_sh I J)) := by
  refine (ev_aload rfl rfl).trans ?_
  refine (ev_getR rfl (by decide) am_K_139 (by decide) rfl am_R_139_30).trans ?_
  refine (ev_iload rfl rfl).trans ?_
  refine (ev_iald rfl (by decide) am_K_155).trans (am_itn (fun g1 => ?_))
  exact ev_iret rfl
-- 294 X12_phases
set_option maxRecDepth 10000 in
theorem sg_294_e0 (X : am_X) (I : Nat → Nat → Int32) (J : Nat → Nat → Int64) (x1 : Int32) (x2 : Int32) : am_ev X amP_294 0 [.ref 139, .int x1, .int x2] [] (am_sh I J) = (am_do X 242 [.ref 139, .int x1, .int (2 : Int32), .int x2] (am_sh I J)).bind (fun q => am_ev X amP_294 5 [.ref 139, .int x1, .int x2] (q.1.toList ++ []) q.2) := by
  refine (ev_aload rfl rfl).trans ?_
  refine (ev_iload rfl rfl).trans ?_
  refine (ev_const0 (v := (2 : Int32)) rfl am_ci_2).trans ?_
  refine (ev_iload rfl rfl).trans ?_
  exact ev_invv (as := [.int x2, .int (2 : Int32), .int x1]) rfl (by decide) am_K_139 rfl (by simp [Value.category])
theorem cl_294 (X : am_X) (I : Nat → Nat → Int32) (J : Nat → Nat → Int64) (x1 : Int32) (x2 : Int32) : am_do X 294 [.ref 139, .int x1, .int x2] (am_sh I J) = am_ev X amP_294 0 [.ref 139, .int x1, .int x2] [] (am_sh I J) := am_do_of rfl rfl rfl
set_option maxRecDepth 10000 in
theorem sg_294_5 (X : am_X) (I : Nat → Nat → Int32) (J : Nat → Nat → Int64) (x1 : Int32) (x2 : Int32) : am_ev X amP_294 5 [.ref 139, .int x1, .int x2] [] (am_sh I J) = (am_do X 247 [.ref 139, .int x1] (am_sh I J)).bind (fun q => am_ev X amP_294 8 [.ref 139, .int x1, .int x2] (q.1.toList ++ []) q.2) := by
  refine (ev_aload rfl rfl).trans ?_
  refine (ev_iload rfl rfl).trans ?_
  exact ev_invv (as := [.int x1]) rfl (by decide) am_K_139 rfl (by simp [Value.category])
set_option maxRecDepth 10000 in
theorem sg_294_8 (X : am_X) (I : Nat → Nat → Int32) (J : Nat → Nat → Int64) (x1 : Int32) (x2 : Int32) : am_ev X amP_294 8 [.ref 139, .int x1, .int x2] [] (am_sh I J) = some (none, am_sh I J) := by
  exact ev_vret rfl
-- 295 X12_chancesOf
set_option maxRecDepth 10000 in
theorem sg_295_e0 (X : am_X) (I : Nat → Nat → Int32) (J : Nat → Nat → Int64) (x1 : Int32) (x2 : Int32) (x3 : Int32) : am_ev X amP_295 0 [.ref 139, .int x1, .int x2, .int x3, .null, .null, .null, .null, .null] [] (am_sh I J) = (am_do X 241 [.ref 139, .int x1, .int (2 : Int32)] (am_sh I J)).bind (fun q => am_ev X amP_295 4 [.ref 139, .int x1, .int x2, .int x3, .null, .null, .null, .null, .null] (q.1.toList ++ []) q.2) := by
  refine (ev_aload rfl rfl).trans ?_
  refine (ev_iload rfl rfl).trans ?_
  refine (ev_const0 (v := (2 : Int32)) rfl am_ci_2).trans ?_
  exact ev_invv (as := [.int (2 : Int32), .int x1]) rfl (by decide) am_K_139 rfl (by simp [Value.category])
theorem cl_295 (X : am_X) (I : Nat → Nat → Int32) (J : Nat → Nat → Int64) (x1 : Int32) (x2 : Int32) (x3 : Int32) : am_do X 295 [.ref 139, .int x1, .int x2, .int x3] (am_sh I J) = am_ev X amP_295 0 [.ref 139, .int x1, .int x2, .int x3, .null, .null, .null, .null, .null] [] (am_sh I J) := am_do_of rfl rfl rfl
set_option maxRecDepth 10000 in
theorem sg_295_4 (X : am_X) (I : Nat → Nat → Int32) (J : Nat → Nat → Int64) (x1 : Int32) (x2 : Int32) (x3 : Int32) (w4 : Value) (w5 : Value) (w6 : Value) (w7 : Value) (w8 : Value) (x9 : Int32) (hw4 : w4.category = 1) (hw5 : w5.category = 1) (hw6 : w6.category = 1) (hw7 : w7.category = 1) (hw8 : w8.category = 1) : am_ev X amP_295 4 [.ref 139, .int x1, .int x2, .int x3, w4, w5, w6, w7, w8] [.int x9] (am_sh I J) = (am_do X 241 [.ref 139, .int x2, .int (2 : Int32)] (am_sh I J)).bind (fun q => am_ev X amP_295 9 [.ref 139, .int x1, .int x2, .int x3, .int x9, w5, w6, w7, w8] (q.1.toList ++ []) q.2) := by
  refine (ev_istore (ls' := [.ref 139, .int x1, .int x2, .int x3, .int x9, w5, w6, w7, w8]) rfl (Nat.le_of_ble_eq_true rfl) rfl).trans ?_
  refine (ev_aload rfl rfl).trans ?_
  refine (ev_iload rfl rfl).trans ?_
  refine (ev_const0 (v := (2 : Int32)) rfl am_ci_2).trans ?_
  exact ev_invv (as := [.int (2 : Int32), .int x2]) rfl (by decide) am_K_139 rfl (by simp [Value.category])
set_option maxRecDepth 10000 in
theorem sg_295_9 (X : am_X) (I : Nat → Nat → Int32) (J : Nat → Nat → Int64) (x1 : Int32) (x2 : Int32) (x3 : Int32) (x4 : Int32) (w5 : Value) (w6 : Value) (w7 : Value) (w8 : Value) (x9 : Int32) (hw5 : w5.category = 1) (hw6 : w6.category = 1) (hw7 : w7.category = 1) (hw8 : w8.category = 1) : am_ev X amP_295 9 [.ref 139, .int x1, .int x2, .int x3, .int x4, w5, w6, w7, w8] [.int x9] (am_sh I J) = am_ev X amP_295 15 [.ref 139, .int x1, .int x2, .int x3, .int x4, .int x9, .int (0 : Int32), .int (-x3), w8] [] (am_sh I J) := by
  refine (ev_istore (ls' := [.ref 139, .int x1, .int x2, .int x3, .int x4, .int x9, w6, w7, w8]) rfl (Nat.le_of_ble_eq_true rfl) rfl).trans ?_
  refine (ev_const0 (v := (0 : Int32)) rfl am_ci_0).trans ?_
  refine (ev_istore (ls' := [.ref 139, .int x1, .int x2, .int x3, .int x4, .int x9, .int (0 : Int32), w7, w8]) rfl (Nat.le_of_ble_eq_true rfl) rfl).trans ?_
  refine (ev_iload rfl rfl).trans ?_
  refine (ev_ineg rfl).trans ?_
  refine (ev_istore (ls' := [.ref 139, .int x1, .int x2, .int x3, .int x4, .int x9, .int (0 : Int32), .int (-x3), w8]) rfl (Nat.le_of_ble_eq_true rfl) rfl).trans ?_
  rfl
set_option maxRecDepth 10000 in
theorem sg_295_15 (X : am_X) (I : Nat → Nat → Int32) (J : Nat → Nat → Int64) (x1 : Int32) (x2 : Int32) (x3 : Int32) (x4 : Int32) (x5 : Int32) (x6 : Int32) (x7 : Int32) (w8 : Value) (hw8 : w8.category = 1) : am_ev X amP_295 15 [.ref 139, .int x1, .int x2, .int x3, .int x4, .int x5, .int x6, .int x7, w8] [] (am_sh I J) = (if x3 < x7 then (am_do X 294 [.ref 139, .int x1, .int x4] (am_sh I J)).bind (fun q => am_ev X amP_295 81 [.ref 139, .int x1, .int x2, .int x3, .int x4, .int x5, .int x6, .int x7, w8] (q.1.toList ++ []) q.2) else (if x1 < 0 ∨ 10 ≤ x1.toNatClampNeg then none else (if x1 < 0 ∨ 10 ≤ x1.toNatClampNeg then none else (if (I 140 x1.toNatClampNeg) = 0 then none else (am_do X 294 [.ref 139, .int x1, .int (((x4 + x7) + ((4 : Int32) * (I 140 x1.toNatClampNeg))) - ((x4 + x7) + ((4 : Int32) * (I 140 x1.toNatClampNeg))) / (I 140 x1.toNatClampNeg) * (I 140 x1.toNatClampNeg))] (am_sh I J)).bind (fun q => am_ev X amP_295 36 [.ref 139, .int x1, .int x2, .int x3, .int x4, .int x5, .int x6, .int x7, w8] (q.1.toList ++ []) q.2))))) := by
  refine (ev_iload rfl rfl).trans ?_
  refine (ev_iload rfl rfl).trans ?_
  refine (ev_icmp4 rfl).trans (am_ite (fun c1 => ?_) (fun c1 => ?_))
  · refine (ev_aload rfl rfl).trans ?_
    refine (ev_iload rfl rfl).trans ?_
    refine (ev_iload rfl rfl).trans ?_
    exact ev_invv (as := [.int x4, .int x1]) rfl (by decide) am_K_139 rfl (by simp [Value.category])
  · refine (ev_aload rfl rfl).trans ?_
    refine (ev_iload rfl rfl).trans ?_
    refine (ev_iload rfl rfl).trans ?_
    refine (ev_iload rfl rfl).trans ?_
    refine (ev_iadd rfl).trans ?_
    refine (ev_const0 (v := (4 : Int32)) rfl am_ci_4).trans ?_
    refine (ev_aload rfl rfl).trans ?_
    refine (ev_getR rfl (by decide) am_K_139 (by decide) rfl am_R_139_3).trans ?_
    refine (ev_iload rfl rfl).trans ?_
    refine (ev_iald rfl (by decide) am_K_140).trans (am_itn (fun g2 => ?_))
    refine (ev_imul rfl).trans ?_
    refine (ev_iadd rfl).trans ?_
    refine (ev_aload rfl rfl).trans ?_
    refine (ev_getR rfl (by decide) am_K_139 (by decide) rfl am_R_139_3).trans ?_
    refine (ev_iload rfl rfl).trans ?_
    refine (ev_iald rfl (by decide) am_K_140).trans (am_itn (fun g3 => ?_))
    refine (ev_irem rfl).trans (am_itn (fun g4 => ?_))
    exact ev_invv (as := [.int (((x4 + x7) + ((4 : Int32) * (I 140 x1.toNatClampNeg))) - ((x4 + x7) + ((4 : Int32) * (I 140 x1.toNatClampNeg))) / (I 140 x1.toNatClampNeg) * (I 140 x1.toNatClampNeg)), .int x1]) rfl (by decide) am_K_139 rfl (by simp [Value.category])
set_option maxRecDepth 10000 in
theorem sg_295_36 (X : am_X) (I : Nat → Nat → Int32) (J : Nat → Nat → Int64) (x1 : Int32) (x2 : Int32) (x3 : Int32) (x4 : Int32) (x5 : Int32) (x6 : Int32) (x7 : Int32) (w8 : Value) (hw8 : w8.category = 1) : am_ev X amP_295 36 [.ref 139, .int x1, .int x2, .int x3, .int x4, .int x5, .int x6, .int x7, w8] [] (am_sh I J) = am_ev X amP_295 39 [.ref 139, .int x1, .int x2, .int x3, .int x4, .int x5, .int x6, .int x7, .int (-x3)] [] (am_sh I J) := by
  refine (ev_iload rfl rfl).trans ?_
  refine (ev_ineg rfl).trans ?_
  refine (ev_istore (ls' := [.ref 139, .int x1, .int x2, .int x3, .int x4, .int x5, .int x6, .int x7, .int (-x3)]) rfl (Nat.le_of_ble_eq_true rfl) rfl).trans ?_
  rfl
set_option maxRecDepth 10000 in
theorem sg_295_39 (X : am_X) (I : Nat → Nat → Int32) (J : Nat → Nat → Int64) (x1 : Int32) (x2 : Int32) (x3 : Int32) (x4 : Int32) (x5 : Int32) (x6 : Int32) (x7 : Int32) (x8 : Int32) : am_ev X amP_295 39 [.ref 139, .int x1, .int x2, .int x3, .int x4, .int x5, .int x6, .int x7, .int x8] [] (am_sh I J) = (if x3 < x8 then am_ev X amP_295 15 [.ref 139, .int x1, .int x2, .int x3, .int x4, .int x5, .int x6, .int (x7 + (1 : Int32)), .int x8] [] (am_sh I J) else (if x2 < 0 ∨ 10 ≤ x2.toNatClampNeg then none else (if x2 < 0 ∨ 10 ≤ x2.toNatClampNeg then none else (if (I 140 x2.toNatClampNeg) = 0 then none else (am_do X 294 [.ref 139, .int x2, .int (((x5 + x8) + ((4 : Int32) * (I 140 x2.toNatClampNeg))) - ((x5 + x8) + ((4 : Int32) * (I 140 x2.toNatClampNeg))) / (I 140 x2.toNatClampNeg) * (I 140 x2.toNatClampNeg))] (am_sh I J)).bind (fun q => am_ev X amP_295 60 [.ref 139, .int x1, .int x2, .int x3, .int x4, .int x5, .int x6, .int x7, .int x8] (q.1.toList ++ []) q.2))))) := by
  refine (ev_iload rfl rfl).trans ?_
  refine (ev_iload rfl rfl).trans ?_
  refine (ev_icmp4 rfl).trans (am_ite (fun c1 => ?_) (fun c1 => ?_))
  · refine (ev_iincv (v := (1 : Int32)) (ls' := [.ref 139, .int x1, .int x2, .int x3, .int x4, .int x5, .int x6, .int (x7 + (1 : Int32)), .int x8]) rfl am_ci_1 rfl rfl).trans ?_
    refine (ev_goto rfl).trans ?_
    rfl
  · refine (ev_aload rfl rfl).trans ?_
    refine (ev_iload rfl rfl).trans ?_
    refine (ev_iload rfl rfl).trans ?_
    refine (ev_iload rfl rfl).trans ?_
    refine (ev_iadd rfl).trans ?_
    refine (ev_const0 (v := (4 : Int32)) rfl am_ci_4).trans ?_
    refine (ev_aload rfl rfl).trans ?_
    refine (ev_getR rfl (by decide) am_K_139 (by decide) rfl am_R_139_3).trans ?_
    refine (ev_iload rfl rfl).trans ?_
    refine (ev_iald rfl (by decide) am_K_140).trans (am_itn (fun g2 => ?_))
    refine (ev_imul rfl).trans ?_
    refine (ev_iadd rfl).trans ?_
    refine (ev_aload rfl rfl).trans ?_
    refine (ev_getR rfl (by decide) am_K_139 (by decide) rfl am_R_139_3).trans ?_
    refine (ev_iload rfl rfl).trans ?_
    refine (ev_iald rfl (by decide) am_K_140).trans (am_itn (fun g3 => ?_))
    refine (ev_irem rfl).trans (am_itn (fun g4 => ?_))
    exact ev_invv (as := [.int (((x5 + x8) + ((4 : Int32) * (I 140 x2.toNatClampNeg))) - ((x5 + x8) + ((4 : Int32) * (I 140 x2.toNatClampNeg))) / (I 140 x2.toNatClampNeg) * (I 140 x2.toNatClampNeg)), .int x2]) rfl (by decide) am_K_139 rfl (by simp [Value.category])
set_option maxRecDepth 10000 in
theorem sg_295_60 (X : am_X) (I : Nat → Nat → Int32) (J : Nat → Nat → Int64) (x1 : Int32) (x2 : Int32) (x3 : Int32) (x4 : Int32) (x5 : Int32) (x6 : Int32) (x7 : Int32) (x8 : Int32) : am_ev X amP_295 60 [.ref 139, .int x1, .int x2, .int x3, .int x4, .int x5, .int x6, .int x7, .int x8] [] (am_sh I J) = (am_do X 252 [.ref 139] (am_sh I J)).bind (fun q => am_ev X amP_295 66 [.ref 139, .int x1, .int x2, .int x3, .int x4, .int x5, .int x6, .int x7, .int x8] (q.1.toList ++ [.int x2, .int x1, .ref 139, .int x6]) q.2) := by
  refine (ev_iload rfl rfl).trans ?_
  refine (ev_aload rfl rfl).trans ?_
  refine (ev_iload rfl rfl).trans ?_
  refine (ev_iload rfl rfl).trans ?_
  refine (ev_aload rfl rfl).trans ?_
  exact ev_invv (as := []) rfl (by decide) am_K_139 rfl (by simp [Value.category])
set_option maxRecDepth 10000 in
theorem sg_295_66 (X : am_X) (I : Nat → Nat → Int32) (J : Nat → Nat → Int64) (x1 : Int32) (x2 : Int32) (x3 : Int32) (x4 : Int32) (x5 : Int32) (x6 : Int32) (x7 : Int32) (x8 : Int32) (x9 : Int32) (x10 : Int32) (x11 : Int32) (x12 : Int32) : am_ev X amP_295 66 [.ref 139, .int x1, .int x2, .int x3, .int x4, .int x5, .int x6, .int x7, .int x8] [.int x12, .int x11, .int x10, .ref 139, .int x9] (am_sh I J) = (am_do X 253 [.ref 139, .int x10, .int x11, .int x12] (am_sh I J)).bind (fun q => am_ev X amP_295 67 [.ref 139, .int x1, .int x2, .int x3, .int x4, .int x5, .int x6, .int x7, .int x8] (q.1.toList ++ [.int x9]) q.2) := by
  exact ev_invv (as := [.int x12, .int x11, .int x10]) rfl (by decide) am_K_139 rfl (by simp [Value.category])
set_option maxRecDepth 10000 in
theorem sg_295_67 (X : am_X) (I : Nat → Nat → Int32) (J : Nat → Nat → Int64) (x1 : Int32) (x2 : Int32) (x3 : Int32) (x4 : Int32) (x5 : Int32) (x6 : Int32) (x7 : Int32) (x8 : Int32) (x9 : Int32) (x10 : Int32) : am_ev X amP_295 67 [.ref 139, .int x1, .int x2, .int x3, .int x4, .int x5, .int x6, .int x7, .int x8] [.int x10, .int x9] (am_sh I J) = (if x10 = 0 then am_ev X amP_295 39 [.ref 139, .int x1, .int x2, .int x3, .int x4, .int x5, .int (x9 + (0 : Int32)), .int x7, .int (x8 + (1 : Int32))] [] (am_sh I J) else am_ev X amP_295 39 [.ref 139, .int x1, .int x2, .int x3, .int x4, .int x5, .int (x9 + (1 : Int32)), .int x7, .int (x8 + (1 : Int32))] [] (am_sh I J)) := by
  refine (ev_if0 rfl).trans (am_ite (fun c1 => ?_) (fun c1 => ?_))
  · refine (ev_const0 (v := (0 : Int32)) rfl am_ci_0).trans ?_
    refine (ev_iadd rfl).trans ?_
    refine (ev_istore (ls' := [.ref 139, .int x1, .int x2, .int x3, .int x4, .int x5, .int (x9 + (0 : Int32)), .int x7, .int x8]) rfl (Nat.le_of_ble_eq_true rfl) rfl).trans ?_
    refine (ev_iincv (v := (1 : Int32)) (ls' := [.ref 139, .int x1, .int x2, .int x3, .int x4, .int x5, .int (x9 + (0 : Int32)), .int x7, .int (x8 + (1 : Int32))]) rfl am_ci_1 rfl rfl).trans ?_
    refine (ev_goto rfl).trans ?_
    rfl
  · refine (ev_const0 (v := (1 : Int32)) rfl am_ci_1).trans ?_
    refine (ev_goto rfl).trans ?_
    refine (ev_iadd rfl).trans ?_
    refine (ev_istore (ls' := [.ref 139, .int x1, .int x2, .int x3, .int x4, .int x5, .int (x9 + (1 : Int32)), .int x7, .int x8]) rfl (Nat.le_of_ble_eq_true rfl) rfl).trans ?_
    refine (ev_iincv (v := (1 : Int32)) (ls' := [.ref 139, .int x1, .int x2, .int x3, .int x4, .int x5, .int (x9 + (1 : Int32)), .int x7, .int (x8 + (1 : Int32))]) rfl am_ci_1 rfl rfl).trans ?_
    refine (ev_goto rfl).trans ?_
    rfl
set_option maxRecDepth 10000 in
theorem sg_295_81 (X : am_X) (I : Nat → Nat → Int32) (J : Nat → Nat → Int64) (x1 : Int32) (x2 : Int32) (x3 : Int32) (x4 : Int32) (x5 : Int32) (x6 : Int32) (x7 : Int32) (w8 : Value) (hw8 : w8.category = 1) : am_ev X amP_295 81 [.ref 139, .int x1, .int x2, .int x3, .int x4, .int x5, .int x6, .int x7, w8] [] (am_sh I J) = (am_do X 294 [.ref 139, .int x2, .int x5] (am_sh I J)).bind (fun q => am_ev X amP_295 85 [.ref 139, .int x1, .int x2, .int x3, .int x4, .int x5, .int x6, .int x7, w8] (q.1.toList ++ []) q.2) := by
  refine (ev_aload rfl rfl).trans ?_
  refine (ev_iload rfl rfl).trans ?_
  refine (ev_iload rfl rfl).trans ?_
  exact ev_invv (as := [.int x5, .int x2]) rfl (by decide) am_K_139 rfl (by simp [Value.category])
set_option maxRecDepth 10000 in
theorem sg_295_85 (X : am_X) (I : Nat → Nat → Int32) (J : Nat → Nat → Int64) (x1 : Int32) (x2 : Int32) (x3 : Int32) (x4 : Int32) (x5 : Int32) (x6 : Int32) (x7 : Int32) (w8 : Value) (hw8 : w8.category = 1) : am_ev X amP_295 85 [.ref 139, .int x1, .int x2, .int x3, .int x4, .int x5, .int x6, .int x7, w8] [] (am_sh I J) = some (some (.int x6), am_sh I J) := by
  refine (ev_iload rfl rfl).trans ?_
  exact ev_iret rfl
-- 296 X12_chances
set_option maxRecDepth 10000 in
theorem sg_296_e0 (X : am_X) (I : Nat → Nat → Int32) (J : Nat → Nat → Int64) (x1 : Int32) (x2 : Int32) (x3 : Int32) (x4 : Int32) : am_ev X amP_296 0 [.ref 139, .int x1, .int x2, .int x3, .int x4] [] (am_sh I J) = (am_do X 257 [.ref 139, .int x1, .int x2] (am_sh I J)).bind (fun q => am_ev X amP_296 4 [.ref 139, .int x1, .int x2, .int x3, .int x4] (q.1.toList ++ []) q.2) := by
  refine (ev_aload rfl rfl).trans ?_
  refine (ev_iload rfl rfl).trans ?_
  refine (ev_iload rfl rfl).trans ?_
  exact ev_invv (as := [.int x2, .int x1]) rfl (by decide) am_K_139 rfl (by simp [Value.category])
theorem cl_296 (X : am_X) (I : Nat → Nat → Int32) (J : Nat → Nat → Int64) (x1 : Int32) (x2 : Int32) (x3 : Int32) (x4 : Int32) : am_do X 296 [.ref 139, .int x1, .int x2, .int x3, .int x4] (am_sh I J) = am_ev X amP_296 0 [.ref 139, .int x1, .int x2, .int x3, .int x4] [] (am_sh I J) := am_do_of rfl rfl rfl
set_option maxRecDepth 10000 in
theorem sg_296_4 (X : am_X) (I : Nat → Nat → Int32) (J : Nat → Nat → Int64) (x1 : Int32) (x2 : Int32) (x3 : Int32) (x4 : Int32) (x5 : Int32) : am_ev X amP_296 4 [.ref 139, .int x1, .int x2, .int x3, .int x4] [.int x5] (am_sh I J) = (if x5 = 0 then some (some (.int (-1 : Int32)), am_sh I J) else (am_do X 214 [.int x3, .int (0 : Int32), .int (5 : Int32)] (am_sh I J)).bind (fun q => am_ev X amP_296 9 [.ref 139, .int x1, .int x2, .int x3, .int x4] (q.1.toList ++ []) q.2)) := by
  refine (ev_if0 rfl).trans (am_ite (fun c1 => ?_) (fun c1 => ?_))
  · refine (ev_const0 (v := (-1 : Int32)) rfl am_ci_m1).trans ?_
    exact ev_iret rfl
  · refine (ev_iload rfl rfl).trans ?_
    refine (ev_const0 (v := (0 : Int32)) rfl am_ci_0).trans ?_
    refine (ev_const0 (v := (5 : Int32)) rfl am_ci_5).trans ?_
    exact ev_invs (as := [.int (5 : Int32), .int (0 : Int32), .int x3]) rfl rfl (by simp [Value.category])
set_option maxRecDepth 10000 in
theorem sg_296_9 (X : am_X) (I : Nat → Nat → Int32) (J : Nat → Nat → Int64) (x1 : Int32) (x2 : Int32) (x3 : Int32) (x4 : Int32) (x5 : Int32) : am_ev X amP_296 9 [.ref 139, .int x1, .int x2, .int x3, .int x4] [.int x5] (am_sh I J) = (if x5 = 0 then some (some (.int (-1 : Int32)), am_sh I J) else (am_do X 214 [.int x4, .int (0 : Int32), .int (1 : Int32)] (am_sh I J)).bind (fun q => am_ev X amP_296 14 [.ref 139, .int x1, .int x2, .int x3, .int x4] (q.1.toList ++ []) q.2)) := by
  refine (ev_if0 rfl).trans (am_ite (fun c1 => ?_) (fun c1 => ?_))
  · refine (ev_const0 (v := (-1 : Int32)) rfl am_ci_m1).trans ?_
    exact ev_iret rfl
  · refine (ev_iload rfl rfl).trans ?_
    refine (ev_const0 (v := (0 : Int32)) rfl am_ci_0).trans ?_
    refine (ev_const0 (v := (1 : Int32)) rfl am_ci_1).trans ?_
    exact ev_invs (as := [.int (1 : Int32), .int (0 : Int32), .int x4]) rfl rfl (by simp [Value.category])
set_option maxRecDepth 10000 in
theorem sg_296_14 (X : am_X) (I : Nat → Nat → Int32) (J : Nat → Nat → Int64) (x1 : Int32) (x2 : Int32) (x3 : Int32) (x4 : Int32) (x5 : Int32) : am_ev X amP_296 14 [.ref 139, .int x1, .int x2, .int x3, .int x4] [.int x5] (am_sh I J) = (if ¬ x5 = 0 then (if ¬ x4 = 0 then some (some (.int ((((2 : Int32) * x3) + (1 : Int32)) * (((2 : Int32) * x3) + (1 : Int32)))), am_sh I J) else (am_do X 295 [.ref 139, .int x1, .int x2, .int x3] (am_sh I J)).bind (fun q => am_ev X amP_296 24 [.ref 139, .int x1, .int x2, .int x3, .int x4] (q.1.toList ++ []) q.2)) else some (some (.int (-1 : Int32)), am_sh I J)) := by
  refine (ev_if1 rfl).trans (am_ite (fun c1 => ?_) (fun c1 => ?_))
  · refine (ev_iload rfl rfl).trans ?_
    refine (ev_if1 rfl).trans (am_ite (fun c2 => ?_) (fun c2 => ?_))
    · refine (ev_const0 (v := (2 : Int32)) rfl am_ci_2).trans ?_
      refine (ev_iload rfl rfl).trans ?_
      refine (ev_imul rfl).trans ?_
      refine (ev_const0 (v := (1 : Int32)) rfl am_ci_1).trans ?_
      refine (ev_iadd rfl).trans ?_
      refine (ev_const0 (v := (2 : Int32)) rfl am_ci_2).trans ?_
      refine (ev_iload rfl rfl).trans ?_
      refine (ev_imul rfl).trans ?_
      refine (ev_const0 (v := (1 : Int32)) rfl am_ci_1).trans ?_
      refine (ev_iadd rfl).trans ?_
      refine (ev_imul rfl).trans ?_
      exact ev_iret rfl
    · refine (ev_aload rfl rfl).trans ?_
      refine (ev_iload rfl rfl).trans ?_
      refine (ev_iload rfl rfl).trans ?_
      refine (ev_iload rfl rfl).trans ?_
      exact ev_invv (as := [.int x3, .int x2, .int x1]) rfl (by decide) am_K_139 rfl (by simp [Value.category])
  · refine (ev_const0 (v := (-1 : Int32)) rfl am_ci_m1).trans ?_
    exact ev_iret rfl
set_option maxRecDepth 10000 in
theorem sg_296_24 (X : am_X) (I : Nat → Nat → Int32) (J : Nat → Nat → Int64) (x1 : Int32) (x2 : Int32) (x3 : Int32) (x4 : Int32) (x5 : Int32) : am_ev X amP_296 24 [.ref 139, .int x1, .int x2, .int x3, .int x4] [.int x5] (am_sh I J) = some (some (.int x5), am_sh I J) := by
  refine (ev_goto rfl).trans ?_
  exact ev_iret rfl
-- 297 X12_margin
set_option maxRecDepth 10000 in
theorem sg_297_e0 (X : am_X) (I : Nat → Nat → Int32) (J : Nat → Nat → Int64) (x1 : Int32) (x2 : Int32) : am_ev X amP_297 0 [.ref 139, .int x1, .int x2, .null] [] (am_sh I J) = (am_do X 257 [.ref 139, .int x1, .int x2] (am_sh I J)).bind (fun q => am_ev X amP_297 4 [.ref 139, .int x1, .int x2, .null] (q.1.toList ++ []) q.2) := by
  refine (ev_aload rfl rfl).trans ?_
  refine (ev_iload rfl rfl).trans ?_
  refine (ev_iload rfl rfl).trans ?_
  exact ev_invv (as := [.int x2, .int x1]) rfl (by decide) am_K_139 rfl (by simp [Value.category])
theorem cl_297 (X : am_X) (I : Nat → Nat → Int32) (J : Nat → Nat → Int64) (x1 : Int32) (x2 : Int32) : am_do X 297 [.ref 139, .int x1, .int x2] (am_sh I J) = am_ev X amP_297 0 [.ref 139, .int x1, .int x2, .null] [] (am_sh I J) := am_do_of rfl rfl rfl
set_option maxRecDepth 10000 in
theorem sg_297_4 (X : am_X) (I : Nat → Nat → Int32) (J : Nat → Nat → Int64) (x1 : Int32) (x2 : Int32) (w3 : Value) (x4 : Int32) (hw3 : w3.category = 1) : am_ev X amP_297 4 [.ref 139, .int x1, .int x2, w3] [.int x4] (am_sh I J) = (if ¬ x4 = 0 then am_ev X amP_297 9 [.ref 139, .int x1, .int x2, .int (0 : Int32)] [] (am_sh I J) else some (some (.int (-1 : Int32)), am_sh I J)) := by
  refine (ev_if1 rfl).trans (am_ite (fun c1 => ?_) (fun c1 => ?_))
  · refine (ev_const0 (v := (0 : Int32)) rfl am_ci_0).trans ?_
    refine (ev_istore (ls' := [.ref 139, .int x1, .int x2, .int (0 : Int32)]) rfl (Nat.le_of_ble_eq_true rfl) rfl).trans ?_
    rfl
  · refine (ev_const0 (v := (-1 : Int32)) rfl am_ci_m1).trans ?_
    exact ev_iret rfl
set_option maxRecDepth 10000 in
theorem sg_297_9 (X : am_X) (I : Nat → Nat → Int32) (J : Nat → Nat → Int64) (x1 : Int32) (x2 : Int32) (x3 : Int32) : am_ev X amP_297 9 [.ref 139, .int x1, .int x2, .int x3] [] (am_sh I J) = (if (5 : Int32) < x3 then some (some (.int (-1 : Int32)), am_sh I J) else (am_do X 295 [.ref 139, .int x1, .int x2, .int x3] (am_sh I J)).bind (fun q => am_ev X amP_297 17 [.ref 139, .int x1, .int x2, .int x3] (q.1.toList ++ []) q.2)) := by
  refine (ev_iload rfl rfl).trans ?_
  refine (ev_const0 (v := (5 : Int32)) rfl am_ci_5).trans ?_
  refine (ev_icmp4 rfl).trans (am_ite (fun c1 => ?_) (fun c1 => ?_))
  · refine (ev_const0 (v := (-1 : Int32)) rfl am_ci_m1).trans ?_
    exact ev_iret rfl
  · refine (ev_aload rfl rfl).trans ?_
    refine (ev_iload rfl rfl).trans ?_
    refine (ev_iload rfl rfl).trans ?_
    refine (ev_iload rfl rfl).trans ?_
    exact ev_invv (as := [.int x3, .int x2, .int x1]) rfl (by decide) am_K_139 rfl (by simp [Value.category])
set_option maxRecDepth 10000 in
theorem sg_297_17 (X : am_X) (I : Nat → Nat → Int32) (J : Nat → Nat → Int64) (x1 : Int32) (x2 : Int32) (x3 : Int32) (x4 : Int32) : am_ev X amP_297 17 [.ref 139, .int x1, .int x2, .int x3] [.int x4] (am_sh I J) = (if x4 ≤ 0 then am_ev X amP_297 9 [.ref 139, .int x1, .int x2, .int (x3 + (1 : Int32))] [] (am_sh I J) else some (some (.int x3), am_sh I J)) := by
  refine (ev_if5 rfl).trans (am_ite (fun c1 => ?_) (fun c1 => ?_))
  · refine (ev_iincv (v := (1 : Int32)) (ls' := [.ref 139, .int x1, .int x2, .int (x3 + (1 : Int32))]) rfl am_ci_1 rfl rfl).trans ?_
    refine (ev_goto rfl).trans ?_
    rfl
  · refine (ev_iload rfl rfl).trans ?_
    exact ev_iret rfl
-- 298 X12_watch
set_option maxRecDepth 10000 in
theorem sg_298_e0 (X : am_X) (I : Nat → Nat → Int32) (J : Nat → Nat → Int64) (x1 : Int32) (x2 : Int32) : am_ev X amP_298 0 [.ref 139, .int x1, .int x2, .null, .null, .null, .null, .null, .null] [] (am_sh I J) = (am_do X 259 [.ref 139] (am_sh I J)).bind (fun q => am_ev X amP_298 2 [.ref 139, .int x1, .int x2, .null, .null, .null, .null, .null, .null] (q.1.toList ++ []) q.2) := by
  refine (ev_aload rfl rfl).trans ?_
  exact ev_invv (as := []) rfl (by decide) am_K_139 rfl (by simp [Value.category])
theorem cl_298 (X : am_X) (I : Nat → Nat → Int32) (J : Nat → Nat → Int64) (x1 : Int32) (x2 : Int32) : am_do X 298 [.ref 139, .int x1, .int x2] (am_sh I J) = am_ev X amP_298 0 [.ref 139, .int x1, .int x2, .null, .null, .null, .null, .null, .null] [] (am_sh I J) := am_do_of rfl rfl rfl
set_option maxRecDepth 10000 in
theorem sg_298_2 (X : am_X) (I : Nat → Nat → Int32) (J : Nat → Nat → Int64) (x1 : Int32) (x2 : Int32) (w3 : Value) (w4 : Value) (w5 : Value) (w6 : Value) (w7 : Value) (w8 : Value) (x9 : Int32) (hw3 : w3.category = 1) (hw4 : w4.category = 1) (hw5 : w5.category = 1) (hw6 : w6.category = 1) (hw7 : w7.category = 1) (hw8 : w8.category = 1) : am_ev X amP_298 2 [.ref 139, .int x1, .int x2, w3, w4, w5, w6, w7, w8] [.int x9] (am_sh I J) = (if x9 < (2 : Int32) then some (some (.int (-1 : Int32)), am_sh I J) else (am_do X 214 [.int x1, .int (0 : Int32), .int (5 : Int32)] (am_sh I J)).bind (fun q => am_ev X amP_298 8 [.ref 139, .int x1, .int x2, w3, w4, w5, w6, w7, w8] (q.1.toList ++ []) q.2)) := by
  refine (ev_const0 (v := (2 : Int32)) rfl am_ci_2).trans ?_
  refine (ev_icmp2 rfl).trans (am_ite (fun c1 => ?_) (fun c1 => ?_))
  · refine (ev_const0 (v := (-1 : Int32)) rfl am_ci_m1).trans ?_
    exact ev_iret rfl
  · refine (ev_iload rfl rfl).trans ?_
    refine (ev_const0 (v := (0 : Int32)) rfl am_ci_0).trans ?_
    refine (ev_const0 (v := (5 : Int32)) rfl am_ci_5).trans ?_
    exact ev_invs (as := [.int (5 : Int32), .int (0 : Int32), .int x1]) rfl rfl (by simp [Value.category])
set_option maxRecDepth 10000 in
theorem sg_298_8 (X : am_X) (I : Nat → Nat → Int32) (J : Nat → Nat → Int64) (x1 : Int32) (x2 : Int32) (w3 : Value) (w4 : Value) (w5 : Value) (w6 : Value) (w7 : Value) (w8 : Value) (x9 : Int32) (hw3 : w3.category = 1) (hw4 : w4.category = 1) (hw5 : w5.category = 1) (hw6 : w6.category = 1) (hw7 : w7.category = 1) (hw8 : w8.category = 1) : am_ev X amP_298 8 [.ref 139, .int x1, .int x2, w3, w4, w5, w6, w7, w8] [.int x9] (am_sh I J) = (if x9 = 0 then some (some (.int (-1 : Int32)), am_sh I J) else (am_do X 214 [.int x2, .int (0 : Int32), .int (2 : Int32)] (am_sh I J)).bind (fun q => am_ev X amP_298 13 [.ref 139, .int x1, .int x2, w3, w4, w5, w6, w7, w8] (q.1.toList ++ []) q.2)) := by
  refine (ev_if0 rfl).trans (am_ite (fun c1 => ?_) (fun c1 => ?_))
  · refine (ev_const0 (v := (-1 : Int32)) rfl am_ci_m1).trans ?_
    exact ev_iret rfl
  · refine (ev_iload rfl rfl).trans ?_
    refine (ev_const0 (v := (0 : Int32)) rfl am_ci_0).trans ?_
    refine (ev_const0 (v := (2 : Int32)) rfl am_ci_2).trans ?_
    exact ev_invs (as := [.int (2 : Int32), .int (0 : Int32), .int x2]) rfl rfl (by simp [Value.category])
set_option maxRecDepth 10000 in
theorem sg_298_13 (X : am_X) (I : Nat → Nat → Int32) (J : Nat → Nat → Int64) (x1 : Int32) (x2 : Int32) (w3 : Value) (w4 : Value) (w5 : Value) (w6 : Value) (w7 : Value) (w8 : Value) (x9 : Int32) (hw3 : w3.category = 1) (hw4 : w4.category = 1) (hw5 : w5.category = 1) (hw6 : w6.category = 1) (hw7 : w7.category = 1) (hw8 : w8.category = 1) : am_ev X amP_298 13 [.ref 139, .int x1, .int x2, w3, w4, w5, w6, w7, w8] [.int x9] (am_sh I J) = (if ¬ x9 = 0 then am_ev X amP_298 24 [.ref 139, .int x1, .int x2, .int (-1 : Int32), .int (-1 : Int32), .int (-1 : Int32), .int (0 : Int32), w7, w8] [] (am_sh I J) else some (some (.int (-1 : Int32)), am_sh I J)) := by
  refine (ev_if1 rfl).trans (am_ite (fun c1 => ?_) (fun c1 => ?_))
  · refine (ev_const0 (v := (-1 : Int32)) rfl am_ci_m1).trans ?_
    refine (ev_istore (ls' := [.ref 139, .int x1, .int x2, .int (-1 : Int32), w4, w5, w6, w7, w8]) rfl (Nat.le_of_ble_eq_true rfl) rfl).trans ?_
    refine (ev_const0 (v := (-1 : Int32)) rfl am_ci_m1).trans ?_
    refine (ev_istore (ls' := [.ref 139, .int x1, .int x2, .int (-1 : Int32), .int (-1 : Int32), w5, w6, w7, w8]) rfl (Nat.le_of_ble_eq_true rfl) rfl).trans ?_
    refine (ev_const0 (v := (-1 : Int32)) rfl am_ci_m1).trans ?_
    refine (ev_istore (ls' := [.ref 139, .int x1, .int x2, .int (-1 : Int32), .int (-1 : Int32), .int (-1 : Int32), w6, w7, w8]) rfl (Nat.le_of_ble_eq_true rfl) rfl).trans ?_
    refine (ev_const0 (v := (0 : Int32)) rfl am_ci_0).trans ?_
    refine (ev_istore (ls' := [.ref 139, .int x1, .int x2, .int (-1 : Int32), .int (-1 : Int32), .int (-1 : Int32), .int (0 : Int32), w7, w8]) rfl (Nat.le_of_ble_eq_true rfl) rfl).trans ?_
    rfl
  · refine (ev_const0 (v := (-1 : Int32)) rfl am_ci_m1).trans ?_
    exact ev_iret rfl
set_option maxRecDepth 10000 in
theorem sg_298_24 (X : am_X) (I : Nat → Nat → Int32) (J : Nat → Nat → Int64) (x1 : Int32) (x2 : Int32) (x3 : Int32) (x4 : Int32) (x5 : Int32) (x6 : Int32) (w7 : Value) (w8 : Value) (hw7 : w7.category = 1) (hw8 : w8.category = 1) : am_ev X amP_298 24 [.ref 139, .int x1, .int x2, .int x3, .int x4, .int x5, .int x6, w7, w8] [] (am_sh I J) = (if (I 139 1) ≤ x6 then (if ¬ x2 = 0 then (if ¬ x2 = (1 : Int32) then some (some (.int x5), am_sh I J) else some (some (.int x4), am_sh I J)) else some (some (.int x3), am_sh I J)) else am_ev X amP_298 32 [.ref 139, .int x1, .int x2, .int x3, .int x4, .int x5, .int x6, .int (x6 + (1 : Int32)), w8] [] (am_sh I J)) := by
  refine (ev_iload rfl rfl).trans ?_
  refine (ev_aload rfl rfl).trans ?_
  refine (ev_getI rfl (by decide) am_K_139 (by decide) rfl).trans ?_
  refine (ev_icmp3 rfl).trans (am_ite (fun c1 => ?_) (fun c1 => ?_))
  · refine (ev_iload rfl rfl).trans ?_
    refine (ev_if1 rfl).trans (am_ite (fun c2 => ?_) (fun c2 => ?_))
    · refine (ev_iload rfl rfl).trans ?_
      refine (ev_const0 (v := (1 : Int32)) rfl am_ci_1).trans ?_
      refine (ev_icmp1 rfl).trans (am_ite (fun c3 => ?_) (fun c3 => ?_))
      · refine (ev_iload rfl rfl).trans ?_
        exact ev_iret rfl
      · refine (ev_iload rfl rfl).trans ?_
        refine (ev_goto rfl).trans ?_
        exact ev_iret rfl
    · refine (ev_iload rfl rfl).trans ?_
      refine (ev_goto rfl).trans ?_
      exact ev_iret rfl
  · refine (ev_iload rfl rfl).trans ?_
    refine (ev_const0 (v := (1 : Int32)) rfl am_ci_1).trans ?_
    refine (ev_iadd rfl).trans ?_
    refine (ev_istore (ls' := [.ref 139, .int x1, .int x2, .int x3, .int x4, .int x5, .int x6, .int (x6 + (1 : Int32)), w8]) rfl (Nat.le_of_ble_eq_true rfl) rfl).trans ?_
    rfl
set_option maxRecDepth 10000 in
theorem sg_298_32 (X : am_X) (I : Nat → Nat → Int32) (J : Nat → Nat → Int64) (x1 : Int32) (x2 : Int32) (x3 : Int32) (x4 : Int32) (x5 : Int32) (x6 : Int32) (x7 : Int32) (w8 : Value) (hw8 : w8.category = 1) : am_ev X amP_298 32 [.ref 139, .int x1, .int x2, .int x3, .int x4, .int x5, .int x6, .int x7, w8] [] (am_sh I J) = (if (I 139 1) ≤ x7 then am_ev X amP_298 24 [.ref 139, .int x1, .int x2, .int x3, .int x4, .int x5, .int (x6 + (1 : Int32)), .int x7, w8] [] (am_sh I J) else (am_do X 243 [.ref 139, .int x6] (am_sh I J)).bind (fun q => am_ev X amP_298 39 [.ref 139, .int x1, .int x2, .int x3, .int x4, .int x5, .int x6, .int x7, w8] (q.1.toList ++ []) q.2)) := by
  refine (ev_iload rfl rfl).trans ?_
  refine (ev_aload rfl rfl).trans ?_
  refine (ev_getI rfl (by decide) am_K_139 (by decide) rfl).trans ?_
  refine (ev_icmp3 rfl).trans (am_ite (fun c1 => ?_) (fun c1 => ?_))
  · refine (ev_iincv (v := (1 : Int32)) (ls' := [.ref 139, .int x1, .int x2, .int x3, .int x4, .int x5, .int (x6 + (1 : Int32)), .int x7, w8]) rfl am_ci_1 rfl rfl).trans ?_
    refine (ev_goto rfl).trans ?_
    rfl
  · refine (ev_aload rfl rfl).trans ?_
    refine (ev_iload rfl rfl).trans ?_
    exact ev_invv (as := [.int x6]) rfl (by decide) am_K_139 rfl (by simp [Value.category])
set_option maxRecDepth 10000 in
theorem sg_298_39 (X : am_X) (I : Nat → Nat → Int32) (J : Nat → Nat → Int64) (x1 : Int32) (x2 : Int32) (x3 : Int32) (x4 : Int32) (x5 : Int32) (x6 : Int32) (x7 : Int32) (w8 : Value) (x9 : Int32) (hw8 : w8.category = 1) : am_ev X amP_298 39 [.ref 139, .int x1, .int x2, .int x3, .int x4, .int x5, .int x6, .int x7, w8] [.int x9] (am_sh I J) = (if x9 = 0 then (if x5 < (-1 : Int32) then am_ev X amP_298 32 [.ref 139, .int x1, .int x2, .int x6, .int x7, .int (-1 : Int32), .int x6, .int (x7 + (1 : Int32)), .int (-1 : Int32)] [] (am_sh I J) else am_ev X amP_298 32 [.ref 139, .int x1, .int x2, .int x3, .int x4, .int x5, .int x6, .int (x7 + (1 : Int32)), .int (-1 : Int32)] [] (am_sh I J)) else (am_do X 243 [.ref 139, .int x7] (am_sh I J)).bind (fun q => am_ev X amP_298 43 [.ref 139, .int x1, .int x2, .int x3, .int x4, .int x5, .int x6, .int x7, w8] (q.1.toList ++ []) q.2)) := by
  refine (ev_if0 rfl).trans (am_ite (fun c1 => ?_) (fun c1 => ?_))
  · refine (ev_const0 (v := (-1 : Int32)) rfl am_ci_m1).trans ?_
    refine (ev_istore (ls' := [.ref 139, .int x1, .int x2, .int x3, .int x4, .int x5, .int x6, .int x7, .int (-1 : Int32)]) rfl (Nat.le_of_ble_eq_true rfl) rfl).trans ?_
    refine (ev_iload rfl rfl).trans ?_
    refine (ev_iload rfl rfl).trans ?_
    refine (ev_icmp4 rfl).trans (am_ite (fun c2 => ?_) (fun c2 => ?_))
    · refine (ev_iload rfl rfl).trans ?_
      refine (ev_istore (ls' := [.ref 139, .int x1, .int x2, .int x3, .int x4, .int (-1 : Int32), .int x6, .int x7, .int (-1 : Int32)]) rfl (Nat.le_of_ble_eq_true rfl) rfl).trans ?_
      refine (ev_iload rfl rfl).trans ?_
      refine (ev_istore (ls' := [.ref 139, .int x1, .int x2, .int x6, .int x4, .int (-1 : Int32), .int x6, .int x7, .int (-1 : Int32)]) rfl (Nat.le_of_ble_eq_true rfl) rfl).trans ?_
      refine (ev_iload rfl rfl).trans ?_
      refine (ev_istore (ls' := [.ref 139, .int x1, .int x2, .int x6, .int x7, .int (-1 : Int32), .int x6, .int x7, .int (-1 : Int32)]) rfl (Nat.le_of_ble_eq_true rfl) rfl).trans ?_
      refine (ev_iincv (v := (1 : Int32)) (ls' := [.ref 139, .int x1, .int x2, .int x6, .int x7, .int (-1 : Int32), .int x6, .int (x7 + (1 : Int32)), .int (-1 : Int32)]) rfl am_ci_1 rfl rfl).trans ?_
      refine (ev_goto rfl).trans ?_
      rfl
    · refine (ev_goto rfl).trans ?_
      refine (ev_iincv (v := (1 : Int32)) (ls' := [.ref 139, .int x1, .int x2, .int x3, .int x4, .int x5, .int x6, .int (x7 + (1 : Int32)), .int (-1 : Int32)]) rfl am_ci_1 rfl rfl).trans ?_
      refine (ev_goto rfl).trans ?_
      rfl
  · refine (ev_aload rfl rfl).trans ?_
    refine (ev_iload rfl rfl).trans ?_
    exact ev_invv (as := [.int x7]) rfl (by decide) am_K_139 rfl (by simp [Value.category])
set_option maxRecDepth 10000 in
theorem sg_298_43 (X : am_X) (I : Nat → Nat → Int32) (J : Nat → Nat → Int64) (x1 : Int32) (x2 : Int32) (x3 : Int32) (x4 : Int32) (x5 : Int32) (x6 : Int32) (x7 : Int32) (w8 : Value) (x9 : Int32) (hw8 : w8.category = 1) : am_ev X amP_298 43 [.ref 139, .int x1, .int x2, .int x3, .int x4, .int x5, .int x6, .int x7, w8] [.int x9] (am_sh I J) = (if x9 = 0 then (if x5 < (-1 : Int32) then am_ev X amP_298 32 [.ref 139, .int x1, .int x2, .int x6, .int x7, .int (-1 : Int32), .int x6, .int (x7 + (1 : Int32)), .int (-1 : Int32)] [] (am_sh I J) else am_ev X amP_298 32 [.ref 139, .int x1, .int x2, .int x3, .int x4, .int x5, .int x6, .int (x7 + (1 : Int32)), .int (-1 : Int32)] [] (am_sh I J)) else (am_do X 295 [.ref 139, .int x6, .int x7, .int x1] (am_sh I J)).bind (fun q => am_ev X amP_298 49 [.ref 139, .int x1, .int x2, .int x3, .int x4, .int x5, .int x6, .int x7, w8] (q.1.toList ++ []) q.2)) := by
  refine (ev_if0 rfl).trans (am_ite (fun c1 => ?_) (fun c1 => ?_))
  · refine (ev_const0 (v := (-1 : Int32)) rfl am_ci_m1).trans ?_
    refine (ev_istore (ls' := [.ref 139, .int x1, .int x2, .int x3, .int x4, .int x5, .int x6, .int x7, .int (-1 : Int32)]) rfl (Nat.le_of_ble_eq_true rfl) rfl).trans ?_
    refine (ev_iload rfl rfl).trans ?_
    refine (ev_iload rfl rfl).trans ?_
    refine (ev_icmp4 rfl).trans (am_ite (fun c2 => ?_) (fun c2 => ?_))
    · refine (ev_iload rfl rfl).trans ?_
      refine (ev_istore (ls' := [.ref 139, .int x1, .int x2, .int x3, .int x4, .int (-1 : Int32), .int x6, .int x7, .int (-1 : Int32)]) rfl (Nat.le_of_ble_eq_true rfl) rfl).trans ?_
      refine (ev_iload rfl rfl).trans ?_
      refine (ev_istore (ls' := [.ref 139, .int x1, .int x2, .int x6, .int x4, .int (-1 : Int32), .int x6, .int x7, .int (-1 : Int32)]) rfl (Nat.le_of_ble_eq_true rfl) rfl).trans ?_
      refine (ev_iload rfl rfl).trans ?_
      refine (ev_istore (ls' := [.ref 139, .int x1, .int x2, .int x6, .int x7, .int (-1 : Int32), .int x6, .int x7, .int (-1 : Int32)]) rfl (Nat.le_of_ble_eq_true rfl) rfl).trans ?_
      refine (ev_iincv (v := (1 : Int32)) (ls' := [.ref 139, .int x1, .int x2, .int x6, .int x7, .int (-1 : Int32), .int x6, .int (x7 + (1 : Int32)), .int (-1 : Int32)]) rfl am_ci_1 rfl rfl).trans ?_
      refine (ev_goto rfl).trans ?_
      rfl
    · refine (ev_goto rfl).trans ?_
      refine (ev_iincv (v := (1 : Int32)) (ls' := [.ref 139, .int x1, .int x2, .int x3, .int x4, .int x5, .int x6, .int (x7 + (1 : Int32)), .int (-1 : Int32)]) rfl am_ci_1 rfl rfl).trans ?_
      refine (ev_goto rfl).trans ?_
      rfl
  · refine (ev_aload rfl rfl).trans ?_
    refine (ev_iload rfl rfl).trans ?_
    refine (ev_iload rfl rfl).trans ?_
    refine (ev_iload rfl rfl).trans ?_
    exact ev_invv (as := [.int x1, .int x7, .int x6]) rfl (by decide) am_K_139 rfl (by simp [Value.category])
set_option maxRecDepth 10000 in
theorem sg_298_49 (X : am_X) (I : Nat → Nat → Int32) (J : Nat → Nat → Int64) (x1 : Int32) (x2 : Int32) (x3 : Int32) (x4 : Int32) (x5 : Int32) (x6 : Int32) (x7 : Int32) (w8 : Value) (x9 : Int32) (hw8 : w8.category = 1) : am_ev X amP_298 49 [.ref 139, .int x1, .int x2, .int x3, .int x4, .int x5, .int x6, .int x7, w8] [.int x9] (am_sh I J) = (if x5 < x9 then am_ev X amP_298 32 [.ref 139, .int x1, .int x2, .int x6, .int x7, .int x9, .int x6, .int (x7 + (1 : Int32)), .int x9] [] (am_sh I J) else am_ev X amP_298 32 [.ref 139, .int x1, .int x2, .int x3, .int x4, .int x5, .int x6, .int (x7 + (1 : Int32)), .int x9] [] (am_sh I J)) := by
  refine (ev_goto rfl).trans ?_
  refine (ev_istore (ls' := [.ref 139, .int x1, .int x2, .int x3, .int x4, .int x5, .int x6, .int x7, .int x9]) rfl (Nat.le_of_ble_eq_true rfl) rfl).trans ?_
  refine (ev_iload rfl rfl).trans ?_
  refine (ev_iload rfl rfl).trans ?_
  refine (ev_icmp4 rfl).trans (am_ite (fun c1 => ?_) (fun c1 => ?_))
  · refine (ev_iload rfl rfl).trans ?_
    refine (ev_istore (ls' := [.ref 139, .int x1, .int x2, .int x3, .int x4, .int x9, .int x6, .int x7, .int x9]) rfl (Nat.le_of_ble_eq_true rfl) rfl).trans ?_
    refine (ev_iload rfl rfl).trans ?_
    refine (ev_istore (ls' := [.ref 139, .int x1, .int x2, .int x6, .int x4, .int x9, .int x6, .int x7, .int x9]) rfl (Nat.le_of_ble_eq_true rfl) rfl).trans ?_
    refine (ev_iload rfl rfl).trans ?_
    refine (ev_istore (ls' := [.ref 139, .int x1, .int x2, .int x6, .int x7, .int x9, .int x6, .int x7, .int x9]) rfl (Nat.le_of_ble_eq_true rfl) rfl).trans ?_
    refine (ev_iincv (v := (1 : Int32)) (ls' := [.ref 139, .int x1, .int x2, .int x6, .int x7, .int x9, .int x6, .int (x7 + (1 : Int32)), .int x9]) rfl am_ci_1 rfl rfl).trans ?_
    refine (ev_goto rfl).trans ?_
    rfl
  · refine (ev_goto rfl).trans ?_
    refine (ev_iincv (v := (1 : Int32)) (ls' := [.ref 139, .int x1, .int x2, .int x3, .int x4, .int x5, .int x6, .int (x7 + (1 : Int32)), .int x9]) rfl am_ci_1 rfl rfl).trans ?_
    refine (ev_goto rfl).trans ?_
    rfl
-- 299 X12_remains
set_option maxRecDepth 10000 in
theorem sg_299_e0 (X : am_X) (I : Nat → Nat → Int32) (J : Nat → Nat → Int64) (x1 : Int32) (x2 : Int32) : am_ev X amP_299 0 [.ref 139, .int x1, .int x2, .null, .null, .null] [] (am_sh I J) = (am_do X 214 [.int x2, .int (0 : Int32), .int (1 : Int32)] (am_sh I J)).bind (fun q => am_ev X amP_299 4 [.ref 139, .int x1, .int x2, .null, .null, .null] (q.1.toList ++ []) q.2) := by
  refine (ev_iload rfl rfl).trans ?_
  refine (ev_const0 (v := (0 : Int32)) rfl am_ci_0).trans ?_
  refine (ev_const0 (v := (1 : Int32)) rfl am_ci_1).trans ?_
  exact ev_invs (as := [.int (1 : Int32), .int (0 : Int32), .int x2]) rfl rfl (by simp [Value.category])
theorem cl_299 (X : am_X) (I : Nat → Nat → Int32) (J : Nat → Nat → Int64) (x1 : Int32) (x2 : Int32) : am_do X 299 [.ref 139, .int x1, .int x2] (am_sh I J) = am_ev X amP_299 0 [.ref 139, .int x1, .int x2, .null, .null, .null] [] (am_sh I J) := am_do_of rfl rfl rfl
set_option maxRecDepth 10000 in
theorem sg_299_4 (X : am_X) (I : Nat → Nat → Int32) (J : Nat → Nat → Int64) (x1 : Int32) (x2 : Int32) (w3 : Value) (w4 : Value) (w5 : Value) (x6 : Int32) (hw3 : w3.category = 1) (hw4 : w4.category = 1) (hw5 : w5.category = 1) : am_ev X amP_299 4 [.ref 139, .int x1, .int x2, w3, w4, w5] [.int x6] (am_sh I J) = (if x6 = 0 then some (some (.int (-1 : Int32)), am_sh I J) else (if 0 ≤ x1 then am_ev X amP_299 13 [.ref 139, .int x1, .int x2, .int (0 : Int32), .int (0 : Int32), w5] [] (am_sh I J) else some (some (.int (-1 : Int32)), am_sh I J))) := by
  refine (ev_if0 rfl).trans (am_ite (fun c1 => ?_) (fun c1 => ?_))
  · refine (ev_const0 (v := (-1 : Int32)) rfl am_ci_m1).trans ?_
    exact ev_iret rfl
  · refine (ev_iload rfl rfl).trans ?_
    refine (ev_if3 rfl).trans (am_ite (fun c2 => ?_) (fun c2 => ?_))
    · refine (ev_const0 (v := (0 : Int32)) rfl am_ci_0).trans ?_
      refine (ev_istore (ls' := [.ref 139, .int x1, .int x2, .int (0 : Int32), w4, w5]) rfl (Nat.le_of_ble_eq_true rfl) rfl).trans ?_
      refine (ev_const0 (v := (0 : Int32)) rfl am_ci_0).trans ?_
      refine (ev_istore (ls' := [.ref 139, .int x1, .int x2, .int (0 : Int32), .int (0 : Int32), w5]) rfl (Nat.le_of_ble_eq_true rfl) rfl).trans ?_
      rfl
    · refine (ev_const0 (v := (-1 : Int32)) rfl am_ci_m1).trans ?_
      exact ev_iret rfl
set_option maxRecDepth 10000 in
theorem sg_299_13 (X : am_X) (I : Nat → Nat → Int32) (J : Nat → Nat → Int64) (x1 : Int32) (x2 : Int32) (x3 : Int32) (x4 : Int32) (w5 : Value) (hw5 : w5.category = 1) : am_ev X amP_299 13 [.ref 139, .int x1, .int x2, .int x3, .int x4, w5] [] (am_sh I J) = (if (I 139 1) ≤ x4 then some (some (.int (-1 : Int32)), am_sh I J) else am_ev X amP_299 21 [.ref 139, .int x1, .int x2, .int x3, .int x4, .int (x4 + (1 : Int32))] [] (am_sh I J)) := by
  refine (ev_iload rfl rfl).trans ?_
  refine (ev_aload rfl rfl).trans ?_
  refine (ev_getI rfl (by decide) am_K_139 (by decide) rfl).trans ?_
  refine (ev_icmp3 rfl).trans (am_ite (fun c1 => ?_) (fun c1 => ?_))
  · refine (ev_const0 (v := (-1 : Int32)) rfl am_ci_m1).trans ?_
    exact ev_iret rfl
  · refine (ev_iload rfl rfl).trans ?_
    refine (ev_const0 (v := (1 : Int32)) rfl am_ci_1).trans ?_
    refine (ev_iadd rfl).trans ?_
    refine (ev_istore (ls' := [.ref 139, .int x1, .int x2, .int x3, .int x4, .int (x4 + (1 : Int32))]) rfl (Nat.le_of_ble_eq_true rfl) rfl).trans ?_
    rfl
set_option maxRecDepth 10000 in
theorem sg_299_21 (X : am_X) (I : Nat → Nat → Int32) (J : Nat → Nat → Int64) (x1 : Int32) (x2 : Int32) (x3 : Int32) (x4 : Int32) (x5 : Int32) : am_ev X amP_299 21 [.ref 139, .int x1, .int x2, .int x3, .int x4, .int x5] [] (am_sh I J) = (if (I 139 1) ≤ x5 then am_ev X amP_299 13 [.ref 139, .int x1, .int x2, .int x3, .int (x4 + (1 : Int32)), .int x5] [] (am_sh I J) else (am_do X 275 [.ref 139, .int x4, .int x5] (am_sh I J)).bind (fun q => am_ev X amP_299 29 [.ref 139, .int x1, .int x2, .int x3, .int x4, .int x5] (q.1.toList ++ []) q.2)) := by
  refine (ev_iload rfl rfl).trans ?_
  refine (ev_aload rfl rfl).trans ?_
  refine (ev_getI rfl (by decide) am_K_139 (by decide) rfl).trans ?_
  refine (ev_icmp3 rfl).trans (am_ite (fun c1 => ?_) (fun c1 => ?_))
  · refine (ev_iincv (v := (1 : Int32)) (ls' := [.ref 139, .int x1, .int x2, .int x3, .int (x4 + (1 : Int32)), .int x5]) rfl am_ci_1 rfl rfl).trans ?_
    refine (ev_goto rfl).trans ?_
    rfl
  · refine (ev_aload rfl rfl).trans ?_
    refine (ev_iload rfl rfl).trans ?_
    refine (ev_iload rfl rfl).trans ?_
    exact ev_invv (as := [.int x5, .int x4]) rfl (by decide) am_K_139 rfl (by simp [Value.category])
set_option maxRecDepth 10000 in
theorem sg_299_29 (X : am_X) (I : Nat → Nat → Int32) (J : Nat → Nat → Int64) (x1 : Int32) (x2 : Int32) (x3 : Int32) (x4 : Int32) (x5 : Int32) (x6 : Int32) : am_ev X amP_299 29 [.ref 139, .int x1, .int x2, .int x3, .int x4, .int x5] [.int x6] (am_sh I J) = (if x6 = 0 then (if ¬ x3 = x1 then am_ev X amP_299 21 [.ref 139, .int x1, .int x2, .int (x3 + (1 : Int32)), .int x4, .int (x5 + (1 : Int32))] [] (am_sh I J) else (if ¬ x2 = 0 then some (some (.int x5), am_sh I J) else some (some (.int x4), am_sh I J))) else am_ev X amP_299 21 [.ref 139, .int x1, .int x2, .int x3, .int x4, .int (x5 + (1 : Int32))] [] (am_sh I J)) := by
  refine (ev_if0 rfl).trans (am_ite (fun c1 => ?_) (fun c1 => ?_))
  · refine (ev_iload rfl rfl).trans ?_
    refine (ev_iload rfl rfl).trans ?_
    refine (ev_icmp1 rfl).trans (am_ite (fun c2 => ?_) (fun c2 => ?_))
    · refine (ev_iincv (v := (1 : Int32)) (ls' := [.ref 139, .int x1, .int x2, .int (x3 + (1 : Int32)), .int x4, .int x5]) rfl am_ci_1 rfl rfl).trans ?_
      refine (ev_iincv (v := (1 : Int32)) (ls' := [.ref 139, .int x1, .int x2, .int (x3 + (1 : Int32)), .int x4, .int (x5 + (1 : Int32))]) rfl am_ci_1 rfl rfl).trans ?_
      refine (ev_goto rfl).trans ?_
      rfl
    · refine (ev_iload rfl rfl).trans ?_
      refine (ev_if1 rfl).trans (am_ite (fun c3 => ?_) (fun c3 => ?_))
      · refine (ev_iload rfl rfl).trans ?_
        exact ev_iret rfl
      · refine (ev_iload rfl rfl).trans ?_
        refine (ev_goto rfl).trans ?_
        exact ev_iret rfl
  · refine (ev_goto rfl).trans ?_
    refine (ev_iincv (v := (1 : Int32)) (ls' := [.ref 139, .int x1, .int x2, .int x3, .int x4, .int (x5 + (1 : Int32))]) rfl am_ci_1 rfl rfl).trans ?_
    refine (ev_goto rfl).trans ?_
    rfl
-- 300 X12_crowdAt
set_option maxRecDepth 10000 in
theorem sg_300_e0 (X : am_X) (I : Nat → Nat → Int32) (J : Nat → Nat → Int64) (x1 : Int32) : am_ev X amP_300 0 [.ref 139, .int x1, .null, .null] [] (am_sh I J) = am_ev X amP_300 4 [.ref 139, .int x1, .int (0 : Int32), .int (0 : Int32)] [] (am_sh I J) := by
  refine (ev_const0 (v := (0 : Int32)) rfl am_ci_0).trans ?_
  refine (ev_istore (ls' := [.ref 139, .int x1, .int (0 : Int32), .null]) rfl (Nat.le_of_ble_eq_true rfl) rfl).trans ?_
  refine (ev_const0 (v := (0 : Int32)) rfl am_ci_0).trans ?_
  refine (ev_istore (ls' := [.ref 139, .int x1, .int (0 : Int32), .int (0 : Int32)]) rfl (Nat.le_of_ble_eq_true rfl) rfl).trans ?_
  rfl
theorem cl_300 (X : am_X) (I : Nat → Nat → Int32) (J : Nat → Nat → Int64) (x1 : Int32) : am_do X 300 [.ref 139, .int x1] (am_sh I J) = am_ev X amP_300 0 [.ref 139, .int x1, .null, .null] [] (am_sh I J) := am_do_of rfl rfl rfl
set_option maxRecDepth 10000 in
theorem sg_300_4 (X : am_X) (I : Nat → Nat → Int32) (J : Nat → Nat → Int64) (x1 : Int32) (x2 : Int32) (x3 : Int32) : am_ev X amP_300 4 [.ref 139, .int x1, .int x2, .int x3] [] (am_sh I J) = (if (I 139 1) ≤ x3 then some (some (.int x2), am_sh I J) else (am_do X 243 [.ref 139, .int x3] (am_sh I J)).bind (fun q => am_ev X amP_300 12 [.ref 139, .int x1, .int x2, .int x3] (q.1.toList ++ [.int x2]) q.2)) := by
  refine (ev_iload rfl rfl).trans ?_
  refine (ev_aload rfl rfl).trans ?_
  refine (ev_getI rfl (by decide) am_K_139 (by decide) rfl).trans ?_
  refine (ev_icmp3 rfl).trans (am_ite (fun c1 => ?_) (fun c1 => ?_))
  · refine (ev_iload rfl rfl).trans ?_
    exact ev_iret rfl
  · refine (ev_iload rfl rfl).trans ?_
    refine (ev_aload rfl rfl).trans ?_
    refine (ev_iload rfl rfl).trans ?_
    exact ev_invv (as := [.int x3]) rfl (by decide) am_K_139 rfl (by simp [Value.category])
set_option maxRecDepth 10000 in
theorem sg_300_12 (X : am_X) (I : Nat → Nat → Int32) (J : Nat → Nat → Int64) (x1 : Int32) (x2 : Int32) (x3 : Int32) (x4 : Int32) (x5 : Int32) : am_ev X amP_300 12 [.ref 139, .int x1, .int x2, .int x3] [.int x5, .int x4] (am_sh I J) = (if x5 = 0 then am_ev X amP_300 4 [.ref 139, .int x1, .int (x4 + (0 : Int32)), .int (x3 + (1 : Int32))] [] (am_sh I J) else (am_do X 241 [.ref 139, .int x3, .int (0 : Int32)] (am_sh I J)).bind (fun q => am_ev X amP_300 18 [.ref 139, .int x1, .int x2, .int x3] (q.1.toList ++ [.int x1, .int x4]) q.2)) := by
  refine (ev_if0 rfl).trans (am_ite (fun c1 => ?_) (fun c1 => ?_))
  · refine (ev_const0 (v := (0 : Int32)) rfl am_ci_0).trans ?_
    refine (ev_iadd rfl).trans ?_
    refine (ev_istore (ls' := [.ref 139, .int x1, .int (x4 + (0 : Int32)), .int x3]) rfl (Nat.le_of_ble_eq_true rfl) rfl).trans ?_
    refine (ev_iincv (v := (1 : Int32)) (ls' := [.ref 139, .int x1, .int (x4 + (0 : Int32)), .int (x3 + (1 : Int32))]) rfl am_ci_1 rfl rfl).trans ?_
    refine (ev_goto rfl).trans ?_
    rfl
  · refine (ev_iload rfl rfl).trans ?_
    refine (ev_aload rfl rfl).trans ?_
    refine (ev_iload rfl rfl).trans ?_
    refine (ev_const0 (v := (0 : Int32)) rfl am_ci_0).trans ?_
    exact ev_invv (as := [.int (0 : Int32), .int x3]) rfl (by decide) am_K_139 rfl (by simp [Value.category])
set_option maxRecDepth 10000 in
theorem sg_300_18 (X : am_X) (I : Nat → Nat → Int32) (J : Nat → Nat → Int64) (x1 : Int32) (x2 : Int32) (x3 : Int32) (x4 : Int32) (x5 : Int32) (x6 : Int32) : am_ev X amP_300 18 [.ref 139, .int x1, .int x2, .int x3] [.int x6, .int x5, .int x4] (am_sh I J) = (am_do X 241 [.ref 139, .int x3, .int (1 : Int32)] (am_sh I J)).bind (fun q => am_ev X amP_300 22 [.ref 139, .int x1, .int x2, .int x3] (q.1.toList ++ [.int x6, .int x5, .int x4]) q.2) := by
  refine (ev_aload rfl rfl).trans ?_
  refine (ev_iload rfl rfl).trans ?_
  refine (ev_const0 (v := (1 : Int32)) rfl am_ci_1).trans ?_
  exact ev_invv (as := [.int (1 : Int32), .int x3]) rfl (by decide) am_K_139 rfl (by simp [Value.category])
set_option maxRecDepth 10000 in
theorem sg_300_22 (X : am_X) (I : Nat → Nat → Int32) (J : Nat → Nat → Int64) (x1 : Int32) (x2 : Int32) (x3 : Int32) (x4 : Int32) (x5 : Int32) (x6 : Int32) (x7 : Int32) : am_ev X amP_300 22 [.ref 139, .int x1, .int x2, .int x3] [.int x7, .int x6, .int x5, .int x4] (am_sh I J) = (am_do X 214 [.int x5, .int x6, .int x7] (am_sh I J)).bind (fun q => am_ev X amP_300 23 [.ref 139, .int x1, .int x2, .int x3] (q.1.toList ++ [.int x4]) q.2) := by
  exact ev_invs (as := [.int x7, .int x6, .int x5]) rfl rfl (by simp [Value.category])
set_option maxRecDepth 10000 in
theorem sg_300_23 (X : am_X) (I : Nat → Nat → Int32) (J : Nat → Nat → Int64) (x1 : Int32) (x2 : Int32) (x3 : Int32) (x4 : Int32) (x5 : Int32) : am_ev X amP_300 23 [.ref 139, .int x1, .int x2, .int x3] [.int x5, .int x4] (am_sh I J) = (if x5 = 0 then am_ev X amP_300 4 [.ref 139, .int x1, .int (x4 + (0 : Int32)), .int (x3 + (1 : Int32))] [] (am_sh I J) else am_ev X amP_300 4 [.ref 139, .int x1, .int (x4 + (1 : Int32)), .int (x3 + (1 : Int32))] [] (am_sh I J)) := by
  refine (ev_if0 rfl).trans (am_ite (fun c1 => ?_) (fun c1 => ?_))
  · refine (ev_const0 (v := (0 : Int32)) rfl am_ci_0).trans ?_
    refine (ev_iadd rfl).trans ?_
    refine (ev_istore (ls' := [.ref 139, .int x1, .int (x4 + (0 : Int32)), .int x3]) rfl (Nat.le_of_ble_eq_true rfl) rfl).trans ?_
    refine (ev_iincv (v := (1 : Int32)) (ls' := [.ref 139, .int x1, .int (x4 + (0 : Int32)), .int (x3 + (1 : Int32))]) rfl am_ci_1 rfl rfl).trans ?_
    refine (ev_goto rfl).trans ?_
    rfl
  · refine (ev_const0 (v := (1 : Int32)) rfl am_ci_1).trans ?_
    refine (ev_goto rfl).trans ?_
    refine (ev_iadd rfl).trans ?_
    refine (ev_istore (ls' := [.ref 139, .int x1, .int (x4 + (1 : Int32)), .int x3]) rfl (Nat.le_of_ble_eq_true rfl) rfl).trans ?_
    refine (ev_iincv (v := (1 : Int32)) (ls' := [.ref 139, .int x1, .int (x4 + (1 : Int32)), .int (x3 + (1 : Int32))]) rfl am_ci_1 rfl rfl).trans ?_
    refine (ev_goto rfl).trans ?_
    rfl
-- 301 X12_crowd
set_option maxRecDepth 10000 in
theorem sg_301_e0 (X : am_X) (I : Nat → Nat → Int32) (J : Nat → Nat → Int64) (x1 : Int32) : am_ev X amP_301 0 [.ref 139, .int x1] [] (am_sh I J) = (if 0 ≤ x1 then (am_do X 300 [.ref 139, .int x1] (am_sh I J)).bind (fun q => am_ev X amP_301 7 [.ref 139, .int x1] (q.1.toList ++ []) q.2) else some (some (.int (-1 : Int32)), am_sh I J)) := by
  refine (ev_iload rfl rfl).trans ?_
  refine (ev_if3 rfl).trans (am_ite (fun c1 => ?_) (fun c1 => ?_))
  · refine (ev_aload rfl rfl).trans ?_
    refine (ev_iload rfl rfl).trans ?_
    exact ev_invv (as := [.int x1]) rfl (by decide) am_K_139 rfl (by simp [Value.category])
  · refine (ev_const0 (v := (-1 : Int32)) rfl am_ci_m1).trans ?_
    refine (ev_goto rfl).trans ?_
    exact ev_iret rfl
theorem cl_301 (X : am_X) (I : Nat → Nat → Int32) (J : Nat → Nat → Int64) (x1 : Int32) : am_do X 301 [.ref 139, .int x1] (am_sh I J) = am_ev X amP_301 0 [.ref 139, .int x1] [] (am_sh I J) := am_do_of rfl rfl rfl
set_option maxRecDepth 10000 in
theorem sg_301_7 (X : am_X) (I : Nat → Nat → Int32) (J : Nat → Nat → Int64) (x1 : Int32) (x2 : Int32) : am_ev X amP_301 7 [.ref 139, .int x1] [.int x2] (am_sh I J) = some (some (.int x2), am_sh I J) := by
  exact ev_iret rfl
-- 302 X12_crowded
set_option maxRecDepth 10000 in
theorem sg_302_e0 (X : am_X) (I : Nat → Nat → Int32) (J : Nat → Nat → Int64) (x1 : Int32) : am_ev X amP_302 0 [.ref 139, .int x1, .null, .null] [] (am_sh I J) = (am_do X 259 [.ref 139] (am_sh I J)).bind (fun q => am_ev X amP_302 2 [.ref 139, .int x1, .null, .null] (q.1.toList ++ []) q.2) := by
  refine (ev_aload rfl rfl).trans ?_
  exact ev_invv (as := []) rfl (by decide) am_K_139 rfl (by simp [Value.category])
theorem cl_302 (X : am_X) (I : Nat → Nat → Int32) (J : Nat → Nat → Int64) (x1 : Int32) : am_do X 302 [.ref 139, .int x1] (am_sh I J) = am_ev X amP_302 0 [.ref 139, .int x1, .null, .null] [] (am_sh I J) := am_do_of rfl rfl rfl
set_option maxRecDepth 10000 in
theorem sg_302_2 (X : am_X) (I : Nat → Nat → Int32) (J : Nat → Nat → Int64) (x1 : Int32) (w2 : Value) (w3 : Value) (x4 : Int32) (hw2 : w2.category = 1) (hw3 : w3.category = 1) : am_ev X amP_302 2 [.ref 139, .int x1, w2, w3] [.int x4] (am_sh I J) = (if x4 = 0 then some (some (.int (-1 : Int32)), am_sh I J) else (am_do X 214 [.int x1, .int (0 : Int32), .int (1 : Int32)] (am_sh I J)).bind (fun q => am_ev X amP_302 7 [.ref 139, .int x1, w2, w3] (q.1.toList ++ []) q.2)) := by
  refine (ev_if0 rfl).trans (am_ite (fun c1 => ?_) (fun c1 => ?_))
  · refine (ev_const0 (v := (-1 : Int32)) rfl am_ci_m1).trans ?_
    exact ev_iret rfl
  · refine (ev_iload rfl rfl).trans ?_
    refine (ev_const0 (v := (0 : Int32)) rfl am_ci_0).trans ?_
    refine (ev_const0 (v := (1 : Int32)) rfl am_ci_1).trans ?_
    exact ev_invs (as := [.int (1 : Int32), .int (0 : Int32), .int x1]) rfl rfl (by simp [Value.category])
set_option maxRecDepth 10000 in
theorem sg_302_7 (X : am_X) (I : Nat → Nat → Int32) (J : Nat → Nat → Int64) (x1 : Int32) (w2 : Value) (w3 : Value) (x4 : Int32) (hw2 : w2.category = 1) (hw3 : w3.category = 1) : am_ev X amP_302 7 [.ref 139, .int x1, w2, w3] [.int x4] (am_sh I J) = (if ¬ x4 = 0 then am_ev X amP_302 14 [.ref 139, .int x1, .int (0 : Int32), .int (1 : Int32)] [] (am_sh I J) else some (some (.int (-1 : Int32)), am_sh I J)) := by
  refine (ev_if1 rfl).trans (am_ite (fun c1 => ?_) (fun c1 => ?_))
  · refine (ev_const0 (v := (0 : Int32)) rfl am_ci_0).trans ?_
    refine (ev_istore (ls' := [.ref 139, .int x1, .int (0 : Int32), w3]) rfl (Nat.le_of_ble_eq_true rfl) rfl).trans ?_
    refine (ev_const0 (v := (1 : Int32)) rfl am_ci_1).trans ?_
    refine (ev_istore (ls' := [.ref 139, .int x1, .int (0 : Int32), .int (1 : Int32)]) rfl (Nat.le_of_ble_eq_true rfl) rfl).trans ?_
    rfl
  · refine (ev_const0 (v := (-1 : Int32)) rfl am_ci_m1).trans ?_
    exact ev_iret rfl
set_option maxRecDepth 10000 in
theorem sg_302_14 (X : am_X) (I : Nat → Nat → Int32) (J : Nat → Nat → Int64) (x1 : Int32) (x2 : Int32) (x3 : Int32) : am_ev X amP_302 14 [.ref 139, .int x1, .int x2, .int x3] [] (am_sh I J) = (if (200 : Int32) < x3 then (if ¬ x1 = 0 then (am_do X 300 [.ref 139, .int x2] (am_sh I J)).bind (fun q => am_ev X amP_302 35 [.ref 139, .int x1, .int x2, .int x3] (q.1.toList ++ []) q.2) else some (some (.int x2), am_sh I J)) else (am_do X 300 [.ref 139, .int x3] (am_sh I J)).bind (fun q => am_ev X amP_302 20 [.ref 139, .int x1, .int x2, .int x3] (q.1.toList ++ []) q.2)) := by
  refine (ev_iload rfl rfl).trans ?_
  refine (ev_const2 (v := (200 : Int32)) rfl am_ci_200).trans ?_
  refine (ev_icmp4 rfl).trans (am_ite (fun c1 => ?_) (fun c1 => ?_))
  · refine (ev_iload rfl rfl).trans ?_
    refine (ev_if1 rfl).trans (am_ite (fun c2 => ?_) (fun c2 => ?_))
    · refine (ev_aload rfl rfl).trans ?_
      refine (ev_iload rfl rfl).trans ?_
      exact ev_invv (as := [.int x2]) rfl (by decide) am_K_139 rfl (by simp [Value.category])
    · refine (ev_iload rfl rfl).trans ?_
      refine (ev_goto rfl).trans ?_
      exact ev_iret rfl
  · refine (ev_aload rfl rfl).trans ?_
    refine (ev_iload rfl rfl).trans ?_
    exact ev_invv (as := [.int x3]) rfl (by decide) am_K_139 rfl (by simp [Value.category])
set_option maxRecDepth 10000 in
theorem sg_302_20 (X : am_X) (I : Nat → Nat → Int32) (J : Nat → Nat → Int64) (x1 : Int32) (x2 : Int32) (x3 : Int32) (x4 : Int32) : am_ev X amP_302 20 [.ref 139, .int x1, .int x2, .int x3] [.int x4] (am_sh I J) = (am_do X 300 [.ref 139, .int x2] (am_sh I J)).bind (fun q => am_ev X amP_302 23 [.ref 139, .int x1, .int x2, .int x3] (q.1.toList ++ [.int x4]) q.2) := by
  refine (ev_aload rfl rfl).trans ?_
  refine (ev_iload rfl rfl).trans ?_
  exact ev_invv (as := [.int x2]) rfl (by decide) am_K_139 rfl (by simp [Value.category])
set_option maxRecDepth 10000 in
theorem sg_302_23 (X : am_X) (I : Nat → Nat → Int32) (J : Nat → Nat → Int64) (x1 : Int32) (x2 : Int32) (x3 : Int32) (x4 : Int32) (x5 : Int32) : am_ev X amP_302 23 [.ref 139, .int x1, .int x2, .int x3] [.int x5, .int x4] (am_sh I J) = (if x4 ≤ x5 then am_ev X amP_302 14 [.ref 139, .int x1, .int x2, .int (x3 + (1 : Int32))] [] (am_sh I J) else am_ev X amP_302 14 [.ref 139, .int x1, .int x3, .int (x3 + (1 : Int32))] [] (am_sh I J)) := by
  refine (ev_icmp5 rfl).trans (am_ite (fun c1 => ?_) (fun c1 => ?_))
  · refine (ev_iincv (v := (1 : Int32)) (ls' := [.ref 139, .int x1, .int x2, .int (x3 + (1 : Int32))]) rfl am_ci_1 rfl rfl).trans ?_
    refine (ev_goto rfl).trans ?_
    rfl
  · refine (ev_iload rfl rfl).trans ?_
    refine (ev_istore (ls' := [.ref 139, .int x1, .int x3, .int x3]) rfl (Nat.le_of_ble_eq_true rfl) rfl).trans ?_
    refine (ev_iincv (v := (1 : Int32)) (ls' := [.ref 139, .int x1, .int x3, .int (x3 + (1 : Int32))]) rfl am_ci_1 rfl rfl).trans ?_
    refine (ev_goto rfl).trans ?_
    rfl
set_option maxRecDepth 10000 in
theorem sg_302_35 (X : am_X) (I : Nat → Nat → Int32) (J : Nat → Nat → Int64) (x1 : Int32) (x2 : Int32) (x3 : Int32) (x4 : Int32) : am_ev X amP_302 35 [.ref 139, .int x1, .int x2, .int x3] [.int x4] (am_sh I J) = some (some (.int x4), am_sh I J) := by
  exact ev_iret rfl
-- 303 X12_upSet
set_option maxRecDepth 10000 in
theorem sg_303_e0 (X : am_X) (I : Nat → Nat → Int32) (J : Nat → Nat → Int64) : am_ev X amP_303 0 [.ref 139, .null, .null] [] (am_sh I J) = am_ev X amP_303 4 [.ref 139, .int (0 : Int32), .int (0 : Int32)] [] (am_sh I J) := by
  refine (ev_const0 (v := (0 : Int32)) rfl am_ci_0).trans ?_
  refine (ev_istore (ls' := [.ref 139, .int (0 : Int32), .null]) rfl (Nat.le_of_ble_eq_true rfl) rfl).trans ?_
  refine (ev_const0 (v := (0 : Int32)) rfl am_ci_0).trans ?_
  refine (ev_istore (ls' := [.ref 139, .int (0 : Int32), .int (0 : Int32)]) rfl (Nat.le_of_ble_eq_true rfl) rfl).trans ?_
  rfl
theorem cl_303 (X : am_X) (I : Nat → Nat → Int32) (J : Nat → Nat → Int64) : am_do X 303 [.ref 139] (am_sh I J) = am_ev X amP_303 0 [.ref 139, .null, .null] [] (am_sh I J) := am_do_of rfl rfl rfl
set_option maxRecDepth 10000 in
theorem sg_303_4 (X : am_X) (I : Nat → Nat → Int32) (J : Nat → Nat → Int64) (x1 : Int32) (x2 : Int32) : am_ev X amP_303 4 [.ref 139, .int x1, .int x2] [] (am_sh I J) = (if (I 139 1) ≤ x2 then some (some (.int x1), am_sh I J) else (am_do X 241 [.ref 139, .int x2, .int (6 : Int32)] (am_sh I J)).bind (fun q => am_ev X amP_303 13 [.ref 139, .int x1, .int x2] (q.1.toList ++ [.int x1]) q.2)) := by
  refine (ev_iload rfl rfl).trans ?_
  refine (ev_aload rfl rfl).trans ?_
  refine (ev_getI rfl (by decide) am_K_139 (by decide) rfl).trans ?_
  refine (ev_icmp3 rfl).trans (am_ite (fun c1 => ?_) (fun c1 => ?_))
  · refine (ev_iload rfl rfl).trans ?_
    exact ev_iret rfl
  · refine (ev_iload rfl rfl).trans ?_
    refine (ev_aload rfl rfl).trans ?_
    refine (ev_iload rfl rfl).trans ?_
    refine (ev_const1 (v := (6 : Int32)) rfl am_ci_6).trans ?_
    exact ev_invv (as := [.int (6 : Int32), .int x2]) rfl (by decide) am_K_139 rfl (by simp [Value.category])
set_option maxRecDepth 10000 in
theorem sg_303_13 (X : am_X) (I : Nat → Nat → Int32) (J : Nat → Nat → Int64) (x1 : Int32) (x2 : Int32) (x3 : Int32) (x4 : Int32) : am_ev X amP_303 13 [.ref 139, .int x1, .int x2] [.int x4, .int x3] (am_sh I J) = am_ev X amP_303 4 [.ref 139, .int (x3 ||| (x4 <<< (x2 &&& 31))), .int (x2 + (1 : Int32))] [] (am_sh I J) := by
  refine (ev_iload rfl rfl).trans ?_
  refine (ev_ishl rfl).trans ?_
  refine (ev_ior rfl).trans ?_
  refine (ev_istore (ls' := [.ref 139, .int (x3 ||| (x4 <<< (x2 &&& 31))), .int x2]) rfl (Nat.le_of_ble_eq_true rfl) rfl).trans ?_
  refine (ev_iincv (v := (1 : Int32)) (ls' := [.ref 139, .int (x3 ||| (x4 <<< (x2 &&& 31))), .int (x2 + (1 : Int32))]) rfl am_ci_1 rfl rfl).trans ?_
  refine (ev_goto rfl).trans ?_
  rfl
-- 304 X12_crashing
set_option maxRecDepth 10000 in
theorem sg_304_e0 (X : am_X) (I : Nat → Nat → Int32) (J : Nat → Nat → Int64) (x1 : Int32) (x2 : Int32) : am_ev X amP_304 0 [.ref 139, .int x1, .int x2, .null, .null, .null] [] (am_sh I J) = am_ev X amP_304 4 [.ref 139, .int x1, .int x2, .int (0 : Int32), .int (0 : Int32), .null] [] (am_sh I J) := by
  refine (ev_const0 (v := (0 : Int32)) rfl am_ci_0).trans ?_
  refine (ev_istore (ls' := [.ref 139, .int x1, .int x2, .int (0 : Int32), .null, .null]) rfl (Nat.le_of_ble_eq_true rfl) rfl).trans ?_
  refine (ev_const0 (v := (0 : Int32)) rfl am_ci_0).trans ?_
  refine (ev_istore (ls' := [.ref 139, .int x1, .int x2, .int (0 : Int32), .int (0 : Int32), .null]) rfl (Nat.le_of_ble_eq_true rfl) rfl).trans ?_
  rfl
theorem cl_304 (X : am_X) (I : Nat → Nat → Int32) (J : Nat → Nat → Int64) (x1 : Int32) (x2 : Int32) : am_do X 304 [.ref 139, .int x1, .int x2] (am_sh I J) = am_ev X amP_304 0 [.ref 139, .int x1, .int x2, .null, .null, .null] [] (am_sh I J) := am_do_of rfl rfl rfl
set_option maxRecDepth 10000 in
theorem sg_304_4 (X : am_X) (I : Nat → Nat → Int32) (J : Nat → Nat → Int64) (x1 : Int32) (x2 : Int32) (x3 : Int32) (x4 : Int32) (w5 : Value) (hw5 : w5.category = 1) : am_ev X amP_304 4 [.ref 139, .int x1, .int x2, .int x3, .int x4, w5] [] (am_sh I J) = (if (I 139 1) ≤ x4 then some (some (.int x3), am_sh I J) else am_ev X amP_304 12 [.ref 139, .int x1, .int x2, .int x3, .int x4, .int (x4 + (1 : Int32))] [] (am_sh I J)) := by
  refine (ev_iload rfl rfl).trans ?_
  refine (ev_aload rfl rfl).trans ?_
  refine (ev_getI rfl (by decide) am_K_139 (by decide) rfl).trans ?_
  refine (ev_icmp3 rfl).trans (am_ite (fun c1 => ?_) (fun c1 => ?_))
  · refine (ev_iload rfl rfl).trans ?_
    exact ev_iret rfl
  · refine (ev_iload rfl rfl).trans ?_
    refine (ev_const0 (v := (1 : Int32)) rfl am_ci_1).trans ?_
    refine (ev_iadd rfl).trans ?_
    refine (ev_istore (ls' := [.ref 139, .int x1, .int x2, .int x3, .int x4, .int (x4 + (1 : Int32))]) rfl (Nat.le_of_ble_eq_true rfl) rfl).trans ?_
    rfl
set_option maxRecDepth 10000 in
theorem sg_304_12 (X : am_X) (I : Nat → Nat → Int32) (J : Nat → Nat → Int64) (x1 : Int32) (x2 : Int32) (x3 : Int32) (x4 : Int32) (x5 : Int32) : am_ev X amP_304 12 [.ref 139, .int x1, .int x2, .int x3, .int x4, .int x5] [] (am_sh I J) = (if (I 139 1) ≤ x5 then am_ev X amP_304 4 [.ref 139, .int x1, .int x2, .int x3, .int (x4 + (1 : Int32)), .int x5] [] (am_sh I J) else (if ¬ ((x1 >>> (x4 &&& 31)) &&& (1 : Int32)) = (1 : Int32) then am_ev X amP_304 12 [.ref 139, .int x1, .int x2, .int x3, .int x4, .int (x5 + (1 : Int32))] [] (am_sh I J) else (if ¬ ((x1 >>> (x5 &&& 31)) &&& (1 : Int32)) = (1 : Int32) then am_ev X amP_304 12 [.ref 139, .int x1, .int x2, .int x3, .int x4, .int (x5 + (1 : Int32))] [] (am_sh I J) else (am_do X 250 [.ref 139, .int x4, .int x5, .int x2] (am_sh I J)).bind (fun q => am_ev X amP_304 35 [.ref 139, .int x1, .int x2, .int x3, .int x4, .int x5] (q.1.toList ++ []) q.2)))) := by
  refine (ev_iload rfl rfl).trans ?_
  refine (ev_aload rfl rfl).trans ?_
  refine (ev_getI rfl (by decide) am_K_139 (by decide) rfl).trans ?_
  refine (ev_icmp3 rfl).trans (am_ite (fun c1 => ?_) (fun c1 => ?_))
  · refine (ev_iincv (v := (1 : Int32)) (ls' := [.ref 139, .int x1, .int x2, .int x3, .int (x4 + (1 : Int32)), .int x5]) rfl am_ci_1 rfl rfl).trans ?_
    refine (ev_goto rfl).trans ?_
    rfl
  · refine (ev_iload rfl rfl).trans ?_
    refine (ev_iload rfl rfl).trans ?_
    refine (ev_ishr rfl).trans ?_
    refine (ev_const0 (v := (1 : Int32)) rfl am_ci_1).trans ?_
    refine (ev_iand rfl).trans ?_
    refine (ev_const0 (v := (1 : Int32)) rfl am_ci_1).trans ?_
    refine (ev_icmp1 rfl).trans (am_ite (fun c2 => ?_) (fun c2 => ?_))
    · refine (ev_iincv (v := (1 : Int32)) (ls' := [.ref 139, .int x1, .int x2, .int x3, .int x4, .int (x5 + (1 : Int32))]) rfl am_ci_1 rfl rfl).trans ?_
      refine (ev_goto rfl).trans ?_
      rfl
    · refine (ev_iload rfl rfl).trans ?_
      refine (ev_iload rfl rfl).trans ?_
      refine (ev_ishr rfl).trans ?_
      refine (ev_const0 (v := (1 : Int32)) rfl am_ci_1).trans ?_
      refine (ev_iand rfl).trans ?_
      refine (ev_const0 (v := (1 : Int32)) rfl am_ci_1).trans ?_
      refine (ev_icmp1 rfl).trans (am_ite (fun c3 => ?_) (fun c3 => ?_))
      · refine (ev_iincv (v := (1 : Int32)) (ls' := [.ref 139, .int x1, .int x2, .int x3, .int x4, .int (x5 + (1 : Int32))]) rfl am_ci_1 rfl rfl).trans ?_
        refine (ev_goto rfl).trans ?_
        rfl
      · refine (ev_aload rfl rfl).trans ?_
        refine (ev_iload rfl rfl).trans ?_
        refine (ev_iload rfl rfl).trans ?_
        refine (ev_iload rfl rfl).trans ?_
        exact ev_invv (as := [.int x2, .int x5, .int x4]) rfl (by decide) am_K_139 rfl (by simp [Value.category])
set_option maxRecDepth 10000 in
theorem sg_304_35 (X : am_X) (I : Nat → Nat → Int32) (J : Nat → Nat → Int64) (x1 : Int32) (x2 : Int32) (x3 : Int32) (x4 : Int32) (x5 : Int32) (x6 : Int32) : am_ev X amP_304 35 [.ref 139, .int x1, .int x2, .int x3, .int x4, .int x5] [.int x6] (am_sh I J) = (if ((I 139 2) * (I 139 2)) < x6 then am_ev X amP_304 12 [.ref 139, .int x1, .int x2, .int x3, .int x4, .int (x5 + (1 : Int32))] [] (am_sh I J) else am_ev X amP_304 12 [.ref 139, .int x1, .int x2, .int (x3 ||| (((1 : Int32) <<< (x4 &&& 31)) ||| ((1 : Int32) <<< (x5 &&& 31)))), .int x4, .int (x5 + (1 : Int32))] [] (am_sh I J)) := by
  refine (ev_aload rfl rfl).trans ?_
  refine (ev_getI rfl (by decide) am_K_139 (by decide) rfl).trans ?_
  refine (ev_aload rfl rfl).trans ?_
  refine (ev_getI rfl (by decide) am_K_139 (by decide) rfl).trans ?_
  refine (ev_imul rfl).trans ?_
  refine (ev_icmp4 rfl).trans (am_ite (fun c1 => ?_) (fun c1 => ?_))
  · refine (ev_iincv (v := (1 : Int32)) (ls' := [.ref 139, .int x1, .int x2, .int x3, .int x4, .int (x5 + (1 : Int32))]) rfl am_ci_1 rfl rfl).trans ?_
    refine (ev_goto rfl).trans ?_
    rfl
  · refine (ev_iload rfl rfl).trans ?_
    refine (ev_const0 (v := (1 : Int32)) rfl am_ci_1).trans ?_
    refine (ev_iload rfl rfl).trans ?_
    refine (ev_ishl rfl).trans ?_
    refine (ev_const0 (v := (1 : Int32)) rfl am_ci_1).trans ?_
    refine (ev_iload rfl rfl).trans ?_
    refine (ev_ishl rfl).trans ?_
    refine (ev_ior rfl).trans ?_
    refine (ev_ior rfl).trans ?_
    refine (ev_istore (ls' := [.ref 139, .int x1, .int x2, .int (x3 ||| (((1 : Int32) <<< (x4 &&& 31)) ||| ((1 : Int32) <<< (x5 &&& 31)))), .int x4, .int x5]) rfl (Nat.le_of_ble_eq_true rfl) rfl).trans ?_
    refine (ev_iincv (v := (1 : Int32)) (ls' := [.ref 139, .int x1, .int x2, .int (x3 ||| (((1 : Int32) <<< (x4 &&& 31)) ||| ((1 : Int32) <<< (x5 &&& 31)))), .int x4, .int (x5 + (1 : Int32))]) rfl am_ci_1 rfl rfl).trans ?_
    refine (ev_goto rfl).trans ?_
    rfl
-- 305 X12_upBehind
set_option maxRecDepth 10000 in
theorem sg_305_e0 (X : am_X) (I : Nat → Nat → Int32) (J : Nat → Nat → Int64) (x1 : Int32) : am_ev X amP_305 0 [.ref 139, .int x1, .null, .null] [] (am_sh I J) = (am_do X 303 [.ref 139] (am_sh I J)).bind (fun q => am_ev X amP_305 2 [.ref 139, .int x1, .null, .null] (q.1.toList ++ []) q.2) := by
  refine (ev_aload rfl rfl).trans ?_
  exact ev_invv (as := []) rfl (by decide) am_K_139 rfl (by simp [Value.category])
theorem cl_305 (X : am_X) (I : Nat → Nat → Int32) (J : Nat → Nat → Int64) (x1 : Int32) : am_do X 305 [.ref 139, .int x1] (am_sh I J) = am_ev X amP_305 0 [.ref 139, .int x1, .null, .null] [] (am_sh I J) := am_do_of rfl rfl rfl
set_option maxRecDepth 10000 in
theorem sg_305_2 (X : am_X) (I : Nat → Nat → Int32) (J : Nat → Nat → Int64) (x1 : Int32) (w2 : Value) (w3 : Value) (x4 : Int32) (hw2 : w2.category = 1) (hw3 : w3.category = 1) : am_ev X amP_305 2 [.ref 139, .int x1, w2, w3] [.int x4] (am_sh I J) = am_ev X amP_305 5 [.ref 139, .int x1, .int x4, .int (0 : Int32)] [] (am_sh I J) := by
  refine (ev_istore (ls' := [.ref 139, .int x1, .int x4, w3]) rfl (Nat.le_of_ble_eq_true rfl) rfl).trans ?_
  refine (ev_const0 (v := (0 : Int32)) rfl am_ci_0).trans ?_
  refine (ev_istore (ls' := [.ref 139, .int x1, .int x4, .int (0 : Int32)]) rfl (Nat.le_of_ble_eq_true rfl) rfl).trans ?_
  rfl
set_option maxRecDepth 10000 in
theorem sg_305_5 (X : am_X) (I : Nat → Nat → Int32) (J : Nat → Nat → Int64) (x1 : Int32) (x2 : Int32) (x3 : Int32) : am_ev X amP_305 5 [.ref 139, .int x1, .int x2, .int x3] [] (am_sh I J) = (if x1 ≤ x3 then some (some (.int x2), am_sh I J) else (if x2 = 0 then some (some (.int x2), am_sh I J) else (am_do X 304 [.ref 139, .int x2, .int ((I 148 1) + x3)] (am_sh I J)).bind (fun q => am_ev X amP_305 20 [.ref 139, .int x1, .int x2, .int x3] (q.1.toList ++ [.int x2]) q.2))) := by
  refine (ev_iload rfl rfl).trans ?_
  refine (ev_iload rfl rfl).trans ?_
  refine (ev_icmp3 rfl).trans (am_ite (fun c1 => ?_) (fun c1 => ?_))
  · refine (ev_iload rfl rfl).trans ?_
    exact ev_iret rfl
  · refine (ev_iload rfl rfl).trans ?_
    refine (ev_if0 rfl).trans (am_ite (fun c2 => ?_) (fun c2 => ?_))
    · refine (ev_iload rfl rfl).trans ?_
      exact ev_iret rfl
    · refine (ev_iload rfl rfl).trans ?_
      refine (ev_aload rfl rfl).trans ?_
      refine (ev_iload rfl rfl).trans ?_
      refine (ev_aload rfl rfl).trans ?_
      refine (ev_getR rfl (by decide) am_K_139 (by decide) rfl am_R_139_22).trans ?_
      refine (ev_const0 (v := (1 : Int32)) rfl am_ci_1).trans ?_
      refine (ev_ialdC (jn := 1) rfl (by decide) am_K_148 (by decide) (by decide)).trans ?_
      refine (ev_iload rfl rfl).trans ?_
      refine (ev_iadd rfl).trans ?_
      exact ev_invv (as := [.int ((I 148 1) + x3), .int x2]) rfl (by decide) am_K_139 rfl (by simp [Value.category])
set_option maxRecDepth 10000 in
theorem sg_305_20 (X : am_X) (I : Nat → Nat → Int32) (J : Nat → Nat → Int64) (x1 : Int32) (x2 : Int32) (x3 : Int32) (x4 : Int32) (x5 : Int32) : am_ev X amP_305 20 [.ref 139, .int x1, .int x2, .int x3] [.int x5, .int x4] (am_sh I J) = am_ev X amP_305 5 [.ref 139, .int x1, .int (x4 &&& (x5 ^^^ (-1 : Int32))), .int (x3 + (1 : Int32))] [] (am_sh I J) := by
  refine (ev_const0 (v := (-1 : Int32)) rfl am_ci_m1).trans ?_
  refine (ev_ixor rfl).trans ?_
  refine (ev_iand rfl).trans ?_
  refine (ev_istore (ls' := [.ref 139, .int x1, .int (x4 &&& (x5 ^^^ (-1 : Int32))), .int x3]) rfl (Nat.le_of_ble_eq_true rfl) rfl).trans ?_
  refine (ev_iincv (v := (1 : Int32)) (ls' := [.ref 139, .int x1, .int (x4 &&& (x5 ^^^ (-1 : Int32))), .int (x3 + (1 : Int32))]) rfl am_ci_1 rfl rfl).trans ?_
  refine (ev_goto rfl).trans ?_
  rfl
-- 306 X12_kept
set_option maxRecDepth 10000 in
theorem sg_306_e0 (X : am_X) (I : Nat → Nat → Int32) (J : Nat → Nat → Int64) (x1 : Int32) (x2 : Int32) : am_ev X amP_306 0 [.ref 139, .int x1, .int x2] [] (am_sh I J) = (am_do X 214 [.int x1, .int (0 : Int32), .int ((I 148 2) - (1 : Int32))] (am_sh I J)).bind (fun q => am_ev X amP_306 9 [.ref 139, .int x1, .int x2] (q.1.toList ++ []) q.2) := by
  refine (ev_iload rfl rfl).trans ?_
  refine (ev_const0 (v := (0 : Int32)) rfl am_ci_0).trans ?_
  refine (ev_aload rfl rfl).trans ?_
  refine (ev_getR rfl (by decide) am_K_139 (by decide) rfl am_R_139_22).trans ?_
  refine (ev_const0 (v := (2 : Int32)) rfl am_ci_2).trans ?_
  refine (ev_ialdC (jn := 2) rfl (by decide) am_K_148 (by decide) (by decide)).trans ?_
  refine (ev_const0 (v := (1 : Int32)) rfl am_ci_1).trans ?_
  refine (ev_isub rfl).trans ?_
  exact ev_invs (as := [.int ((I 148 2) - (1 : Int32)), .int (0 : Int32), .int x1]) rfl rfl (by simp [Value.category])
theorem cl_306 (X : am_X) (I : Nat → Nat → Int32) (J : Nat → Nat → Int64) (x1 : Int32) (x2 : Int32) : am_do X 306 [.ref 139, .int x1, .int x2] (am_sh I J) = am_ev X amP_306 0 [.ref 139, .int x1, .int x2] [] (am_sh I J) := am_do_of rfl rfl rfl
set_option maxRecDepth 10000 in
theorem sg_306_9 (X : am_X) (I : Nat → Nat → Int32) (J : Nat → Nat → Int64) (x1 : Int32) (x2 : Int32) (x3 : Int32) : am_ev X amP_306 9 [.ref 139, .int x1, .int x2] [.int x3] (am_sh I J) = (if x3 = 0 then some (some (.int (-1 : Int32)), am_sh I J) else (am_do X 214 [.int x2, .int (0 : Int32), .int (1 : Int32)] (am_sh I J)).bind (fun q => am_ev X amP_306 14 [.ref 139, .int x1, .int x2] (q.1.toList ++ []) q.2)) := by
  refine (ev_if0 rfl).trans (am_ite (fun c1 => ?_) (fun c1 => ?_))
  · refine (ev_const0 (v := (-1 : Int32)) rfl am_ci_m1).trans ?_
    exact ev_iret rfl
  · refine (ev_iload rfl rfl).trans ?_
    refine (ev_const0 (v := (0 : Int32)) rfl am_ci_0).trans ?_
    refine (ev_const0 (v := (1 : Int32)) rfl am_ci_1).trans ?_
    exact ev_invs (as := [.int (1 : Int32), .int (0 : Int32), .int x2]) rfl rfl (by simp [Value.category])
set_option maxRecDepth 10000 in
theorem sg_306_14 (X : am_X) (I : Nat → Nat → Int32) (J : Nat → Nat → Int64) (x1 : Int32) (x2 : Int32) (x3 : Int32) : am_ev X amP_306 14 [.ref 139, .int x1, .int x2] [.int x3] (am_sh I J) = (if x3 = 0 then some (some (.int (-1 : Int32)), am_sh I J) else (if (((73 : Int32) + ((2 : Int32) * x1)) + x2) < 0 ∨ 153 ≤ (((73 : Int32) + ((2 : Int32) * x1)) + x2).toNatClampNeg then none else some (some (.int (I 148 (((73 : Int32) + ((2 : Int32) * x1)) + x2).toNatClampNeg)), am_sh I J))) := by
  refine (ev_if0 rfl).trans (am_ite (fun c1 => ?_) (fun c1 => ?_))
  · refine (ev_const0 (v := (-1 : Int32)) rfl am_ci_m1).trans ?_
    exact ev_iret rfl
  · refine (ev_aload rfl rfl).trans ?_
    refine (ev_getR rfl (by decide) am_K_139 (by decide) rfl am_R_139_22).trans ?_
    refine (ev_const1 (v := (73 : Int32)) rfl am_ci_73).trans ?_
    refine (ev_const0 (v := (2 : Int32)) rfl am_ci_2).trans ?_
    refine (ev_iload rfl rfl).trans ?_
    refine (ev_imul rfl).trans ?_
    refine (ev_iadd rfl).trans ?_
    refine (ev_iload rfl rfl).trans ?_
    refine (ev_iadd rfl).trans ?_
    refine (ev_iald rfl (by decide) am_K_148).trans (am_itn (fun g2 => ?_))
    refine (ev_goto rfl).trans ?_
    exact ev_iret rfl
-- 307 X12_doom
set_option maxRecDepth 10000 in
theorem sg_307_e0 (X : am_X) (I : Nat → Nat → Int32) (J : Nat → Nat → Int64) (x1 : Int32) : am_ev X amP_307 0 [.ref 139, .int x1, .null, .null] [] (am_sh I J) = (am_do X 256 [.ref 139, .int x1] (am_sh I J)).bind (fun q => am_ev X amP_307 3 [.ref 139, .int x1, .null, .null] (q.1.toList ++ []) q.2) := by
  refine (ev_aload rfl rfl).trans ?_
  refine (ev_iload rfl rfl).trans ?_
  exact ev_invv (as := [.int x1]) rfl (by decide) am_K_139 rfl (by simp [Value.category])
theorem cl_307 (X : am_X) (I : Nat → Nat → Int32) (J : Nat → Nat → Int64) (x1 : Int32) : am_do X 307 [.ref 139, .int x1] (am_sh I J) = am_ev X amP_307 0 [.ref 139, .int x1, .null, .null] [] (am_sh I J) := am_do_of rfl rfl rfl
set_option maxRecDepth 10000 in
theorem sg_307_3 (X : am_X) (I : Nat → Nat → Int32) (J : Nat → Nat → Int64) (x1 : Int32) (w2 : Value) (w3 : Value) (x4 : Int32) (hw2 : w2.category = 1) (hw3 : w3.category = 1) : am_ev X amP_307 3 [.ref 139, .int x1, w2, w3] [.int x4] (am_sh I J) = (if x4 = 0 then some (some (.int (-1 : Int32)), am_sh I J) else (am_do X 243 [.ref 139, .int x1] (am_sh I J)).bind (fun q => am_ev X amP_307 7 [.ref 139, .int x1, w2, w3] (q.1.toList ++ []) q.2)) := by
  refine (ev_if0 rfl).trans (am_ite (fun c1 => ?_) (fun c1 => ?_))
  · refine (ev_const0 (v := (-1 : Int32)) rfl am_ci_m1).trans ?_
    exact ev_iret rfl
  · refine (ev_aload rfl rfl).trans ?_
    refine (ev_iload rfl rfl).trans ?_
    exact ev_invv (as := [.int x1]) rfl (by decide) am_K_139 rfl (by simp [Value.category])
set_option maxRecDepth 10000 in
theorem sg_307_7 (X : am_X) (I : Nat → Nat → Int32) (J : Nat → Nat → Int64) (x1 : Int32) (w2 : Value) (w3 : Value) (x4 : Int32) (hw2 : w2.category = 1) (hw3 : w3.category = 1) : am_ev X amP_307 7 [.ref 139, .int x1, w2, w3] [.int x4] (am_sh I J) = (if ¬ x4 = 0 then (am_do X 303 [.ref 139] (am_sh I J)).bind (fun q => am_ev X amP_307 12 [.ref 139, .int x1, w2, w3] (q.1.toList ++ []) q.2) else some (some (.int (-1 : Int32)), am_sh I J)) := by
  refine (ev_if1 rfl).trans (am_ite (fun c1 => ?_) (fun c1 => ?_))
  · refine (ev_aload rfl rfl).trans ?_
    exact ev_invv (as := []) rfl (by decide) am_K_139 rfl (by simp [Value.category])
  · refine (ev_const0 (v := (-1 : Int32)) rfl am_ci_m1).trans ?_
    exact ev_iret rfl
set_option maxRecDepth 10000 in
theorem sg_307_12 (X : am_X) (I : Nat → Nat → Int32) (J : Nat → Nat → Int64) (x1 : Int32) (w2 : Value) (w3 : Value) (x4 : Int32) (hw2 : w2.category = 1) (hw3 : w3.category = 1) : am_ev X amP_307 12 [.ref 139, .int x1, w2, w3] [.int x4] (am_sh I J) = am_ev X amP_307 15 [.ref 139, .int x1, .int x4, .int (1 : Int32)] [] (am_sh I J) := by
  refine (ev_istore (ls' := [.ref 139, .int x1, .int x4, w3]) rfl (Nat.le_of_ble_eq_true rfl) rfl).trans ?_
  refine (ev_const0 (v := (1 : Int32)) rfl am_ci_1).trans ?_
  refine (ev_istore (ls' := [.ref 139, .int x1, .int x4, .int (1 : Int32)]) rfl (Nat.le_of_ble_eq_true rfl) rfl).trans ?_
  rfl
set_option maxRecDepth 10000 in
theorem sg_307_15 (X : am_X) (I : Nat → Nat → Int32) (J : Nat → Nat → Int64) (x1 : Int32) (x2 : Int32) (x3 : Int32) : am_ev X amP_307 15 [.ref 139, .int x1, .int x2, .int x3] [] (am_sh I J) = (if (2400 : Int32) < x3 then some (some (.int (-1 : Int32)), am_sh I J) else (am_do X 304 [.ref 139, .int x2, .int (((I 148 1) + x3) - (1 : Int32))] (am_sh I J)).bind (fun q => am_ev X amP_307 30 [.ref 139, .int x1, .int x2, .int x3] (q.1.toList ++ [.int x2]) q.2)) := by
  refine (ev_iload rfl rfl).trans ?_
  refine (ev_const2 (v := (2400 : Int32)) rfl am_ci_2400).trans ?_
  refine (ev_icmp4 rfl).trans (am_ite (fun c1 => ?_) (fun c1 => ?_))
  · refine (ev_const0 (v := (-1 : Int32)) rfl am_ci_m1).trans ?_
    exact ev_iret rfl
  · refine (ev_iload rfl rfl).trans ?_
    refine (ev_aload rfl rfl).trans ?_
    refine (ev_iload rfl rfl).trans ?_
    refine (ev_aload rfl rfl).trans ?_
    refine (ev_getR rfl (by decide) am_K_139 (by decide) rfl am_R_139_22).trans ?_
    refine (ev_const0 (v := (1 : Int32)) rfl am_ci_1).trans ?_
    refine (ev_ialdC (jn := 1) rfl (by decide) am_K_148 (by decide) (by decide)).trans ?_
    refine (ev_iload rfl rfl).trans ?_
    refine (ev_iadd rfl).trans ?_
    refine (ev_const0 (v := (1 : Int32)) rfl am_ci_1).trans ?_
    refine (ev_isub rfl).trans ?_
    exact ev_invv (as := [.int (((I 148 1) + x3) - (1 : Int32)), .int x2]) rfl (by decide) am_K_139 rfl (by simp [Value.category])
set_option maxRecDepth 10000 in
theorem sg_307_30 (X : am_X) (I : Nat → Nat → Int32) (J : Nat → Nat → Int64) (x1 : Int32) (x2 : Int32) (x3 : Int32) (x4 : Int32) (x5 : Int32) : am_ev X amP_307 30 [.ref 139, .int x1, .int x2, .int x3] [.int x5, .int x4] (am_sh I J) = (if ¬ (((x4 &&& (x5 ^^^ (-1 : Int32))) >>> (x1 &&& 31)) &&& (1 : Int32)) = 0 then am_ev X amP_307 15 [.ref 139, .int x1, .int (x4 &&& (x5 ^^^ (-1 : Int32))), .int (x3 + (1 : Int32))] [] (am_sh I J) else some (some (.int x3), am_sh I J)) := by
  refine (ev_const0 (v := (-1 : Int32)) rfl am_ci_m1).trans ?_
  refine (ev_ixor rfl).trans ?_
  refine (ev_iand rfl).trans ?_
  refine (ev_istore (ls' := [.ref 139, .int x1, .int (x4 &&& (x5 ^^^ (-1 : Int32))), .int x3]) rfl (Nat.le_of_ble_eq_true rfl) rfl).trans ?_
  refine (ev_iload rfl rfl).trans ?_
  refine (ev_iload rfl rfl).trans ?_
  refine (ev_ishr rfl).trans ?_
  refine (ev_const0 (v := (1 : Int32)) rfl am_ci_1).trans ?_
  refine (ev_iand rfl).trans ?_
  refine (ev_if1 rfl).trans (am_ite (fun c1 => ?_) (fun c1 => ?_))
  · refine (ev_iincv (v := (1 : Int32)) (ls' := [.ref 139, .int x1, .int (x4 &&& (x5 ^^^ (-1 : Int32))), .int (x3 + (1 : Int32))]) rfl am_ci_1 rfl rfl).trans ?_
    refine (ev_goto rfl).trans ?_
    rfl
  · refine (ev_iload rfl rfl).trans ?_
    exact ev_iret rfl
-- 308 X12_stays
set_option maxRecDepth 10000 in
theorem sg_308_e0 (X : am_X) (I : Nat → Nat → Int32) (J : Nat → Nat → Int64) (x1 : Int32) : am_ev X amP_308 0 [.ref 139, .int x1] [] (am_sh I J) = (if (I 139 0) = 0 then some (some (.int (-1 : Int32)), am_sh I J) else (am_do X 214 [.int x1, .int (0 : Int32), .int (2400 : Int32)] (am_sh I J)).bind (fun q => am_ev X amP_308 7 [.ref 139, .int x1] (q.1.toList ++ []) q.2)) := by
  refine (ev_aload rfl rfl).trans ?_
  refine (ev_getI rfl (by decide) am_K_139 (by decide) rfl).trans ?_
  refine (ev_if0 rfl).trans (am_ite (fun c1 => ?_) (fun c1 => ?_))
  · refine (ev_const0 (v := (-1 : Int32)) rfl am_ci_m1).trans ?_
    exact ev_iret rfl
  · refine (ev_iload rfl rfl).trans ?_
    refine (ev_const0 (v := (0 : Int32)) rfl am_ci_0).trans ?_
    refine (ev_const2 (v := (2400 : Int32)) rfl am_ci_2400).trans ?_
    exact ev_invs (as := [.int (2400 : Int32), .int (0 : Int32), .int x1]) rfl rfl (by simp [Value.category])
theorem cl_308 (X : am_X) (I : Nat → Nat → Int32) (J : Nat → Nat → Int64) (x1 : Int32) : am_do X 308 [.ref 139, .int x1] (am_sh I J) = am_ev X amP_308 0 [.ref 139, .int x1] [] (am_sh I J) := am_do_of rfl rfl rfl
set_option maxRecDepth 10000 in
theorem sg_308_7 (X : am_X) (I : Nat → Nat → Int32) (J : Nat → Nat → Int64) (x1 : Int32) (x2 : Int32) : am_ev X amP_308 7 [.ref 139, .int x1] [.int x2] (am_sh I J) = (if x2 = 0 then some (some (.int (-1 : Int32)), am_sh I J) else (am_do X 305 [.ref 139, .int x1] (am_sh I J)).bind (fun q => am_ev X amP_308 11 [.ref 139, .int x1] (q.1.toList ++ []) q.2)) := by
  refine (ev_if0 rfl).trans (am_ite (fun c1 => ?_) (fun c1 => ?_))
  · refine (ev_const0 (v := (-1 : Int32)) rfl am_ci_m1).trans ?_
    exact ev_iret rfl
  · refine (ev_aload rfl rfl).trans ?_
    refine (ev_iload rfl rfl).trans ?_
    exact ev_invv (as := [.int x1]) rfl (by decide) am_K_139 rfl (by simp [Value.category])
set_option maxRecDepth 10000 in
theorem sg_308_11 (X : am_X) (I : Nat → Nat → Int32) (J : Nat → Nat → Int64) (x1 : Int32) (x2 : Int32) : am_ev X amP_308 11 [.ref 139, .int x1] [.int x2] (am_sh I J) = some (some (.int x2), am_sh I J) := by
  refine (ev_goto rfl).trans ?_
  exact ev_iret rfl
-- 309 X12_isUpBehind
set_option maxRecDepth 10000 in
theorem sg_309_e0 (X : am_X) (I : Nat → Nat → Int32) (J : Nat → Nat → Int64) (x1 : Int32) (x2 : Int32) : am_ev X amP_309 0 [.ref 139, .int x1, .int x2] [] (am_sh I J) = (am_do X 305 [.ref 139, .int x2] (am_sh I J)).bind (fun q => am_ev X amP_309 3 [.ref 139, .int x1, .int x2] (q.1.toList ++ []) q.2) := by
  refine (ev_aload rfl rfl).trans ?_
  refine (ev_iload rfl rfl).trans ?_
  exact ev_invv (as := [.int x2]) rfl (by decide) am_K_139 rfl (by simp [Value.category])
theorem cl_309 (X : am_X) (I : Nat → Nat → Int32) (J : Nat → Nat → Int64) (x1 : Int32) (x2 : Int32) : am_do X 309 [.ref 139, .int x1, .int x2] (am_sh I J) = am_ev X amP_309 0 [.ref 139, .int x1, .int x2] [] (am_sh I J) := am_do_of rfl rfl rfl
set_option maxRecDepth 10000 in
theorem sg_309_3 (X : am_X) (I : Nat → Nat → Int32) (J : Nat → Nat → Int64) (x1 : Int32) (x2 : Int32) (x3 : Int32) : am_ev X amP_309 3 [.ref 139, .int x1, .int x2] [.int x3] (am_sh I J) = (if ¬ ((x3 >>> (x1 &&& 31)) &&& (1 : Int32)) = (1 : Int32) then some (some (.int (0 : Int32)), am_sh I J) else some (some (.int (1 : Int32)), am_sh I J)) := by
  refine (ev_iload rfl rfl).trans ?_
  refine (ev_ishr rfl).trans ?_
  refine (ev_const0 (v := (1 : Int32)) rfl am_ci_1).trans ?_
  refine (ev_iand rfl).trans ?_
  refine (ev_const0 (v := (1 : Int32)) rfl am_ci_1).trans ?_
  refine (ev_icmp1 rfl).trans (am_ite (fun c1 => ?_) (fun c1 => ?_))
  · refine (ev_const0 (v := (0 : Int32)) rfl am_ci_0).trans ?_
    exact ev_zret rfl (by decide)
  · refine (ev_const0 (v := (1 : Int32)) rfl am_ci_1).trans ?_
    refine (ev_goto rfl).trans ?_
    exact ev_zret rfl (by decide)
-- 310 X12_odds
set_option maxRecDepth 10000 in
theorem sg_310_e0 (X : am_X) (I : Nat → Nat → Int32) (J : Nat → Nat → Int64) (x1 : Int32) (x2 : Int32) : am_ev X amP_310 0 [.ref 139, .int x1, .int x2, .null, .null, .null] [] (am_sh I J) = (am_do X 256 [.ref 139, .int x1] (am_sh I J)).bind (fun q => am_ev X amP_310 3 [.ref 139, .int x1, .int x2, .null, .null, .null] (q.1.toList ++ []) q.2) := by
  refine (ev_aload rfl rfl).trans ?_
  refine (ev_iload rfl rfl).trans ?_
  exact ev_invv (as := [.int x1]) rfl (by decide) am_K_139 rfl (by simp [Value.category])
theorem cl_310 (X : am_X) (I : Nat → Nat → Int32) (J : Nat → Nat → Int64) (x1 : Int32) (x2 : Int32) : am_do X 310 [.ref 139, .int x1, .int x2] (am_sh I J) = am_ev X amP_310 0 [.ref 139, .int x1, .int x2, .null, .null, .null] [] (am_sh I J) := am_do_of rfl rfl rfl
set_option maxRecDepth 10000 in
theorem sg_310_3 (X : am_X) (I : Nat → Nat → Int32) (J : Nat → Nat → Int64) (x1 : Int32) (x2 : Int32) (w3 : Value) (w4 : Value) (w5 : Value) (x6 : Int32) (hw3 : w3.category = 1) (hw4 : w4.category = 1) (hw5 : w5.category = 1) : am_ev X amP_310 3 [.ref 139, .int x1, .int x2, w3, w4, w5] [.int x6] (am_sh I J) = (if x6 = 0 then some (some (.int (-1 : Int32)), am_sh I J) else (am_do X 243 [.ref 139, .int x1] (am_sh I J)).bind (fun q => am_ev X amP_310 7 [.ref 139, .int x1, .int x2, w3, w4, w5] (q.1.toList ++ []) q.2)) := by
  refine (ev_if0 rfl).trans (am_ite (fun c1 => ?_) (fun c1 => ?_))
  · refine (ev_const0 (v := (-1 : Int32)) rfl am_ci_m1).trans ?_
    exact ev_iret rfl
  · refine (ev_aload rfl rfl).trans ?_
    refine (ev_iload rfl rfl).trans ?_
    exact ev_invv (as := [.int x1]) rfl (by decide) am_K_139 rfl (by simp [Value.category])
set_option maxRecDepth 10000 in
theorem sg_310_7 (X : am_X) (I : Nat → Nat → Int32) (J : Nat → Nat → Int64) (x1 : Int32) (x2 : Int32) (w3 : Value) (w4 : Value) (w5 : Value) (x6 : Int32) (hw3 : w3.category = 1) (hw4 : w4.category = 1) (hw5 : w5.category = 1) : am_ev X amP_310 7 [.ref 139, .int x1, .int x2, w3, w4, w5] [.int x6] (am_sh I J) = (if x6 = 0 then some (some (.int (-1 : Int32)), am_sh I J) else (am_do X 214 [.int x2, .int (1 : Int32), .int (400 : Int32)] (am_sh I J)).bind (fun q => am_ev X amP_310 12 [.ref 139, .int x1, .int x2, w3, w4, w5] (q.1.toList ++ []) q.2)) := by
  refine (ev_if0 rfl).trans (am_ite (fun c1 => ?_) (fun c1 => ?_))
  · refine (ev_const0 (v := (-1 : Int32)) rfl am_ci_m1).trans ?_
    exact ev_iret rfl
  · refine (ev_iload rfl rfl).trans ?_
    refine (ev_const0 (v := (1 : Int32)) rfl am_ci_1).trans ?_
    refine (ev_const2 (v := (400 : Int32)) rfl am_ci_400).trans ?_
    exact ev_invs (as := [.int (400 : Int32), .int (1 : Int32), .int x2]) rfl rfl (by simp [Value.category])
set_option maxRecDepth 10000 in
theorem sg_310_12 (X : am_X) (I : Nat → Nat → Int32) (J : Nat → Nat → Int64) (x1 : Int32) (x2 : Int32) (w3 : Value) (w4 : Value) (w5 : Value) (x6 : Int32) (hw3 : w3.category = 1) (hw4 : w4.category = 1) (hw5 : w5.category = 1) : am_ev X amP_310 12 [.ref 139, .int x1, .int x2, w3, w4, w5] [.int x6] (am_sh I J) = (if ¬ x6 = 0 then (am_do X 241 [.ref 139, .int x1, .int (2 : Int32)] (am_sh I J)).bind (fun q => am_ev X amP_310 19 [.ref 139, .int x1, .int x2, w3, w4, w5] (q.1.toList ++ []) q.2) else some (some (.int (-1 : Int32)), am_sh I J)) := by
  refine (ev_if1 rfl).trans (am_ite (fun c1 => ?_) (fun c1 => ?_))
  · refine (ev_aload rfl rfl).trans ?_
    refine (ev_iload rfl rfl).trans ?_
    refine (ev_const0 (v := (2 : Int32)) rfl am_ci_2).trans ?_
    exact ev_invv (as := [.int (2 : Int32), .int x1]) rfl (by decide) am_K_139 rfl (by simp [Value.category])
  · refine (ev_const0 (v := (-1 : Int32)) rfl am_ci_m1).trans ?_
    exact ev_iret rfl
set_option maxRecDepth 10000 in
theorem sg_310_19 (X : am_X) (I : Nat → Nat → Int32) (J : Nat → Nat → Int64) (x1 : Int32) (x2 : Int32) (w3 : Value) (w4 : Value) (w5 : Value) (x6 : Int32) (hw3 : w3.category = 1) (hw4 : w4.category = 1) (hw5 : w5.category = 1) : am_ev X amP_310 19 [.ref 139, .int x1, .int x2, w3, w4, w5] [.int x6] (am_sh I J) = am_ev X amP_310 24 [.ref 139, .int x1, .int x2, .int x6, .int (0 : Int32), .int (0 : Int32)] [] (am_sh I J) := by
  refine (ev_istore (ls' := [.ref 139, .int x1, .int x2, .int x6, w4, w5]) rfl (Nat.le_of_ble_eq_true rfl) rfl).trans ?_
  refine (ev_const0 (v := (0 : Int32)) rfl am_ci_0).trans ?_
  refine (ev_istore (ls' := [.ref 139, .int x1, .int x2, .int x6, .int (0 : Int32), w5]) rfl (Nat.le_of_ble_eq_true rfl) rfl).trans ?_
  refine (ev_const0 (v := (0 : Int32)) rfl am_ci_0).trans ?_
  refine (ev_istore (ls' := [.ref 139, .int x1, .int x2, .int x6, .int (0 : Int32), .int (0 : Int32)]) rfl (Nat.le_of_ble_eq_true rfl) rfl).trans ?_
  rfl
set_option maxRecDepth 10000 in
theorem sg_310_24 (X : am_X) (I : Nat → Nat → Int32) (J : Nat → Nat → Int64) (x1 : Int32) (x2 : Int32) (x3 : Int32) (x4 : Int32) (x5 : Int32) : am_ev X amP_310 24 [.ref 139, .int x1, .int x2, .int x3, .int x4, .int x5] [] (am_sh I J) = (if x1 < 0 ∨ 10 ≤ x1.toNatClampNeg then none else (if (I 140 x1.toNatClampNeg) ≤ x5 then (am_do X 294 [.ref 139, .int x1, .int x3] (am_sh I J)).bind (fun q => am_ev X amP_310 51 [.ref 139, .int x1, .int x2, .int x3, .int x4, .int x5] (q.1.toList ++ []) q.2) else (am_do X 294 [.ref 139, .int x1, .int x5] (am_sh I J)).bind (fun q => am_ev X amP_310 34 [.ref 139, .int x1, .int x2, .int x3, .int x4, .int x5] (q.1.toList ++ []) q.2))) := by
  refine (ev_iload rfl rfl).trans ?_
  refine (ev_aload rfl rfl).trans ?_
  refine (ev_getR rfl (by decide) am_K_139 (by decide) rfl am_R_139_3).trans ?_
  refine (ev_iload rfl rfl).trans ?_
  refine (ev_iald rfl (by decide) am_K_140).trans (am_itn (fun g1 => ?_))
  refine (ev_icmp3 rfl).trans (am_ite (fun c2 => ?_) (fun c2 => ?_))
  · refine (ev_aload rfl rfl).trans ?_
    refine (ev_iload rfl rfl).trans ?_
    refine (ev_iload rfl rfl).trans ?_
    exact ev_invv (as := [.int x3, .int x1]) rfl (by decide) am_K_139 rfl (by simp [Value.category])
  · refine (ev_aload rfl rfl).trans ?_
    refine (ev_iload rfl rfl).trans ?_
    refine (ev_iload rfl rfl).trans ?_
    exact ev_invv (as := [.int x5, .int x1]) rfl (by decide) am_K_139 rfl (by simp [Value.category])
set_option maxRecDepth 10000 in
theorem sg_310_34 (X : am_X) (I : Nat → Nat → Int32) (J : Nat → Nat → Int64) (x1 : Int32) (x2 : Int32) (x3 : Int32) (x4 : Int32) (x5 : Int32) : am_ev X amP_310 34 [.ref 139, .int x1, .int x2, .int x3, .int x4, .int x5] [] (am_sh I J) = (am_do X 309 [.ref 139, .int x1, .int x2] (am_sh I J)).bind (fun q => am_ev X amP_310 39 [.ref 139, .int x1, .int x2, .int x3, .int x4, .int x5] (q.1.toList ++ [.int x4]) q.2) := by
  refine (ev_iload rfl rfl).trans ?_
  refine (ev_aload rfl rfl).trans ?_
  refine (ev_iload rfl rfl).trans ?_
  refine (ev_iload rfl rfl).trans ?_
  exact ev_invv (as := [.int x2, .int x1]) rfl (by decide) am_K_139 rfl (by simp [Value.category])
set_option maxRecDepth 10000 in
theorem sg_310_39 (X : am_X) (I : Nat → Nat → Int32) (J : Nat → Nat → Int64) (x1 : Int32) (x2 : Int32) (x3 : Int32) (x4 : Int32) (x5 : Int32) (x6 : Int32) (x7 : Int32) : am_ev X amP_310 39 [.ref 139, .int x1, .int x2, .int x3, .int x4, .int x5] [.int x7, .int x6] (am_sh I J) = (if x7 = 0 then am_ev X amP_310 24 [.ref 139, .int x1, .int x2, .int x3, .int (x6 + (0 : Int32)), .int (x5 + (1 : Int32))] [] (am_sh I J) else am_ev X amP_310 24 [.ref 139, .int x1, .int x2, .int x3, .int (x6 + (1 : Int32)), .int (x5 + (1 : Int32))] [] (am_sh I J)) := by
  refine (ev_if0 rfl).trans (am_ite (fun c1 => ?_) (fun c1 => ?_))
  · refine (ev_const0 (v := (0 : Int32)) rfl am_ci_0).trans ?_
    refine (ev_iadd rfl).trans ?_
    refine (ev_istore (ls' := [.ref 139, .int x1, .int x2, .int x3, .int (x6 + (0 : Int32)), .int x5]) rfl (Nat.le_of_ble_eq_true rfl) rfl).trans ?_
    refine (ev_iincv (v := (1 : Int32)) (ls' := [.ref 139, .int x1, .int x2, .int x3, .int (x6 + (0 : Int32)), .int (x5 + (1 : Int32))]) rfl am_ci_1 rfl rfl).trans ?_
    refine (ev_goto rfl).trans ?_
    rfl
  · refine (ev_const0 (v := (1 : Int32)) rfl am_ci_1).trans ?_
    refine (ev_goto rfl).trans ?_
    refine (ev_iadd rfl).trans ?_
    refine (ev_istore (ls' := [.ref 139, .int x1, .int x2, .int x3, .int (x6 + (1 : Int32)), .int x5]) rfl (Nat.le_of_ble_eq_true rfl) rfl).trans ?_
    refine (ev_iincv (v := (1 : Int32)) (ls' := [.ref 139, .int x1, .int x2, .int x3, .int (x6 + (1 : Int32)), .int (x5 + (1 : Int32))]) rfl am_ci_1 rfl rfl).trans ?_
    refine (ev_goto rfl).trans ?_
    rfl
set_option maxRecDepth 10000 in
theorem sg_310_51 (X : am_X) (I : Nat → Nat → Int32) (J : Nat → Nat → Int64) (x1 : Int32) (x2 : Int32) (x3 : Int32) (x4 : Int32) (x5 : Int32) : am_ev X amP_310 51 [.ref 139, .int x1, .int x2, .int x3, .int x4, .int x5] [] (am_sh I J) = some (some (.int x4), am_sh I J) := by
  refine (ev_iload rfl rfl).trans ?_
  exact ev_iret rfl
-- 311 X12_costOf
set_option maxRecDepth 10000 in
theorem sg_311_e0 (X : am_X) (I : Nat → Nat → Int32) (J : Nat → Nat → Int64) (x1 : Int32) (x2 : Int32) (x3 : Int32) : am_ev X amP_311 0 [.ref 139, .int x1, .int x2, .int x3] [] (am_sh I J) = (if (2 : Int32) ≤ x2 then (if (4 : Int32) ≤ x2 then some (some (.int ((3 : Int32) * x3)), am_sh I J) else some (some (.int ((2 : Int32) * x3)), am_sh I J)) else (if x1 < 0 ∨ 10 ≤ x1.toNatClampNeg then none else (am_do X 215 [.int x3, .int ((I 140 x1.toNatClampNeg) - x3)] (am_sh I J)).bind (fun q => am_ev X amP_311 11 [.ref 139, .int x1, .int x2, .int x3] (q.1.toList ++ []) q.2))) := by
  refine (ev_iload rfl rfl).trans ?_
  refine (ev_const0 (v := (2 : Int32)) rfl am_ci_2).trans ?_
  refine (ev_icmp3 rfl).trans (am_ite (fun c1 => ?_) (fun c1 => ?_))
  · refine (ev_iload rfl rfl).trans ?_
    refine (ev_const0 (v := (4 : Int32)) rfl am_ci_4).trans ?_
    refine (ev_icmp3 rfl).trans (am_ite (fun c2 => ?_) (fun c2 => ?_))
    · refine (ev_const0 (v := (3 : Int32)) rfl am_ci_3).trans ?_
      refine (ev_iload rfl rfl).trans ?_
      refine (ev_imul rfl).trans ?_
      exact ev_iret rfl
    · refine (ev_const0 (v := (2 : Int32)) rfl am_ci_2).trans ?_
      refine (ev_iload rfl rfl).trans ?_
      refine (ev_imul rfl).trans ?_
      refine (ev_goto rfl).trans ?_
      exact ev_iret rfl
  · refine (ev_iload rfl rfl).trans ?_
    refine (ev_aload rfl rfl).trans ?_
    refine (ev_getR rfl (by decide) am_K_139 (by decide) rfl am_R_139_3).trans ?_
    refine (ev_iload rfl rfl).trans ?_
    refine (ev_iald rfl (by decide) am_K_140).trans (am_itn (fun g2 => ?_))
    refine (ev_iload rfl rfl).trans ?_
    refine (ev_isub rfl).trans ?_
    exact ev_invs (as := [.int ((I 140 x1.toNatClampNeg) - x3), .int x3]) rfl rfl (by simp [Value.category])
theorem cl_311 (X : am_X) (I : Nat → Nat → Int32) (J : Nat → Nat → Int64) (x1 : Int32) (x2 : Int32) (x3 : Int32) : am_do X 311 [.ref 139, .int x1, .int x2, .int x3] (am_sh I J) = am_ev X amP_311 0 [.ref 139, .int x1, .int x2, .int x3] [] (am_sh I J) := am_do_of rfl rfl rfl
set_option maxRecDepth 10000 in
theorem sg_311_11 (X : am_X) (I : Nat → Nat → Int32) (J : Nat → Nat → Int64) (x1 : Int32) (x2 : Int32) (x3 : Int32) (x4 : Int32) : am_ev X amP_311 11 [.ref 139, .int x1, .int x2, .int x3] [.int x4] (am_sh I J) = some (some (.int x4), am_sh I J) := by
  refine (ev_goto rfl).trans ?_
  exact ev_iret rfl
-- 312 X12_canBurn
set_option maxRecDepth 10000 in
theorem sg_312_e0 (X : am_X) (I : Nat → Nat → Int32) (J : Nat → Nat → Int64) (x1 : Int32) (x2 : Int32) (x3 : Int32) : am_ev X amP_312 0 [.ref 139, .int x1, .int x2, .int x3, .null] [] (am_sh I J) = (am_do X 214 [.int x2, .int (0 : Int32), .int (5 : Int32)] (am_sh I J)).bind (fun q => am_ev X amP_312 4 [.ref 139, .int x1, .int x2, .int x3, .null] (q.1.toList ++ []) q.2) := by
  refine (ev_iload rfl rfl).trans ?_
  refine (ev_const0 (v := (0 : Int32)) rfl am_ci_0).trans ?_
  refine (ev_const0 (v := (5 : Int32)) rfl am_ci_5).trans ?_
  exact ev_invs (as := [.int (5 : Int32), .int (0 : Int32), .int x2]) rfl rfl (by simp [Value.category])
theorem cl_312 (X : am_X) (I : Nat → Nat → Int32) (J : Nat → Nat → Int64) (x1 : Int32) (x2 : Int32) (x3 : Int32) : am_do X 312 [.ref 139, .int x1, .int x2, .int x3] (am_sh I J) = am_ev X amP_312 0 [.ref 139, .int x1, .int x2, .int x3, .null] [] (am_sh I J) := am_do_of rfl rfl rfl
set_option maxRecDepth 10000 in
theorem sg_312_4 (X : am_X) (I : Nat → Nat → Int32) (J : Nat → Nat → Int64) (x1 : Int32) (x2 : Int32) (x3 : Int32) (w4 : Value) (x5 : Int32) (hw4 : w4.category = 1) : am_ev X amP_312 4 [.ref 139, .int x1, .int x2, .int x3, w4] [.int x5] (am_sh I J) = (if x5 = 0 then some (some (.int (0 : Int32)), am_sh I J) else (am_do X 214 [.int x3, .int (1 : Int32), .int (200 : Int32)] (am_sh I J)).bind (fun q => am_ev X amP_312 9 [.ref 139, .int x1, .int x2, .int x3, w4] (q.1.toList ++ []) q.2)) := by
  refine (ev_if0 rfl).trans (am_ite (fun c1 => ?_) (fun c1 => ?_))
  · refine (ev_const0 (v := (0 : Int32)) rfl am_ci_0).trans ?_
    exact ev_zret rfl (by decide)
  · refine (ev_iload rfl rfl).trans ?_
    refine (ev_const0 (v := (1 : Int32)) rfl am_ci_1).trans ?_
    refine (ev_const2 (v := (200 : Int32)) rfl am_ci_200).trans ?_
    exact ev_invs (as := [.int (200 : Int32), .int (1 : Int32), .int x3]) rfl rfl (by simp [Value.category])
set_option maxRecDepth 10000 in
theorem sg_312_9 (X : am_X) (I : Nat → Nat → Int32) (J : Nat → Nat → Int64) (x1 : Int32) (x2 : Int32) (x3 : Int32) (w4 : Value) (x5 : Int32) (hw4 : w4.category = 1) : am_ev X amP_312 9 [.ref 139, .int x1, .int x2, .int x3, w4] [.int x5] (am_sh I J) = (if x5 = 0 then some (some (.int (0 : Int32)), am_sh I J) else (if (2 : Int32) ≤ x2 then (if x2 < (2 : Int32) then (am_do X 311 [.ref 139, .int x1, .int x2, .int x3] (am_sh I J)).bind (fun q => am_ev X amP_312 78 [.ref 139, .int x1, .int x2, .int x3, .int (1 : Int32)] (q.1.toList ++ []) q.2) else (if ¬ x2 = (2 : Int32) then (if ¬ x2 = (3 : Int32) then (if ¬ x2 = (4 : Int32) then (if ¬ x2 = (5 : Int32) then some (some (.int (0 : Int32)), am_sh I J) else (am_do X 241 [.ref 139, .int x1, .int (4 : Int32)] (am_sh I J)).bind (fun q => am_ev X amP_312 64 [.ref 139, .int x1, .int x2, .int x3, w4] (q.1.toList ++ []) q.2)) else (am_do X 241 [.ref 139, .int x1, .int (4 : Int32)] (am_sh I J)).bind (fun q => am_ev X amP_312 53 [.ref 139, .int x1, .int x2, .int x3, w4] (q.1.toList ++ []) q.2)) else (am_do X 241 [.ref 139, .int x1, .int (0 : Int32)] (am_sh I J)).bind (fun q => am_ev X amP_312 42 [.ref 139, .int x1, .int x2, .int x3, w4] (q.1.toList ++ []) q.2)) else (am_do X 241 [.ref 139, .int x1, .int (1 : Int32)] (am_sh I J)).bind (fun q => am_ev X amP_312 31 [.ref 139, .int x1, .int x2, .int x3, w4] (q.1.toList ++ []) q.2))) else (if x1 < 0 ∨ 10 ≤ x1.toNatClampNeg then none else (if x3 < (I 140 x1.toNatClampNeg) then (if x2 < (2 : Int32) then (am_do X 311 [.ref 139, .int x1, .int x2, .int x3] (am_sh I J)).bind (fun q => am_ev X amP_312 78 [.ref 139, .int x1, .int x2, .int x3, .int (1 : Int32)] (q.1.toList ++ []) q.2) else (if ¬ x2 = (2 : Int32) then (if ¬ x2 = (3 : Int32) then (if ¬ x2 = (4 : Int32) then (if ¬ x2 = (5 : Int32) then some (some (.int (0 : Int32)), am_sh I J) else (am_do X 241 [.ref 139, .int x1, .int (4 : Int32)] (am_sh I J)).bind (fun q => am_ev X amP_312 64 [.ref 139, .int x1, .int x2, .int x3, w4] (q.1.toList ++ []) q.2)) else (am_do X 241 [.ref 139, .int x1, .int (4 : Int32)] (am_sh I J)).bind (fun q => am_ev X amP_312 53 [.ref 139, .int x1, .int x2, .int x3, w4] (q.1.toList ++ []) q.2)) else (am_do X 241 [.ref 139, .int x1, .int (0 : Int32)] (am_sh I J)).bind (fun q => am_ev X amP_312 42 [.ref 139, .int x1, .int x2, .int x3, w4] (q.1.toList ++ []) q.2)) else (am_do X 241 [.ref 139, .int x1, .int (1 : Int32)] (am_sh I J)).bind (fun q => am_ev X amP_312 31 [.ref 139, .int x1, .int x2, .int x3, w4] (q.1.toList ++ []) q.2))) else some (some (.int (0 : Int32)), am_sh I J))))) := by
  refine (ev_if0 rfl).trans (am_ite (fun c1 => ?_) (fun c1 => ?_))
  · refine (ev_const0 (v := (0 : Int32)) rfl am_ci_0).trans ?_
    exact ev_zret rfl (by decide)
  · refine (ev_iload rfl rfl).trans ?_
    refine (ev_const0 (v := (2 : Int32)) rfl am_ci_2).trans ?_
    refine (ev_icmp3 rfl).trans (am_ite (fun c2 => ?_) (fun c2 => ?_))
    · refine (ev_iload rfl rfl).trans ?_
      refine (ev_const0 (v := (2 : Int32)) rfl am_ci_2).trans ?_
      refine (ev_icmp2 rfl).trans (am_ite (fun c3 => ?_) (fun c3 => ?_))
      · refine (ev_const0 (v := (1 : Int32)) rfl am_ci_1).trans ?_
        refine (ev_goto rfl).trans ?_
        refine (ev_istore (ls' := [.ref 139, .int x1, .int x2, .int x3, .int (1 : Int32)]) rfl (Nat.le_of_ble_eq_true rfl) rfl).trans ?_
        refine (ev_iload rfl rfl).trans ?_
        refine ((ev_if0 rfl).trans (if_neg (by decide))).trans ?_
        refine (ev_aload rfl rfl).trans ?_
        refine (ev_iload rfl rfl).trans ?_
        refine (ev_iload rfl rfl).trans ?_
        refine (ev_iload rfl rfl).trans ?_
        exact ev_invv (as := [.int x3, .int x2, .int x1]) rfl (by decide) am_K_139 rfl (by simp [Value.category])
      · refine (ev_iload rfl rfl).trans ?_
        refine (ev_const0 (v := (2 : Int32)) rfl am_ci_2).trans ?_
        refine (ev_icmp1 rfl).trans (am_ite (fun c4 => ?_) (fun c4 => ?_))
        · refine (ev_iload rfl rfl).trans ?_
          refine (ev_const0 (v := (3 : Int32)) rfl am_ci_3).trans ?_
          refine (ev_icmp1 rfl).trans (am_ite (fun c5 => ?_) (fun c5 => ?_))
          · refine (ev_iload rfl rfl).trans ?_
            refine (ev_const0 (v := (4 : Int32)) rfl am_ci_4).trans ?_
            refine (ev_icmp1 rfl).trans (am_ite (fun c6 => ?_) (fun c6 => ?_))
            · refine (ev_iload rfl rfl).trans ?_
              refine (ev_const0 (v := (5 : Int32)) rfl am_ci_5).trans ?_
              refine (ev_icmp1 rfl).trans (am_ite (fun c7 => ?_) (fun c7 => ?_))
              · refine (ev_const0 (v := (0 : Int32)) rfl am_ci_0).trans ?_
                refine (ev_istore (ls' := [.ref 139, .int x1, .int x2, .int x3, .int (0 : Int32)]) rfl (Nat.le_of_ble_eq_true rfl) rfl).trans ?_
                refine (ev_iload rfl rfl).trans ?_
                refine ((ev_if0 rfl).trans (if_pos (by decide))).trans ?_
                refine (ev_const0 (v := (0 : Int32)) rfl am_ci_0).trans ?_
                exact ev_zret rfl (by decide)
              · refine (ev_aload rfl rfl).trans ?_
                refine (ev_iload rfl rfl).trans ?_
                refine (ev_const0 (v := (4 : Int32)) rfl am_ci_4).trans ?_
                exact ev_invv (as := [.int (4 : Int32), .int x1]) rfl (by decide) am_K_139 rfl (by simp [Value.category])
            · refine (ev_aload rfl rfl).trans ?_
              refine (ev_iload rfl rfl).trans ?_
              refine (ev_const0 (v := (4 : Int32)) rfl am_ci_4).trans ?_
              exact ev_invv (as := [.int (4 : Int32), .int x1]) rfl (by decide) am_K_139 rfl (by simp [Value.category])
          · refine (ev_aload rfl rfl).trans ?_
            refine (ev_iload rfl rfl).trans ?_
            refine (ev_const0 (v := (0 : Int32)) rfl am_ci_0).trans ?_
            exact ev_invv (as := [.int (0 : Int32), .int x1]) rfl (by decide) am_K_139 rfl (by simp [Value.category])
        · refine (ev_aload rfl rfl).trans ?_
          refine (ev_iload rfl rfl).trans ?_
          refine (ev_const0 (v := (1 : Int32)) rfl am_ci_1).trans ?_
          exact ev_invv (as := [.int (1 : Int32), .int x1]) rfl (by decide) am_K_139 rfl (by simp [Value.category])
    · refine (ev_iload rfl rfl).trans ?_
      refine (ev_aload rfl rfl).trans ?_
      refine (ev_getR rfl (by decide) am_K_139 (by decide) rfl am_R_139_3).trans ?_
      refine (ev_iload rfl rfl).trans ?_
      refine (ev_iald rfl (by decide) am_K_140).trans (am_itn (fun g3 => ?_))
      refine (ev_icmp2 rfl).trans (am_ite (fun c4 => ?_) (fun c4 => ?_))
      · refine (ev_iload rfl rfl).trans ?_
        refine (ev_const0 (v := (2 : Int32)) rfl am_ci_2).trans ?_
        refine (ev_icmp2 rfl).trans (am_ite (fun c5 => ?_) (fun c5 => ?_))
        · refine (ev_const0 (v := (1 : Int32)) rfl am_ci_1).trans ?_
          refine (ev_goto rfl).trans ?_
          refine (ev_istore (ls' := [.ref 139, .int x1, .int x2, .int x3, .int (1 : Int32)]) rfl (Nat.le_of_ble_eq_true rfl) rfl).trans ?_
          refine (ev_iload rfl rfl).trans ?_
          refine ((ev_if0 rfl).trans (if_neg (by decide))).trans ?_
          refine (ev_aload rfl rfl).trans ?_
          refine (ev_iload rfl rfl).trans ?_
          refine (ev_iload rfl rfl).trans ?_
          refine (ev_iload rfl rfl).trans ?_
          exact ev_invv (as := [.int x3, .int x2, .int x1]) rfl (by decide) am_K_139 rfl (by simp [Value.category])
        · refine (ev_iload rfl rfl).trans ?_
          refine (ev_const0 (v := (2 : Int32)) rfl am_ci_2).trans ?_
          refine (ev_icmp1 rfl).trans (am_ite (fun c6 => ?_) (fun c6 => ?_))
          · refine (ev_iload rfl rfl).trans ?_
            refine (ev_const0 (v := (3 : Int32)) rfl am_ci_3).trans ?_
            refine (ev_icmp1 rfl).trans (am_ite (fun c7 => ?_) (fun c7 => ?_))
            · refine (ev_iload rfl rfl).trans ?_
              refine (ev_const0 (v := (4 : Int32)) rfl am_ci_4).trans ?_
              refine (ev_icmp1 rfl).trans (am_ite (fun c8 => ?_) (fun c8 => ?_))
              · refine (ev_iload rfl rfl).trans ?_
                refine (ev_const0 (v := (5 : Int32)) rfl am_ci_5).trans ?_
                refine (ev_icmp1 rfl).trans (am_ite (fun c9 => ?_) (fun c9 => ?_))
                · refine (ev_const0 (v := (0 : Int32)) rfl am_ci_0).trans ?_
                  refine (ev_istore (ls' := [.ref 139, .int x1, .int x2, .int x3, .int (0 : Int32)]) rfl (Nat.le_of_ble_eq_true rfl) rfl).trans ?_
                  refine (ev_iload rfl rfl).trans ?_
                  refine ((ev_if0 rfl).trans (if_pos (by decide))).trans ?_
                  refine (ev_const0 (v := (0 : Int32)) rfl am_ci_0).trans ?_
                  exact ev_zret rfl (by decide)
                · refine (ev_aload rfl rfl).trans ?_
                  refine (ev_iload rfl rfl).trans ?_
                  refine (ev_const0 (v := (4 : Int32)) rfl am_ci_4).trans ?_
                  exact ev_invv (as := [.int (4 : Int32), .int x1]) rfl (by decide) am_K_139 rfl (by simp [Value.category])
              · refine (ev_aload rfl rfl).trans ?_
                refine (ev_iload rfl rfl).trans ?_
                refine (ev_const0 (v := (4 : Int32)) rfl am_ci_4).trans ?_
                exact ev_invv (as := [.int (4 : Int32), .int x1]) rfl (by decide) am_K_139 rfl (by simp [Value.category])
            · refine (ev_aload rfl rfl).trans ?_
              refine (ev_iload rfl rfl).trans ?_
              refine (ev_const0 (v := (0 : Int32)) rfl am_ci_0).trans ?_
              exact ev_invv (as := [.int (0 : Int32), .int x1]) rfl (by decide) am_K_139 rfl (by simp [Value.category])
          · refine (ev_aload rfl rfl).trans ?_
            refine (ev_iload rfl rfl).trans ?_
            refine (ev_const0 (v := (1 : Int32)) rfl am_ci_1).trans ?_
            exact ev_invv (as := [.int (1 : Int32), .int x1]) rfl (by decide) am_K_139 rfl (by simp [Value.category])
      · refine (ev_const0 (v := (0 : Int32)) rfl am_ci_0).trans ?_
        exact ev_zret rfl (by decide)
set_option maxRecDepth 10000 in
theorem sg_312_31 (X : am_X) (I : Nat → Nat → Int32) (J : Nat → Nat → Int64) (x1 : Int32) (x2 : Int32) (x3 : Int32) (w4 : Value) (x5 : Int32) (hw4 : w4.category = 1) : am_ev X amP_312 31 [.ref 139, .int x1, .int x2, .int x3, w4] [.int x5] (am_sh I J) = (if (x5 + x3) ≤ (200 : Int32) then (am_do X 311 [.ref 139, .int x1, .int x2, .int x3] (am_sh I J)).bind (fun q => am_ev X amP_312 78 [.ref 139, .int x1, .int x2, .int x3, .int (1 : Int32)] (q.1.toList ++ []) q.2) else (if ¬ x2 = (3 : Int32) then (if ¬ x2 = (4 : Int32) then (if ¬ x2 = (5 : Int32) then some (some (.int (0 : Int32)), am_sh I J) else (am_do X 241 [.ref 139, .int x1, .int (4 : Int32)] (am_sh I J)).bind (fun q => am_ev X amP_312 64 [.ref 139, .int x1, .int x2, .int x3, w4] (q.1.toList ++ []) q.2)) else (am_do X 241 [.ref 139, .int x1, .int (4 : Int32)] (am_sh I J)).bind (fun q => am_ev X amP_312 53 [.ref 139, .int x1, .int x2, .int x3, w4] (q.1.toList ++ []) q.2)) else (am_do X 241 [.ref 139, .int x1, .int (0 : Int32)] (am_sh I J)).bind (fun q => am_ev X amP_312 42 [.ref 139, .int x1, .int x2, .int x3, w4] (q.1.toList ++ []) q.2))) := by
  refine (ev_iload rfl rfl).trans ?_
  refine (ev_iadd rfl).trans ?_
  refine (ev_const2 (v := (200 : Int32)) rfl am_ci_200).trans ?_
  refine (ev_icmp5 rfl).trans (am_ite (fun c1 => ?_) (fun c1 => ?_))
  · refine (ev_const0 (v := (1 : Int32)) rfl am_ci_1).trans ?_
    refine (ev_goto rfl).trans ?_
    refine (ev_istore (ls' := [.ref 139, .int x1, .int x2, .int x3, .int (1 : Int32)]) rfl (Nat.le_of_ble_eq_true rfl) rfl).trans ?_
    refine (ev_iload rfl rfl).trans ?_
    refine ((ev_if0 rfl).trans (if_neg (by decide))).trans ?_
    refine (ev_aload rfl rfl).trans ?_
    refine (ev_iload rfl rfl).trans ?_
    refine (ev_iload rfl rfl).trans ?_
    refine (ev_iload rfl rfl).trans ?_
    exact ev_invv (as := [.int x3, .int x2, .int x1]) rfl (by decide) am_K_139 rfl (by simp [Value.category])
  · refine (ev_iload rfl rfl).trans ?_
    refine (ev_const0 (v := (3 : Int32)) rfl am_ci_3).trans ?_
    refine (ev_icmp1 rfl).trans (am_ite (fun c2 => ?_) (fun c2 => ?_))
    · refine (ev_iload rfl rfl).trans ?_
      refine (ev_const0 (v := (4 : Int32)) rfl am_ci_4).trans ?_
      refine (ev_icmp1 rfl).trans (am_ite (fun c3 => ?_) (fun c3 => ?_))
      · refine (ev_iload rfl rfl).trans ?_
        refine (ev_const0 (v := (5 : Int32)) rfl am_ci_5).trans ?_
        refine (ev_icmp1 rfl).trans (am_ite (fun c4 => ?_) (fun c4 => ?_))
        · refine (ev_const0 (v := (0 : Int32)) rfl am_ci_0).trans ?_
          refine (ev_istore (ls' := [.ref 139, .int x1, .int x2, .int x3, .int (0 : Int32)]) rfl (Nat.le_of_ble_eq_true rfl) rfl).trans ?_
          refine (ev_iload rfl rfl).trans ?_
          refine ((ev_if0 rfl).trans (if_pos (by decide))).trans ?_
          refine (ev_const0 (v := (0 : Int32)) rfl am_ci_0).trans ?_
          exact ev_zret rfl (by decide)
        · refine (ev_aload rfl rfl).trans ?_
          refine (ev_iload rfl rfl).trans ?_
          refine (ev_const0 (v := (4 : Int32)) rfl am_ci_4).trans ?_
          exact ev_invv (as := [.int (4 : Int32), .int x1]) rfl (by decide) am_K_139 rfl (by simp [Value.category])
      · refine (ev_aload rfl rfl).trans ?_
        refine (ev_iload rfl rfl).trans ?_
        refine (ev_const0 (v := (4 : Int32)) rfl am_ci_4).trans ?_
        exact ev_invv (as := [.int (4 : Int32), .int x1]) rfl (by decide) am_K_139 rfl (by simp [Value.category])
    · refine (ev_aload rfl rfl).trans ?_
      refine (ev_iload rfl rfl).trans ?_
      refine (ev_const0 (v := (0 : Int32)) rfl am_ci_0).trans ?_
      exact ev_invv (as := [.int (0 : Int32), .int x1]) rfl (by decide) am_K_139 rfl (by simp [Value.category])
set_option maxRecDepth 10000 in
theorem sg_312_42 (X : am_X) (I : Nat → Nat → Int32) (J : Nat → Nat → Int64) (x1 : Int32) (x2 : Int32) (x3 : Int32) (w4 : Value) (x5 : Int32) (hw4 : w4.category = 1) : am_ev X amP_312 42 [.ref 139, .int x1, .int x2, .int x3, w4] [.int x5] (am_sh I J) = (if (1 : Int32) ≤ (x5 - x3) then (am_do X 311 [.ref 139, .int x1, .int x2, .int x3] (am_sh I J)).bind (fun q => am_ev X amP_312 78 [.ref 139, .int x1, .int x2, .int x3, .int (1 : Int32)] (q.1.toList ++ []) q.2) else (if ¬ x2 = (4 : Int32) then (if ¬ x2 = (5 : Int32) then some (some (.int (0 : Int32)), am_sh I J) else (am_do X 241 [.ref 139, .int x1, .int (4 : Int32)] (am_sh I J)).bind (fun q => am_ev X amP_312 64 [.ref 139, .int x1, .int x2, .int x3, w4] (q.1.toList ++ []) q.2)) else (am_do X 241 [.ref 139, .int x1, .int (4 : Int32)] (am_sh I J)).bind (fun q => am_ev X amP_312 53 [.ref 139, .int x1, .int x2, .int x3, w4] (q.1.toList ++ []) q.2))) := by
  refine (ev_iload rfl rfl).trans ?_
  refine (ev_isub rfl).trans ?_
  refine (ev_const0 (v := (1 : Int32)) rfl am_ci_1).trans ?_
  refine (ev_icmp3 rfl).trans (am_ite (fun c1 => ?_) (fun c1 => ?_))
  · refine (ev_const0 (v := (1 : Int32)) rfl am_ci_1).trans ?_
    refine (ev_goto rfl).trans ?_
    refine (ev_istore (ls' := [.ref 139, .int x1, .int x2, .int x3, .int (1 : Int32)]) rfl (Nat.le_of_ble_eq_true rfl) rfl).trans ?_
    refine (ev_iload rfl rfl).trans ?_
    refine ((ev_if0 rfl).trans (if_neg (by decide))).trans ?_
    refine (ev_aload rfl rfl).trans ?_
    refine (ev_iload rfl rfl).trans ?_
    refine (ev_iload rfl rfl).trans ?_
    refine (ev_iload rfl rfl).trans ?_
    exact ev_invv (as := [.int x3, .int x2, .int x1]) rfl (by decide) am_K_139 rfl (by simp [Value.category])
  · refine (ev_iload rfl rfl).trans ?_
    refine (ev_const0 (v := (4 : Int32)) rfl am_ci_4).trans ?_
    refine (ev_icmp1 rfl).trans (am_ite (fun c2 => ?_) (fun c2 => ?_))
    · refine (ev_iload rfl rfl).trans ?_
      refine (ev_const0 (v := (5 : Int32)) rfl am_ci_5).trans ?_
      refine (ev_icmp1 rfl).trans (am_ite (fun c3 => ?_) (fun c3 => ?_))
      · refine (ev_const0 (v := (0 : Int32)) rfl am_ci_0).trans ?_
        refine (ev_istore (ls' := [.ref 139, .int x1, .int x2, .int x3, .int (0 : Int32)]) rfl (Nat.le_of_ble_eq_true rfl) rfl).trans ?_
        refine (ev_iload rfl rfl).trans ?_
        refine ((ev_if0 rfl).trans (if_pos (by decide))).trans ?_
        refine (ev_const0 (v := (0 : Int32)) rfl am_ci_0).trans ?_
        exact ev_zret rfl (by decide)
      · refine (ev_aload rfl rfl).trans ?_
        refine (ev_iload rfl rfl).trans ?_
        refine (ev_const0 (v := (4 : Int32)) rfl am_ci_4).trans ?_
        exact ev_invv (as := [.int (4 : Int32), .int x1]) rfl (by decide) am_K_139 rfl (by simp [Value.category])
    · refine (ev_aload rfl rfl).trans ?_
      refine (ev_iload rfl rfl).trans ?_
      refine (ev_const0 (v := (4 : Int32)) rfl am_ci_4).trans ?_
      exact ev_invv (as := [.int (4 : Int32), .int x1]) rfl (by decide) am_K_139 rfl (by simp [Value.category])
set_option maxRecDepth 10000 in
theorem sg_312_53 (X : am_X) (I : Nat → Nat → Int32) (J : Nat → Nat → Int64) (x1 : Int32) (x2 : Int32) (x3 : Int32) (w4 : Value) (x5 : Int32) (hw4 : w4.category = 1) : am_ev X amP_312 53 [.ref 139, .int x1, .int x2, .int x3, w4] [.int x5] (am_sh I J) = (if (x5 + x3) ≤ (16 : Int32) then (am_do X 311 [.ref 139, .int x1, .int x2, .int x3] (am_sh I J)).bind (fun q => am_ev X amP_312 78 [.ref 139, .int x1, .int x2, .int x3, .int (1 : Int32)] (q.1.toList ++ []) q.2) else (if ¬ x2 = (5 : Int32) then some (some (.int (0 : Int32)), am_sh I J) else (am_do X 241 [.ref 139, .int x1, .int (4 : Int32)] (am_sh I J)).bind (fun q => am_ev X amP_312 64 [.ref 139, .int x1, .int x2, .int x3, w4] (q.1.toList ++ []) q.2))) := by
  refine (ev_iload rfl rfl).trans ?_
  refine (ev_iadd rfl).trans ?_
  refine (ev_const1 (v := (16 : Int32)) rfl am_ci_16).trans ?_
  refine (ev_icmp5 rfl).trans (am_ite (fun c1 => ?_) (fun c1 => ?_))
  · refine (ev_const0 (v := (1 : Int32)) rfl am_ci_1).trans ?_
    refine (ev_goto rfl).trans ?_
    refine (ev_istore (ls' := [.ref 139, .int x1, .int x2, .int x3, .int (1 : Int32)]) rfl (Nat.le_of_ble_eq_true rfl) rfl).trans ?_
    refine (ev_iload rfl rfl).trans ?_
    refine ((ev_if0 rfl).trans (if_neg (by decide))).trans ?_
    refine (ev_aload rfl rfl).trans ?_
    refine (ev_iload rfl rfl).trans ?_
    refine (ev_iload rfl rfl).trans ?_
    refine (ev_iload rfl rfl).trans ?_
    exact ev_invv (as := [.int x3, .int x2, .int x1]) rfl (by decide) am_K_139 rfl (by simp [Value.category])
  · refine (ev_iload rfl rfl).trans ?_
    refine (ev_const0 (v := (5 : Int32)) rfl am_ci_5).trans ?_
    refine (ev_icmp1 rfl).trans (am_ite (fun c2 => ?_) (fun c2 => ?_))
    · refine (ev_const0 (v := (0 : Int32)) rfl am_ci_0).trans ?_
      refine (ev_istore (ls' := [.ref 139, .int x1, .int x2, .int x3, .int (0 : Int32)]) rfl (Nat.le_of_ble_eq_true rfl) rfl).trans ?_
      refine (ev_iload rfl rfl).trans ?_
      refine ((ev_if0 rfl).trans (if_pos (by decide))).trans ?_
      refine (ev_const0 (v := (0 : Int32)) rfl am_ci_0).trans ?_
      exact ev_zret rfl (by decide)
    · refine (ev_aload rfl rfl).trans ?_
      refine (ev_iload rfl rfl).trans ?_
      refine (ev_const0 (v := (4 : Int32)) rfl am_ci_4).trans ?_
      exact ev_invv (as := [.int (4 : Int32), .int x1]) rfl (by decide) am_K_139 rfl (by simp [Value.category])
set_option maxRecDepth 10000 in
theorem sg_312_64 (X : am_X) (I : Nat → Nat → Int32) (J : Nat → Nat → Int64) (x1 : Int32) (x2 : Int32) (x3 : Int32) (w4 : Value) (x5 : Int32) (hw4 : w4.category = 1) : am_ev X amP_312 64 [.ref 139, .int x1, .int x2, .int x3, w4] [.int x5] (am_sh I J) = (if (x5 - x3) < 0 then some (some (.int (0 : Int32)), am_sh I J) else (am_do X 311 [.ref 139, .int x1, .int x2, .int x3] (am_sh I J)).bind (fun q => am_ev X amP_312 78 [.ref 139, .int x1, .int x2, .int x3, .int (1 : Int32)] (q.1.toList ++ []) q.2)) := by
  refine (ev_iload rfl rfl).trans ?_
  refine (ev_isub rfl).trans ?_
  refine (ev_if2 rfl).trans (am_ite (fun c1 => ?_) (fun c1 => ?_))
  · refine (ev_const0 (v := (0 : Int32)) rfl am_ci_0).trans ?_
    refine (ev_istore (ls' := [.ref 139, .int x1, .int x2, .int x3, .int (0 : Int32)]) rfl (Nat.le_of_ble_eq_true rfl) rfl).trans ?_
    refine (ev_iload rfl rfl).trans ?_
    refine ((ev_if0 rfl).trans (if_pos (by decide))).trans ?_
    refine (ev_const0 (v := (0 : Int32)) rfl am_ci_0).trans ?_
    exact ev_zret rfl (by decide)
  · refine (ev_const0 (v := (1 : Int32)) rfl am_ci_1).trans ?_
    refine (ev_goto rfl).trans ?_
    refine (ev_istore (ls' := [.ref 139, .int x1, .int x2, .int x3, .int (1 : Int32)]) rfl (Nat.le_of_ble_eq_true rfl) rfl).trans ?_
    refine (ev_iload rfl rfl).trans ?_
    refine ((ev_if0 rfl).trans (if_neg (by decide))).trans ?_
    refine (ev_aload rfl rfl).trans ?_
    refine (ev_iload rfl rfl).trans ?_
    refine (ev_iload rfl rfl).trans ?_
    refine (ev_iload rfl rfl).trans ?_
    exact ev_invv (as := [.int x3, .int x2, .int x1]) rfl (by decide) am_K_139 rfl (by simp [Value.category])
set_option maxRecDepth 10000 in
theorem sg_312_78 (X : am_X) (I : Nat → Nat → Int32) (J : Nat → Nat → Int64) (x1 : Int32) (x2 : Int32) (x3 : Int32) (x4 : Int32) (x5 : Int32) : am_ev X amP_312 78 [.ref 139, .int x1, .int x2, .int x3, .int x4] [.int x5] (am_sh I J) = (am_do X 241 [.ref 139, .int x1, .int (5 : Int32)] (am_sh I J)).bind (fun q => am_ev X amP_312 82 [.ref 139, .int x1, .int x2, .int x3, .int x4] (q.1.toList ++ [.int x5]) q.2) := by
  refine (ev_aload rfl rfl).trans ?_
  refine (ev_iload rfl rfl).trans ?_
  refine (ev_const0 (v := (5 : Int32)) rfl am_ci_5).trans ?_
  exact ev_invv (as := [.int (5 : Int32), .int x1]) rfl (by decide) am_K_139 rfl (by simp [Value.category])
set_option maxRecDepth 10000 in
theorem sg_312_82 (X : am_X) (I : Nat → Nat → Int32) (J : Nat → Nat → Int64) (x1 : Int32) (x2 : Int32) (x3 : Int32) (x4 : Int32) (x5 : Int32) (x6 : Int32) : am_ev X amP_312 82 [.ref 139, .int x1, .int x2, .int x3, .int x4] [.int x6, .int x5] (am_sh I J) = (if x6 < x5 then some (some (.int (0 : Int32)), am_sh I J) else some (some (.int (1 : Int32)), am_sh I J)) := by
  refine (ev_icmp4 rfl).trans (am_ite (fun c1 => ?_) (fun c1 => ?_))
  · refine (ev_const0 (v := (0 : Int32)) rfl am_ci_0).trans ?_
    exact ev_zret rfl (by decide)
  · refine (ev_const0 (v := (1 : Int32)) rfl am_ci_1).trans ?_
    refine (ev_goto rfl).trans ?_
    exact ev_zret rfl (by decide)
