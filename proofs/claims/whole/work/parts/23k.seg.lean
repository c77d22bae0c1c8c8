-- 313 X12_burns
set_option maxRecDepth 10000 in
theorem sg_313_e0 (X : am_X) (I : Nat → Nat → Int32) (J : Nat → Nat → Int64) (x1 : Int32) (x2 : Int32) (x3 : Int32) : am_ev X amP_313 0 [.ref 139, .int x1, .int x2, .int x3] [] (am_sh I J) = (am_do X 241 [.ref 139, .int x1, .int (5 : Int32)] (am_sh I J)).bind (fun q => am_ev X amP_313 7 [.ref 139, .int x1, .int x2, .int x3] (q.1.toList ++ [.int (5 : Int32), .int x1, .ref 139]) q.2) := by
  refine (ev_aload rfl rfl).trans ?_
  refine (ev_iload rfl rfl).trans ?_
  refine (ev_const0 (v := (5 : Int32)) rfl am_ci_5).trans ?_
  refine (ev_aload rfl rfl).trans ?_
  refine (ev_iload rfl rfl).trans ?_
  refine (ev_const0 (v := (5 : Int32)) rfl am_ci_5).trans ?_
  exact ev_invv (as := [.int (5 : Int32), .int x1]) rfl (by decide) am_K_139 rfl (by simp [Value.category])
theorem cl_313 (X : am_X) (I : Nat → Nat → Int32) (J : Nat → Nat → Int64) (x1 : Int32) (x2 : Int32) (x3 : Int32) : am_do X 313 [.ref 139, .int x1, .int x2, .int x3] (am_sh I J) = am_ev X amP_313 0 [.ref 139, .int x1, .int x2, .int x3] [] (am_sh I J) := am_do_of rfl rfl rfl
set_option maxRecDepth 10000 in
theorem sg_313_7 (X : am_X) (I : Nat → Nat → Int32) (J : Nat → Nat → Int64) (x1 : Int32) (x2 : Int32) (x3 : Int32) (x4 : Int32) (x5 : Int32) (x6 : Int32) : am_ev X amP_313 7 [.ref 139, .int x1, .int x2, .int x3] [.int x6, .int x5, .int x4, .ref 139] (am_sh I J) = (am_do X 311 [.ref 139, .int x1, .int x2, .int x3] (am_sh I J)).bind (fun q => am_ev X amP_313 12 [.ref 139, .int x1, .int x2, .int x3] (q.1.toList ++ [.int x6, .int x5, .int x4, .ref 139]) q.2) := by
  refine (ev_aload rfl rfl).trans ?_
  refine (ev_iload rfl rfl).trans ?_
  refine (ev_iload rfl rfl).trans ?_
  refine (ev_iload rfl rfl).trans ?_
  exact ev_invv (as := [.int x3, .int x2, .int x1]) rfl (by decide) am_K_139 rfl (by simp [Value.category])
set_option maxRecDepth 10000 in
theorem sg_313_12 (X : am_X) (I : Nat → Nat → Int32) (J : Nat → Nat → Int64) (x1 : Int32) (x2 : Int32) (x3 : Int32) (x4 : Int32) (x5 : Int32) (x6 : Int32) (x7 : Int32) : am_ev X amP_313 12 [.ref 139, .int x1, .int x2, .int x3] [.int x7, .int x6, .int x5, .int x4, .ref 139] (am_sh I J) = (am_do X 242 [.ref 139, .int x4, .int x5, .int (x6 - x7)] (am_sh I J)).bind (fun q => am_ev X amP_313 14 [.ref 139, .int x1, .int x2, .int x3] (q.1.toList ++ []) q.2) := by
  refine (ev_isub rfl).trans ?_
  exact ev_invv (as := [.int (x6 - x7), .int x5, .int x4]) rfl (by decide) am_K_139 rfl (by simp [Value.category])
set_option maxRecDepth 10000 in
theorem sg_313_14 (X : am_X) (I : Nat → Nat → Int32) (J : Nat → Nat → Int64) (x1 : Int32) (x2 : Int32) (x3 : Int32) : am_ev X amP_313 14 [.ref 139, .int x1, .int x2, .int x3] [] (am_sh I J) = (if ¬ x2 = 0 then (if ¬ x2 = (1 : Int32) then (if x2 ≤ (3 : Int32) then (am_do X 241 [.ref 139, .int x1, .int (0 : Int32)] (am_sh I J)).bind (fun q => am_ev X amP_313 78 [.ref 139, .int x1, .int x2, .int x3] (q.1.toList ++ [.int (0 : Int32), .int x1, .ref 139]) q.2) else (am_do X 241 [.ref 139, .int x1, .int (4 : Int32)] (am_sh I J)).bind (fun q => am_ev X amP_313 61 [.ref 139, .int x1, .int x2, .int x3] (q.1.toList ++ [.int (4 : Int32), .int x1, .ref 139]) q.2)) else (am_do X 241 [.ref 139, .int x1, .int (3 : Int32)] (am_sh I J)).bind (fun q => am_ev X amP_313 42 [.ref 139, .int x1, .int x2, .int x3] (q.1.toList ++ [.int (3 : Int32), .int x1, .ref 139]) q.2)) else (am_do X 241 [.ref 139, .int x1, .int (2 : Int32)] (am_sh I J)).bind (fun q => am_ev X amP_313 23 [.ref 139, .int x1, .int x2, .int x3] (q.1.toList ++ [.int (2 : Int32), .int x1, .ref 139]) q.2)) := by
  refine (ev_iload rfl rfl).trans ?_
  refine (ev_if1 rfl).trans (am_ite (fun c1 => ?_) (fun c1 => ?_))
  · refine (ev_iload rfl rfl).trans ?_
    refine (ev_const0 (v := (1 : Int32)) rfl am_ci_1).trans ?_
    refine (ev_icmp1 rfl).trans (am_ite (fun c2 => ?_) (fun c2 => ?_))
    · refine (ev_iload rfl rfl).trans ?_
      refine (ev_const0 (v := (3 : Int32)) rfl am_ci_3).trans ?_
      refine (ev_icmp5 rfl).trans (am_ite (fun c3 => ?_) (fun c3 => ?_))
      · refine (ev_aload rfl rfl).trans ?_
        refine (ev_iload rfl rfl).trans ?_
        refine (ev_const0 (v := (0 : Int32)) rfl am_ci_0).trans ?_
        refine (ev_aload rfl rfl).trans ?_
        refine (ev_iload rfl rfl).trans ?_
        refine (ev_const0 (v := (0 : Int32)) rfl am_ci_0).trans ?_
        exact ev_invv (as := [.int (0 : Int32), .int x1]) rfl (by decide) am_K_139 rfl (by simp [Value.category])
      · refine (ev_aload rfl rfl).trans ?_
        refine (ev_iload rfl rfl).trans ?_
        refine (ev_const0 (v := (4 : Int32)) rfl am_ci_4).trans ?_
        refine (ev_aload rfl rfl).trans ?_
        refine (ev_iload rfl rfl).trans ?_
        refine (ev_const0 (v := (4 : Int32)) rfl am_ci_4).trans ?_
        exact ev_invv (as := [.int (4 : Int32), .int x1]) rfl (by decide) am_K_139 rfl (by simp [Value.category])
    · refine (ev_aload rfl rfl).trans ?_
      refine (ev_iload rfl rfl).trans ?_
      refine (ev_const0 (v := (3 : Int32)) rfl am_ci_3).trans ?_
      refine (ev_aload rfl rfl).trans ?_
      refine (ev_iload rfl rfl).trans ?_
      refine (ev_const0 (v := (3 : Int32)) rfl am_ci_3).trans ?_
      exact ev_invv (as := [.int (3 : Int32), .int x1]) rfl (by decide) am_K_139 rfl (by simp [Value.category])
  · refine (ev_aload rfl rfl).trans ?_
    refine (ev_iload rfl rfl).trans ?_
    refine (ev_const0 (v := (2 : Int32)) rfl am_ci_2).trans ?_
    refine (ev_aload rfl rfl).trans ?_
    refine (ev_iload rfl rfl).trans ?_
    refine (ev_const0 (v := (2 : Int32)) rfl am_ci_2).trans ?_
    exact ev_invv (as := [.int (2 : Int32), .int x1]) rfl (by decide) am_K_139 rfl (by simp [Value.category])
set_option maxRecDepth 10000 in
theorem sg_313_23 (X : am_X) (I : Nat → Nat → Int32) (J : Nat → Nat → Int64) (x1 : Int32) (x2 : Int32) (x3 : Int32) (x4 : Int32) (x5 : Int32) (x6 : Int32) : am_ev X amP_313 23 [.ref 139, .int x1, .int x2, .int x3] [.int x6, .int x5, .int x4, .ref 139] (am_sh I J) = (if x1 < 0 ∨ 10 ≤ x1.toNatClampNeg then none else (if (I 140 x1.toNatClampNeg) = 0 then none else (am_do X 242 [.ref 139, .int x4, .int x5, .int ((x6 + x3) - (x6 + x3) / (I 140 x1.toNatClampNeg) * (I 140 x1.toNatClampNeg))] (am_sh I J)).bind (fun q => am_ev X amP_313 31 [.ref 139, .int x1, .int x2, .int x3] (q.1.toList ++ []) q.2))) := by
  refine (ev_iload rfl rfl).trans ?_
  refine (ev_iadd rfl).trans ?_
  refine (ev_aload rfl rfl).trans ?_
  refine (ev_getR rfl (by decide) am_K_139 (by decide) rfl am_R_139_3).trans ?_
  refine (ev_iload rfl rfl).trans ?_
  refine (ev_iald rfl (by decide) am_K_140).trans (am_itn (fun g1 => ?_))
  refine (ev_irem rfl).trans (am_itn (fun g2 => ?_))
  exact ev_invv (as := [.int ((x6 + x3) - (x6 + x3) / (I 140 x1.toNatClampNeg) * (I 140 x1.toNatClampNeg)), .int x5, .int x4]) rfl (by decide) am_K_139 rfl (by simp [Value.category])
set_option maxRecDepth 10000 in
theorem sg_313_31 (X : am_X) (I : Nat → Nat → Int32) (J : Nat → Nat → Int64) (x1 : Int32) (x2 : Int32) (x3 : Int32) : am_ev X amP_313 31 [.ref 139, .int x1, .int x2, .int x3] [] (am_sh I J) = (am_do X 247 [.ref 139, .int x1] (am_sh I J)).bind (fun q => am_ev X amP_313 106 [.ref 139, .int x1, .int x2, .int x3] (q.1.toList ++ []) q.2) := by
  refine (ev_goto rfl).trans ?_
  refine (ev_aload rfl rfl).trans ?_
  refine (ev_iload rfl rfl).trans ?_
  exact ev_invv (as := [.int x1]) rfl (by decide) am_K_139 rfl (by simp [Value.category])
set_option maxRecDepth 10000 in
theorem sg_313_42 (X : am_X) (I : Nat → Nat → Int32) (J : Nat → Nat → Int64) (x1 : Int32) (x2 : Int32) (x3 : Int32) (x4 : Int32) (x5 : Int32) (x6 : Int32) : am_ev X amP_313 42 [.ref 139, .int x1, .int x2, .int x3] [.int x6, .int x5, .int x4, .ref 139] (am_sh I J) = (if x1 < 0 ∨ 10 ≤ x1.toNatClampNeg then none else (if (I 140 x1.toNatClampNeg) = 0 then none else (am_do X 242 [.ref 139, .int x4, .int x5, .int ((x6 + x3) - (x6 + x3) / (I 140 x1.toNatClampNeg) * (I 140 x1.toNatClampNeg))] (am_sh I J)).bind (fun q => am_ev X amP_313 50 [.ref 139, .int x1, .int x2, .int x3] (q.1.toList ++ []) q.2))) := by
  refine (ev_iload rfl rfl).trans ?_
  refine (ev_iadd rfl).trans ?_
  refine (ev_aload rfl rfl).trans ?_
  refine (ev_getR rfl (by decide) am_K_139 (by decide) rfl am_R_139_3).trans ?_
  refine (ev_iload rfl rfl).trans ?_
  refine (ev_iald rfl (by decide) am_K_140).trans (am_itn (fun g1 => ?_))
  refine (ev_irem rfl).trans (am_itn (fun g2 => ?_))
  exact ev_invv (as := [.int ((x6 + x3) - (x6 + x3) / (I 140 x1.toNatClampNeg) * (I 140 x1.toNatClampNeg)), .int x5, .int x4]) rfl (by decide) am_K_139 rfl (by simp [Value.category])
set_option maxRecDepth 10000 in
theorem sg_313_50 (X : am_X) (I : Nat → Nat → Int32) (J : Nat → Nat → Int64) (x1 : Int32) (x2 : Int32) (x3 : Int32) : am_ev X amP_313 50 [.ref 139, .int x1, .int x2, .int x3] [] (am_sh I J) = (am_do X 247 [.ref 139, .int x1] (am_sh I J)).bind (fun q => am_ev X amP_313 106 [.ref 139, .int x1, .int x2, .int x3] (q.1.toList ++ []) q.2) := by
  refine (ev_goto rfl).trans ?_
  refine (ev_aload rfl rfl).trans ?_
  refine (ev_iload rfl rfl).trans ?_
  exact ev_invv (as := [.int x1]) rfl (by decide) am_K_139 rfl (by simp [Value.category])
set_option maxRecDepth 10000 in
theorem sg_313_61 (X : am_X) (I : Nat → Nat → Int32) (J : Nat → Nat → Int64) (x1 : Int32) (x2 : Int32) (x3 : Int32) (x4 : Int32) (x5 : Int32) (x6 : Int32) : am_ev X amP_313 61 [.ref 139, .int x1, .int x2, .int x3] [.int x6, .int x5, .int x4, .ref 139] (am_sh I J) = (if ¬ x2 = (4 : Int32) then (am_do X 242 [.ref 139, .int x4, .int x5, .int (x6 + (-x3))] (am_sh I J)).bind (fun q => am_ev X amP_313 70 [.ref 139, .int x1, .int x2, .int x3] (q.1.toList ++ []) q.2) else (am_do X 242 [.ref 139, .int x4, .int x5, .int (x6 + x3)] (am_sh I J)).bind (fun q => am_ev X amP_313 70 [.ref 139, .int x1, .int x2, .int x3] (q.1.toList ++ []) q.2)) := by
  refine (ev_iload rfl rfl).trans ?_
  refine (ev_const0 (v := (4 : Int32)) rfl am_ci_4).trans ?_
  refine (ev_icmp1 rfl).trans (am_ite (fun c1 => ?_) (fun c1 => ?_))
  · refine (ev_iload rfl rfl).trans ?_
    refine (ev_ineg rfl).trans ?_
    refine (ev_iadd rfl).trans ?_
    exact ev_invv (as := [.int (x6 + (-x3)), .int x5, .int x4]) rfl (by decide) am_K_139 rfl (by simp [Value.category])
  · refine (ev_iload rfl rfl).trans ?_
    refine (ev_goto rfl).trans ?_
    refine (ev_iadd rfl).trans ?_
    exact ev_invv (as := [.int (x6 + x3), .int x5, .int x4]) rfl (by decide) am_K_139 rfl (by simp [Value.category])
set_option maxRecDepth 10000 in
theorem sg_313_70 (X : am_X) (I : Nat → Nat → Int32) (J : Nat → Nat → Int64) (x1 : Int32) (x2 : Int32) (x3 : Int32) : am_ev X amP_313 70 [.ref 139, .int x1, .int x2, .int x3] [] (am_sh I J) = (am_do X 247 [.ref 139, .int x1] (am_sh I J)).bind (fun q => am_ev X amP_313 106 [.ref 139, .int x1, .int x2, .int x3] (q.1.toList ++ []) q.2) := by
  refine (ev_goto rfl).trans ?_
  refine (ev_aload rfl rfl).trans ?_
  refine (ev_iload rfl rfl).trans ?_
  exact ev_invv (as := [.int x1]) rfl (by decide) am_K_139 rfl (by simp [Value.category])
set_option maxRecDepth 10000 in
theorem sg_313_78 (X : am_X) (I : Nat → Nat → Int32) (J : Nat → Nat → Int64) (x1 : Int32) (x2 : Int32) (x3 : Int32) (x4 : Int32) (x5 : Int32) (x6 : Int32) : am_ev X amP_313 78 [.ref 139, .int x1, .int x2, .int x3] [.int x6, .int x5, .int x4, .ref 139] (am_sh I J) = (if ¬ x2 = (2 : Int32) then (am_do X 242 [.ref 139, .int x4, .int x5, .int (x6 + (-x3))] (am_sh I J)).bind (fun q => am_ev X amP_313 87 [.ref 139, .int x1, .int x2, .int x3] (q.1.toList ++ []) q.2) else (am_do X 242 [.ref 139, .int x4, .int x5, .int (x6 + x3)] (am_sh I J)).bind (fun q => am_ev X amP_313 87 [.ref 139, .int x1, .int x2, .int x3] (q.1.toList ++ []) q.2)) := by
  refine (ev_iload rfl rfl).trans ?_
  refine (ev_const0 (v := (2 : Int32)) rfl am_ci_2).trans ?_
  refine (ev_icmp1 rfl).trans (am_ite (fun c1 => ?_) (fun c1 => ?_))
  · refine (ev_iload rfl rfl).trans ?_
    refine (ev_ineg rfl).trans ?_
    refine (ev_iadd rfl).trans ?_
    exact ev_invv (as := [.int (x6 + (-x3)), .int x5, .int x4]) rfl (by decide) am_K_139 rfl (by simp [Value.category])
  · refine (ev_iload rfl rfl).trans ?_
    refine (ev_goto rfl).trans ?_
    refine (ev_iadd rfl).trans ?_
    exact ev_invv (as := [.int (x6 + x3), .int x5, .int x4]) rfl (by decide) am_K_139 rfl (by simp [Value.category])
set_option maxRecDepth 10000 in
theorem sg_313_87 (X : am_X) (I : Nat → Nat → Int32) (J : Nat → Nat → Int64) (x1 : Int32) (x2 : Int32) (x3 : Int32) : am_ev X amP_313 87 [.ref 139, .int x1, .int x2, .int x3] [] (am_sh I J) = (am_do X 241 [.ref 139, .int x1, .int (1 : Int32)] (am_sh I J)).bind (fun q => am_ev X amP_313 94 [.ref 139, .int x1, .int x2, .int x3] (q.1.toList ++ [.int (1 : Int32), .int x1, .ref 139]) q.2) := by
  refine (ev_aload rfl rfl).trans ?_
  refine (ev_iload rfl rfl).trans ?_
  refine (ev_const0 (v := (1 : Int32)) rfl am_ci_1).trans ?_
  refine (ev_aload rfl rfl).trans ?_
  refine (ev_iload rfl rfl).trans ?_
  refine (ev_const0 (v := (1 : Int32)) rfl am_ci_1).trans ?_
  exact ev_invv (as := [.int (1 : Int32), .int x1]) rfl (by decide) am_K_139 rfl (by simp [Value.category])
set_option maxRecDepth 10000 in
theorem sg_313_94 (X : am_X) (I : Nat → Nat → Int32) (J : Nat → Nat → Int64) (x1 : Int32) (x2 : Int32) (x3 : Int32) (x4 : Int32) (x5 : Int32) (x6 : Int32) : am_ev X amP_313 94 [.ref 139, .int x1, .int x2, .int x3] [.int x6, .int x5, .int x4, .ref 139] (am_sh I J) = (if ¬ x2 = (2 : Int32) then (am_do X 242 [.ref 139, .int x4, .int x5, .int (x6 + (-x3))] (am_sh I J)).bind (fun q => am_ev X amP_313 103 [.ref 139, .int x1, .int x2, .int x3] (q.1.toList ++ []) q.2) else (am_do X 242 [.ref 139, .int x4, .int x5, .int (x6 + x3)] (am_sh I J)).bind (fun q => am_ev X amP_313 103 [.ref 139, .int x1, .int x2, .int x3] (q.1.toList ++ []) q.2)) := by
  refine (ev_iload rfl rfl).trans ?_
  refine (ev_const0 (v := (2 : Int32)) rfl am_ci_2).trans ?_
  refine (ev_icmp1 rfl).trans (am_ite (fun c1 => ?_) (fun c1 => ?_))
  · refine (ev_iload rfl rfl).trans ?_
    refine (ev_ineg rfl).trans ?_
    refine (ev_iadd rfl).trans ?_
    exact ev_invv (as := [.int (x6 + (-x3)), .int x5, .int x4]) rfl (by decide) am_K_139 rfl (by simp [Value.category])
  · refine (ev_iload rfl rfl).trans ?_
    refine (ev_goto rfl).trans ?_
    refine (ev_iadd rfl).trans ?_
    exact ev_invv (as := [.int (x6 + x3), .int x5, .int x4]) rfl (by decide) am_K_139 rfl (by simp [Value.category])
set_option maxRecDepth 10000 in
theorem sg_313_103 (X : am_X) (I : Nat → Nat → Int32) (J : Nat → Nat → Int64) (x1 : Int32) (x2 : Int32) (x3 : Int32) : am_ev X amP_313 103 [.ref 139, .int x1, .int x2, .int x3] [] (am_sh I J) = (am_do X 247 [.ref 139, .int x1] (am_sh I J)).bind (fun q => am_ev X amP_313 106 [.ref 139, .int x1, .int x2, .int x3] (q.1.toList ++ []) q.2) := by
  refine (ev_aload rfl rfl).trans ?_
  refine (ev_iload rfl rfl).trans ?_
  exact ev_invv (as := [.int x1]) rfl (by decide) am_K_139 rfl (by simp [Value.category])
set_option maxRecDepth 10000 in
theorem sg_313_106 (X : am_X) (I : Nat → Nat → Int32) (J : Nat → Nat → Int64) (x1 : Int32) (x2 : Int32) (x3 : Int32) : am_ev X amP_313 106 [.ref 139, .int x1, .int x2, .int x3] [] (am_sh I J) = some (none, am_sh I J) := by
  exact ev_vret rfl
-- 314 X12_puts
set_option maxRecDepth 10000 in
theorem sg_314_e0 (X : am_X) (I : Nat → Nat → Int32) (J : Nat → Nat → Int64) (x1 : Int32) (x2 : Int32) : am_ev X amP_314 0 [.ref 139, .int x1, .int x2, .null] [] (am_sh I J) = am_ev X amP_314 2 [.ref 139, .int x1, .int x2, .int (0 : Int32)] [] (am_sh I J) := by
  refine (ev_const0 (v := (0 : Int32)) rfl am_ci_0).trans ?_
  refine (ev_istore (ls' := [.ref 139, .int x1, .int x2, .int (0 : Int32)]) rfl (Nat.le_of_ble_eq_true rfl) rfl).trans ?_
  rfl
theorem cl_314 (X : am_X) (I : Nat → Nat → Int32) (J : Nat → Nat → Int64) (x1 : Int32) (x2 : Int32) : am_do X 314 [.ref 139, .int x1, .int x2] (am_sh I J) = am_ev X amP_314 0 [.ref 139, .int x1, .int x2, .null] [] (am_sh I J) := am_do_of rfl rfl rfl
set_option maxRecDepth 10000 in
theorem sg_314_2 (X : am_X) (I : Nat → Nat → Int32) (J : Nat → Nat → Int64) (x1 : Int32) (x2 : Int32) (x3 : Int32) : am_ev X amP_314 2 [.ref 139, .int x1, .int x2, .int x3] [] (am_sh I J) = (if (7 : Int32) ≤ x3 then some (none, am_sh I J) else (am_do X 241 [.ref 139, .int x1, .int x3] (am_sh I J)).bind (fun q => am_ev X amP_314 16 [.ref 139, .int x1, .int x2, .int x3] (q.1.toList ++ [.int (((7 : Int32) * x2) + x3), .ref 156]) q.2)) := by
  refine (ev_iload rfl rfl).trans ?_
  refine (ev_const1 (v := (7 : Int32)) rfl am_ci_7).trans ?_
  refine (ev_icmp3 rfl).trans (am_ite (fun c1 => ?_) (fun c1 => ?_))
  · exact ev_vret rfl
  · refine (ev_aload rfl rfl).trans ?_
    refine (ev_getR rfl (by decide) am_K_139 (by decide) rfl am_R_139_31).trans ?_
    refine (ev_const1 (v := (7 : Int32)) rfl am_ci_7).trans ?_
    refine (ev_iload rfl rfl).trans ?_
    refine (ev_imul rfl).trans ?_
    refine (ev_iload rfl rfl).trans ?_
    refine (ev_iadd rfl).trans ?_
    refine (ev_aload rfl rfl).trans ?_
    refine (ev_iload rfl rfl).trans ?_
    refine (ev_iload rfl rfl).trans ?_
    exact ev_invv (as := [.int x3, .int x1]) rfl (by decide) am_K_139 rfl (by simp [Value.category])
set_option maxRecDepth 10000 in
theorem sg_314_16 (X : am_X) (I : Nat → Nat → Int32) (J : Nat → Nat → Int64) (x1 : Int32) (x2 : Int32) (x3 : Int32) (x4 : Int32) (x5 : Int32) : am_ev X amP_314 16 [.ref 139, .int x1, .int x2, .int x3] [.int x5, .int x4, .ref 156] (am_sh I J) = (if x4 < 0 ∨ 14 ≤ x4.toNatClampNeg then none else am_ev X amP_314 2 [.ref 139, .int x1, .int x2, .int (x3 + (1 : Int32))] [] (am_sh (am_up I 156 x4.toNatClampNeg x5) J)) := by
  refine (ev_iast rfl (by decide) am_K_156).trans (am_itn (fun g1 => ?_))
  refine (ev_iincv (v := (1 : Int32)) (ls' := [.ref 139, .int x1, .int x2, .int (x3 + (1 : Int32))]) rfl am_ci_1 rfl rfl).trans ?_
  refine (ev_goto rfl).trans ?_
  rfl
-- 315 X12_takes
set_option maxRecDepth 10000 in
theorem sg_315_e0 (X : am_X) (I : Nat → Nat → Int32) (J : Nat → Nat → Int64) (x1 : Int32) (x2 : Int32) : am_ev X amP_315 0 [.ref 139, .int x1, .int x2, .null] [] (am_sh I J) = am_ev X amP_315 2 [.ref 139, .int x1, .int x2, .int (0 : Int32)] [] (am_sh I J) := by
  refine (ev_const0 (v := (0 : Int32)) rfl am_ci_0).trans ?_
  refine (ev_istore (ls' := [.ref 139, .int x1, .int x2, .int (0 : Int32)]) rfl (Nat.le_of_ble_eq_true rfl) rfl).trans ?_
  rfl
theorem cl_315 (X : am_X) (I : Nat → Nat → Int32) (J : Nat → Nat → Int64) (x1 : Int32) (x2 : Int32) : am_do X 315 [.ref 139, .int x1, .int x2] (am_sh I J) = am_ev X amP_315 0 [.ref 139, .int x1, .int x2, .null] [] (am_sh I J) := am_do_of rfl rfl rfl
set_option maxRecDepth 10000 in
theorem sg_315_2 (X : am_X) (I : Nat → Nat → Int32) (J : Nat → Nat → Int64) (x1 : Int32) (x2 : Int32) (x3 : Int32) : am_ev X amP_315 2 [.ref 139, .int x1, .int x2, .int x3] [] (am_sh I J) = (if (7 : Int32) ≤ x3 then (am_do X 247 [.ref 139, .int x1] (am_sh I J)).bind (fun q => am_ev X amP_315 22 [.ref 139, .int x1, .int x2, .int x3] (q.1.toList ++ []) q.2) else (if (((7 : Int32) * x2) + x3) < 0 ∨ 14 ≤ (((7 : Int32) * x2) + x3).toNatClampNeg then none else (am_do X 242 [.ref 139, .int x1, .int x3, .int (I 156 (((7 : Int32) * x2) + x3).toNatClampNeg)] (am_sh I J)).bind (fun q => am_ev X amP_315 17 [.ref 139, .int x1, .int x2, .int x3] (q.1.toList ++ []) q.2))) := by
  refine (ev_iload rfl rfl).trans ?_
  refine (ev_const1 (v := (7 : Int32)) rfl am_ci_7).trans ?_
  refine (ev_icmp3 rfl).trans (am_ite (fun c1 => ?_) (fun c1 => ?_))
  · refine (ev_aload rfl rfl).trans ?_
    refine (ev_iload rfl rfl).trans ?_
    exact ev_invv (as := [.int x1]) rfl (by decide) am_K_139 rfl (by simp [Value.category])
  · refine (ev_aload rfl rfl).trans ?_
    refine (ev_iload rfl rfl).trans ?_
    refine (ev_iload rfl rfl).trans ?_
    refine (ev_aload rfl rfl).trans ?_
    refine (ev_getR rfl (by decide) am_K_139 (by decide) rfl am_R_139_31).trans ?_
    refine (ev_const1 (v := (7 : Int32)) rfl am_ci_7).trans ?_
    refine (ev_iload rfl rfl).trans ?_
    refine (ev_imul rfl).trans ?_
    refine (ev_iload rfl rfl).trans ?_
    refine (ev_iadd rfl).trans ?_
    refine (ev_iald rfl (by decide) am_K_156).trans (am_itn (fun g2 => ?_))
    exact ev_invv (as := [.int (I 156 (((7 : Int32) * x2) + x3).toNatClampNeg), .int x3, .int x1]) rfl (by decide) am_K_139 rfl (by simp [Value.category])
set_option maxRecDepth 10000 in
theorem sg_315_17 (X : am_X) (I : Nat → Nat → Int32) (J : Nat → Nat → Int64) (x1 : Int32) (x2 : Int32) (x3 : Int32) : am_ev X amP_315 17 [.ref 139, .int x1, .int x2, .int x3] [] (am_sh I J) = am_ev X amP_315 2 [.ref 139, .int x1, .int x2, .int (x3 + (1 : Int32))] [] (am_sh I J) := by
  refine (ev_iincv (v := (1 : Int32)) (ls' := [.ref 139, .int x1, .int x2, .int (x3 + (1 : Int32))]) rfl am_ci_1 rfl rfl).trans ?_
  refine (ev_goto rfl).trans ?_
  rfl
set_option maxRecDepth 10000 in
theorem sg_315_22 (X : am_X) (I : Nat → Nat → Int32) (J : Nat → Nat → Int64) (x1 : Int32) (x2 : Int32) (x3 : Int32) : am_ev X amP_315 22 [.ref 139, .int x1, .int x2, .int x3] [] (am_sh I J) = some (none, am_sh I J) := by
  exact ev_vret rfl
-- 316 X12_tries
set_option maxRecDepth 10000 in
theorem sg_316_e0 (X : am_X) (I : Nat → Nat → Int32) (J : Nat → Nat → Int64) (x1 : Int32) (x2 : Int32) (x3 : Int32) : am_ev X amP_316 0 [.ref 139, .int x1, .int x2, .int x3, .null] [] (am_sh I J) = (am_do X 256 [.ref 139, .int x1] (am_sh I J)).bind (fun q => am_ev X amP_316 3 [.ref 139, .int x1, .int x2, .int x3, .null] (q.1.toList ++ []) q.2) := by
  refine (ev_aload rfl rfl).trans ?_
  refine (ev_iload rfl rfl).trans ?_
  exact ev_invv (as := [.int x1]) rfl (by decide) am_K_139 rfl (by simp [Value.category])
theorem cl_316 (X : am_X) (I : Nat → Nat → Int32) (J : Nat → Nat → Int64) (x1 : Int32) (x2 : Int32) (x3 : Int32) : am_do X 316 [.ref 139, .int x1, .int x2, .int x3] (am_sh I J) = am_ev X amP_316 0 [.ref 139, .int x1, .int x2, .int x3, .null] [] (am_sh I J) := am_do_of rfl rfl rfl
set_option maxRecDepth 10000 in
theorem sg_316_3 (X : am_X) (I : Nat → Nat → Int32) (J : Nat → Nat → Int64) (x1 : Int32) (x2 : Int32) (x3 : Int32) (w4 : Value) (x5 : Int32) (hw4 : w4.category = 1) : am_ev X amP_316 3 [.ref 139, .int x1, .int x2, .int x3, w4] [.int x5] (am_sh I J) = (if x5 = 0 then some (some (.int (-1 : Int32)), am_sh I J) else (am_do X 243 [.ref 139, .int x1] (am_sh I J)).bind (fun q => am_ev X amP_316 7 [.ref 139, .int x1, .int x2, .int x3, w4] (q.1.toList ++ []) q.2)) := by
  refine (ev_if0 rfl).trans (am_ite (fun c1 => ?_) (fun c1 => ?_))
  · refine (ev_const0 (v := (-1 : Int32)) rfl am_ci_m1).trans ?_
    exact ev_iret rfl
  · refine (ev_aload rfl rfl).trans ?_
    refine (ev_iload rfl rfl).trans ?_
    exact ev_invv (as := [.int x1]) rfl (by decide) am_K_139 rfl (by simp [Value.category])
set_option maxRecDepth 10000 in
theorem sg_316_7 (X : am_X) (I : Nat → Nat → Int32) (J : Nat → Nat → Int64) (x1 : Int32) (x2 : Int32) (x3 : Int32) (w4 : Value) (x5 : Int32) (hw4 : w4.category = 1) : am_ev X amP_316 7 [.ref 139, .int x1, .int x2, .int x3, w4] [.int x5] (am_sh I J) = (if x5 = 0 then some (some (.int (-1 : Int32)), am_sh I J) else (am_do X 312 [.ref 139, .int x1, .int x2, .int x3] (am_sh I J)).bind (fun q => am_ev X amP_316 13 [.ref 139, .int x1, .int x2, .int x3, w4] (q.1.toList ++ []) q.2)) := by
  refine (ev_if0 rfl).trans (am_ite (fun c1 => ?_) (fun c1 => ?_))
  · refine (ev_const0 (v := (-1 : Int32)) rfl am_ci_m1).trans ?_
    exact ev_iret rfl
  · refine (ev_aload rfl rfl).trans ?_
    refine (ev_iload rfl rfl).trans ?_
    refine (ev_iload rfl rfl).trans ?_
    refine (ev_iload rfl rfl).trans ?_
    exact ev_invv (as := [.int x3, .int x2, .int x1]) rfl (by decide) am_K_139 rfl (by simp [Value.category])
set_option maxRecDepth 10000 in
theorem sg_316_13 (X : am_X) (I : Nat → Nat → Int32) (J : Nat → Nat → Int64) (x1 : Int32) (x2 : Int32) (x3 : Int32) (w4 : Value) (x5 : Int32) (hw4 : w4.category = 1) : am_ev X amP_316 13 [.ref 139, .int x1, .int x2, .int x3, w4] [.int x5] (am_sh I J) = (if ¬ x5 = 0 then (am_do X 314 [.ref 139, .int x1, .int (0 : Int32)] (am_sh I J)).bind (fun q => am_ev X amP_316 20 [.ref 139, .int x1, .int x2, .int x3, w4] (q.1.toList ++ []) q.2) else some (some (.int (-1 : Int32)), am_sh I J)) := by
  refine (ev_if1 rfl).trans (am_ite (fun c1 => ?_) (fun c1 => ?_))
  · refine (ev_aload rfl rfl).trans ?_
    refine (ev_iload rfl rfl).trans ?_
    refine (ev_const0 (v := (0 : Int32)) rfl am_ci_0).trans ?_
    exact ev_invv (as := [.int (0 : Int32), .int x1]) rfl (by decide) am_K_139 rfl (by simp [Value.category])
  · refine (ev_const0 (v := (-1 : Int32)) rfl am_ci_m1).trans ?_
    exact ev_iret rfl
set_option maxRecDepth 10000 in
theorem sg_316_20 (X : am_X) (I : Nat → Nat → Int32) (J : Nat → Nat → Int64) (x1 : Int32) (x2 : Int32) (x3 : Int32) (w4 : Value) (hw4 : w4.category = 1) : am_ev X amP_316 20 [.ref 139, .int x1, .int x2, .int x3, w4] [] (am_sh I J) = (am_do X 313 [.ref 139, .int x1, .int x2, .int x3] (am_sh I J)).bind (fun q => am_ev X amP_316 25 [.ref 139, .int x1, .int x2, .int x3, w4] (q.1.toList ++ []) q.2) := by
  refine (ev_aload rfl rfl).trans ?_
  refine (ev_iload rfl rfl).trans ?_
  refine (ev_iload rfl rfl).trans ?_
  refine (ev_iload rfl rfl).trans ?_
  exact ev_invv (as := [.int x3, .int x2, .int x1]) rfl (by decide) am_K_139 rfl (by simp [Value.category])
set_option maxRecDepth 10000 in
theorem sg_316_25 (X : am_X) (I : Nat → Nat → Int32) (J : Nat → Nat → Int64) (x1 : Int32) (x2 : Int32) (x3 : Int32) (w4 : Value) (hw4 : w4.category = 1) : am_ev X amP_316 25 [.ref 139, .int x1, .int x2, .int x3, w4] [] (am_sh I J) = (am_do X 290 [.ref 139, .int x1] (am_sh I J)).bind (fun q => am_ev X amP_316 28 [.ref 139, .int x1, .int x2, .int x3, w4] (q.1.toList ++ []) q.2) := by
  refine (ev_aload rfl rfl).trans ?_
  refine (ev_iload rfl rfl).trans ?_
  exact ev_invv (as := [.int x1]) rfl (by decide) am_K_139 rfl (by simp [Value.category])
set_option maxRecDepth 10000 in
theorem sg_316_28 (X : am_X) (I : Nat → Nat → Int32) (J : Nat → Nat → Int64) (x1 : Int32) (x2 : Int32) (x3 : Int32) (w4 : Value) (x5 : Int32) (hw4 : w4.category = 1) : am_ev X amP_316 28 [.ref 139, .int x1, .int x2, .int x3, w4] [.int x5] (am_sh I J) = (am_do X 315 [.ref 139, .int x1, .int (0 : Int32)] (am_sh I J)).bind (fun q => am_ev X amP_316 33 [.ref 139, .int x1, .int x2, .int x3, .int x5] (q.1.toList ++ []) q.2) := by
  refine (ev_istore (ls' := [.ref 139, .int x1, .int x2, .int x3, .int x5]) rfl (Nat.le_of_ble_eq_true rfl) rfl).trans ?_
  refine (ev_aload rfl rfl).trans ?_
  refine (ev_iload rfl rfl).trans ?_
  refine (ev_const0 (v := (0 : Int32)) rfl am_ci_0).trans ?_
  exact ev_invv (as := [.int (0 : Int32), .int x1]) rfl (by decide) am_K_139 rfl (by simp [Value.category])
set_option maxRecDepth 10000 in
theorem sg_316_33 (X : am_X) (I : Nat → Nat → Int32) (J : Nat → Nat → Int64) (x1 : Int32) (x2 : Int32) (x3 : Int32) (x4 : Int32) : am_ev X amP_316 33 [.ref 139, .int x1, .int x2, .int x3, .int x4] [] (am_sh I J) = some (some (.int x4), am_sh I J) := by
  refine (ev_iload rfl rfl).trans ?_
  exact ev_iret rfl
-- 317 X12_isGood
set_option maxRecDepth 10000 in
theorem sg_317_e0 (X : am_X) (I : Nat → Nat → Int32) (J : Nat → Nat → Int64) (x1 : Int32) (x2 : Int32) : am_ev X amP_317 0 [.ref 139, .int x1, .int x2] [] (am_sh I J) = (if ¬ x2 = 0 then (if ¬ x2 = (1 : Int32) then (am_do X 309 [.ref 139, .int x1, .int (400 : Int32)] (am_sh I J)).bind (fun q => am_ev X amP_317 24 [.ref 139, .int x1, .int x2] (q.1.toList ++ []) q.2) else (am_do X 260 [.ref 139] (am_sh I J)).bind (fun q => am_ev X amP_317 15 [.ref 139, .int x1, .int x2] (q.1.toList ++ []) q.2)) else (am_do X 290 [.ref 139, .int x1] (am_sh I J)).bind (fun q => am_ev X amP_317 5 [.ref 139, .int x1, .int x2] (q.1.toList ++ []) q.2)) := by
  refine (ev_iload rfl rfl).trans ?_
  refine (ev_if1 rfl).trans (am_ite (fun c1 => ?_) (fun c1 => ?_))
  · refine (ev_iload rfl rfl).trans ?_
    refine (ev_const0 (v := (1 : Int32)) rfl am_ci_1).trans ?_
    refine (ev_icmp1 rfl).trans (am_ite (fun c2 => ?_) (fun c2 => ?_))
    · refine (ev_aload rfl rfl).trans ?_
      refine (ev_iload rfl rfl).trans ?_
      refine (ev_const2 (v := (400 : Int32)) rfl am_ci_400).trans ?_
      exact ev_invv (as := [.int (400 : Int32), .int x1]) rfl (by decide) am_K_139 rfl (by simp [Value.category])
    · refine (ev_aload rfl rfl).trans ?_
      exact ev_invv (as := []) rfl (by decide) am_K_139 rfl (by simp [Value.category])
  · refine (ev_aload rfl rfl).trans ?_
    refine (ev_iload rfl rfl).trans ?_
    exact ev_invv (as := [.int x1]) rfl (by decide) am_K_139 rfl (by simp [Value.category])
theorem cl_317 (X : am_X) (I : Nat → Nat → Int32) (J : Nat → Nat → Int64) (x1 : Int32) (x2 : Int32) : am_do X 317 [.ref 139, .int x1, .int x2] (am_sh I J) = am_ev X amP_317 0 [.ref 139, .int x1, .int x2] [] (am_sh I J) := am_do_of rfl rfl rfl
set_option maxRecDepth 10000 in
theorem sg_317_5 (X : am_X) (I : Nat → Nat → Int32) (J : Nat → Nat → Int64) (x1 : Int32) (x2 : Int32) (x3 : Int32) : am_ev X amP_317 5 [.ref 139, .int x1, .int x2] [.int x3] (am_sh I J) = (if ¬ x3 = 0 then some (some (.int (0 : Int32)), am_sh I J) else some (some (.int (1 : Int32)), am_sh I J)) := by
  refine (ev_if1 rfl).trans (am_ite (fun c1 => ?_) (fun c1 => ?_))
  · refine (ev_const0 (v := (0 : Int32)) rfl am_ci_0).trans ?_
    exact ev_zret rfl (by decide)
  · refine (ev_const0 (v := (1 : Int32)) rfl am_ci_1).trans ?_
    refine (ev_goto rfl).trans ?_
    exact ev_zret rfl (by decide)
set_option maxRecDepth 10000 in
theorem sg_317_15 (X : am_X) (I : Nat → Nat → Int32) (J : Nat → Nat → Int64) (x1 : Int32) (x2 : Int32) (x3 : Int32) : am_ev X amP_317 15 [.ref 139, .int x1, .int x2] [.int x3] (am_sh I J) = (if ¬ x3 = 0 then some (some (.int (0 : Int32)), am_sh I J) else some (some (.int (1 : Int32)), am_sh I J)) := by
  refine (ev_if1 rfl).trans (am_ite (fun c1 => ?_) (fun c1 => ?_))
  · refine (ev_const0 (v := (0 : Int32)) rfl am_ci_0).trans ?_
    refine (ev_goto rfl).trans ?_
    exact ev_zret rfl (by decide)
  · refine (ev_const0 (v := (1 : Int32)) rfl am_ci_1).trans ?_
    refine (ev_goto rfl).trans ?_
    exact ev_zret rfl (by decide)
set_option maxRecDepth 10000 in
theorem sg_317_24 (X : am_X) (I : Nat → Nat → Int32) (J : Nat → Nat → Int64) (x1 : Int32) (x2 : Int32) (x3 : Int32) (z0 : x3 = 0 ∨ x3 = 1) : am_ev X amP_317 24 [.ref 139, .int x1, .int x2] [.int x3] (am_sh I J) = some (some (.int x3), am_sh I J) := by
  exact ev_zret rfl z0
-- 318 X12_laysCheapest
set_option maxRecDepth 10000 in
theorem sg_318_e0 (X : am_X) (I : Nat → Nat → Int32) (J : Nat → Nat → Int64) (x1 : Int32) (x2 : Int32) : am_ev X amP_318 0 [.ref 139, .int x1, .int x2, .null, .null, .null, .null] [] (am_sh I J) = (am_do X 314 [.ref 139, .int x1, .int (0 : Int32)] (am_sh (am_up (am_up I 139 32 (-1 : Int32)) 139 34 (1000000000 : Int32)) J)).bind (fun q => am_ev X amP_318 10 [.ref 139, .int x1, .int x2, .null, .null, .null, .null] (q.1.toList ++ []) q.2) := by
  refine (ev_aload rfl rfl).trans ?_
  refine (ev_const0 (v := (-1 : Int32)) rfl am_ci_m1).trans ?_
  refine (ev_putI rfl (by decide) am_K_139 (by decide) rfl).trans ?_
  refine (ev_aload rfl rfl).trans ?_
  refine (ev_const3 (v := (1000000000 : Int32)) rfl am_ci_1000000000).trans ?_
  refine (ev_putI rfl (by decide) am_K_139 (by decide) rfl).trans ?_
  refine (ev_aload rfl rfl).trans ?_
  refine (ev_iload rfl rfl).trans ?_
  refine (ev_const0 (v := (0 : Int32)) rfl am_ci_0).trans ?_
  exact ev_invv (as := [.int (0 : Int32), .int x1]) rfl (by decide) am_K_139 rfl (by simp [Value.category])
theorem cl_318 (X : am_X) (I : Nat → Nat → Int32) (J : Nat → Nat → Int64) (x1 : Int32) (x2 : Int32) : am_do X 318 [.ref 139, .int x1, .int x2] (am_sh I J) = am_ev X amP_318 0 [.ref 139, .int x1, .int x2, .null, .null, .null, .null] [] (am_sh I J) := am_do_of rfl rfl rfl
set_option maxRecDepth 10000 in
theorem sg_318_10 (X : am_X) (I : Nat → Nat → Int32) (J : Nat → Nat → Int64) (x1 : Int32) (x2 : Int32) (w3 : Value) (w4 : Value) (w5 : Value) (w6 : Value) (hw3 : w3.category = 1) (hw4 : w4.category = 1) (hw5 : w5.category = 1) (hw6 : w6.category = 1) : am_ev X amP_318 10 [.ref 139, .int x1, .int x2, w3, w4, w5, w6] [] (am_sh I J) = am_ev X amP_318 12 [.ref 139, .int x1, .int x2, .int (0 : Int32), w4, w5, w6] [] (am_sh I J) := by
  refine (ev_const0 (v := (0 : Int32)) rfl am_ci_0).trans ?_
  refine (ev_istore (ls' := [.ref 139, .int x1, .int x2, .int (0 : Int32), w4, w5, w6]) rfl (Nat.le_of_ble_eq_true rfl) rfl).trans ?_
  rfl
set_option maxRecDepth 10000 in
theorem sg_318_12 (X : am_X) (I : Nat → Nat → Int32) (J : Nat → Nat → Int64) (x1 : Int32) (x2 : Int32) (x3 : Int32) (w4 : Value) (w5 : Value) (w6 : Value) (hw4 : w4.category = 1) (hw5 : w5.category = 1) (hw6 : w6.category = 1) : am_ev X amP_318 12 [.ref 139, .int x1, .int x2, .int x3, w4, w5, w6] [] (am_sh I J) = (if (6 : Int32) ≤ x3 then some (none, am_sh I J) else am_ev X amP_318 17 [.ref 139, .int x1, .int x2, .int x3, .int (1 : Int32), w5, w6] [] (am_sh I J)) := by
  refine (ev_iload rfl rfl).trans ?_
  refine (ev_const1 (v := (6 : Int32)) rfl am_ci_6).trans ?_
  refine (ev_icmp3 rfl).trans (am_ite (fun c1 => ?_) (fun c1 => ?_))
  · exact ev_vret rfl
  · refine (ev_const0 (v := (1 : Int32)) rfl am_ci_1).trans ?_
    refine (ev_istore (ls' := [.ref 139, .int x1, .int x2, .int x3, .int (1 : Int32), w5, w6]) rfl (Nat.le_of_ble_eq_true rfl) rfl).trans ?_
    rfl
set_option maxRecDepth 10000 in
theorem sg_318_17 (X : am_X) (I : Nat → Nat → Int32) (J : Nat → Nat → Int64) (x1 : Int32) (x2 : Int32) (x3 : Int32) (x4 : Int32) (w5 : Value) (w6 : Value) (hw5 : w5.category = 1) (hw6 : w6.category = 1) : am_ev X amP_318 17 [.ref 139, .int x1, .int x2, .int x3, .int x4, w5, w6] [] (am_sh I J) = (if (200 : Int32) < x4 then am_ev X amP_318 12 [.ref 139, .int x1, .int x2, .int (x3 + (1 : Int32)), .int x4, w5, w6] [] (am_sh I J) else (am_do X 312 [.ref 139, .int x1, .int x3, .int x4] (am_sh I J)).bind (fun q => am_ev X amP_318 25 [.ref 139, .int x1, .int x2, .int x3, .int x4, w5, w6] (q.1.toList ++ []) q.2)) := by
  refine (ev_iload rfl rfl).trans ?_
  refine (ev_const2 (v := (200 : Int32)) rfl am_ci_200).trans ?_
  refine (ev_icmp4 rfl).trans (am_ite (fun c1 => ?_) (fun c1 => ?_))
  · refine (ev_iincv (v := (1 : Int32)) (ls' := [.ref 139, .int x1, .int x2, .int (x3 + (1 : Int32)), .int x4, w5, w6]) rfl am_ci_1 rfl rfl).trans ?_
    refine (ev_goto rfl).trans ?_
    rfl
  · refine (ev_aload rfl rfl).trans ?_
    refine (ev_iload rfl rfl).trans ?_
    refine (ev_iload rfl rfl).trans ?_
    refine (ev_iload rfl rfl).trans ?_
    exact ev_invv (as := [.int x4, .int x3, .int x1]) rfl (by decide) am_K_139 rfl (by simp [Value.category])
set_option maxRecDepth 10000 in
theorem sg_318_25 (X : am_X) (I : Nat → Nat → Int32) (J : Nat → Nat → Int64) (x1 : Int32) (x2 : Int32) (x3 : Int32) (x4 : Int32) (w5 : Value) (w6 : Value) (x7 : Int32) (hw5 : w5.category = 1) (hw6 : w6.category = 1) : am_ev X amP_318 25 [.ref 139, .int x1, .int x2, .int x3, .int x4, w5, w6] [.int x7] (am_sh I J) = (if x7 = 0 then am_ev X amP_318 17 [.ref 139, .int x1, .int x2, .int x3, .int (x4 + (1 : Int32)), w5, w6] [] (am_sh I J) else (am_do X 311 [.ref 139, .int x1, .int x3, .int x4] (am_sh I J)).bind (fun q => am_ev X amP_318 31 [.ref 139, .int x1, .int x2, .int x3, .int x4, w5, w6] (q.1.toList ++ []) q.2)) := by
  refine (ev_if0 rfl).trans (am_ite (fun c1 => ?_) (fun c1 => ?_))
  · refine (ev_iincv (v := (1 : Int32)) (ls' := [.ref 139, .int x1, .int x2, .int x3, .int (x4 + (1 : Int32)), w5, w6]) rfl am_ci_1 rfl rfl).trans ?_
    refine (ev_goto rfl).trans ?_
    rfl
  · refine (ev_aload rfl rfl).trans ?_
    refine (ev_iload rfl rfl).trans ?_
    refine (ev_iload rfl rfl).trans ?_
    refine (ev_iload rfl rfl).trans ?_
    exact ev_invv (as := [.int x4, .int x3, .int x1]) rfl (by decide) am_K_139 rfl (by simp [Value.category])
set_option maxRecDepth 10000 in
theorem sg_318_31 (X : am_X) (I : Nat → Nat → Int32) (J : Nat → Nat → Int64) (x1 : Int32) (x2 : Int32) (x3 : Int32) (x4 : Int32) (w5 : Value) (w6 : Value) (x7 : Int32) (hw5 : w5.category = 1) (hw6 : w6.category = 1) : am_ev X amP_318 31 [.ref 139, .int x1, .int x2, .int x3, .int x4, w5, w6] [.int x7] (am_sh I J) = (if x7 < (I 139 34) then (am_do X 311 [.ref 139, .int x1, .int x3, .int x4] (am_sh I J)).bind (fun q => am_ev X amP_318 40 [.ref 139, .int x1, .int x2, .int x3, .int x4, w5, w6] (q.1.toList ++ []) q.2) else am_ev X amP_318 17 [.ref 139, .int x1, .int x2, .int x3, .int (x4 + (1 : Int32)), w5, w6] [] (am_sh I J)) := by
  refine (ev_aload rfl rfl).trans ?_
  refine (ev_getI rfl (by decide) am_K_139 (by decide) rfl).trans ?_
  refine (ev_icmp2 rfl).trans (am_ite (fun c1 => ?_) (fun c1 => ?_))
  · refine (ev_aload rfl rfl).trans ?_
    refine (ev_iload rfl rfl).trans ?_
    refine (ev_iload rfl rfl).trans ?_
    refine (ev_iload rfl rfl).trans ?_
    exact ev_invv (as := [.int x4, .int x3, .int x1]) rfl (by decide) am_K_139 rfl (by simp [Value.category])
  · refine (ev_goto rfl).trans ?_
    refine (ev_iincv (v := (1 : Int32)) (ls' := [.ref 139, .int x1, .int x2, .int x3, .int (x4 + (1 : Int32)), w5, w6]) rfl am_ci_1 rfl rfl).trans ?_
    refine (ev_goto rfl).trans ?_
    rfl
set_option maxRecDepth 10000 in
theorem sg_318_40 (X : am_X) (I : Nat → Nat → Int32) (J : Nat → Nat → Int64) (x1 : Int32) (x2 : Int32) (x3 : Int32) (x4 : Int32) (w5 : Value) (w6 : Value) (x7 : Int32) (hw5 : w5.category = 1) (hw6 : w6.category = 1) : am_ev X amP_318 40 [.ref 139, .int x1, .int x2, .int x3, .int x4, w5, w6] [.int x7] (am_sh I J) = (am_do X 313 [.ref 139, .int x1, .int x3, .int x4] (am_sh I J)).bind (fun q => am_ev X amP_318 46 [.ref 139, .int x1, .int x2, .int x3, .int x4, .int x7, w6] (q.1.toList ++ []) q.2) := by
  refine (ev_istore (ls' := [.ref 139, .int x1, .int x2, .int x3, .int x4, .int x7, w6]) rfl (Nat.le_of_ble_eq_true rfl) rfl).trans ?_
  refine (ev_aload rfl rfl).trans ?_
  refine (ev_iload rfl rfl).trans ?_
  refine (ev_iload rfl rfl).trans ?_
  refine (ev_iload rfl rfl).trans ?_
  exact ev_invv (as := [.int x4, .int x3, .int x1]) rfl (by decide) am_K_139 rfl (by simp [Value.category])
set_option maxRecDepth 10000 in
theorem sg_318_46 (X : am_X) (I : Nat → Nat → Int32) (J : Nat → Nat → Int64) (x1 : Int32) (x2 : Int32) (x3 : Int32) (x4 : Int32) (x5 : Int32) (w6 : Value) (hw6 : w6.category = 1) : am_ev X amP_318 46 [.ref 139, .int x1, .int x2, .int x3, .int x4, .int x5, w6] [] (am_sh I J) = (am_do X 317 [.ref 139, .int x1, .int x2] (am_sh I J)).bind (fun q => am_ev X amP_318 50 [.ref 139, .int x1, .int x2, .int x3, .int x4, .int x5, w6] (q.1.toList ++ []) q.2) := by
  refine (ev_aload rfl rfl).trans ?_
  refine (ev_iload rfl rfl).trans ?_
  refine (ev_iload rfl rfl).trans ?_
  exact ev_invv (as := [.int x2, .int x1]) rfl (by decide) am_K_139 rfl (by simp [Value.category])
set_option maxRecDepth 10000 in
theorem sg_318_50 (X : am_X) (I : Nat → Nat → Int32) (J : Nat → Nat → Int64) (x1 : Int32) (x2 : Int32) (x3 : Int32) (x4 : Int32) (x5 : Int32) (w6 : Value) (x7 : Int32) (hw6 : w6.category = 1) : am_ev X amP_318 50 [.ref 139, .int x1, .int x2, .int x3, .int x4, .int x5, w6] [.int x7] (am_sh I J) = (am_do X 315 [.ref 139, .int x1, .int (0 : Int32)] (am_sh I J)).bind (fun q => am_ev X amP_318 55 [.ref 139, .int x1, .int x2, .int x3, .int x4, .int x5, .int x7] (q.1.toList ++ []) q.2) := by
  refine (ev_istore (ls' := [.ref 139, .int x1, .int x2, .int x3, .int x4, .int x5, .int x7]) rfl (Nat.le_of_ble_eq_true rfl) rfl).trans ?_
  refine (ev_aload rfl rfl).trans ?_
  refine (ev_iload rfl rfl).trans ?_
  refine (ev_const0 (v := (0 : Int32)) rfl am_ci_0).trans ?_
  exact ev_invv (as := [.int (0 : Int32), .int x1]) rfl (by decide) am_K_139 rfl (by simp [Value.category])
set_option maxRecDepth 10000 in
theorem sg_318_55 (X : am_X) (I : Nat → Nat → Int32) (J : Nat → Nat → Int64) (x1 : Int32) (x2 : Int32) (x3 : Int32) (x4 : Int32) (x5 : Int32) (x6 : Int32) : am_ev X amP_318 55 [.ref 139, .int x1, .int x2, .int x3, .int x4, .int x5, .int x6] [] (am_sh I J) = (if ¬ x6 = 0 then am_ev X amP_318 17 [.ref 139, .int x1, .int x2, .int x3, .int (x4 + (1 : Int32)), .int x5, .int x6] [] (am_sh (am_up (am_up (am_up I 139 32 x3) 139 33 x4) 139 34 x5) J) else am_ev X amP_318 17 [.ref 139, .int x1, .int x2, .int x3, .int (x4 + (1 : Int32)), .int x5, .int x6] [] (am_sh I J)) := by
  refine (ev_iload rfl rfl).trans ?_
  refine (ev_if1 rfl).trans (am_ite (fun c1 => ?_) (fun c1 => ?_))
  · refine (ev_aload rfl rfl).trans ?_
    refine (ev_iload rfl rfl).trans ?_
    refine (ev_putI rfl (by decide) am_K_139 (by decide) rfl).trans ?_
    refine (ev_aload rfl rfl).trans ?_
    refine (ev_iload rfl rfl).trans ?_
    refine (ev_putI rfl (by decide) am_K_139 (by decide) rfl).trans ?_
    refine (ev_aload rfl rfl).trans ?_
    refine (ev_iload rfl rfl).trans ?_
    refine (ev_putI rfl (by decide) am_K_139 (by decide) rfl).trans ?_
    refine (ev_iincv (v := (1 : Int32)) (ls' := [.ref 139, .int x1, .int x2, .int x3, .int (x4 + (1 : Int32)), .int x5, .int x6]) rfl am_ci_1 rfl rfl).trans ?_
    refine (ev_goto rfl).trans ?_
    rfl
  · refine (ev_goto rfl).trans ?_
    refine (ev_iincv (v := (1 : Int32)) (ls' := [.ref 139, .int x1, .int x2, .int x3, .int (x4 + (1 : Int32)), .int x5, .int x6]) rfl am_ci_1 rfl rfl).trans ?_
    refine (ev_goto rfl).trans ?_
    rfl
-- 319 X12_ofBest
set_option maxRecDepth 10000 in
theorem sg_319_e0 (X : am_X) (I : Nat → Nat → Int32) (J : Nat → Nat → Int64) (x1 : Int32) : am_ev X amP_319 0 [.ref 139, .int x1] [] (am_sh I J) = (if ¬ (I 139 32) = (-1 : Int32) then (if ¬ x1 = 0 then (if ¬ x1 = (1 : Int32) then some (some (.int (I 139 34)), am_sh I J) else some (some (.int (I 139 33)), am_sh I J)) else some (some (.int (I 139 32)), am_sh I J)) else some (some (.int (-1 : Int32)), am_sh I J)) := by
  refine (ev_aload rfl rfl).trans ?_
  refine (ev_getI rfl (by decide) am_K_139 (by decide) rfl).trans ?_
  refine (ev_const0 (v := (-1 : Int32)) rfl am_ci_m1).trans ?_
  refine (ev_icmp1 rfl).trans (am_ite (fun c1 => ?_) (fun c1 => ?_))
  · refine (ev_iload rfl rfl).trans ?_
    refine (ev_if1 rfl).trans (am_ite (fun c2 => ?_) (fun c2 => ?_))
    · refine (ev_iload rfl rfl).trans ?_
      refine (ev_const0 (v := (1 : Int32)) rfl am_ci_1).trans ?_
      refine (ev_icmp1 rfl).trans (am_ite (fun c3 => ?_) (fun c3 => ?_))
      · refine (ev_aload rfl rfl).trans ?_
        refine (ev_getI rfl (by decide) am_K_139 (by decide) rfl).trans ?_
        exact ev_iret rfl
      · refine (ev_aload rfl rfl).trans ?_
        refine (ev_getI rfl (by decide) am_K_139 (by decide) rfl).trans ?_
        refine (ev_goto rfl).trans ?_
        exact ev_iret rfl
    · refine (ev_aload rfl rfl).trans ?_
      refine (ev_getI rfl (by decide) am_K_139 (by decide) rfl).trans ?_
      refine (ev_goto rfl).trans ?_
      exact ev_iret rfl
  · refine (ev_const0 (v := (-1 : Int32)) rfl am_ci_m1).trans ?_
    refine (ev_goto rfl).trans ?_
    exact ev_iret rfl
theorem cl_319 (X : am_X) (I : Nat → Nat → Int32) (J : Nat → Nat → Int64) (x1 : Int32) : am_do X 319 [.ref 139, .int x1] (am_sh I J) = am_ev X amP_319 0 [.ref 139, .int x1] [] (am_sh I J) := am_do_of rfl rfl rfl
-- 320 X12_saves
set_option maxRecDepth 10000 in
theorem sg_320_e0 (X : am_X) (I : Nat → Nat → Int32) (J : Nat → Nat → Int64) (x1 : Int32) (x2 : Int32) : am_ev X amP_320 0 [.ref 139, .int x1, .int x2] [] (am_sh I J) = (am_do X 256 [.ref 139, .int x1] (am_sh I J)).bind (fun q => am_ev X amP_320 3 [.ref 139, .int x1, .int x2] (q.1.toList ++ []) q.2) := by
  refine (ev_aload rfl rfl).trans ?_
  refine (ev_iload rfl rfl).trans ?_
  exact ev_invv (as := [.int x1]) rfl (by decide) am_K_139 rfl (by simp [Value.category])
theorem cl_320 (X : am_X) (I : Nat → Nat → Int32) (J : Nat → Nat → Int64) (x1 : Int32) (x2 : Int32) : am_do X 320 [.ref 139, .int x1, .int x2] (am_sh I J) = am_ev X amP_320 0 [.ref 139, .int x1, .int x2] [] (am_sh I J) := am_do_of rfl rfl rfl
set_option maxRecDepth 10000 in
theorem sg_320_3 (X : am_X) (I : Nat → Nat → Int32) (J : Nat → Nat → Int64) (x1 : Int32) (x2 : Int32) (x3 : Int32) : am_ev X amP_320 3 [.ref 139, .int x1, .int x2] [.int x3] (am_sh I J) = (if x3 = 0 then some (some (.int (-1 : Int32)), am_sh I J) else (am_do X 243 [.ref 139, .int x1] (am_sh I J)).bind (fun q => am_ev X amP_320 7 [.ref 139, .int x1, .int x2] (q.1.toList ++ []) q.2)) := by
  refine (ev_if0 rfl).trans (am_ite (fun c1 => ?_) (fun c1 => ?_))
  · refine (ev_const0 (v := (-1 : Int32)) rfl am_ci_m1).trans ?_
    exact ev_iret rfl
  · refine (ev_aload rfl rfl).trans ?_
    refine (ev_iload rfl rfl).trans ?_
    exact ev_invv (as := [.int x1]) rfl (by decide) am_K_139 rfl (by simp [Value.category])
set_option maxRecDepth 10000 in
theorem sg_320_7 (X : am_X) (I : Nat → Nat → Int32) (J : Nat → Nat → Int64) (x1 : Int32) (x2 : Int32) (x3 : Int32) : am_ev X amP_320 7 [.ref 139, .int x1, .int x2] [.int x3] (am_sh I J) = (if x3 = 0 then some (some (.int (-1 : Int32)), am_sh I J) else (am_do X 214 [.int x2, .int (0 : Int32), .int (2 : Int32)] (am_sh I J)).bind (fun q => am_ev X amP_320 12 [.ref 139, .int x1, .int x2] (q.1.toList ++ []) q.2)) := by
  refine (ev_if0 rfl).trans (am_ite (fun c1 => ?_) (fun c1 => ?_))
  · refine (ev_const0 (v := (-1 : Int32)) rfl am_ci_m1).trans ?_
    exact ev_iret rfl
  · refine (ev_iload rfl rfl).trans ?_
    refine (ev_const0 (v := (0 : Int32)) rfl am_ci_0).trans ?_
    refine (ev_const0 (v := (2 : Int32)) rfl am_ci_2).trans ?_
    exact ev_invs (as := [.int (2 : Int32), .int (0 : Int32), .int x2]) rfl rfl (by simp [Value.category])
set_option maxRecDepth 10000 in
theorem sg_320_12 (X : am_X) (I : Nat → Nat → Int32) (J : Nat → Nat → Int64) (x1 : Int32) (x2 : Int32) (x3 : Int32) : am_ev X amP_320 12 [.ref 139, .int x1, .int x2] [.int x3] (am_sh I J) = (if x3 = 0 then some (some (.int (-1 : Int32)), am_sh I J) else (am_do X 309 [.ref 139, .int x1, .int (400 : Int32)] (am_sh I J)).bind (fun q => am_ev X amP_320 17 [.ref 139, .int x1, .int x2] (q.1.toList ++ []) q.2)) := by
  refine (ev_if0 rfl).trans (am_ite (fun c1 => ?_) (fun c1 => ?_))
  · refine (ev_const0 (v := (-1 : Int32)) rfl am_ci_m1).trans ?_
    exact ev_iret rfl
  · refine (ev_aload rfl rfl).trans ?_
    refine (ev_iload rfl rfl).trans ?_
    refine (ev_const2 (v := (400 : Int32)) rfl am_ci_400).trans ?_
    exact ev_invv (as := [.int (400 : Int32), .int x1]) rfl (by decide) am_K_139 rfl (by simp [Value.category])
set_option maxRecDepth 10000 in
theorem sg_320_17 (X : am_X) (I : Nat → Nat → Int32) (J : Nat → Nat → Int64) (x1 : Int32) (x2 : Int32) (x3 : Int32) : am_ev X amP_320 17 [.ref 139, .int x1, .int x2] [.int x3] (am_sh I J) = (if x3 = 0 then (am_do X 318 [.ref 139, .int x1, .int (2 : Int32)] (am_sh I J)).bind (fun q => am_ev X amP_320 24 [.ref 139, .int x1, .int x2] (q.1.toList ++ []) q.2) else some (some (.int (-1 : Int32)), am_sh I J)) := by
  refine (ev_if0 rfl).trans (am_ite (fun c1 => ?_) (fun c1 => ?_))
  · refine (ev_aload rfl rfl).trans ?_
    refine (ev_iload rfl rfl).trans ?_
    refine (ev_const0 (v := (2 : Int32)) rfl am_ci_2).trans ?_
    exact ev_invv (as := [.int (2 : Int32), .int x1]) rfl (by decide) am_K_139 rfl (by simp [Value.category])
  · refine (ev_const0 (v := (-1 : Int32)) rfl am_ci_m1).trans ?_
    exact ev_iret rfl
set_option maxRecDepth 10000 in
theorem sg_320_24 (X : am_X) (I : Nat → Nat → Int32) (J : Nat → Nat → Int64) (x1 : Int32) (x2 : Int32) : am_ev X amP_320 24 [.ref 139, .int x1, .int x2] [] (am_sh I J) = (am_do X 319 [.ref 139, .int x2] (am_sh I J)).bind (fun q => am_ev X amP_320 27 [.ref 139, .int x1, .int x2] (q.1.toList ++ []) q.2) := by
  refine (ev_aload rfl rfl).trans ?_
  refine (ev_iload rfl rfl).trans ?_
  exact ev_invv (as := [.int x2]) rfl (by decide) am_K_139 rfl (by simp [Value.category])
set_option maxRecDepth 10000 in
theorem sg_320_27 (X : am_X) (I : Nat → Nat → Int32) (J : Nat → Nat → Int64) (x1 : Int32) (x2 : Int32) (x3 : Int32) : am_ev X amP_320 27 [.ref 139, .int x1, .int x2] [.int x3] (am_sh I J) = some (some (.int x3), am_sh I J) := by
  exact ev_iret rfl
-- 321 X12_clears
set_option maxRecDepth 10000 in
theorem sg_321_e0 (X : am_X) (I : Nat → Nat → Int32) (J : Nat → Nat → Int64) (x1 : Int32) (x2 : Int32) : am_ev X amP_321 0 [.ref 139, .int x1, .int x2] [] (am_sh I J) = (am_do X 256 [.ref 139, .int x1] (am_sh I J)).bind (fun q => am_ev X amP_321 3 [.ref 139, .int x1, .int x2] (q.1.toList ++ []) q.2) := by
  refine (ev_aload rfl rfl).trans ?_
  refine (ev_iload rfl rfl).trans ?_
  exact ev_invv (as := [.int x1]) rfl (by decide) am_K_139 rfl (by simp [Value.category])
theorem cl_321 (X : am_X) (I : Nat → Nat → Int32) (J : Nat → Nat → Int64) (x1 : Int32) (x2 : Int32) : am_do X 321 [.ref 139, .int x1, .int x2] (am_sh I J) = am_ev X amP_321 0 [.ref 139, .int x1, .int x2] [] (am_sh I J) := am_do_of rfl rfl rfl
set_option maxRecDepth 10000 in
theorem sg_321_3 (X : am_X) (I : Nat → Nat → Int32) (J : Nat → Nat → Int64) (x1 : Int32) (x2 : Int32) (x3 : Int32) : am_ev X amP_321 3 [.ref 139, .int x1, .int x2] [.int x3] (am_sh I J) = (if x3 = 0 then some (some (.int (-1 : Int32)), am_sh I J) else (am_do X 243 [.ref 139, .int x1] (am_sh I J)).bind (fun q => am_ev X amP_321 7 [.ref 139, .int x1, .int x2] (q.1.toList ++ []) q.2)) := by
  refine (ev_if0 rfl).trans (am_ite (fun c1 => ?_) (fun c1 => ?_))
  · refine (ev_const0 (v := (-1 : Int32)) rfl am_ci_m1).trans ?_
    exact ev_iret rfl
  · refine (ev_aload rfl rfl).trans ?_
    refine (ev_iload rfl rfl).trans ?_
    exact ev_invv (as := [.int x1]) rfl (by decide) am_K_139 rfl (by simp [Value.category])
set_option maxRecDepth 10000 in
theorem sg_321_7 (X : am_X) (I : Nat → Nat → Int32) (J : Nat → Nat → Int64) (x1 : Int32) (x2 : Int32) (x3 : Int32) : am_ev X amP_321 7 [.ref 139, .int x1, .int x2] [.int x3] (am_sh I J) = (if x3 = 0 then some (some (.int (-1 : Int32)), am_sh I J) else (am_do X 214 [.int x2, .int (0 : Int32), .int (2 : Int32)] (am_sh I J)).bind (fun q => am_ev X amP_321 12 [.ref 139, .int x1, .int x2] (q.1.toList ++ []) q.2)) := by
  refine (ev_if0 rfl).trans (am_ite (fun c1 => ?_) (fun c1 => ?_))
  · refine (ev_const0 (v := (-1 : Int32)) rfl am_ci_m1).trans ?_
    exact ev_iret rfl
  · refine (ev_iload rfl rfl).trans ?_
    refine (ev_const0 (v := (0 : Int32)) rfl am_ci_0).trans ?_
    refine (ev_const0 (v := (2 : Int32)) rfl am_ci_2).trans ?_
    exact ev_invs (as := [.int (2 : Int32), .int (0 : Int32), .int x2]) rfl rfl (by simp [Value.category])
set_option maxRecDepth 10000 in
theorem sg_321_12 (X : am_X) (I : Nat → Nat → Int32) (J : Nat → Nat → Int64) (x1 : Int32) (x2 : Int32) (x3 : Int32) : am_ev X amP_321 12 [.ref 139, .int x1, .int x2] [.int x3] (am_sh I J) = (if x3 = 0 then some (some (.int (-1 : Int32)), am_sh I J) else (am_do X 290 [.ref 139, .int x1] (am_sh I J)).bind (fun q => am_ev X amP_321 16 [.ref 139, .int x1, .int x2] (q.1.toList ++ []) q.2)) := by
  refine (ev_if0 rfl).trans (am_ite (fun c1 => ?_) (fun c1 => ?_))
  · refine (ev_const0 (v := (-1 : Int32)) rfl am_ci_m1).trans ?_
    exact ev_iret rfl
  · refine (ev_aload rfl rfl).trans ?_
    refine (ev_iload rfl rfl).trans ?_
    exact ev_invv (as := [.int x1]) rfl (by decide) am_K_139 rfl (by simp [Value.category])
set_option maxRecDepth 10000 in
theorem sg_321_16 (X : am_X) (I : Nat → Nat → Int32) (J : Nat → Nat → Int64) (x1 : Int32) (x2 : Int32) (x3 : Int32) : am_ev X amP_321 16 [.ref 139, .int x1, .int x2] [.int x3] (am_sh I J) = (if ¬ x3 = 0 then (am_do X 318 [.ref 139, .int x1, .int (0 : Int32)] (am_sh I J)).bind (fun q => am_ev X amP_321 23 [.ref 139, .int x1, .int x2] (q.1.toList ++ []) q.2) else some (some (.int (-1 : Int32)), am_sh I J)) := by
  refine (ev_if1 rfl).trans (am_ite (fun c1 => ?_) (fun c1 => ?_))
  · refine (ev_aload rfl rfl).trans ?_
    refine (ev_iload rfl rfl).trans ?_
    refine (ev_const0 (v := (0 : Int32)) rfl am_ci_0).trans ?_
    exact ev_invv (as := [.int (0 : Int32), .int x1]) rfl (by decide) am_K_139 rfl (by simp [Value.category])
  · refine (ev_const0 (v := (-1 : Int32)) rfl am_ci_m1).trans ?_
    exact ev_iret rfl
set_option maxRecDepth 10000 in
theorem sg_321_23 (X : am_X) (I : Nat → Nat → Int32) (J : Nat → Nat → Int64) (x1 : Int32) (x2 : Int32) : am_ev X amP_321 23 [.ref 139, .int x1, .int x2] [] (am_sh I J) = (am_do X 319 [.ref 139, .int x2] (am_sh I J)).bind (fun q => am_ev X amP_321 26 [.ref 139, .int x1, .int x2] (q.1.toList ++ []) q.2) := by
  refine (ev_aload rfl rfl).trans ?_
  refine (ev_iload rfl rfl).trans ?_
  exact ev_invv (as := [.int x2]) rfl (by decide) am_K_139 rfl (by simp [Value.category])
set_option maxRecDepth 10000 in
theorem sg_321_26 (X : am_X) (I : Nat → Nat → Int32) (J : Nat → Nat → Int64) (x1 : Int32) (x2 : Int32) (x3 : Int32) : am_ev X amP_321 26 [.ref 139, .int x1, .int x2] [.int x3] (am_sh I J) = some (some (.int x3), am_sh I J) := by
  exact ev_iret rfl
-- 322 X12_clearing
set_option maxRecDepth 10000 in
theorem sg_322_e0 (X : am_X) (I : Nat → Nat → Int32) (J : Nat → Nat → Int64) (x1 : Int32) : am_ev X amP_322 0 [.ref 139, .int x1, .null, .null, .null, .null, .null] [] (am_sh I J) = (am_do X 214 [.int x1, .int (0 : Int32), .int (3 : Int32)] (am_sh I J)).bind (fun q => am_ev X amP_322 4 [.ref 139, .int x1, .null, .null, .null, .null, .null] (q.1.toList ++ []) q.2) := by
  refine (ev_iload rfl rfl).trans ?_
  refine (ev_const0 (v := (0 : Int32)) rfl am_ci_0).trans ?_
  refine (ev_const0 (v := (3 : Int32)) rfl am_ci_3).trans ?_
  exact ev_invs (as := [.int (3 : Int32), .int (0 : Int32), .int x1]) rfl rfl (by simp [Value.category])
theorem cl_322 (X : am_X) (I : Nat → Nat → Int32) (J : Nat → Nat → Int64) (x1 : Int32) : am_do X 322 [.ref 139, .int x1] (am_sh I J) = am_ev X amP_322 0 [.ref 139, .int x1, .null, .null, .null, .null, .null] [] (am_sh I J) := am_do_of rfl rfl rfl
set_option maxRecDepth 10000 in
theorem sg_322_4 (X : am_X) (I : Nat → Nat → Int32) (J : Nat → Nat → Int64) (x1 : Int32) (w2 : Value) (w3 : Value) (w4 : Value) (w5 : Value) (w6 : Value) (x7 : Int32) (hw2 : w2.category = 1) (hw3 : w3.category = 1) (hw4 : w4.category = 1) (hw5 : w5.category = 1) (hw6 : w6.category = 1) : am_ev X amP_322 4 [.ref 139, .int x1, w2, w3, w4, w5, w6] [.int x7] (am_sh I J) = (if x7 = 0 then some (some (.int (-1 : Int32)), am_sh I J) else (am_do X 260 [.ref 139] (am_sh I J)).bind (fun q => am_ev X amP_322 7 [.ref 139, .int x1, w2, w3, w4, w5, w6] (q.1.toList ++ []) q.2)) := by
  refine (ev_if0 rfl).trans (am_ite (fun c1 => ?_) (fun c1 => ?_))
  · refine (ev_const0 (v := (-1 : Int32)) rfl am_ci_m1).trans ?_
    exact ev_iret rfl
  · refine (ev_aload rfl rfl).trans ?_
    exact ev_invv (as := []) rfl (by decide) am_K_139 rfl (by simp [Value.category])
set_option maxRecDepth 10000 in
theorem sg_322_7 (X : am_X) (I : Nat → Nat → Int32) (J : Nat → Nat → Int64) (x1 : Int32) (w2 : Value) (w3 : Value) (w4 : Value) (w5 : Value) (w6 : Value) (x7 : Int32) (hw2 : w2.category = 1) (hw3 : w3.category = 1) (hw4 : w4.category = 1) (hw5 : w5.category = 1) (hw6 : w6.category = 1) : am_ev X amP_322 7 [.ref 139, .int x1, w2, w3, w4, w5, w6] [.int x7] (am_sh I J) = (if ¬ x7 = 0 then am_ev X amP_322 20 [.ref 139, .int x1, .int (-1 : Int32), .int (0 : Int32), .int (0 : Int32), .int (1000000000 : Int32), .int (0 : Int32)] [] (am_sh I J) else some (some (.int (-1 : Int32)), am_sh I J)) := by
  refine (ev_if1 rfl).trans (am_ite (fun c1 => ?_) (fun c1 => ?_))
  · refine (ev_const0 (v := (-1 : Int32)) rfl am_ci_m1).trans ?_
    refine (ev_istore (ls' := [.ref 139, .int x1, .int (-1 : Int32), w3, w4, w5, w6]) rfl (Nat.le_of_ble_eq_true rfl) rfl).trans ?_
    refine (ev_const0 (v := (0 : Int32)) rfl am_ci_0).trans ?_
    refine (ev_istore (ls' := [.ref 139, .int x1, .int (-1 : Int32), .int (0 : Int32), w4, w5, w6]) rfl (Nat.le_of_ble_eq_true rfl) rfl).trans ?_
    refine (ev_const0 (v := (0 : Int32)) rfl am_ci_0).trans ?_
    refine (ev_istore (ls' := [.ref 139, .int x1, .int (-1 : Int32), .int (0 : Int32), .int (0 : Int32), w5, w6]) rfl (Nat.le_of_ble_eq_true rfl) rfl).trans ?_
    refine (ev_const3 (v := (1000000000 : Int32)) rfl am_ci_1000000000).trans ?_
    refine (ev_istore (ls' := [.ref 139, .int x1, .int (-1 : Int32), .int (0 : Int32), .int (0 : Int32), .int (1000000000 : Int32), w6]) rfl (Nat.le_of_ble_eq_true rfl) rfl).trans ?_
    refine (ev_const0 (v := (0 : Int32)) rfl am_ci_0).trans ?_
    refine (ev_istore (ls' := [.ref 139, .int x1, .int (-1 : Int32), .int (0 : Int32), .int (0 : Int32), .int (1000000000 : Int32), .int (0 : Int32)]) rfl (Nat.le_of_ble_eq_true rfl) rfl).trans ?_
    rfl
  · refine (ev_const0 (v := (-1 : Int32)) rfl am_ci_m1).trans ?_
    exact ev_iret rfl
set_option maxRecDepth 10000 in
theorem sg_322_20 (X : am_X) (I : Nat → Nat → Int32) (J : Nat → Nat → Int64) (x1 : Int32) (x2 : Int32) (x3 : Int32) (x4 : Int32) (x5 : Int32) (x6 : Int32) : am_ev X amP_322 20 [.ref 139, .int x1, .int x2, .int x3, .int x4, .int x5, .int x6] [] (am_sh I J) = (if (I 139 1) ≤ x6 then (if x2 = (-1 : Int32) then some (some (.int x2), am_sh I J) else (if ¬ x1 = 0 then (if ¬ x1 = (1 : Int32) then (if ¬ x1 = (2 : Int32) then some (some (.int x5), am_sh I J) else some (some (.int x4), am_sh I J)) else some (some (.int x3), am_sh I J)) else some (some (.int x2), am_sh I J))) else (am_do X 243 [.ref 139, .int x6] (am_sh I J)).bind (fun q => am_ev X amP_322 27 [.ref 139, .int x1, .int x2, .int x3, .int x4, .int x5, .int x6] (q.1.toList ++ []) q.2)) := by
  refine (ev_iload rfl rfl).trans ?_
  refine (ev_aload rfl rfl).trans ?_
  refine (ev_getI rfl (by decide) am_K_139 (by decide) rfl).trans ?_
  refine (ev_icmp3 rfl).trans (am_ite (fun c1 => ?_) (fun c1 => ?_))
  · refine (ev_iload rfl rfl).trans ?_
    refine (ev_const0 (v := (-1 : Int32)) rfl am_ci_m1).trans ?_
    refine (ev_icmp0 rfl).trans (am_ite (fun c2 => ?_) (fun c2 => ?_))
    · refine (ev_iload rfl rfl).trans ?_
      refine (ev_goto rfl).trans ?_
      exact ev_iret rfl
    · refine (ev_iload rfl rfl).trans ?_
      refine (ev_if1 rfl).trans (am_ite (fun c3 => ?_) (fun c3 => ?_))
      · refine (ev_iload rfl rfl).trans ?_
        refine (ev_const0 (v := (1 : Int32)) rfl am_ci_1).trans ?_
        refine (ev_icmp1 rfl).trans (am_ite (fun c4 => ?_) (fun c4 => ?_))
        · refine (ev_iload rfl rfl).trans ?_
          refine (ev_const0 (v := (2 : Int32)) rfl am_ci_2).trans ?_
          refine (ev_icmp1 rfl).trans (am_ite (fun c5 => ?_) (fun c5 => ?_))
          · refine (ev_iload rfl rfl).trans ?_
            exact ev_iret rfl
          · refine (ev_iload rfl rfl).trans ?_
            refine (ev_goto rfl).trans ?_
            exact ev_iret rfl
        · refine (ev_iload rfl rfl).trans ?_
          refine (ev_goto rfl).trans ?_
          exact ev_iret rfl
      · refine (ev_iload rfl rfl).trans ?_
        refine (ev_goto rfl).trans ?_
        exact ev_iret rfl
  · refine (ev_aload rfl rfl).trans ?_
    refine (ev_iload rfl rfl).trans ?_
    exact ev_invv (as := [.int x6]) rfl (by decide) am_K_139 rfl (by simp [Value.category])
set_option maxRecDepth 10000 in
theorem sg_322_27 (X : am_X) (I : Nat → Nat → Int32) (J : Nat → Nat → Int64) (x1 : Int32) (x2 : Int32) (x3 : Int32) (x4 : Int32) (x5 : Int32) (x6 : Int32) (x7 : Int32) : am_ev X amP_322 27 [.ref 139, .int x1, .int x2, .int x3, .int x4, .int x5, .int x6] [.int x7] (am_sh I J) = (if ¬ x7 = 0 then (am_do X 318 [.ref 139, .int x6, .int (1 : Int32)] (am_sh I J)).bind (fun q => am_ev X amP_322 33 [.ref 139, .int x1, .int x2, .int x3, .int x4, .int x5, .int x6] (q.1.toList ++ []) q.2) else am_ev X amP_322 20 [.ref 139, .int x1, .int x2, .int x3, .int x4, .int x5, .int (x6 + (1 : Int32))] [] (am_sh I J)) := by
  refine (ev_if1 rfl).trans (am_ite (fun c1 => ?_) (fun c1 => ?_))
  · refine (ev_aload rfl rfl).trans ?_
    refine (ev_iload rfl rfl).trans ?_
    refine (ev_const0 (v := (1 : Int32)) rfl am_ci_1).trans ?_
    exact ev_invv (as := [.int (1 : Int32), .int x6]) rfl (by decide) am_K_139 rfl (by simp [Value.category])
  · refine (ev_goto rfl).trans ?_
    refine (ev_iincv (v := (1 : Int32)) (ls' := [.ref 139, .int x1, .int x2, .int x3, .int x4, .int x5, .int (x6 + (1 : Int32))]) rfl am_ci_1 rfl rfl).trans ?_
    refine (ev_goto rfl).trans ?_
    rfl
set_option maxRecDepth 10000 in
theorem sg_322_33 (X : am_X) (I : Nat → Nat → Int32) (J : Nat → Nat → Int64) (x1 : Int32) (x2 : Int32) (x3 : Int32) (x4 : Int32) (x5 : Int32) (x6 : Int32) : am_ev X amP_322 33 [.ref 139, .int x1, .int x2, .int x3, .int x4, .int x5, .int x6] [] (am_sh I J) = (if (I 139 32) = (-1 : Int32) then am_ev X amP_322 20 [.ref 139, .int x1, .int x2, .int x3, .int x4, .int x5, .int (x6 + (1 : Int32))] [] (am_sh I J) else (if (I 139 34) < x5 then am_ev X amP_322 20 [.ref 139, .int x1, .int x6, .int (I 139 32), .int (I 139 33), .int (I 139 34), .int (x6 + (1 : Int32))] [] (am_sh I J) else am_ev X amP_322 20 [.ref 139, .int x1, .int x2, .int x3, .int x4, .int x5, .int (x6 + (1 : Int32))] [] (am_sh I J))) := by
  refine (ev_aload rfl rfl).trans ?_
  refine (ev_getI rfl (by decide) am_K_139 (by decide) rfl).trans ?_
  refine (ev_const0 (v := (-1 : Int32)) rfl am_ci_m1).trans ?_
  refine (ev_icmp0 rfl).trans (am_ite (fun c1 => ?_) (fun c1 => ?_))
  · refine (ev_iincv (v := (1 : Int32)) (ls' := [.ref 139, .int x1, .int x2, .int x3, .int x4, .int x5, .int (x6 + (1 : Int32))]) rfl am_ci_1 rfl rfl).trans ?_
    refine (ev_goto rfl).trans ?_
    rfl
  · refine (ev_aload rfl rfl).trans ?_
    refine (ev_getI rfl (by decide) am_K_139 (by decide) rfl).trans ?_
    refine (ev_iload rfl rfl).trans ?_
    refine (ev_icmp2 rfl).trans (am_ite (fun c2 => ?_) (fun c2 => ?_))
    · refine (ev_iload rfl rfl).trans ?_
      refine (ev_istore (ls' := [.ref 139, .int x1, .int x6, .int x3, .int x4, .int x5, .int x6]) rfl (Nat.le_of_ble_eq_true rfl) rfl).trans ?_
      refine (ev_aload rfl rfl).trans ?_
      refine (ev_getI rfl (by decide) am_K_139 (by decide) rfl).trans ?_
      refine (ev_istore (ls' := [.ref 139, .int x1, .int x6, .int (I 139 32), .int x4, .int x5, .int x6]) rfl (Nat.le_of_ble_eq_true rfl) rfl).trans ?_
      refine (ev_aload rfl rfl).trans ?_
      refine (ev_getI rfl (by decide) am_K_139 (by decide) rfl).trans ?_
      refine (ev_istore (ls' := [.ref 139, .int x1, .int x6, .int (I 139 32), .int (I 139 33), .int x5, .int x6]) rfl (Nat.le_of_ble_eq_true rfl) rfl).trans ?_
      refine (ev_aload rfl rfl).trans ?_
      refine (ev_getI rfl (by decide) am_K_139 (by decide) rfl).trans ?_
      refine (ev_istore (ls' := [.ref 139, .int x1, .int x6, .int (I 139 32), .int (I 139 33), .int (I 139 34), .int x6]) rfl (Nat.le_of_ble_eq_true rfl) rfl).trans ?_
      refine (ev_iincv (v := (1 : Int32)) (ls' := [.ref 139, .int x1, .int x6, .int (I 139 32), .int (I 139 33), .int (I 139 34), .int (x6 + (1 : Int32))]) rfl am_ci_1 rfl rfl).trans ?_
      refine (ev_goto rfl).trans ?_
      rfl
    · refine (ev_goto rfl).trans ?_
      refine (ev_iincv (v := (1 : Int32)) (ls' := [.ref 139, .int x1, .int x2, .int x3, .int x4, .int x5, .int (x6 + (1 : Int32))]) rfl am_ci_1 rfl rfl).trans ?_
      refine (ev_goto rfl).trans ?_
      rfl
-- 323 X12_laysSecond
set_option maxRecDepth 10000 in
theorem sg_323_e0 (X : am_X) (I : Nat → Nat → Int32) (J : Nat → Nat → Int64) (x1 : Int32) (x2 : Int32) (x3 : Int32) (x4 : Int32) : am_ev X amP_323 0 [.ref 139, .int x1, .int x2, .int x3, .int x4, .null, .null, .null, .null] [] (am_sh I J) = (am_do X 314 [.ref 139, .int x1, .int (1 : Int32)] (am_sh I J)).bind (fun q => am_ev X amP_323 4 [.ref 139, .int x1, .int x2, .int x3, .int x4, .null, .null, .null, .null] (q.1.toList ++ []) q.2) := by
  refine (ev_aload rfl rfl).trans ?_
  refine (ev_iload rfl rfl).trans ?_
  refine (ev_const0 (v := (1 : Int32)) rfl am_ci_1).trans ?_
  exact ev_invv (as := [.int (1 : Int32), .int x1]) rfl (by decide) am_K_139 rfl (by simp [Value.category])
theorem cl_323 (X : am_X) (I : Nat → Nat → Int32) (J : Nat → Nat → Int64) (x1 : Int32) (x2 : Int32) (x3 : Int32) (x4 : Int32) : am_do X 323 [.ref 139, .int x1, .int x2, .int x3, .int x4] (am_sh I J) = am_ev X amP_323 0 [.ref 139, .int x1, .int x2, .int x3, .int x4, .null, .null, .null, .null] [] (am_sh I J) := am_do_of rfl rfl rfl
set_option maxRecDepth 10000 in
theorem sg_323_4 (X : am_X) (I : Nat → Nat → Int32) (J : Nat → Nat → Int64) (x1 : Int32) (x2 : Int32) (x3 : Int32) (x4 : Int32) (w5 : Value) (w6 : Value) (w7 : Value) (w8 : Value) (hw5 : w5.category = 1) (hw6 : w6.category = 1) (hw7 : w7.category = 1) (hw8 : w8.category = 1) : am_ev X amP_323 4 [.ref 139, .int x1, .int x2, .int x3, .int x4, w5, w6, w7, w8] [] (am_sh I J) = am_ev X amP_323 6 [.ref 139, .int x1, .int x2, .int x3, .int x4, .int (0 : Int32), w6, w7, w8] [] (am_sh I J) := by
  refine (ev_const0 (v := (0 : Int32)) rfl am_ci_0).trans ?_
  refine (ev_istore (ls' := [.ref 139, .int x1, .int x2, .int x3, .int x4, .int (0 : Int32), w6, w7, w8]) rfl (Nat.le_of_ble_eq_true rfl) rfl).trans ?_
  rfl
set_option maxRecDepth 10000 in
theorem sg_323_6 (X : am_X) (I : Nat → Nat → Int32) (J : Nat → Nat → Int64) (x1 : Int32) (x2 : Int32) (x3 : Int32) (x4 : Int32) (x5 : Int32) (w6 : Value) (w7 : Value) (w8 : Value) (hw6 : w6.category = 1) (hw7 : w7.category = 1) (hw8 : w8.category = 1) : am_ev X amP_323 6 [.ref 139, .int x1, .int x2, .int x3, .int x4, .int x5, w6, w7, w8] [] (am_sh I J) = (if (6 : Int32) ≤ x5 then some (none, am_sh I J) else am_ev X amP_323 11 [.ref 139, .int x1, .int x2, .int x3, .int x4, .int x5, .int (1 : Int32), w7, w8] [] (am_sh I J)) := by
  refine (ev_iload rfl rfl).trans ?_
  refine (ev_const1 (v := (6 : Int32)) rfl am_ci_6).trans ?_
  refine (ev_icmp3 rfl).trans (am_ite (fun c1 => ?_) (fun c1 => ?_))
  · exact ev_vret rfl
  · refine (ev_const0 (v := (1 : Int32)) rfl am_ci_1).trans ?_
    refine (ev_istore (ls' := [.ref 139, .int x1, .int x2, .int x3, .int x4, .int x5, .int (1 : Int32), w7, w8]) rfl (Nat.le_of_ble_eq_true rfl) rfl).trans ?_
    rfl
set_option maxRecDepth 10000 in
theorem sg_323_11 (X : am_X) (I : Nat → Nat → Int32) (J : Nat → Nat → Int64) (x1 : Int32) (x2 : Int32) (x3 : Int32) (x4 : Int32) (x5 : Int32) (x6 : Int32) (w7 : Value) (w8 : Value) (hw7 : w7.category = 1) (hw8 : w8.category = 1) : am_ev X amP_323 11 [.ref 139, .int x1, .int x2, .int x3, .int x4, .int x5, .int x6, w7, w8] [] (am_sh I J) = (if (5 : Int32) < x6 then am_ev X amP_323 6 [.ref 139, .int x1, .int x2, .int x3, .int x4, .int (x5 + (1 : Int32)), .int x6, w7, w8] [] (am_sh I J) else (am_do X 312 [.ref 139, .int x1, .int x5, .int x6] (am_sh I J)).bind (fun q => am_ev X amP_323 19 [.ref 139, .int x1, .int x2, .int x3, .int x4, .int x5, .int x6, w7, w8] (q.1.toList ++ []) q.2)) := by
  refine (ev_iload rfl rfl).trans ?_
  refine (ev_const0 (v := (5 : Int32)) rfl am_ci_5).trans ?_
  refine (ev_icmp4 rfl).trans (am_ite (fun c1 => ?_) (fun c1 => ?_))
  · refine (ev_iincv (v := (1 : Int32)) (ls' := [.ref 139, .int x1, .int x2, .int x3, .int x4, .int (x5 + (1 : Int32)), .int x6, w7, w8]) rfl am_ci_1 rfl rfl).trans ?_
    refine (ev_goto rfl).trans ?_
    rfl
  · refine (ev_aload rfl rfl).trans ?_
    refine (ev_iload rfl rfl).trans ?_
    refine (ev_iload rfl rfl).trans ?_
    refine (ev_iload rfl rfl).trans ?_
    exact ev_invv (as := [.int x6, .int x5, .int x1]) rfl (by decide) am_K_139 rfl (by simp [Value.category])
set_option maxRecDepth 10000 in
theorem sg_323_19 (X : am_X) (I : Nat → Nat → Int32) (J : Nat → Nat → Int64) (x1 : Int32) (x2 : Int32) (x3 : Int32) (x4 : Int32) (x5 : Int32) (x6 : Int32) (w7 : Value) (w8 : Value) (x9 : Int32) (hw7 : w7.category = 1) (hw8 : w8.category = 1) : am_ev X amP_323 19 [.ref 139, .int x1, .int x2, .int x3, .int x4, .int x5, .int x6, w7, w8] [.int x9] (am_sh I J) = (if x9 = 0 then am_ev X amP_323 11 [.ref 139, .int x1, .int x2, .int x3, .int x4, .int x5, .int (x6 + (1 : Int32)), w7, w8] [] (am_sh I J) else (am_do X 311 [.ref 139, .int x1, .int x5, .int x6] (am_sh I J)).bind (fun q => am_ev X amP_323 26 [.ref 139, .int x1, .int x2, .int x3, .int x4, .int x5, .int x6, w7, w8] (q.1.toList ++ [.int x4]) q.2)) := by
  refine (ev_if0 rfl).trans (am_ite (fun c1 => ?_) (fun c1 => ?_))
  · refine (ev_iincv (v := (1 : Int32)) (ls' := [.ref 139, .int x1, .int x2, .int x3, .int x4, .int x5, .int (x6 + (1 : Int32)), w7, w8]) rfl am_ci_1 rfl rfl).trans ?_
    refine (ev_goto rfl).trans ?_
    rfl
  · refine (ev_iload rfl rfl).trans ?_
    refine (ev_aload rfl rfl).trans ?_
    refine (ev_iload rfl rfl).trans ?_
    refine (ev_iload rfl rfl).trans ?_
    refine (ev_iload rfl rfl).trans ?_
    exact ev_invv (as := [.int x6, .int x5, .int x1]) rfl (by decide) am_K_139 rfl (by simp [Value.category])
set_option maxRecDepth 10000 in
theorem sg_323_26 (X : am_X) (I : Nat → Nat → Int32) (J : Nat → Nat → Int64) (x1 : Int32) (x2 : Int32) (x3 : Int32) (x4 : Int32) (x5 : Int32) (x6 : Int32) (w7 : Value) (w8 : Value) (x9 : Int32) (x10 : Int32) (hw7 : w7.category = 1) (hw8 : w8.category = 1) : am_ev X amP_323 26 [.ref 139, .int x1, .int x2, .int x3, .int x4, .int x5, .int x6, w7, w8] [.int x10, .int x9] (am_sh I J) = (if (x9 + x10) < (I 157 4) then (am_do X 311 [.ref 139, .int x1, .int x5, .int x6] (am_sh I J)).bind (fun q => am_ev X amP_323 39 [.ref 139, .int x1, .int x2, .int x3, .int x4, .int x5, .int x6, w7, w8] (q.1.toList ++ [.int x4]) q.2) else am_ev X amP_323 11 [.ref 139, .int x1, .int x2, .int x3, .int x4, .int x5, .int (x6 + (1 : Int32)), w7, w8] [] (am_sh I J)) := by
  refine (ev_iadd rfl).trans ?_
  refine (ev_aload rfl rfl).trans ?_
  refine (ev_getR rfl (by decide) am_K_139 (by decide) rfl am_R_139_35).trans ?_
  refine (ev_const0 (v := (4 : Int32)) rfl am_ci_4).trans ?_
  refine (ev_ialdC (jn := 4) rfl (by decide) am_K_157 (by decide) (by decide)).trans ?_
  refine (ev_icmp2 rfl).trans (am_ite (fun c1 => ?_) (fun c1 => ?_))
  · refine (ev_iload rfl rfl).trans ?_
    refine (ev_aload rfl rfl).trans ?_
    refine (ev_iload rfl rfl).trans ?_
    refine (ev_iload rfl rfl).trans ?_
    refine (ev_iload rfl rfl).trans ?_
    exact ev_invv (as := [.int x6, .int x5, .int x1]) rfl (by decide) am_K_139 rfl (by simp [Value.category])
  · refine (ev_goto rfl).trans ?_
    refine (ev_iincv (v := (1 : Int32)) (ls' := [.ref 139, .int x1, .int x2, .int x3, .int x4, .int x5, .int (x6 + (1 : Int32)), w7, w8]) rfl am_ci_1 rfl rfl).trans ?_
    refine (ev_goto rfl).trans ?_
    rfl
set_option maxRecDepth 10000 in
theorem sg_323_39 (X : am_X) (I : Nat → Nat → Int32) (J : Nat → Nat → Int64) (x1 : Int32) (x2 : Int32) (x3 : Int32) (x4 : Int32) (x5 : Int32) (x6 : Int32) (w7 : Value) (w8 : Value) (x9 : Int32) (x10 : Int32) (hw7 : w7.category = 1) (hw8 : w8.category = 1) : am_ev X amP_323 39 [.ref 139, .int x1, .int x2, .int x3, .int x4, .int x5, .int x6, w7, w8] [.int x10, .int x9] (am_sh I J) = (am_do X 313 [.ref 139, .int x1, .int x5, .int x6] (am_sh I J)).bind (fun q => am_ev X amP_323 46 [.ref 139, .int x1, .int x2, .int x3, .int x4, .int x5, .int x6, .int (x9 + x10), w8] (q.1.toList ++ []) q.2) := by
  refine (ev_iadd rfl).trans ?_
  refine (ev_istore (ls' := [.ref 139, .int x1, .int x2, .int x3, .int x4, .int x5, .int x6, .int (x9 + x10), w8]) rfl (Nat.le_of_ble_eq_true rfl) rfl).trans ?_
  refine (ev_aload rfl rfl).trans ?_
  refine (ev_iload rfl rfl).trans ?_
  refine (ev_iload rfl rfl).trans ?_
  refine (ev_iload rfl rfl).trans ?_
  exact ev_invv (as := [.int x6, .int x5, .int x1]) rfl (by decide) am_K_139 rfl (by simp [Value.category])
set_option maxRecDepth 10000 in
theorem sg_323_46 (X : am_X) (I : Nat → Nat → Int32) (J : Nat → Nat → Int64) (x1 : Int32) (x2 : Int32) (x3 : Int32) (x4 : Int32) (x5 : Int32) (x6 : Int32) (x7 : Int32) (w8 : Value) (hw8 : w8.category = 1) : am_ev X amP_323 46 [.ref 139, .int x1, .int x2, .int x3, .int x4, .int x5, .int x6, .int x7, w8] [] (am_sh I J) = (am_do X 290 [.ref 139, .int x1] (am_sh I J)).bind (fun q => am_ev X amP_323 49 [.ref 139, .int x1, .int x2, .int x3, .int x4, .int x5, .int x6, .int x7, w8] (q.1.toList ++ []) q.2) := by
  refine (ev_aload rfl rfl).trans ?_
  refine (ev_iload rfl rfl).trans ?_
  exact ev_invv (as := [.int x1]) rfl (by decide) am_K_139 rfl (by simp [Value.category])
set_option maxRecDepth 10000 in
theorem sg_323_49 (X : am_X) (I : Nat → Nat → Int32) (J : Nat → Nat → Int64) (x1 : Int32) (x2 : Int32) (x3 : Int32) (x4 : Int32) (x5 : Int32) (x6 : Int32) (x7 : Int32) (w8 : Value) (x9 : Int32) (hw8 : w8.category = 1) : am_ev X amP_323 49 [.ref 139, .int x1, .int x2, .int x3, .int x4, .int x5, .int x6, .int x7, w8] [.int x9] (am_sh I J) = (if ¬ x9 = 0 then (am_do X 315 [.ref 139, .int x1, .int (1 : Int32)] (am_sh I J)).bind (fun q => am_ev X amP_323 58 [.ref 139, .int x1, .int x2, .int x3, .int x4, .int x5, .int x6, .int x7, .int (0 : Int32)] (q.1.toList ++ []) q.2) else (am_do X 315 [.ref 139, .int x1, .int (1 : Int32)] (am_sh I J)).bind (fun q => am_ev X amP_323 58 [.ref 139, .int x1, .int x2, .int x3, .int x4, .int x5, .int x6, .int x7, .int (1 : Int32)] (q.1.toList ++ []) q.2)) := by
  refine (ev_if1 rfl).trans (am_ite (fun c1 => ?_) (fun c1 => ?_))
  · refine (ev_const0 (v := (0 : Int32)) rfl am_ci_0).trans ?_
    refine (ev_istore (ls' := [.ref 139, .int x1, .int x2, .int x3, .int x4, .int x5, .int x6, .int x7, .int (0 : Int32)]) rfl (Nat.le_of_ble_eq_true rfl) rfl).trans ?_
    refine (ev_aload rfl rfl).trans ?_
    refine (ev_iload rfl rfl).trans ?_
    refine (ev_const0 (v := (1 : Int32)) rfl am_ci_1).trans ?_
    exact ev_invv (as := [.int (1 : Int32), .int x1]) rfl (by decide) am_K_139 rfl (by simp [Value.category])
  · refine (ev_const0 (v := (1 : Int32)) rfl am_ci_1).trans ?_
    refine (ev_goto rfl).trans ?_
    refine (ev_istore (ls' := [.ref 139, .int x1, .int x2, .int x3, .int x4, .int x5, .int x6, .int x7, .int (1 : Int32)]) rfl (Nat.le_of_ble_eq_true rfl) rfl).trans ?_
    refine (ev_aload rfl rfl).trans ?_
    refine (ev_iload rfl rfl).trans ?_
    refine (ev_const0 (v := (1 : Int32)) rfl am_ci_1).trans ?_
    exact ev_invv (as := [.int (1 : Int32), .int x1]) rfl (by decide) am_K_139 rfl (by simp [Value.category])
set_option maxRecDepth 10000 in
theorem sg_323_58 (X : am_X) (I : Nat → Nat → Int32) (J : Nat → Nat → Int64) (x1 : Int32) (x2 : Int32) (x3 : Int32) (x4 : Int32) (x5 : Int32) (x6 : Int32) (x7 : Int32) (x8 : Int32) : am_ev X amP_323 58 [.ref 139, .int x1, .int x2, .int x3, .int x4, .int x5, .int x6, .int x7, .int x8] [] (am_sh I J) = (if ¬ x8 = 0 then am_ev X amP_323 11 [.ref 139, .int x1, .int x2, .int x3, .int x4, .int x5, .int (x6 + (1 : Int32)), .int x7, .int x8] [] (am_sh (am_up (am_up (am_up (am_up (am_up I 157 0 x2) 157 1 x3) 157 2 x5) 157 3 x6) 157 4 x7) J) else am_ev X amP_323 11 [.ref 139, .int x1, .int x2, .int x3, .int x4, .int x5, .int (x6 + (1 : Int32)), .int x7, .int x8] [] (am_sh I J)) := by
  refine (ev_iload rfl rfl).trans ?_
  refine (ev_if1 rfl).trans (am_ite (fun c1 => ?_) (fun c1 => ?_))
  · refine (ev_aload rfl rfl).trans ?_
    refine (ev_getR rfl (by decide) am_K_139 (by decide) rfl am_R_139_35).trans ?_
    refine (ev_const0 (v := (0 : Int32)) rfl am_ci_0).trans ?_
    refine (ev_iload rfl rfl).trans ?_
    refine (ev_iastC (jn := 0) rfl (by decide) am_K_157 (by decide) (by decide)).trans ?_
    refine (ev_aload rfl rfl).trans ?_
    refine (ev_getR rfl (by decide) am_K_139 (by decide) rfl am_R_139_35).trans ?_
    refine (ev_const0 (v := (1 : Int32)) rfl am_ci_1).trans ?_
    refine (ev_iload rfl rfl).trans ?_
    refine (ev_iastC (jn := 1) rfl (by decide) am_K_157 (by decide) (by decide)).trans ?_
    refine (ev_aload rfl rfl).trans ?_
    refine (ev_getR rfl (by decide) am_K_139 (by decide) rfl am_R_139_35).trans ?_
    refine (ev_const0 (v := (2 : Int32)) rfl am_ci_2).trans ?_
    refine (ev_iload rfl rfl).trans ?_
    refine (ev_iastC (jn := 2) rfl (by decide) am_K_157 (by decide) (by decide)).trans ?_
    refine (ev_aload rfl rfl).trans ?_
    refine (ev_getR rfl (by decide) am_K_139 (by decide) rfl am_R_139_35).trans ?_
    refine (ev_const0 (v := (3 : Int32)) rfl am_ci_3).trans ?_
    refine (ev_iload rfl rfl).trans ?_
    refine (ev_iastC (jn := 3) rfl (by decide) am_K_157 (by decide) (by decide)).trans ?_
    refine (ev_aload rfl rfl).trans ?_
    refine (ev_getR rfl (by decide) am_K_139 (by decide) rfl am_R_139_35).trans ?_
    refine (ev_const0 (v := (4 : Int32)) rfl am_ci_4).trans ?_
    refine (ev_iload rfl rfl).trans ?_
    refine (ev_iastC (jn := 4) rfl (by decide) am_K_157 (by decide) (by decide)).trans ?_
    refine (ev_iincv (v := (1 : Int32)) (ls' := [.ref 139, .int x1, .int x2, .int x3, .int x4, .int x5, .int (x6 + (1 : Int32)), .int x7, .int x8]) rfl am_ci_1 rfl rfl).trans ?_
    refine (ev_goto rfl).trans ?_
    rfl
  · refine (ev_goto rfl).trans ?_
    refine (ev_iincv (v := (1 : Int32)) (ls' := [.ref 139, .int x1, .int x2, .int x3, .int x4, .int x5, .int (x6 + (1 : Int32)), .int x7, .int x8]) rfl am_ci_1 rfl rfl).trans ?_
    refine (ev_goto rfl).trans ?_
    rfl
-- 324 X12_twice
set_option maxRecDepth 10000 in
theorem sg_324_e0 (X : am_X) (I : Nat → Nat → Int32) (J : Nat → Nat → Int64) (x1 : Int32) (x2 : Int32) : am_ev X amP_324 0 [.ref 139, .int x1, .int x2, .null, .null, .null] [] (am_sh I J) = (am_do X 256 [.ref 139, .int x1] (am_sh I J)).bind (fun q => am_ev X amP_324 3 [.ref 139, .int x1, .int x2, .null, .null, .null] (q.1.toList ++ []) q.2) := by
  refine (ev_aload rfl rfl).trans ?_
  refine (ev_iload rfl rfl).trans ?_
  exact ev_invv (as := [.int x1]) rfl (by decide) am_K_139 rfl (by simp [Value.category])
theorem cl_324 (X : am_X) (I : Nat → Nat → Int32) (J : Nat → Nat → Int64) (x1 : Int32) (x2 : Int32) : am_do X 324 [.ref 139, .int x1, .int x2] (am_sh I J) = am_ev X amP_324 0 [.ref 139, .int x1, .int x2, .null, .null, .null] [] (am_sh I J) := am_do_of rfl rfl rfl
set_option maxRecDepth 10000 in
theorem sg_324_3 (X : am_X) (I : Nat → Nat → Int32) (J : Nat → Nat → Int64) (x1 : Int32) (x2 : Int32) (w3 : Value) (w4 : Value) (w5 : Value) (x6 : Int32) (hw3 : w3.category = 1) (hw4 : w4.category = 1) (hw5 : w5.category = 1) : am_ev X amP_324 3 [.ref 139, .int x1, .int x2, w3, w4, w5] [.int x6] (am_sh I J) = (if x6 = 0 then some (some (.int (-1 : Int32)), am_sh I J) else (am_do X 243 [.ref 139, .int x1] (am_sh I J)).bind (fun q => am_ev X amP_324 7 [.ref 139, .int x1, .int x2, w3, w4, w5] (q.1.toList ++ []) q.2)) := by
  refine (ev_if0 rfl).trans (am_ite (fun c1 => ?_) (fun c1 => ?_))
  · refine (ev_const0 (v := (-1 : Int32)) rfl am_ci_m1).trans ?_
    exact ev_iret rfl
  · refine (ev_aload rfl rfl).trans ?_
    refine (ev_iload rfl rfl).trans ?_
    exact ev_invv (as := [.int x1]) rfl (by decide) am_K_139 rfl (by simp [Value.category])
set_option maxRecDepth 10000 in
theorem sg_324_7 (X : am_X) (I : Nat → Nat → Int32) (J : Nat → Nat → Int64) (x1 : Int32) (x2 : Int32) (w3 : Value) (w4 : Value) (w5 : Value) (x6 : Int32) (hw3 : w3.category = 1) (hw4 : w4.category = 1) (hw5 : w5.category = 1) : am_ev X amP_324 7 [.ref 139, .int x1, .int x2, w3, w4, w5] [.int x6] (am_sh I J) = (if x6 = 0 then some (some (.int (-1 : Int32)), am_sh I J) else (am_do X 214 [.int x2, .int (0 : Int32), .int (4 : Int32)] (am_sh I J)).bind (fun q => am_ev X amP_324 12 [.ref 139, .int x1, .int x2, w3, w4, w5] (q.1.toList ++ []) q.2)) := by
  refine (ev_if0 rfl).trans (am_ite (fun c1 => ?_) (fun c1 => ?_))
  · refine (ev_const0 (v := (-1 : Int32)) rfl am_ci_m1).trans ?_
    exact ev_iret rfl
  · refine (ev_iload rfl rfl).trans ?_
    refine (ev_const0 (v := (0 : Int32)) rfl am_ci_0).trans ?_
    refine (ev_const0 (v := (4 : Int32)) rfl am_ci_4).trans ?_
    exact ev_invs (as := [.int (4 : Int32), .int (0 : Int32), .int x2]) rfl rfl (by simp [Value.category])
set_option maxRecDepth 10000 in
theorem sg_324_12 (X : am_X) (I : Nat → Nat → Int32) (J : Nat → Nat → Int64) (x1 : Int32) (x2 : Int32) (w3 : Value) (w4 : Value) (w5 : Value) (x6 : Int32) (hw3 : w3.category = 1) (hw4 : w4.category = 1) (hw5 : w5.category = 1) : am_ev X amP_324 12 [.ref 139, .int x1, .int x2, w3, w4, w5] [.int x6] (am_sh I J) = (if x6 = 0 then some (some (.int (-1 : Int32)), am_sh I J) else (am_do X 290 [.ref 139, .int x1] (am_sh I J)).bind (fun q => am_ev X amP_324 16 [.ref 139, .int x1, .int x2, w3, w4, w5] (q.1.toList ++ []) q.2)) := by
  refine (ev_if0 rfl).trans (am_ite (fun c1 => ?_) (fun c1 => ?_))
  · refine (ev_const0 (v := (-1 : Int32)) rfl am_ci_m1).trans ?_
    exact ev_iret rfl
  · refine (ev_aload rfl rfl).trans ?_
    refine (ev_iload rfl rfl).trans ?_
    exact ev_invv (as := [.int x1]) rfl (by decide) am_K_139 rfl (by simp [Value.category])
set_option maxRecDepth 10000 in
theorem sg_324_16 (X : am_X) (I : Nat → Nat → Int32) (J : Nat → Nat → Int64) (x1 : Int32) (x2 : Int32) (w3 : Value) (w4 : Value) (w5 : Value) (x6 : Int32) (hw3 : w3.category = 1) (hw4 : w4.category = 1) (hw5 : w5.category = 1) : am_ev X amP_324 16 [.ref 139, .int x1, .int x2, w3, w4, w5] [.int x6] (am_sh I J) = (if ¬ x6 = 0 then (am_do X 314 [.ref 139, .int x1, .int (0 : Int32)] (am_sh (am_up I 157 4 (1000000000 : Int32)) J)).bind (fun q => am_ev X amP_324 28 [.ref 139, .int x1, .int x2, w3, w4, w5] (q.1.toList ++ []) q.2) else some (some (.int (-1 : Int32)), am_sh I J)) := by
  refine (ev_if1 rfl).trans (am_ite (fun c1 => ?_) (fun c1 => ?_))
  · refine (ev_aload rfl rfl).trans ?_
    refine (ev_getR rfl (by decide) am_K_139 (by decide) rfl am_R_139_35).trans ?_
    refine (ev_const0 (v := (4 : Int32)) rfl am_ci_4).trans ?_
    refine (ev_const3 (v := (1000000000 : Int32)) rfl am_ci_1000000000).trans ?_
    refine (ev_iastC (jn := 4) rfl (by decide) am_K_157 (by decide) (by decide)).trans ?_
    refine (ev_aload rfl rfl).trans ?_
    refine (ev_iload rfl rfl).trans ?_
    refine (ev_const0 (v := (0 : Int32)) rfl am_ci_0).trans ?_
    exact ev_invv (as := [.int (0 : Int32), .int x1]) rfl (by decide) am_K_139 rfl (by simp [Value.category])
  · refine (ev_const0 (v := (-1 : Int32)) rfl am_ci_m1).trans ?_
    exact ev_iret rfl
set_option maxRecDepth 10000 in
theorem sg_324_28 (X : am_X) (I : Nat → Nat → Int32) (J : Nat → Nat → Int64) (x1 : Int32) (x2 : Int32) (w3 : Value) (w4 : Value) (w5 : Value) (hw3 : w3.category = 1) (hw4 : w4.category = 1) (hw5 : w5.category = 1) : am_ev X amP_324 28 [.ref 139, .int x1, .int x2, w3, w4, w5] [] (am_sh I J) = am_ev X amP_324 30 [.ref 139, .int x1, .int x2, .int (0 : Int32), w4, w5] [] (am_sh I J) := by
  refine (ev_const0 (v := (0 : Int32)) rfl am_ci_0).trans ?_
  refine (ev_istore (ls' := [.ref 139, .int x1, .int x2, .int (0 : Int32), w4, w5]) rfl (Nat.le_of_ble_eq_true rfl) rfl).trans ?_
  rfl
set_option maxRecDepth 10000 in
theorem sg_324_30 (X : am_X) (I : Nat → Nat → Int32) (J : Nat → Nat → Int64) (x1 : Int32) (x2 : Int32) (x3 : Int32) (w4 : Value) (w5 : Value) (hw4 : w4.category = 1) (hw5 : w5.category = 1) : am_ev X amP_324 30 [.ref 139, .int x1, .int x2, .int x3, w4, w5] [] (am_sh I J) = (if (6 : Int32) ≤ x3 then (if ¬ (I 157 4) = (1000000000 : Int32) then (if x2 < 0 ∨ 5 ≤ x2.toNatClampNeg then none else some (some (.int (I 157 x2.toNatClampNeg)), am_sh I J)) else some (some (.int (-1 : Int32)), am_sh I J)) else am_ev X amP_324 35 [.ref 139, .int x1, .int x2, .int x3, .int (1 : Int32), w5] [] (am_sh I J)) := by
  refine (ev_iload rfl rfl).trans ?_
  refine (ev_const1 (v := (6 : Int32)) rfl am_ci_6).trans ?_
  refine (ev_icmp3 rfl).trans (am_ite (fun c1 => ?_) (fun c1 => ?_))
  · refine (ev_aload rfl rfl).trans ?_
    refine (ev_getR rfl (by decide) am_K_139 (by decide) rfl am_R_139_35).trans ?_
    refine (ev_const0 (v := (4 : Int32)) rfl am_ci_4).trans ?_
    refine (ev_ialdC (jn := 4) rfl (by decide) am_K_157 (by decide) (by decide)).trans ?_
    refine (ev_const3 (v := (1000000000 : Int32)) rfl am_ci_1000000000).trans ?_
    refine (ev_icmp1 rfl).trans (am_ite (fun c2 => ?_) (fun c2 => ?_))
    · refine (ev_aload rfl rfl).trans ?_
      refine (ev_getR rfl (by decide) am_K_139 (by decide) rfl am_R_139_35).trans ?_
      refine (ev_iload rfl rfl).trans ?_
      refine (ev_iald rfl (by decide) am_K_157).trans (am_itn (fun g3 => ?_))
      exact ev_iret rfl
    · refine (ev_const0 (v := (-1 : Int32)) rfl am_ci_m1).trans ?_
      refine (ev_goto rfl).trans ?_
      exact ev_iret rfl
  · refine (ev_const0 (v := (1 : Int32)) rfl am_ci_1).trans ?_
    refine (ev_istore (ls' := [.ref 139, .int x1, .int x2, .int x3, .int (1 : Int32), w5]) rfl (Nat.le_of_ble_eq_true rfl) rfl).trans ?_
    rfl
set_option maxRecDepth 10000 in
theorem sg_324_35 (X : am_X) (I : Nat → Nat → Int32) (J : Nat → Nat → Int64) (x1 : Int32) (x2 : Int32) (x3 : Int32) (x4 : Int32) (w5 : Value) (hw5 : w5.category = 1) : am_ev X amP_324 35 [.ref 139, .int x1, .int x2, .int x3, .int x4, w5] [] (am_sh I J) = (if (5 : Int32) < x4 then am_ev X amP_324 30 [.ref 139, .int x1, .int x2, .int (x3 + (1 : Int32)), .int x4, w5] [] (am_sh I J) else (am_do X 312 [.ref 139, .int x1, .int x3, .int x4] (am_sh I J)).bind (fun q => am_ev X amP_324 43 [.ref 139, .int x1, .int x2, .int x3, .int x4, w5] (q.1.toList ++ []) q.2)) := by
  refine (ev_iload rfl rfl).trans ?_
  refine (ev_const0 (v := (5 : Int32)) rfl am_ci_5).trans ?_
  refine (ev_icmp4 rfl).trans (am_ite (fun c1 => ?_) (fun c1 => ?_))
  · refine (ev_iincv (v := (1 : Int32)) (ls' := [.ref 139, .int x1, .int x2, .int (x3 + (1 : Int32)), .int x4, w5]) rfl am_ci_1 rfl rfl).trans ?_
    refine (ev_goto rfl).trans ?_
    rfl
  · refine (ev_aload rfl rfl).trans ?_
    refine (ev_iload rfl rfl).trans ?_
    refine (ev_iload rfl rfl).trans ?_
    refine (ev_iload rfl rfl).trans ?_
    exact ev_invv (as := [.int x4, .int x3, .int x1]) rfl (by decide) am_K_139 rfl (by simp [Value.category])
set_option maxRecDepth 10000 in
theorem sg_324_43 (X : am_X) (I : Nat → Nat → Int32) (J : Nat → Nat → Int64) (x1 : Int32) (x2 : Int32) (x3 : Int32) (x4 : Int32) (w5 : Value) (x6 : Int32) (hw5 : w5.category = 1) : am_ev X amP_324 43 [.ref 139, .int x1, .int x2, .int x3, .int x4, w5] [.int x6] (am_sh I J) = (if ¬ x6 = 0 then (am_do X 311 [.ref 139, .int x1, .int x3, .int x4] (am_sh I J)).bind (fun q => am_ev X amP_324 50 [.ref 139, .int x1, .int x2, .int x3, .int x4, w5] (q.1.toList ++ []) q.2) else am_ev X amP_324 35 [.ref 139, .int x1, .int x2, .int x3, .int (x4 + (1 : Int32)), w5] [] (am_sh I J)) := by
  refine (ev_if1 rfl).trans (am_ite (fun c1 => ?_) (fun c1 => ?_))
  · refine (ev_aload rfl rfl).trans ?_
    refine (ev_iload rfl rfl).trans ?_
    refine (ev_iload rfl rfl).trans ?_
    refine (ev_iload rfl rfl).trans ?_
    exact ev_invv (as := [.int x4, .int x3, .int x1]) rfl (by decide) am_K_139 rfl (by simp [Value.category])
  · refine (ev_goto rfl).trans ?_
    refine (ev_iincv (v := (1 : Int32)) (ls' := [.ref 139, .int x1, .int x2, .int x3, .int (x4 + (1 : Int32)), w5]) rfl am_ci_1 rfl rfl).trans ?_
    refine (ev_goto rfl).trans ?_
    rfl
set_option maxRecDepth 10000 in
theorem sg_324_50 (X : am_X) (I : Nat → Nat → Int32) (J : Nat → Nat → Int64) (x1 : Int32) (x2 : Int32) (x3 : Int32) (x4 : Int32) (w5 : Value) (x6 : Int32) (hw5 : w5.category = 1) : am_ev X amP_324 50 [.ref 139, .int x1, .int x2, .int x3, .int x4, w5] [.int x6] (am_sh I J) = (am_do X 313 [.ref 139, .int x1, .int x3, .int x4] (am_sh I J)).bind (fun q => am_ev X amP_324 56 [.ref 139, .int x1, .int x2, .int x3, .int x4, .int x6] (q.1.toList ++ []) q.2) := by
  refine (ev_istore (ls' := [.ref 139, .int x1, .int x2, .int x3, .int x4, .int x6]) rfl (Nat.le_of_ble_eq_true rfl) rfl).trans ?_
  refine (ev_aload rfl rfl).trans ?_
  refine (ev_iload rfl rfl).trans ?_
  refine (ev_iload rfl rfl).trans ?_
  refine (ev_iload rfl rfl).trans ?_
  exact ev_invv (as := [.int x4, .int x3, .int x1]) rfl (by decide) am_K_139 rfl (by simp [Value.category])
set_option maxRecDepth 10000 in
theorem sg_324_56 (X : am_X) (I : Nat → Nat → Int32) (J : Nat → Nat → Int64) (x1 : Int32) (x2 : Int32) (x3 : Int32) (x4 : Int32) (x5 : Int32) : am_ev X amP_324 56 [.ref 139, .int x1, .int x2, .int x3, .int x4, .int x5] [] (am_sh I J) = (am_do X 323 [.ref 139, .int x1, .int x3, .int x4, .int x5] (am_sh I J)).bind (fun q => am_ev X amP_324 62 [.ref 139, .int x1, .int x2, .int x3, .int x4, .int x5] (q.1.toList ++ []) q.2) := by
  refine (ev_aload rfl rfl).trans ?_
  refine (ev_iload rfl rfl).trans ?_
  refine (ev_iload rfl rfl).trans ?_
  refine (ev_iload rfl rfl).trans ?_
  refine (ev_iload rfl rfl).trans ?_
  exact ev_invv (as := [.int x5, .int x4, .int x3, .int x1]) rfl (by decide) am_K_139 rfl (by simp [Value.category])
set_option maxRecDepth 10000 in
theorem sg_324_62 (X : am_X) (I : Nat → Nat → Int32) (J : Nat → Nat → Int64) (x1 : Int32) (x2 : Int32) (x3 : Int32) (x4 : Int32) (x5 : Int32) : am_ev X amP_324 62 [.ref 139, .int x1, .int x2, .int x3, .int x4, .int x5] [] (am_sh I J) = (am_do X 315 [.ref 139, .int x1, .int (0 : Int32)] (am_sh I J)).bind (fun q => am_ev X amP_324 66 [.ref 139, .int x1, .int x2, .int x3, .int x4, .int x5] (q.1.toList ++ []) q.2) := by
  refine (ev_aload rfl rfl).trans ?_
  refine (ev_iload rfl rfl).trans ?_
  refine (ev_const0 (v := (0 : Int32)) rfl am_ci_0).trans ?_
  exact ev_invv (as := [.int (0 : Int32), .int x1]) rfl (by decide) am_K_139 rfl (by simp [Value.category])
set_option maxRecDepth 10000 in
theorem sg_324_66 (X : am_X) (I : Nat → Nat → Int32) (J : Nat → Nat → Int64) (x1 : Int32) (x2 : Int32) (x3 : Int32) (x4 : Int32) (x5 : Int32) : am_ev X amP_324 66 [.ref 139, .int x1, .int x2, .int x3, .int x4, .int x5] [] (am_sh I J) = am_ev X amP_324 35 [.ref 139, .int x1, .int x2, .int x3, .int (x4 + (1 : Int32)), .int x5] [] (am_sh I J) := by
  refine (ev_iincv (v := (1 : Int32)) (ls' := [.ref 139, .int x1, .int x2, .int x3, .int (x4 + (1 : Int32)), .int x5]) rfl am_ci_1 rfl rfl).trans ?_
  refine (ev_goto rfl).trans ?_
  rfl
-- 325 X12_room
set_option maxRecDepth 10000 in
theorem sg_325_e0 (X : am_X) (I : Nat → Nat → Int32) (J : Nat → Nat → Int64) (x1 : Int32) (x2 : Int32) : am_ev X amP_325 0 [.ref 139, .int x1, .int x2, .null, .null, .null] [] (am_sh I J) = (am_do X 257 [.ref 139, .int x1, .int x2] (am_sh I J)).bind (fun q => am_ev X amP_325 4 [.ref 139, .int x1, .int x2, .null, .null, .null] (q.1.toList ++ []) q.2) := by
  refine (ev_aload rfl rfl).trans ?_
  refine (ev_iload rfl rfl).trans ?_
  refine (ev_iload rfl rfl).trans ?_
  exact ev_invv (as := [.int x2, .int x1]) rfl (by decide) am_K_139 rfl (by simp [Value.category])
theorem cl_325 (X : am_X) (I : Nat → Nat → Int32) (J : Nat → Nat → Int64) (x1 : Int32) (x2 : Int32) : am_do X 325 [.ref 139, .int x1, .int x2] (am_sh I J) = am_ev X amP_325 0 [.ref 139, .int x1, .int x2, .null, .null, .null] [] (am_sh I J) := am_do_of rfl rfl rfl
set_option maxRecDepth 10000 in
theorem sg_325_4 (X : am_X) (I : Nat → Nat → Int32) (J : Nat → Nat → Int64) (x1 : Int32) (x2 : Int32) (w3 : Value) (w4 : Value) (w5 : Value) (x6 : Int32) (hw3 : w3.category = 1) (hw4 : w4.category = 1) (hw5 : w5.category = 1) : am_ev X amP_325 4 [.ref 139, .int x1, .int x2, w3, w4, w5] [.int x6] (am_sh I J) = (if ¬ x6 = 0 then (am_do X 255 [.ref 139, .int x1, .int x2] (am_sh I J)).bind (fun q => am_ev X amP_325 14 [.ref 139, .int x1, .int x2, w3, w4, w5] (q.1.toList ++ [.int x2, .int x1, .ref 139]) q.2) else some (some (.int (-1 : Int32)), am_sh I J)) := by
  refine (ev_if1 rfl).trans (am_ite (fun c1 => ?_) (fun c1 => ?_))
  · refine (ev_aload rfl rfl).trans ?_
    refine (ev_iload rfl rfl).trans ?_
    refine (ev_iload rfl rfl).trans ?_
    refine (ev_aload rfl rfl).trans ?_
    refine (ev_iload rfl rfl).trans ?_
    refine (ev_iload rfl rfl).trans ?_
    exact ev_invv (as := [.int x2, .int x1]) rfl (by decide) am_K_139 rfl (by simp [Value.category])
  · refine (ev_const0 (v := (-1 : Int32)) rfl am_ci_m1).trans ?_
    exact ev_iret rfl
set_option maxRecDepth 10000 in
theorem sg_325_14 (X : am_X) (I : Nat → Nat → Int32) (J : Nat → Nat → Int64) (x1 : Int32) (x2 : Int32) (w3 : Value) (w4 : Value) (w5 : Value) (x6 : Int32) (x7 : Int32) (x8 : Int32) (hw3 : w3.category = 1) (hw4 : w4.category = 1) (hw5 : w5.category = 1) : am_ev X amP_325 14 [.ref 139, .int x1, .int x2, w3, w4, w5] [.int x8, .int x7, .int x6, .ref 139] (am_sh I J) = (am_do X 250 [.ref 139, .int x6, .int x7, .int x8] (am_sh I J)).bind (fun q => am_ev X amP_325 15 [.ref 139, .int x1, .int x2, w3, w4, w5] (q.1.toList ++ []) q.2) := by
  exact ev_invv (as := [.int x8, .int x7, .int x6]) rfl (by decide) am_K_139 rfl (by simp [Value.category])
set_option maxRecDepth 10000 in
theorem sg_325_15 (X : am_X) (I : Nat → Nat → Int32) (J : Nat → Nat → Int64) (x1 : Int32) (x2 : Int32) (w3 : Value) (w4 : Value) (w5 : Value) (x6 : Int32) (hw3 : w3.category = 1) (hw4 : w4.category = 1) (hw5 : w5.category = 1) : am_ev X amP_325 15 [.ref 139, .int x1, .int x2, w3, w4, w5] [.int x6] (am_sh I J) = am_ev X amP_325 20 [.ref 139, .int x1, .int x2, .int x6, .int (-1 : Int32), .int (0 : Int32)] [] (am_sh I J) := by
  refine (ev_istore (ls' := [.ref 139, .int x1, .int x2, .int x6, w4, w5]) rfl (Nat.le_of_ble_eq_true rfl) rfl).trans ?_
  refine (ev_const0 (v := (-1 : Int32)) rfl am_ci_m1).trans ?_
  refine (ev_istore (ls' := [.ref 139, .int x1, .int x2, .int x6, .int (-1 : Int32), w5]) rfl (Nat.le_of_ble_eq_true rfl) rfl).trans ?_
  refine (ev_const0 (v := (0 : Int32)) rfl am_ci_0).trans ?_
  refine (ev_istore (ls' := [.ref 139, .int x1, .int x2, .int x6, .int (-1 : Int32), .int (0 : Int32)]) rfl (Nat.le_of_ble_eq_true rfl) rfl).trans ?_
  rfl
set_option maxRecDepth 10000 in
theorem sg_325_20 (X : am_X) (I : Nat → Nat → Int32) (J : Nat → Nat → Int64) (x1 : Int32) (x2 : Int32) (x3 : Int32) (x4 : Int32) (x5 : Int32) : am_ev X amP_325 20 [.ref 139, .int x1, .int x2, .int x3, .int x4, .int x5] [] (am_sh I J) = (if (99 : Int32) < x5 then some (some (.int x4), am_sh I J) else (if x3 ≤ (x5 * x5) then am_ev X amP_325 20 [.ref 139, .int x1, .int x2, .int x3, .int x4, .int (x5 + (1 : Int32))] [] (am_sh I J) else am_ev X amP_325 20 [.ref 139, .int x1, .int x2, .int x3, .int x5, .int (x5 + (1 : Int32))] [] (am_sh I J))) := by
  refine (ev_iload rfl rfl).trans ?_
  refine (ev_const1 (v := (99 : Int32)) rfl am_ci_99).trans ?_
  refine (ev_icmp4 rfl).trans (am_ite (fun c1 => ?_) (fun c1 => ?_))
  · refine (ev_iload rfl rfl).trans ?_
    exact ev_iret rfl
  · refine (ev_iload rfl rfl).trans ?_
    refine (ev_iload rfl rfl).trans ?_
    refine (ev_iload rfl rfl).trans ?_
    refine (ev_imul rfl).trans ?_
    refine (ev_icmp5 rfl).trans (am_ite (fun c2 => ?_) (fun c2 => ?_))
    · refine (ev_iload rfl rfl).trans ?_
      refine (ev_istore (ls' := [.ref 139, .int x1, .int x2, .int x3, .int x4, .int x5]) rfl (Nat.le_of_ble_eq_true rfl) rfl).trans ?_
      refine (ev_iincv (v := (1 : Int32)) (ls' := [.ref 139, .int x1, .int x2, .int x3, .int x4, .int (x5 + (1 : Int32))]) rfl am_ci_1 rfl rfl).trans ?_
      refine (ev_goto rfl).trans ?_
      rfl
    · refine (ev_iload rfl rfl).trans ?_
      refine (ev_goto rfl).trans ?_
      refine (ev_istore (ls' := [.ref 139, .int x1, .int x2, .int x3, .int x5, .int x5]) rfl (Nat.le_of_ble_eq_true rfl) rfl).trans ?_
      refine (ev_iincv (v := (1 : Int32)) (ls' := [.ref 139, .int x1, .int x2, .int x3, .int x5, .int (x5 + (1 : Int32))]) rfl am_ci_1 rfl rfl).trans ?_
      refine (ev_goto rfl).trans ?_
      rfl
-- 326 X12_see
set_option maxRecDepth 10000 in
theorem sg_326_e0 (X : am_X) (I : Nat → Nat → Int32) (J : Nat → Nat → Int64) (x1 : Int32) : am_ev X amP_326 0 [.ref 139, .int x1, .null, .null, .null] [] (am_sh I J) = (am_do X 223 [.ref 139] (am_sh I J)).bind (fun q => am_ev X amP_326 2 [.ref 139, .int x1, .null, .null, .null] (q.1.toList ++ []) q.2) := by
  refine (ev_aload rfl rfl).trans ?_
  exact ev_invv (as := []) rfl (by decide) am_K_139 rfl (by simp [Value.category])
theorem cl_326 (X : am_X) (I : Nat → Nat → Int32) (J : Nat → Nat → Int64) (x1 : Int32) : am_do X 326 [.ref 139, .int x1] (am_sh I J) = am_ev X amP_326 0 [.ref 139, .int x1, .null, .null, .null] [] (am_sh I J) := am_do_of rfl rfl rfl
set_option maxRecDepth 10000 in
theorem sg_326_2 (X : am_X) (I : Nat → Nat → Int32) (J : Nat → Nat → Int64) (x1 : Int32) (w2 : Value) (w3 : Value) (w4 : Value) (x5 : Int32) (hw2 : w2.category = 1) (hw3 : w3.category = 1) (hw4 : w4.category = 1) : am_ev X amP_326 2 [.ref 139, .int x1, w2, w3, w4] [.int x5] (am_sh I J) = (am_do X 256 [.ref 139, .int x1] (am_sh I J)).bind (fun q => am_ev X amP_326 6 [.ref 139, .int x1, .int x5, w3, w4] (q.1.toList ++ []) q.2) := by
  refine (ev_istore (ls' := [.ref 139, .int x1, .int x5, w3, w4]) rfl (Nat.le_of_ble_eq_true rfl) rfl).trans ?_
  refine (ev_aload rfl rfl).trans ?_
  refine (ev_iload rfl rfl).trans ?_
  exact ev_invv (as := [.int x1]) rfl (by decide) am_K_139 rfl (by simp [Value.category])
set_option maxRecDepth 10000 in
theorem sg_326_6 (X : am_X) (I : Nat → Nat → Int32) (J : Nat → Nat → Int64) (x1 : Int32) (x2 : Int32) (w3 : Value) (w4 : Value) (x5 : Int32) (hw3 : w3.category = 1) (hw4 : w4.category = 1) : am_ev X amP_326 6 [.ref 139, .int x1, .int x2, w3, w4] [.int x5] (am_sh I J) = (if x5 = 0 then am_ev X amP_326 22 [.ref 139, .int x1, .int x2, .int (0 : Int32), .int (0 : Int32)] [] (am_sh I J) else (if x2 ≤ 0 then am_ev X amP_326 22 [.ref 139, .int x1, .int x2, .int (0 : Int32), .int (0 : Int32)] [] (am_sh I J) else (if ¬ (x2 - x2 / (2 : Int32) * (2 : Int32)) = 0 then am_ev X amP_326 22 [.ref 139, .int x1, .int x2, .int (0 : Int32), .int (0 : Int32)] [] (am_sh I J) else (if (32 : Int32) < x2 then am_ev X amP_326 22 [.ref 139, .int x1, .int x2, .int (0 : Int32), .int (0 : Int32)] [] (am_sh I J) else am_ev X amP_326 22 [.ref 139, .int x1, .int x2, .int (1 : Int32), .int (0 : Int32)] [] (am_sh I J))))) := by
  refine (ev_if0 rfl).trans (am_ite (fun c1 => ?_) (fun c1 => ?_))
  · refine (ev_const0 (v := (0 : Int32)) rfl am_ci_0).trans ?_
    refine (ev_istore (ls' := [.ref 139, .int x1, .int x2, .int (0 : Int32), w4]) rfl (Nat.le_of_ble_eq_true rfl) rfl).trans ?_
    refine (ev_const0 (v := (0 : Int32)) rfl am_ci_0).trans ?_
    refine (ev_istore (ls' := [.ref 139, .int x1, .int x2, .int (0 : Int32), .int (0 : Int32)]) rfl (Nat.le_of_ble_eq_true rfl) rfl).trans ?_
    rfl
  · refine (ev_iload rfl rfl).trans ?_
    refine (ev_if5 rfl).trans (am_ite (fun c2 => ?_) (fun c2 => ?_))
    · refine (ev_const0 (v := (0 : Int32)) rfl am_ci_0).trans ?_
      refine (ev_istore (ls' := [.ref 139, .int x1, .int x2, .int (0 : Int32), w4]) rfl (Nat.le_of_ble_eq_true rfl) rfl).trans ?_
      refine (ev_const0 (v := (0 : Int32)) rfl am_ci_0).trans ?_
      refine (ev_istore (ls' := [.ref 139, .int x1, .int x2, .int (0 : Int32), .int (0 : Int32)]) rfl (Nat.le_of_ble_eq_true rfl) rfl).trans ?_
      rfl
    · refine (ev_iload rfl rfl).trans ?_
      refine (ev_const0 (v := (2 : Int32)) rfl am_ci_2).trans ?_
      refine (ev_iremN (by decide) rfl).trans ?_
      refine (ev_if1 rfl).trans (am_ite (fun c3 => ?_) (fun c3 => ?_))
      · refine (ev_const0 (v := (0 : Int32)) rfl am_ci_0).trans ?_
        refine (ev_istore (ls' := [.ref 139, .int x1, .int x2, .int (0 : Int32), w4]) rfl (Nat.le_of_ble_eq_true rfl) rfl).trans ?_
        refine (ev_const0 (v := (0 : Int32)) rfl am_ci_0).trans ?_
        refine (ev_istore (ls' := [.ref 139, .int x1, .int x2, .int (0 : Int32), .int (0 : Int32)]) rfl (Nat.le_of_ble_eq_true rfl) rfl).trans ?_
        rfl
      · refine (ev_iload rfl rfl).trans ?_
        refine (ev_const1 (v := (32 : Int32)) rfl am_ci_32).trans ?_
        refine (ev_icmp4 rfl).trans (am_ite (fun c4 => ?_) (fun c4 => ?_))
        · refine (ev_const0 (v := (0 : Int32)) rfl am_ci_0).trans ?_
          refine (ev_istore (ls' := [.ref 139, .int x1, .int x2, .int (0 : Int32), w4]) rfl (Nat.le_of_ble_eq_true rfl) rfl).trans ?_
          refine (ev_const0 (v := (0 : Int32)) rfl am_ci_0).trans ?_
          refine (ev_istore (ls' := [.ref 139, .int x1, .int x2, .int (0 : Int32), .int (0 : Int32)]) rfl (Nat.le_of_ble_eq_true rfl) rfl).trans ?_
          rfl
        · refine (ev_const0 (v := (1 : Int32)) rfl am_ci_1).trans ?_
          refine (ev_goto rfl).trans ?_
          refine (ev_istore (ls' := [.ref 139, .int x1, .int x2, .int (1 : Int32), w4]) rfl (Nat.le_of_ble_eq_true rfl) rfl).trans ?_
          refine (ev_const0 (v := (0 : Int32)) rfl am_ci_0).trans ?_
          refine (ev_istore (ls' := [.ref 139, .int x1, .int x2, .int (1 : Int32), .int (0 : Int32)]) rfl (Nat.le_of_ble_eq_true rfl) rfl).trans ?_
          rfl
set_option maxRecDepth 10000 in
theorem sg_326_22 (X : am_X) (I : Nat → Nat → Int32) (J : Nat → Nat → Int64) (x1 : Int32) (x2 : Int32) (x3 : Int32) (x4 : Int32) : am_ev X amP_326 22 [.ref 139, .int x1, .int x2, .int x3, .int x4] [] (am_sh I J) = (if x3 = 0 then (if ¬ x3 = 0 then am_ev X amP_326 57 [.ref 139, .int x1, .int x2, .int x3, .int (0 : Int32)] [] (am_sh (am_up (am_up I 139 37 x1) 139 36 (x2 / (2 : Int32))) J) else (am_do X 218 [.ref 139, .int (5 : Int32)] (am_sh I J)).bind (fun q => am_ev X amP_326 46 [.ref 139, .int x1, .int x2, .int x3, .int x4] (q.1.toList ++ []) q.2)) else (if x2 ≤ x4 then (if ¬ x3 = 0 then am_ev X amP_326 57 [.ref 139, .int x1, .int x2, .int x3, .int (0 : Int32)] [] (am_sh (am_up (am_up I 139 37 x1) 139 36 (x2 / (2 : Int32))) J) else (am_do X 218 [.ref 139, .int (5 : Int32)] (am_sh I J)).bind (fun q => am_ev X amP_326 46 [.ref 139, .int x1, .int x2, .int x3, .int x4] (q.1.toList ++ []) q.2)) else (if (x4 + (1 : Int32)) < 0 ∨ 1600 ≤ (x4 + (1 : Int32)).toNatClampNeg then none else (if (3 : Int32) < (I 145 (x4 + (1 : Int32)).toNatClampNeg) then am_ev X amP_326 22 [.ref 139, .int x1, .int x2, .int (0 : Int32), .int (x4 + (2 : Int32))] [] (am_sh I J) else am_ev X amP_326 22 [.ref 139, .int x1, .int x2, .int (1 : Int32), .int (x4 + (2 : Int32))] [] (am_sh I J))))) := by
  refine (ev_iload rfl rfl).trans ?_
  refine (ev_if0 rfl).trans (am_ite (fun c1 => ?_) (fun c1 => ?_))
  · refine (ev_iload rfl rfl).trans ?_
    refine (ev_if1 rfl).trans (am_ite (fun c2 => ?_) (fun c2 => ?_))
    · refine (ev_aload rfl rfl).trans ?_
      refine (ev_iload rfl rfl).trans ?_
      refine (ev_putI rfl (by decide) am_K_139 (by decide) rfl).trans ?_
      refine (ev_aload rfl rfl).trans ?_
      refine (ev_iload rfl rfl).trans ?_
      refine (ev_const0 (v := (2 : Int32)) rfl am_ci_2).trans ?_
      refine (ev_idivN (by decide) rfl).trans ?_
      refine (ev_putI rfl (by decide) am_K_139 (by decide) rfl).trans ?_
      refine (ev_const0 (v := (0 : Int32)) rfl am_ci_0).trans ?_
      refine (ev_istore (ls' := [.ref 139, .int x1, .int x2, .int x3, .int (0 : Int32)]) rfl (Nat.le_of_ble_eq_true rfl) rfl).trans ?_
      rfl
    · refine (ev_aload rfl rfl).trans ?_
      refine (ev_const0 (v := (5 : Int32)) rfl am_ci_5).trans ?_
      exact ev_invv (as := [.int (5 : Int32)]) rfl (by decide) am_K_139 rfl (by simp [Value.category])
  · refine (ev_iload rfl rfl).trans ?_
    refine (ev_iload rfl rfl).trans ?_
    refine (ev_icmp3 rfl).trans (am_ite (fun c2 => ?_) (fun c2 => ?_))
    · refine (ev_iload rfl rfl).trans ?_
      refine (ev_if1 rfl).trans (am_ite (fun c3 => ?_) (fun c3 => ?_))
      · refine (ev_aload rfl rfl).trans ?_
        refine (ev_iload rfl rfl).trans ?_
        refine (ev_putI rfl (by decide) am_K_139 (by decide) rfl).trans ?_
        refine (ev_aload rfl rfl).trans ?_
        refine (ev_iload rfl rfl).trans ?_
        refine (ev_const0 (v := (2 : Int32)) rfl am_ci_2).trans ?_
        refine (ev_idivN (by decide) rfl).trans ?_
        refine (ev_putI rfl (by decide) am_K_139 (by decide) rfl).trans ?_
        refine (ev_const0 (v := (0 : Int32)) rfl am_ci_0).trans ?_
        refine (ev_istore (ls' := [.ref 139, .int x1, .int x2, .int x3, .int (0 : Int32)]) rfl (Nat.le_of_ble_eq_true rfl) rfl).trans ?_
        rfl
      · refine (ev_aload rfl rfl).trans ?_
        refine (ev_const0 (v := (5 : Int32)) rfl am_ci_5).trans ?_
        exact ev_invv (as := [.int (5 : Int32)]) rfl (by decide) am_K_139 rfl (by simp [Value.category])
    · refine (ev_aload rfl rfl).trans ?_
      refine (ev_getR rfl (by decide) am_K_139 (by decide) rfl am_R_139_11).trans ?_
      refine (ev_iload rfl rfl).trans ?_
      refine (ev_const0 (v := (1 : Int32)) rfl am_ci_1).trans ?_
      refine (ev_iadd rfl).trans ?_
      refine (ev_iald rfl (by decide) am_K_145).trans (am_itn (fun g3 => ?_))
      refine (ev_const0 (v := (3 : Int32)) rfl am_ci_3).trans ?_
      refine (ev_icmp4 rfl).trans (am_ite (fun c4 => ?_) (fun c4 => ?_))
      · refine (ev_const0 (v := (0 : Int32)) rfl am_ci_0).trans ?_
        refine (ev_istore (ls' := [.ref 139, .int x1, .int x2, .int (0 : Int32), .int x4]) rfl (Nat.le_of_ble_eq_true rfl) rfl).trans ?_
        refine (ev_iincv (v := (2 : Int32)) (ls' := [.ref 139, .int x1, .int x2, .int (0 : Int32), .int (x4 + (2 : Int32))]) rfl am_ci_2 rfl rfl).trans ?_
        refine (ev_goto rfl).trans ?_
        rfl
      · refine (ev_const0 (v := (1 : Int32)) rfl am_ci_1).trans ?_
        refine (ev_goto rfl).trans ?_
        refine (ev_istore (ls' := [.ref 139, .int x1, .int x2, .int (1 : Int32), .int x4]) rfl (Nat.le_of_ble_eq_true rfl) rfl).trans ?_
        refine (ev_iincv (v := (2 : Int32)) (ls' := [.ref 139, .int x1, .int x2, .int (1 : Int32), .int (x4 + (2 : Int32))]) rfl am_ci_2 rfl rfl).trans ?_
        refine (ev_goto rfl).trans ?_
        rfl
set_option maxRecDepth 10000 in
theorem sg_326_46 (X : am_X) (I : Nat → Nat → Int32) (J : Nat → Nat → Int64) (x1 : Int32) (x2 : Int32) (x3 : Int32) (x4 : Int32) (x5 : Int32) : am_ev X amP_326 46 [.ref 139, .int x1, .int x2, .int x3, .int x4] [.int x5] (am_sh I J) = some (some (.int x5), am_sh I J) := by
  exact ev_iret rfl
set_option maxRecDepth 10000 in
theorem sg_326_57 (X : am_X) (I : Nat → Nat → Int32) (J : Nat → Nat → Int64) (x1 : Int32) (x2 : Int32) (x3 : Int32) (x4 : Int32) : am_ev X amP_326 57 [.ref 139, .int x1, .int x2, .int x3, .int x4] [] (am_sh I J) = (if (I 139 36) ≤ x4 then some (some (.int (I 139 36)), am_sh I J) else (if ((2 : Int32) * x4) < 0 ∨ 1600 ≤ ((2 : Int32) * x4).toNatClampNeg then none else (if x4 < 0 ∨ 16 ≤ x4.toNatClampNeg then none else (if (((2 : Int32) * x4) + (1 : Int32)) < 0 ∨ 1600 ≤ (((2 : Int32) * x4) + (1 : Int32)).toNatClampNeg then none else (if x4 < 0 ∨ 16 ≤ x4.toNatClampNeg then none else am_ev X amP_326 57 [.ref 139, .int x1, .int x2, .int x3, .int (x4 + (1 : Int32))] [] (am_sh (am_up (am_up I 158 x4.toNatClampNeg (I 145 ((2 : Int32) * x4).toNatClampNeg)) 159 x4.toNatClampNeg ((am_up I 158 x4.toNatClampNeg (I 145 ((2 : Int32) * x4).toNatClampNeg)) 145 (((2 : Int32) * x4) + (1 : Int32)).toNatClampNeg)) J)))))) := by
  refine (ev_iload rfl rfl).trans ?_
  refine (ev_aload rfl rfl).trans ?_
  refine (ev_getI rfl (by decide) am_K_139 (by decide) rfl).trans ?_
  refine (ev_icmp3 rfl).trans (am_ite (fun c1 => ?_) (fun c1 => ?_))
  · refine (ev_aload rfl rfl).trans ?_
    refine (ev_getI rfl (by decide) am_K_139 (by decide) rfl).trans ?_
    exact ev_iret rfl
  · refine (ev_aload rfl rfl).trans ?_
    refine (ev_getR rfl (by decide) am_K_139 (by decide) rfl am_R_139_38).trans ?_
    refine (ev_iload rfl rfl).trans ?_
    refine (ev_aload rfl rfl).trans ?_
    refine (ev_getR rfl (by decide) am_K_139 (by decide) rfl am_R_139_11).trans ?_
    refine (ev_const0 (v := (2 : Int32)) rfl am_ci_2).trans ?_
    refine (ev_iload rfl rfl).trans ?_
    refine (ev_imul rfl).trans ?_
    refine (ev_iald rfl (by decide) am_K_145).trans (am_itn (fun g2 => ?_))
    refine (ev_iast rfl (by decide) am_K_158).trans (am_itn (fun g3 => ?_))
    refine (ev_aload rfl rfl).trans ?_
    refine (ev_getR rfl (by decide) am_K_139 (by decide) rfl am_R_139_39).trans ?_
    refine (ev_iload rfl rfl).trans ?_
    refine (ev_aload rfl rfl).trans ?_
    refine (ev_getR rfl (by decide) am_K_139 (by decide) rfl am_R_139_11).trans ?_
    refine (ev_const0 (v := (2 : Int32)) rfl am_ci_2).trans ?_
    refine (ev_iload rfl rfl).trans ?_
    refine (ev_imul rfl).trans ?_
    refine (ev_const0 (v := (1 : Int32)) rfl am_ci_1).trans ?_
    refine (ev_iadd rfl).trans ?_
    refine (ev_iald rfl (by decide) am_K_145).trans (am_itn (fun g4 => ?_))
    refine (ev_iast rfl (by decide) am_K_159).trans (am_itn (fun g5 => ?_))
    refine (ev_iincv (v := (1 : Int32)) (ls' := [.ref 139, .int x1, .int x2, .int x3, .int (x4 + (1 : Int32))]) rfl am_ci_1 rfl rfl).trans ?_
    refine (ev_goto rfl).trans ?_
    rfl
-- 327 X12_quarter
set_option maxRecDepth 10000 in
theorem sg_327_e0 (X : am_X) (I : Nat → Nat → Int32) (J : Nat → Nat → Int64) (x1 : Int32) (x2 : Int32) : am_ev X amP_327 0 [.ref 139, .int x1, .int x2, .null] [] (am_sh I J) = (am_do X 241 [.ref 139, .int (I 139 37), .int (2 : Int32)] (am_sh I J)).bind (fun q => am_ev X amP_327 6 [.ref 139, .int x1, .int x2, .null] (q.1.toList ++ [.int x1]) q.2) := by
  refine (ev_iload rfl rfl).trans ?_
  refine (ev_aload rfl rfl).trans ?_
  refine (ev_aload rfl rfl).trans ?_
  refine (ev_getI rfl (by decide) am_K_139 (by decide) rfl).trans ?_
  refine (ev_const0 (v := (2 : Int32)) rfl am_ci_2).trans ?_
  exact ev_invv (as := [.int (2 : Int32), .int (I 139 37)]) rfl (by decide) am_K_139 rfl (by simp [Value.category])
theorem cl_327 (X : am_X) (I : Nat → Nat → Int32) (J : Nat → Nat → Int64) (x1 : Int32) (x2 : Int32) : am_do X 327 [.ref 139, .int x1, .int x2] (am_sh I J) = am_ev X amP_327 0 [.ref 139, .int x1, .int x2, .null] [] (am_sh I J) := am_do_of rfl rfl rfl
set_option maxRecDepth 10000 in
theorem sg_327_6 (X : am_X) (I : Nat → Nat → Int32) (J : Nat → Nat → Int64) (x1 : Int32) (x2 : Int32) (w3 : Value) (x4 : Int32) (x5 : Int32) (hw3 : w3.category = 1) : am_ev X amP_327 6 [.ref 139, .int x1, .int x2, w3] [.int x5, .int x4] (am_sh I J) = (if (I 139 37) < 0 ∨ 10 ≤ (I 139 37).toNatClampNeg then none else (if (I 139 37) < 0 ∨ 10 ≤ (I 139 37).toNatClampNeg then none else (if (I 140 (I 139 37).toNatClampNeg) = 0 then none else (am_do X 249 [.ref 139, .int (I 139 37), .int ((((x4 - x5) + (I 140 (I 139 37).toNatClampNeg)) + x2) - (((x4 - x5) + (I 140 (I 139 37).toNatClampNeg)) + x2) / (I 140 (I 139 37).toNatClampNeg) * (I 140 (I 139 37).toNatClampNeg)), .int (0 : Int32)] (am_sh I J)).bind (fun q => am_ev X amP_327 28 [.ref 139, .int x1, .int x2, .int ((((x4 - x5) + (I 140 (I 139 37).toNatClampNeg)) + x2) - (((x4 - x5) + (I 140 (I 139 37).toNatClampNeg)) + x2) / (I 140 (I 139 37).toNatClampNeg) * (I 140 (I 139 37).toNatClampNeg))] (q.1.toList ++ []) q.2)))) := by
  refine (ev_isub rfl).trans ?_
  refine (ev_aload rfl rfl).trans ?_
  refine (ev_getR rfl (by decide) am_K_139 (by decide) rfl am_R_139_3).trans ?_
  refine (ev_aload rfl rfl).trans ?_
  refine (ev_getI rfl (by decide) am_K_139 (by decide) rfl).trans ?_
  refine (ev_iald rfl (by decide) am_K_140).trans (am_itn (fun g1 => ?_))
  refine (ev_iadd rfl).trans ?_
  refine (ev_iload rfl rfl).trans ?_
  refine (ev_iadd rfl).trans ?_
  refine (ev_aload rfl rfl).trans ?_
  refine (ev_getR rfl (by decide) am_K_139 (by decide) rfl am_R_139_3).trans ?_
  refine (ev_aload rfl rfl).trans ?_
  refine (ev_getI rfl (by decide) am_K_139 (by decide) rfl).trans ?_
  refine (ev_iald rfl (by decide) am_K_140).trans (am_itn (fun g2 => ?_))
  refine (ev_irem rfl).trans (am_itn (fun g3 => ?_))
  refine (ev_istore (ls' := [.ref 139, .int x1, .int x2, .int ((((x4 - x5) + (I 140 (I 139 37).toNatClampNeg)) + x2) - (((x4 - x5) + (I 140 (I 139 37).toNatClampNeg)) + x2) / (I 140 (I 139 37).toNatClampNeg) * (I 140 (I 139 37).toNatClampNeg))]) rfl (Nat.le_of_ble_eq_true rfl) rfl).trans ?_
  refine (ev_aload rfl rfl).trans ?_
  refine (ev_aload rfl rfl).trans ?_
  refine (ev_getI rfl (by decide) am_K_139 (by decide) rfl).trans ?_
  refine (ev_iload rfl rfl).trans ?_
  refine (ev_const0 (v := (0 : Int32)) rfl am_ci_0).trans ?_
  exact ev_invv (as := [.int (0 : Int32), .int ((((x4 - x5) + (I 140 (I 139 37).toNatClampNeg)) + x2) - (((x4 - x5) + (I 140 (I 139 37).toNatClampNeg)) + x2) / (I 140 (I 139 37).toNatClampNeg) * (I 140 (I 139 37).toNatClampNeg)), .int (I 139 37)]) rfl (by decide) am_K_139 rfl (by simp [Value.category])
set_option maxRecDepth 10000 in
theorem sg_327_28 (X : am_X) (I : Nat → Nat → Int32) (J : Nat → Nat → Int64) (x1 : Int32) (x2 : Int32) (x3 : Int32) (x4 : Int32) : am_ev X amP_327 28 [.ref 139, .int x1, .int x2, .int x3] [.int x4] (am_sh I J) = (if 0 ≤ x4 then (am_do X 249 [.ref 139, .int (I 139 37), .int x3, .int (1 : Int32)] (am_sh I J)).bind (fun q => am_ev X amP_327 38 [.ref 139, .int x1, .int x2, .int x3] (q.1.toList ++ [.int (0 : Int32)]) q.2) else (am_do X 249 [.ref 139, .int (I 139 37), .int x3, .int (1 : Int32)] (am_sh I J)).bind (fun q => am_ev X amP_327 38 [.ref 139, .int x1, .int x2, .int x3] (q.1.toList ++ [.int (1 : Int32)]) q.2)) := by
  refine (ev_if3 rfl).trans (am_ite (fun c1 => ?_) (fun c1 => ?_))
  · refine (ev_const0 (v := (0 : Int32)) rfl am_ci_0).trans ?_
    refine (ev_aload rfl rfl).trans ?_
    refine (ev_aload rfl rfl).trans ?_
    refine (ev_getI rfl (by decide) am_K_139 (by decide) rfl).trans ?_
    refine (ev_iload rfl rfl).trans ?_
    refine (ev_const0 (v := (1 : Int32)) rfl am_ci_1).trans ?_
    exact ev_invv (as := [.int (1 : Int32), .int x3, .int (I 139 37)]) rfl (by decide) am_K_139 rfl (by simp [Value.category])
  · refine (ev_const0 (v := (1 : Int32)) rfl am_ci_1).trans ?_
    refine (ev_goto rfl).trans ?_
    refine (ev_aload rfl rfl).trans ?_
    refine (ev_aload rfl rfl).trans ?_
    refine (ev_getI rfl (by decide) am_K_139 (by decide) rfl).trans ?_
    refine (ev_iload rfl rfl).trans ?_
    refine (ev_const0 (v := (1 : Int32)) rfl am_ci_1).trans ?_
    exact ev_invv (as := [.int (1 : Int32), .int x3, .int (I 139 37)]) rfl (by decide) am_K_139 rfl (by simp [Value.category])
set_option maxRecDepth 10000 in
theorem sg_327_38 (X : am_X) (I : Nat → Nat → Int32) (J : Nat → Nat → Int64) (x1 : Int32) (x2 : Int32) (x3 : Int32) (x4 : Int32) (x5 : Int32) : am_ev X amP_327 38 [.ref 139, .int x1, .int x2, .int x3] [.int x5, .int x4] (am_sh I J) = (if 0 ≤ x5 then some (some (.int (x4 + (0 : Int32))), am_sh I J) else some (some (.int (x4 + (2 : Int32))), am_sh I J)) := by
  refine (ev_if3 rfl).trans (am_ite (fun c1 => ?_) (fun c1 => ?_))
  · refine (ev_const0 (v := (0 : Int32)) rfl am_ci_0).trans ?_
    refine (ev_iadd rfl).trans ?_
    exact ev_iret rfl
  · refine (ev_const0 (v := (2 : Int32)) rfl am_ci_2).trans ?_
    refine (ev_goto rfl).trans ?_
    refine (ev_iadd rfl).trans ?_
    exact ev_iret rfl
-- 328 X12_laysFits
set_option maxRecDepth 10000 in
theorem sg_328_e0 (X : am_X) (I : Nat → Nat → Int32) (J : Nat → Nat → Int64) : am_ev X amP_328 0 [.ref 139, .null, .null, .null] [] (am_sh I J) = am_ev X amP_328 4 [.ref 139, .int (0 : Int32), .int (0 : Int32), .null] [] (am_sh I J) := by
  refine (ev_const0 (v := (0 : Int32)) rfl am_ci_0).trans ?_
  refine (ev_istore (ls' := [.ref 139, .int (0 : Int32), .null, .null]) rfl (Nat.le_of_ble_eq_true rfl) rfl).trans ?_
  refine (ev_const0 (v := (0 : Int32)) rfl am_ci_0).trans ?_
  refine (ev_istore (ls' := [.ref 139, .int (0 : Int32), .int (0 : Int32), .null]) rfl (Nat.le_of_ble_eq_true rfl) rfl).trans ?_
  rfl
theorem cl_328 (X : am_X) (I : Nat → Nat → Int32) (J : Nat → Nat → Int64) : am_do X 328 [.ref 139] (am_sh I J) = am_ev X amP_328 0 [.ref 139, .null, .null, .null] [] (am_sh I J) := am_do_of rfl rfl rfl
set_option maxRecDepth 10000 in
theorem sg_328_4 (X : am_X) (I : Nat → Nat → Int32) (J : Nat → Nat → Int64) (x1 : Int32) (x2 : Int32) (w3 : Value) (hw3 : w3.category = 1) : am_ev X amP_328 4 [.ref 139, .int x1, .int x2, w3] [] (am_sh I J) = (if (I 139 37) < 0 ∨ 10 ≤ (I 139 37).toNatClampNeg then none else (if (I 140 (I 139 37).toNatClampNeg) ≤ x2 then some (some (.int x1), am_sh I J) else (if x2 < 0 ∨ 48 ≤ x2.toNatClampNeg then none else am_ev X amP_328 18 [.ref 139, .int x1, .int x2, .int (0 : Int32)] [] (am_sh (am_up I 160 x2.toNatClampNeg (1 : Int32)) J)))) := by
  refine (ev_iload rfl rfl).trans ?_
  refine (ev_aload rfl rfl).trans ?_
  refine (ev_getR rfl (by decide) am_K_139 (by decide) rfl am_R_139_3).trans ?_
  refine (ev_aload rfl rfl).trans ?_
  refine (ev_getI rfl (by decide) am_K_139 (by decide) rfl).trans ?_
  refine (ev_iald rfl (by decide) am_K_140).trans (am_itn (fun g1 => ?_))
  refine (ev_icmp3 rfl).trans (am_ite (fun c2 => ?_) (fun c2 => ?_))
  · refine (ev_iload rfl rfl).trans ?_
    exact ev_iret rfl
  · refine (ev_aload rfl rfl).trans ?_
    refine (ev_getR rfl (by decide) am_K_139 (by decide) rfl am_R_139_40).trans ?_
    refine (ev_iload rfl rfl).trans ?_
    refine (ev_const0 (v := (1 : Int32)) rfl am_ci_1).trans ?_
    refine (ev_iast rfl (by decide) am_K_160).trans (am_itn (fun g3 => ?_))
    refine (ev_const0 (v := (0 : Int32)) rfl am_ci_0).trans ?_
    refine (ev_istore (ls' := [.ref 139, .int x1, .int x2, .int (0 : Int32)]) rfl (Nat.le_of_ble_eq_true rfl) rfl).trans ?_
    rfl
set_option maxRecDepth 10000 in
theorem sg_328_18 (X : am_X) (I : Nat → Nat → Int32) (J : Nat → Nat → Int64) (x1 : Int32) (x2 : Int32) (x3 : Int32) : am_ev X amP_328 18 [.ref 139, .int x1, .int x2, .int x3] [] (am_sh I J) = (if (I 139 36) ≤ x3 then (if x2 < 0 ∨ 48 ≤ x2.toNatClampNeg then none else am_ev X amP_328 4 [.ref 139, .int (x1 + (I 160 x2.toNatClampNeg)), .int (x2 + (1 : Int32)), .int x3] [] (am_sh I J)) else (if x3 < 0 ∨ 16 ≤ x3.toNatClampNeg then none else (am_do X 327 [.ref 139, .int x2, .int (I 158 x3.toNatClampNeg)] (am_sh I J)).bind (fun q => am_ev X amP_328 32 [.ref 139, .int x1, .int x2, .int x3] (q.1.toList ++ [.int x2, .ref 160]) q.2))) := by
  refine (ev_iload rfl rfl).trans ?_
  refine (ev_aload rfl rfl).trans ?_
  refine (ev_getI rfl (by decide) am_K_139 (by decide) rfl).trans ?_
  refine (ev_icmp3 rfl).trans (am_ite (fun c1 => ?_) (fun c1 => ?_))
  · refine (ev_iload rfl rfl).trans ?_
    refine (ev_aload rfl rfl).trans ?_
    refine (ev_getR rfl (by decide) am_K_139 (by decide) rfl am_R_139_40).trans ?_
    refine (ev_iload rfl rfl).trans ?_
    refine (ev_iald rfl (by decide) am_K_160).trans (am_itn (fun g2 => ?_))
    refine (ev_iadd rfl).trans ?_
    refine (ev_istore (ls' := [.ref 139, .int (x1 + (I 160 x2.toNatClampNeg)), .int x2, .int x3]) rfl (Nat.le_of_ble_eq_true rfl) rfl).trans ?_
    refine (ev_iincv (v := (1 : Int32)) (ls' := [.ref 139, .int (x1 + (I 160 x2.toNatClampNeg)), .int (x2 + (1 : Int32)), .int x3]) rfl am_ci_1 rfl rfl).trans ?_
    refine (ev_goto rfl).trans ?_
    rfl
  · refine (ev_aload rfl rfl).trans ?_
    refine (ev_getR rfl (by decide) am_K_139 (by decide) rfl am_R_139_40).trans ?_
    refine (ev_iload rfl rfl).trans ?_
    refine (ev_aload rfl rfl).trans ?_
    refine (ev_iload rfl rfl).trans ?_
    refine (ev_aload rfl rfl).trans ?_
    refine (ev_getR rfl (by decide) am_K_139 (by decide) rfl am_R_139_38).trans ?_
    refine (ev_iload rfl rfl).trans ?_
    refine (ev_iald rfl (by decide) am_K_158).trans (am_itn (fun g2 => ?_))
    exact ev_invv (as := [.int (I 158 x3.toNatClampNeg), .int x2]) rfl (by decide) am_K_139 rfl (by simp [Value.category])
set_option maxRecDepth 10000 in
theorem sg_328_32 (X : am_X) (I : Nat → Nat → Int32) (J : Nat → Nat → Int64) (x1 : Int32) (x2 : Int32) (x3 : Int32) (x4 : Int32) (x5 : Int32) : am_ev X amP_328 32 [.ref 139, .int x1, .int x2, .int x3] [.int x5, .int x4, .ref 160] (am_sh I J) = (if x3 < 0 ∨ 16 ≤ x3.toNatClampNeg then none else (if ¬ x5 = (I 159 x3.toNatClampNeg) then (if x4 < 0 ∨ 48 ≤ x4.toNatClampNeg then none else am_ev X amP_328 18 [.ref 139, .int x1, .int x2, .int (x3 + (1 : Int32))] [] (am_sh (am_up I 160 x4.toNatClampNeg (0 : Int32)) J)) else (if x2 < 0 ∨ 48 ≤ x2.toNatClampNeg then none else (if x4 < 0 ∨ 48 ≤ x4.toNatClampNeg then none else am_ev X amP_328 18 [.ref 139, .int x1, .int x2, .int (x3 + (1 : Int32))] [] (am_sh (am_up I 160 x4.toNatClampNeg (I 160 x2.toNatClampNeg)) J))))) := by
  refine (ev_aload rfl rfl).trans ?_
  refine (ev_getR rfl (by decide) am_K_139 (by decide) rfl am_R_139_39).trans ?_
  refine (ev_iload rfl rfl).trans ?_
  refine (ev_iald rfl (by decide) am_K_159).trans (am_itn (fun g1 => ?_))
  refine (ev_icmp1 rfl).trans (am_ite (fun c2 => ?_) (fun c2 => ?_))
  · refine (ev_const0 (v := (0 : Int32)) rfl am_ci_0).trans ?_
    refine (ev_iast rfl (by decide) am_K_160).trans (am_itn (fun g3 => ?_))
    refine (ev_iincv (v := (1 : Int32)) (ls' := [.ref 139, .int x1, .int x2, .int (x3 + (1 : Int32))]) rfl am_ci_1 rfl rfl).trans ?_
    refine (ev_goto rfl).trans ?_
    rfl
  · refine (ev_aload rfl rfl).trans ?_
    refine (ev_getR rfl (by decide) am_K_139 (by decide) rfl am_R_139_40).trans ?_
    refine (ev_iload rfl rfl).trans ?_
    refine (ev_iald rfl (by decide) am_K_160).trans (am_itn (fun g3 => ?_))
    refine (ev_goto rfl).trans ?_
    refine (ev_iast rfl (by decide) am_K_160).trans (am_itn (fun g4 => ?_))
    refine (ev_iincv (v := (1 : Int32)) (ls' := [.ref 139, .int x1, .int x2, .int (x3 + (1 : Int32))]) rfl am_ci_1 rfl rfl).trans ?_
    refine (ev_goto rfl).trans ?_
    rfl
-- 329 X12_fits
set_option maxRecDepth 10000 in
theorem sg_329_e0 (X : am_X) (I : Nat → Nat → Int32) (J : Nat → Nat → Int64) (x1 : Int32) : am_ev X amP_329 0 [.ref 139, .int x1, .null, .null, .null] [] (am_sh I J) = (if (I 139 36) = 0 then some (some (.int (-1 : Int32)), am_sh I J) else (if (-1 : Int32) ≤ x1 then (am_do X 328 [.ref 139] (am_sh I J)).bind (fun q => am_ev X amP_329 10 [.ref 139, .int x1, .null, .null, .null] (q.1.toList ++ []) q.2) else some (some (.int (-1 : Int32)), am_sh I J))) := by
  refine (ev_aload rfl rfl).trans ?_
  refine (ev_getI rfl (by decide) am_K_139 (by decide) rfl).trans ?_
  refine (ev_if0 rfl).trans (am_ite (fun c1 => ?_) (fun c1 => ?_))
  · refine (ev_const0 (v := (-1 : Int32)) rfl am_ci_m1).trans ?_
    exact ev_iret rfl
  · refine (ev_iload rfl rfl).trans ?_
    refine (ev_const0 (v := (-1 : Int32)) rfl am_ci_m1).trans ?_
    refine (ev_icmp3 rfl).trans (am_ite (fun c2 => ?_) (fun c2 => ?_))
    · refine (ev_aload rfl rfl).trans ?_
      exact ev_invv (as := []) rfl (by decide) am_K_139 rfl (by simp [Value.category])
    · refine (ev_const0 (v := (-1 : Int32)) rfl am_ci_m1).trans ?_
      exact ev_iret rfl
theorem cl_329 (X : am_X) (I : Nat → Nat → Int32) (J : Nat → Nat → Int64) (x1 : Int32) : am_do X 329 [.ref 139, .int x1] (am_sh I J) = am_ev X amP_329 0 [.ref 139, .int x1, .null, .null, .null] [] (am_sh I J) := am_do_of rfl rfl rfl
set_option maxRecDepth 10000 in
theorem sg_329_10 (X : am_X) (I : Nat → Nat → Int32) (J : Nat → Nat → Int64) (x1 : Int32) (w2 : Value) (w3 : Value) (w4 : Value) (x5 : Int32) (hw2 : w2.category = 1) (hw3 : w3.category = 1) (hw4 : w4.category = 1) : am_ev X amP_329 10 [.ref 139, .int x1, w2, w3, w4] [.int x5] (am_sh I J) = (if ¬ x1 = (-1 : Int32) then am_ev X amP_329 20 [.ref 139, .int x1, .int x5, .int (0 : Int32), .int (0 : Int32)] [] (am_sh I J) else some (some (.int x5), am_sh I J)) := by
  refine (ev_istore (ls' := [.ref 139, .int x1, .int x5, w3, w4]) rfl (Nat.le_of_ble_eq_true rfl) rfl).trans ?_
  refine (ev_iload rfl rfl).trans ?_
  refine (ev_const0 (v := (-1 : Int32)) rfl am_ci_m1).trans ?_
  refine (ev_icmp1 rfl).trans (am_ite (fun c1 => ?_) (fun c1 => ?_))
  · refine (ev_const0 (v := (0 : Int32)) rfl am_ci_0).trans ?_
    refine (ev_istore (ls' := [.ref 139, .int x1, .int x5, .int (0 : Int32), w4]) rfl (Nat.le_of_ble_eq_true rfl) rfl).trans ?_
    refine (ev_const0 (v := (0 : Int32)) rfl am_ci_0).trans ?_
    refine (ev_istore (ls' := [.ref 139, .int x1, .int x5, .int (0 : Int32), .int (0 : Int32)]) rfl (Nat.le_of_ble_eq_true rfl) rfl).trans ?_
    rfl
  · refine (ev_iload rfl rfl).trans ?_
    exact ev_iret rfl
set_option maxRecDepth 10000 in
theorem sg_329_20 (X : am_X) (I : Nat → Nat → Int32) (J : Nat → Nat → Int64) (x1 : Int32) (x2 : Int32) (x3 : Int32) (x4 : Int32) : am_ev X amP_329 20 [.ref 139, .int x1, .int x2, .int x3, .int x4] [] (am_sh I J) = (if (I 139 37) < 0 ∨ 10 ≤ (I 139 37).toNatClampNeg then none else (if (I 140 (I 139 37).toNatClampNeg) ≤ x4 then some (some (.int (-1 : Int32)), am_sh I J) else (if x4 < 0 ∨ 48 ≤ x4.toNatClampNeg then none else (if ¬ (I 160 x4.toNatClampNeg) = 0 then (if ¬ x3 = x1 then am_ev X amP_329 20 [.ref 139, .int x1, .int x2, .int (x3 + (1 : Int32)), .int (x4 + (1 : Int32))] [] (am_sh I J) else some (some (.int x4), am_sh I J)) else am_ev X amP_329 20 [.ref 139, .int x1, .int x2, .int x3, .int (x4 + (1 : Int32))] [] (am_sh I J))))) := by
  refine (ev_iload rfl rfl).trans ?_
  refine (ev_aload rfl rfl).trans ?_
  refine (ev_getR rfl (by decide) am_K_139 (by decide) rfl am_R_139_3).trans ?_
  refine (ev_aload rfl rfl).trans ?_
  refine (ev_getI rfl (by decide) am_K_139 (by decide) rfl).trans ?_
  refine (ev_iald rfl (by decide) am_K_140).trans (am_itn (fun g1 => ?_))
  refine (ev_icmp3 rfl).trans (am_ite (fun c2 => ?_) (fun c2 => ?_))
  · refine (ev_const0 (v := (-1 : Int32)) rfl am_ci_m1).trans ?_
    exact ev_iret rfl
  · refine (ev_aload rfl rfl).trans ?_
    refine (ev_getR rfl (by decide) am_K_139 (by decide) rfl am_R_139_40).trans ?_
    refine (ev_iload rfl rfl).trans ?_
    refine (ev_iald rfl (by decide) am_K_160).trans (am_itn (fun g3 => ?_))
    refine (ev_if1 rfl).trans (am_ite (fun c4 => ?_) (fun c4 => ?_))
    · refine (ev_iload rfl rfl).trans ?_
      refine (ev_iload rfl rfl).trans ?_
      refine (ev_icmp1 rfl).trans (am_ite (fun c5 => ?_) (fun c5 => ?_))
      · refine (ev_iincv (v := (1 : Int32)) (ls' := [.ref 139, .int x1, .int x2, .int (x3 + (1 : Int32)), .int x4]) rfl am_ci_1 rfl rfl).trans ?_
        refine (ev_iincv (v := (1 : Int32)) (ls' := [.ref 139, .int x1, .int x2, .int (x3 + (1 : Int32)), .int (x4 + (1 : Int32))]) rfl am_ci_1 rfl rfl).trans ?_
        refine (ev_goto rfl).trans ?_
        rfl
      · refine (ev_iload rfl rfl).trans ?_
        exact ev_iret rfl
    · refine (ev_goto rfl).trans ?_
      refine (ev_iincv (v := (1 : Int32)) (ls' := [.ref 139, .int x1, .int x2, .int x3, .int (x4 + (1 : Int32))]) rfl am_ci_1 rfl rfl).trans ?_
      refine (ev_goto rfl).trans ?_
      rfl
-- 330 X12_mostBy
set_option maxRecDepth 10000 in
theorem sg_330_e0 (X : am_X) (I : Nat → Nat → Int32) (J : Nat → Nat → Int64) (x1 : Int32) : am_ev X amP_330 0 [.ref 139, .int x1, .null, .null, .null, .null] [] (am_sh I J) = am_ev X amP_330 4 [.ref 139, .int x1, .int (0 : Int32), .int (0 : Int32), .null, .null] [] (am_sh I J) := by
  refine (ev_const0 (v := (0 : Int32)) rfl am_ci_0).trans ?_
  refine (ev_istore (ls' := [.ref 139, .int x1, .int (0 : Int32), .null, .null, .null]) rfl (Nat.le_of_ble_eq_true rfl) rfl).trans ?_
  refine (ev_const0 (v := (0 : Int32)) rfl am_ci_0).trans ?_
  refine (ev_istore (ls' := [.ref 139, .int x1, .int (0 : Int32), .int (0 : Int32), .null, .null]) rfl (Nat.le_of_ble_eq_true rfl) rfl).trans ?_
  rfl
theorem cl_330 (X : am_X) (I : Nat → Nat → Int32) (J : Nat → Nat → Int64) (x1 : Int32) : am_do X 330 [.ref 139, .int x1] (am_sh I J) = am_ev X amP_330 0 [.ref 139, .int x1, .null, .null, .null, .null] [] (am_sh I J) := am_do_of rfl rfl rfl
set_option maxRecDepth 10000 in
theorem sg_330_4 (X : am_X) (I : Nat → Nat → Int32) (J : Nat → Nat → Int64) (x1 : Int32) (x2 : Int32) (x3 : Int32) (w4 : Value) (w5 : Value) (hw4 : w4.category = 1) (hw5 : w5.category = 1) : am_ev X amP_330 4 [.ref 139, .int x1, .int x2, .int x3, w4, w5] [] (am_sh I J) = (if (4 : Int32) ≤ x3 then some (some (.int x2), am_sh I J) else am_ev X amP_330 11 [.ref 139, .int x1, .int x2, .int x3, .int (0 : Int32), .int (0 : Int32)] [] (am_sh I J)) := by
  refine (ev_iload rfl rfl).trans ?_
  refine (ev_const0 (v := (4 : Int32)) rfl am_ci_4).trans ?_
  refine (ev_icmp3 rfl).trans (am_ite (fun c1 => ?_) (fun c1 => ?_))
  · refine (ev_iload rfl rfl).trans ?_
    exact ev_iret rfl
  · refine (ev_const0 (v := (0 : Int32)) rfl am_ci_0).trans ?_
    refine (ev_istore (ls' := [.ref 139, .int x1, .int x2, .int x3, .int (0 : Int32), w5]) rfl (Nat.le_of_ble_eq_true rfl) rfl).trans ?_
    refine (ev_const0 (v := (0 : Int32)) rfl am_ci_0).trans ?_
    refine (ev_istore (ls' := [.ref 139, .int x1, .int x2, .int x3, .int (0 : Int32), .int (0 : Int32)]) rfl (Nat.le_of_ble_eq_true rfl) rfl).trans ?_
    rfl
set_option maxRecDepth 10000 in
theorem sg_330_11 (X : am_X) (I : Nat → Nat → Int32) (J : Nat → Nat → Int64) (x1 : Int32) (x2 : Int32) (x3 : Int32) (x4 : Int32) (x5 : Int32) : am_ev X amP_330 11 [.ref 139, .int x1, .int x2, .int x3, .int x4, .int x5] [] (am_sh I J) = (if (I 139 37) < 0 ∨ 10 ≤ (I 139 37).toNatClampNeg then none else (if (I 140 (I 139 37).toNatClampNeg) ≤ x5 then (am_do X 216 [.int x2, .int x4] (am_sh I J)).bind (fun q => am_ev X amP_330 41 [.ref 139, .int x1, .int x2, .int x3, .int x4, .int x5] (q.1.toList ++ []) q.2) else (if x5 < 0 ∨ 48 ≤ x5.toNatClampNeg then none else (if ¬ (I 160 x5.toNatClampNeg) = (1 : Int32) then am_ev X amP_330 11 [.ref 139, .int x1, .int x2, .int x3, .int (x4 + (0 : Int32)), .int (x5 + (1 : Int32))] [] (am_sh I J) else (am_do X 327 [.ref 139, .int x5, .int x1] (am_sh I J)).bind (fun q => am_ev X amP_330 29 [.ref 139, .int x1, .int x2, .int x3, .int x4, .int x5] (q.1.toList ++ [.int x4]) q.2))))) := by
  refine (ev_iload rfl rfl).trans ?_
  refine (ev_aload rfl rfl).trans ?_
  refine (ev_getR rfl (by decide) am_K_139 (by decide) rfl am_R_139_3).trans ?_
  refine (ev_aload rfl rfl).trans ?_
  refine (ev_getI rfl (by decide) am_K_139 (by decide) rfl).trans ?_
  refine (ev_iald rfl (by decide) am_K_140).trans (am_itn (fun g1 => ?_))
  refine (ev_icmp3 rfl).trans (am_ite (fun c2 => ?_) (fun c2 => ?_))
  · refine (ev_iload rfl rfl).trans ?_
    refine (ev_iload rfl rfl).trans ?_
    exact ev_invs (as := [.int x4, .int x2]) rfl rfl (by simp [Value.category])
  · refine (ev_iload rfl rfl).trans ?_
    refine (ev_aload rfl rfl).trans ?_
    refine (ev_getR rfl (by decide) am_K_139 (by decide) rfl am_R_139_40).trans ?_
    refine (ev_iload rfl rfl).trans ?_
    refine (ev_iald rfl (by decide) am_K_160).trans (am_itn (fun g3 => ?_))
    refine (ev_const0 (v := (1 : Int32)) rfl am_ci_1).trans ?_
    refine (ev_icmp1 rfl).trans (am_ite (fun c4 => ?_) (fun c4 => ?_))
    · refine (ev_const0 (v := (0 : Int32)) rfl am_ci_0).trans ?_
      refine (ev_iadd rfl).trans ?_
      refine (ev_istore (ls' := [.ref 139, .int x1, .int x2, .int x3, .int (x4 + (0 : Int32)), .int x5]) rfl (Nat.le_of_ble_eq_true rfl) rfl).trans ?_
      refine (ev_iincv (v := (1 : Int32)) (ls' := [.ref 139, .int x1, .int x2, .int x3, .int (x4 + (0 : Int32)), .int (x5 + (1 : Int32))]) rfl am_ci_1 rfl rfl).trans ?_
      refine (ev_goto rfl).trans ?_
      rfl
    · refine (ev_aload rfl rfl).trans ?_
      refine (ev_iload rfl rfl).trans ?_
      refine (ev_iload rfl rfl).trans ?_
      exact ev_invv (as := [.int x1, .int x5]) rfl (by decide) am_K_139 rfl (by simp [Value.category])
set_option maxRecDepth 10000 in
theorem sg_330_29 (X : am_X) (I : Nat → Nat → Int32) (J : Nat → Nat → Int64) (x1 : Int32) (x2 : Int32) (x3 : Int32) (x4 : Int32) (x5 : Int32) (x6 : Int32) (x7 : Int32) : am_ev X amP_330 29 [.ref 139, .int x1, .int x2, .int x3, .int x4, .int x5] [.int x7, .int x6] (am_sh I J) = (if ¬ x7 = x3 then am_ev X amP_330 11 [.ref 139, .int x1, .int x2, .int x3, .int (x6 + (0 : Int32)), .int (x5 + (1 : Int32))] [] (am_sh I J) else am_ev X amP_330 11 [.ref 139, .int x1, .int x2, .int x3, .int (x6 + (1 : Int32)), .int (x5 + (1 : Int32))] [] (am_sh I J)) := by
  refine (ev_iload rfl rfl).trans ?_
  refine (ev_icmp1 rfl).trans (am_ite (fun c1 => ?_) (fun c1 => ?_))
  · refine (ev_const0 (v := (0 : Int32)) rfl am_ci_0).trans ?_
    refine (ev_iadd rfl).trans ?_
    refine (ev_istore (ls' := [.ref 139, .int x1, .int x2, .int x3, .int (x6 + (0 : Int32)), .int x5]) rfl (Nat.le_of_ble_eq_true rfl) rfl).trans ?_
    refine (ev_iincv (v := (1 : Int32)) (ls' := [.ref 139, .int x1, .int x2, .int x3, .int (x6 + (0 : Int32)), .int (x5 + (1 : Int32))]) rfl am_ci_1 rfl rfl).trans ?_
    refine (ev_goto rfl).trans ?_
    rfl
  · refine (ev_const0 (v := (1 : Int32)) rfl am_ci_1).trans ?_
    refine (ev_goto rfl).trans ?_
    refine (ev_iadd rfl).trans ?_
    refine (ev_istore (ls' := [.ref 139, .int x1, .int x2, .int x3, .int (x6 + (1 : Int32)), .int x5]) rfl (Nat.le_of_ble_eq_true rfl) rfl).trans ?_
    refine (ev_iincv (v := (1 : Int32)) (ls' := [.ref 139, .int x1, .int x2, .int x3, .int (x6 + (1 : Int32)), .int (x5 + (1 : Int32))]) rfl am_ci_1 rfl rfl).trans ?_
    refine (ev_goto rfl).trans ?_
    rfl
set_option maxRecDepth 10000 in
theorem sg_330_41 (X : am_X) (I : Nat → Nat → Int32) (J : Nat → Nat → Int64) (x1 : Int32) (x2 : Int32) (x3 : Int32) (x4 : Int32) (x5 : Int32) (x6 : Int32) : am_ev X amP_330 41 [.ref 139, .int x1, .int x2, .int x3, .int x4, .int x5] [.int x6] (am_sh I J) = am_ev X amP_330 4 [.ref 139, .int x1, .int x6, .int (x3 + (1 : Int32)), .int x4, .int x5] [] (am_sh I J) := by
  refine (ev_istore (ls' := [.ref 139, .int x1, .int x6, .int x3, .int x4, .int x5]) rfl (Nat.le_of_ble_eq_true rfl) rfl).trans ?_
  refine (ev_iincv (v := (1 : Int32)) (ls' := [.ref 139, .int x1, .int x6, .int (x3 + (1 : Int32)), .int x4, .int x5]) rfl am_ci_1 rfl rfl).trans ?_
  refine (ev_goto rfl).trans ?_
  rfl
-- 331 X12_tells
set_option maxRecDepth 10000 in
theorem sg_331_e0 (X : am_X) (I : Nat → Nat → Int32) (J : Nat → Nat → Int64) (x1 : Int32) : am_ev X amP_331 0 [.ref 139, .int x1, .null, .null] [] (am_sh I J) = (if (I 139 36) = 0 then some (some (.int (-1 : Int32)), am_sh I J) else (am_do X 214 [.int x1, .int (0 : Int32), .int (1 : Int32)] (am_sh I J)).bind (fun q => am_ev X amP_331 7 [.ref 139, .int x1, .null, .null] (q.1.toList ++ []) q.2)) := by
  refine (ev_aload rfl rfl).trans ?_
  refine (ev_getI rfl (by decide) am_K_139 (by decide) rfl).trans ?_
  refine (ev_if0 rfl).trans (am_ite (fun c1 => ?_) (fun c1 => ?_))
  · refine (ev_const0 (v := (-1 : Int32)) rfl am_ci_m1).trans ?_
    exact ev_iret rfl
  · refine (ev_iload rfl rfl).trans ?_
    refine (ev_const0 (v := (0 : Int32)) rfl am_ci_0).trans ?_
    refine (ev_const0 (v := (1 : Int32)) rfl am_ci_1).trans ?_
    exact ev_invs (as := [.int (1 : Int32), .int (0 : Int32), .int x1]) rfl rfl (by simp [Value.category])
theorem cl_331 (X : am_X) (I : Nat → Nat → Int32) (J : Nat → Nat → Int64) (x1 : Int32) : am_do X 331 [.ref 139, .int x1] (am_sh I J) = am_ev X amP_331 0 [.ref 139, .int x1, .null, .null] [] (am_sh I J) := am_do_of rfl rfl rfl
set_option maxRecDepth 10000 in
theorem sg_331_7 (X : am_X) (I : Nat → Nat → Int32) (J : Nat → Nat → Int64) (x1 : Int32) (w2 : Value) (w3 : Value) (x4 : Int32) (hw2 : w2.category = 1) (hw3 : w3.category = 1) : am_ev X amP_331 7 [.ref 139, .int x1, w2, w3] [.int x4] (am_sh I J) = (if x4 = 0 then some (some (.int (-1 : Int32)), am_sh I J) else (am_do X 328 [.ref 139] (am_sh I J)).bind (fun q => am_ev X amP_331 10 [.ref 139, .int x1, w2, w3] (q.1.toList ++ []) q.2)) := by
  refine (ev_if0 rfl).trans (am_ite (fun c1 => ?_) (fun c1 => ?_))
  · refine (ev_const0 (v := (-1 : Int32)) rfl am_ci_m1).trans ?_
    exact ev_iret rfl
  · refine (ev_aload rfl rfl).trans ?_
    exact ev_invv (as := []) rfl (by decide) am_K_139 rfl (by simp [Value.category])
set_option maxRecDepth 10000 in
theorem sg_331_10 (X : am_X) (I : Nat → Nat → Int32) (J : Nat → Nat → Int64) (x1 : Int32) (w2 : Value) (w3 : Value) (x4 : Int32) (hw2 : w2.category = 1) (hw3 : w3.category = 1) : am_ev X amP_331 10 [.ref 139, .int x1, w2, w3] [.int x4] (am_sh I J) = (if ¬ x4 = 0 then am_ev X amP_331 17 [.ref 139, .int x1, .int (0 : Int32), .int (1 : Int32)] [] (am_sh I J) else some (some (.int (-1 : Int32)), am_sh I J)) := by
  refine (ev_if1 rfl).trans (am_ite (fun c1 => ?_) (fun c1 => ?_))
  · refine (ev_const0 (v := (0 : Int32)) rfl am_ci_0).trans ?_
    refine (ev_istore (ls' := [.ref 139, .int x1, .int (0 : Int32), w3]) rfl (Nat.le_of_ble_eq_true rfl) rfl).trans ?_
    refine (ev_const0 (v := (1 : Int32)) rfl am_ci_1).trans ?_
    refine (ev_istore (ls' := [.ref 139, .int x1, .int (0 : Int32), .int (1 : Int32)]) rfl (Nat.le_of_ble_eq_true rfl) rfl).trans ?_
    rfl
  · refine (ev_const0 (v := (-1 : Int32)) rfl am_ci_m1).trans ?_
    exact ev_iret rfl
set_option maxRecDepth 10000 in
theorem sg_331_17 (X : am_X) (I : Nat → Nat → Int32) (J : Nat → Nat → Int64) (x1 : Int32) (x2 : Int32) (x3 : Int32) : am_ev X amP_331 17 [.ref 139, .int x1, .int x2, .int x3] [] (am_sh I J) = (if (I 139 37) < 0 ∨ 10 ≤ (I 139 37).toNatClampNeg then none else (if (I 140 (I 139 37).toNatClampNeg) ≤ x3 then (if ¬ x1 = 0 then (am_do X 330 [.ref 139, .int x2] (am_sh I J)).bind (fun q => am_ev X amP_331 42 [.ref 139, .int x1, .int x2, .int x3] (q.1.toList ++ []) q.2) else some (some (.int x2), am_sh I J)) else (am_do X 330 [.ref 139, .int x3] (am_sh I J)).bind (fun q => am_ev X amP_331 27 [.ref 139, .int x1, .int x2, .int x3] (q.1.toList ++ []) q.2))) := by
  refine (ev_iload rfl rfl).trans ?_
  refine (ev_aload rfl rfl).trans ?_
  refine (ev_getR rfl (by decide) am_K_139 (by decide) rfl am_R_139_3).trans ?_
  refine (ev_aload rfl rfl).trans ?_
  refine (ev_getI rfl (by decide) am_K_139 (by decide) rfl).trans ?_
  refine (ev_iald rfl (by decide) am_K_140).trans (am_itn (fun g1 => ?_))
  refine (ev_icmp3 rfl).trans (am_ite (fun c2 => ?_) (fun c2 => ?_))
  · refine (ev_iload rfl rfl).trans ?_
    refine (ev_if1 rfl).trans (am_ite (fun c3 => ?_) (fun c3 => ?_))
    · refine (ev_aload rfl rfl).trans ?_
      refine (ev_iload rfl rfl).trans ?_
      exact ev_invv (as := [.int x2]) rfl (by decide) am_K_139 rfl (by simp [Value.category])
    · refine (ev_iload rfl rfl).trans ?_
      refine (ev_goto rfl).trans ?_
      exact ev_iret rfl
  · refine (ev_aload rfl rfl).trans ?_
    refine (ev_iload rfl rfl).trans ?_
    exact ev_invv (as := [.int x3]) rfl (by decide) am_K_139 rfl (by simp [Value.category])
set_option maxRecDepth 10000 in
theorem sg_331_27 (X : am_X) (I : Nat → Nat → Int32) (J : Nat → Nat → Int64) (x1 : Int32) (x2 : Int32) (x3 : Int32) (x4 : Int32) : am_ev X amP_331 27 [.ref 139, .int x1, .int x2, .int x3] [.int x4] (am_sh I J) = (am_do X 330 [.ref 139, .int x2] (am_sh I J)).bind (fun q => am_ev X amP_331 30 [.ref 139, .int x1, .int x2, .int x3] (q.1.toList ++ [.int x4]) q.2) := by
  refine (ev_aload rfl rfl).trans ?_
  refine (ev_iload rfl rfl).trans ?_
  exact ev_invv (as := [.int x2]) rfl (by decide) am_K_139 rfl (by simp [Value.category])
set_option maxRecDepth 10000 in
theorem sg_331_30 (X : am_X) (I : Nat → Nat → Int32) (J : Nat → Nat → Int64) (x1 : Int32) (x2 : Int32) (x3 : Int32) (x4 : Int32) (x5 : Int32) : am_ev X amP_331 30 [.ref 139, .int x1, .int x2, .int x3] [.int x5, .int x4] (am_sh I J) = (if x5 ≤ x4 then am_ev X amP_331 17 [.ref 139, .int x1, .int x2, .int (x3 + (1 : Int32))] [] (am_sh I J) else am_ev X amP_331 17 [.ref 139, .int x1, .int x3, .int (x3 + (1 : Int32))] [] (am_sh I J)) := by
  refine (ev_icmp3 rfl).trans (am_ite (fun c1 => ?_) (fun c1 => ?_))
  · refine (ev_iincv (v := (1 : Int32)) (ls' := [.ref 139, .int x1, .int x2, .int (x3 + (1 : Int32))]) rfl am_ci_1 rfl rfl).trans ?_
    refine (ev_goto rfl).trans ?_
    rfl
  · refine (ev_iload rfl rfl).trans ?_
    refine (ev_istore (ls' := [.ref 139, .int x1, .int x3, .int x3]) rfl (Nat.le_of_ble_eq_true rfl) rfl).trans ?_
    refine (ev_iincv (v := (1 : Int32)) (ls' := [.ref 139, .int x1, .int x3, .int (x3 + (1 : Int32))]) rfl am_ci_1 rfl rfl).trans ?_
    refine (ev_goto rfl).trans ?_
    rfl
set_option maxRecDepth 10000 in
theorem sg_331_42 (X : am_X) (I : Nat → Nat → Int32) (J : Nat → Nat → Int64) (x1 : Int32) (x2 : Int32) (x3 : Int32) (x4 : Int32) : am_ev X amP_331 42 [.ref 139, .int x1, .int x2, .int x3] [.int x4] (am_sh I J) = some (some (.int x4), am_sh I J) := by
  exact ev_iret rfl
-- 332 X12_burn
set_option maxRecDepth 10000 in
theorem sg_332_e0 (X : am_X) (I : Nat → Nat → Int32) (J : Nat → Nat → Int64) (x1 : Int32) (x2 : Int32) (x3 : Int32) : am_ev X amP_332 0 [.ref 139, .int x1, .int x2, .int x3] [] (am_sh I J) = (am_do X 256 [.ref 139, .int x1] (am_sh I J)).bind (fun q => am_ev X amP_332 3 [.ref 139, .int x1, .int x2, .int x3] (q.1.toList ++ []) q.2) := by
  refine (ev_aload rfl rfl).trans ?_
  refine (ev_iload rfl rfl).trans ?_
  exact ev_invv (as := [.int x1]) rfl (by decide) am_K_139 rfl (by simp [Value.category])
theorem cl_332 (X : am_X) (I : Nat → Nat → Int32) (J : Nat → Nat → Int64) (x1 : Int32) (x2 : Int32) (x3 : Int32) : am_do X 332 [.ref 139, .int x1, .int x2, .int x3] (am_sh I J) = am_ev X amP_332 0 [.ref 139, .int x1, .int x2, .int x3] [] (am_sh I J) := am_do_of rfl rfl rfl
set_option maxRecDepth 10000 in
theorem sg_332_3 (X : am_X) (I : Nat → Nat → Int32) (J : Nat → Nat → Int64) (x1 : Int32) (x2 : Int32) (x3 : Int32) (x4 : Int32) : am_ev X amP_332 3 [.ref 139, .int x1, .int x2, .int x3] [.int x4] (am_sh I J) = (if x4 = 0 then (am_do X 218 [.ref 139, .int (3 : Int32)] (am_sh I J)).bind (fun q => am_ev X amP_332 17 [.ref 139, .int x1, .int x2, .int x3] (q.1.toList ++ []) q.2) else (am_do X 243 [.ref 139, .int x1] (am_sh I J)).bind (fun q => am_ev X amP_332 7 [.ref 139, .int x1, .int x2, .int x3] (q.1.toList ++ []) q.2)) := by
  refine (ev_if0 rfl).trans (am_ite (fun c1 => ?_) (fun c1 => ?_))
  · refine (ev_aload rfl rfl).trans ?_
    refine (ev_const0 (v := (3 : Int32)) rfl am_ci_3).trans ?_
    exact ev_invv (as := [.int (3 : Int32)]) rfl (by decide) am_K_139 rfl (by simp [Value.category])
  · refine (ev_aload rfl rfl).trans ?_
    refine (ev_iload rfl rfl).trans ?_
    exact ev_invv (as := [.int x1]) rfl (by decide) am_K_139 rfl (by simp [Value.category])
set_option maxRecDepth 10000 in
theorem sg_332_7 (X : am_X) (I : Nat → Nat → Int32) (J : Nat → Nat → Int64) (x1 : Int32) (x2 : Int32) (x3 : Int32) (x4 : Int32) : am_ev X amP_332 7 [.ref 139, .int x1, .int x2, .int x3] [.int x4] (am_sh I J) = (if x4 = 0 then (am_do X 218 [.ref 139, .int (3 : Int32)] (am_sh I J)).bind (fun q => am_ev X amP_332 17 [.ref 139, .int x1, .int x2, .int x3] (q.1.toList ++ []) q.2) else (am_do X 312 [.ref 139, .int x1, .int x2, .int x3] (am_sh I J)).bind (fun q => am_ev X amP_332 13 [.ref 139, .int x1, .int x2, .int x3] (q.1.toList ++ []) q.2)) := by
  refine (ev_if0 rfl).trans (am_ite (fun c1 => ?_) (fun c1 => ?_))
  · refine (ev_aload rfl rfl).trans ?_
    refine (ev_const0 (v := (3 : Int32)) rfl am_ci_3).trans ?_
    exact ev_invv (as := [.int (3 : Int32)]) rfl (by decide) am_K_139 rfl (by simp [Value.category])
  · refine (ev_aload rfl rfl).trans ?_
    refine (ev_iload rfl rfl).trans ?_
    refine (ev_iload rfl rfl).trans ?_
    refine (ev_iload rfl rfl).trans ?_
    exact ev_invv (as := [.int x3, .int x2, .int x1]) rfl (by decide) am_K_139 rfl (by simp [Value.category])
set_option maxRecDepth 10000 in
theorem sg_332_13 (X : am_X) (I : Nat → Nat → Int32) (J : Nat → Nat → Int64) (x1 : Int32) (x2 : Int32) (x3 : Int32) (x4 : Int32) : am_ev X amP_332 13 [.ref 139, .int x1, .int x2, .int x3] [.int x4] (am_sh I J) = (if ¬ x4 = 0 then (am_do X 244 [.ref 139] (am_sh I J)).bind (fun q => am_ev X amP_332 20 [.ref 139, .int x1, .int x2, .int x3] (q.1.toList ++ []) q.2) else (am_do X 218 [.ref 139, .int (3 : Int32)] (am_sh I J)).bind (fun q => am_ev X amP_332 17 [.ref 139, .int x1, .int x2, .int x3] (q.1.toList ++ []) q.2)) := by
  refine (ev_if1 rfl).trans (am_ite (fun c1 => ?_) (fun c1 => ?_))
  · refine (ev_aload rfl rfl).trans ?_
    exact ev_invv (as := []) rfl (by decide) am_K_139 rfl (by simp [Value.category])
  · refine (ev_aload rfl rfl).trans ?_
    refine (ev_const0 (v := (3 : Int32)) rfl am_ci_3).trans ?_
    exact ev_invv (as := [.int (3 : Int32)]) rfl (by decide) am_K_139 rfl (by simp [Value.category])
set_option maxRecDepth 10000 in
theorem sg_332_17 (X : am_X) (I : Nat → Nat → Int32) (J : Nat → Nat → Int64) (x1 : Int32) (x2 : Int32) (x3 : Int32) (x4 : Int32) : am_ev X amP_332 17 [.ref 139, .int x1, .int x2, .int x3] [.int x4] (am_sh I J) = some (some (.int x4), am_sh I J) := by
  exact ev_iret rfl
set_option maxRecDepth 10000 in
theorem sg_332_20 (X : am_X) (I : Nat → Nat → Int32) (J : Nat → Nat → Int64) (x1 : Int32) (x2 : Int32) (x3 : Int32) : am_ev X amP_332 20 [.ref 139, .int x1, .int x2, .int x3] [] (am_sh I J) = (am_do X 313 [.ref 139, .int x1, .int x2, .int x3] (am_sh I J)).bind (fun q => am_ev X amP_332 25 [.ref 139, .int x1, .int x2, .int x3] (q.1.toList ++ []) q.2) := by
  refine (ev_aload rfl rfl).trans ?_
  refine (ev_iload rfl rfl).trans ?_
  refine (ev_iload rfl rfl).trans ?_
  refine (ev_iload rfl rfl).trans ?_
  exact ev_invv (as := [.int x3, .int x2, .int x1]) rfl (by decide) am_K_139 rfl (by simp [Value.category])
set_option maxRecDepth 10000 in
theorem sg_332_25 (X : am_X) (I : Nat → Nat → Int32) (J : Nat → Nat → Int64) (x1 : Int32) (x2 : Int32) (x3 : Int32) : am_ev X amP_332 25 [.ref 139, .int x1, .int x2, .int x3] [] (am_sh I J) = (am_do X 241 [.ref 139, .int x1, .int (5 : Int32)] (am_sh I J)).bind (fun q => am_ev X amP_332 29 [.ref 139, .int x1, .int x2, .int x3] (q.1.toList ++ []) q.2) := by
  refine (ev_aload rfl rfl).trans ?_
  refine (ev_iload rfl rfl).trans ?_
  refine (ev_const0 (v := (5 : Int32)) rfl am_ci_5).trans ?_
  exact ev_invv (as := [.int (5 : Int32), .int x1]) rfl (by decide) am_K_139 rfl (by simp [Value.category])
set_option maxRecDepth 10000 in
theorem sg_332_29 (X : am_X) (I : Nat → Nat → Int32) (J : Nat → Nat → Int64) (x1 : Int32) (x2 : Int32) (x3 : Int32) (x4 : Int32) : am_ev X amP_332 29 [.ref 139, .int x1, .int x2, .int x3] [.int x4] (am_sh I J) = some (some (.int x4), am_sh I J) := by
  exact ev_iret rfl
-- 333 X12_up
set_option maxRecDepth 10000 in
theorem sg_333_e0 (X : am_X) (I : Nat → Nat → Int32) (J : Nat → Nat → Int64) (x1 : Int32) (x2 : Int32) : am_ev X amP_333 0 [.ref 139, .int x1, .int x2] [] (am_sh I J) = (am_do X 256 [.ref 139, .int x1] (am_sh I J)).bind (fun q => am_ev X amP_333 3 [.ref 139, .int x1, .int x2] (q.1.toList ++ []) q.2) := by
  refine (ev_aload rfl rfl).trans ?_
  refine (ev_iload rfl rfl).trans ?_
  exact ev_invv (as := [.int x1]) rfl (by decide) am_K_139 rfl (by simp [Value.category])
theorem cl_333 (X : am_X) (I : Nat → Nat → Int32) (J : Nat → Nat → Int64) (x1 : Int32) (x2 : Int32) : am_do X 333 [.ref 139, .int x1, .int x2] (am_sh I J) = am_ev X amP_333 0 [.ref 139, .int x1, .int x2] [] (am_sh I J) := am_do_of rfl rfl rfl
set_option maxRecDepth 10000 in
theorem sg_333_3 (X : am_X) (I : Nat → Nat → Int32) (J : Nat → Nat → Int64) (x1 : Int32) (x2 : Int32) (x3 : Int32) : am_ev X amP_333 3 [.ref 139, .int x1, .int x2] [.int x3] (am_sh I J) = (if x3 = 0 then (am_do X 219 [.ref 139, .int (2 : Int32)] (am_sh I J)).bind (fun q => am_ev X amP_333 12 [.ref 139, .int x1, .int x2] (q.1.toList ++ []) q.2) else (am_do X 243 [.ref 139, .int x1] (am_sh I J)).bind (fun q => am_ev X amP_333 7 [.ref 139, .int x1, .int x2] (q.1.toList ++ []) q.2)) := by
  refine (ev_if0 rfl).trans (am_ite (fun c1 => ?_) (fun c1 => ?_))
  · refine (ev_aload rfl rfl).trans ?_
    refine (ev_const0 (v := (2 : Int32)) rfl am_ci_2).trans ?_
    exact ev_invv (as := [.int (2 : Int32)]) rfl (by decide) am_K_139 rfl (by simp [Value.category])
  · refine (ev_aload rfl rfl).trans ?_
    refine (ev_iload rfl rfl).trans ?_
    exact ev_invv (as := [.int x1]) rfl (by decide) am_K_139 rfl (by simp [Value.category])
set_option maxRecDepth 10000 in
theorem sg_333_7 (X : am_X) (I : Nat → Nat → Int32) (J : Nat → Nat → Int64) (x1 : Int32) (x2 : Int32) (x3 : Int32) : am_ev X amP_333 7 [.ref 139, .int x1, .int x2] [.int x3] (am_sh I J) = (if ¬ x3 = x2 then (am_do X 244 [.ref 139] (am_sh I J)).bind (fun q => am_ev X amP_333 15 [.ref 139, .int x1, .int x2] (q.1.toList ++ []) q.2) else (am_do X 219 [.ref 139, .int (2 : Int32)] (am_sh I J)).bind (fun q => am_ev X amP_333 12 [.ref 139, .int x1, .int x2] (q.1.toList ++ []) q.2)) := by
  refine (ev_iload rfl rfl).trans ?_
  refine (ev_icmp1 rfl).trans (am_ite (fun c1 => ?_) (fun c1 => ?_))
  · refine (ev_aload rfl rfl).trans ?_
    exact ev_invv (as := []) rfl (by decide) am_K_139 rfl (by simp [Value.category])
  · refine (ev_aload rfl rfl).trans ?_
    refine (ev_const0 (v := (2 : Int32)) rfl am_ci_2).trans ?_
    exact ev_invv (as := [.int (2 : Int32)]) rfl (by decide) am_K_139 rfl (by simp [Value.category])
set_option maxRecDepth 10000 in
theorem sg_333_12 (X : am_X) (I : Nat → Nat → Int32) (J : Nat → Nat → Int64) (x1 : Int32) (x2 : Int32) (x3 : Int32) (z0 : x3 = 0 ∨ x3 = 1) : am_ev X amP_333 12 [.ref 139, .int x1, .int x2] [.int x3] (am_sh I J) = some (some (.int x3), am_sh I J) := by
  exact ev_zret rfl z0
set_option maxRecDepth 10000 in
theorem sg_333_15 (X : am_X) (I : Nat → Nat → Int32) (J : Nat → Nat → Int64) (x1 : Int32) (x2 : Int32) : am_ev X amP_333 15 [.ref 139, .int x1, .int x2] [] (am_sh I J) = (if x2 = 0 then (am_do X 242 [.ref 139, .int x1, .int (6 : Int32), .int (0 : Int32)] (am_sh I J)).bind (fun q => am_ev X amP_333 24 [.ref 139, .int x1, .int x2] (q.1.toList ++ []) q.2) else (am_do X 242 [.ref 139, .int x1, .int (6 : Int32), .int (1 : Int32)] (am_sh I J)).bind (fun q => am_ev X amP_333 24 [.ref 139, .int x1, .int x2] (q.1.toList ++ []) q.2)) := by
  refine (ev_aload rfl rfl).trans ?_
  refine (ev_iload rfl rfl).trans ?_
  refine (ev_const1 (v := (6 : Int32)) rfl am_ci_6).trans ?_
  refine (ev_iload rfl rfl).trans ?_
  refine (ev_if0 rfl).trans (am_ite (fun c1 => ?_) (fun c1 => ?_))
  · refine (ev_const0 (v := (0 : Int32)) rfl am_ci_0).trans ?_
    exact ev_invv (as := [.int (0 : Int32), .int (6 : Int32), .int x1]) rfl (by decide) am_K_139 rfl (by simp [Value.category])
  · refine (ev_const0 (v := (1 : Int32)) rfl am_ci_1).trans ?_
    refine (ev_goto rfl).trans ?_
    exact ev_invv (as := [.int (1 : Int32), .int (6 : Int32), .int x1]) rfl (by decide) am_K_139 rfl (by simp [Value.category])
set_option maxRecDepth 10000 in
theorem sg_333_24 (X : am_X) (I : Nat → Nat → Int32) (J : Nat → Nat → Int64) (x1 : Int32) (x2 : Int32) : am_ev X amP_333 24 [.ref 139, .int x1, .int x2] [] (am_sh I J) = some (some (.int (1 : Int32)), am_sh I J) := by
  refine (ev_const0 (v := (1 : Int32)) rfl am_ci_1).trans ?_
  exact ev_zret rfl (by decide)
-- 334 X12_gap
set_option maxRecDepth 10000 in
theorem sg_334_e0 (X : am_X) (I : Nat → Nat → Int32) (J : Nat → Nat → Int64) (x1 : Int32) : am_ev X amP_334 0 [.ref 139, .int x1] [] (am_sh I J) = (if (I 139 0) = 0 then (am_do X 219 [.ref 139, .int (3 : Int32)] (am_sh I J)).bind (fun q => am_ev X amP_334 17 [.ref 139, .int x1] (q.1.toList ++ []) q.2) else (am_do X 214 [.int x1, .int (0 : Int32), .int (99 : Int32)] (am_sh I J)).bind (fun q => am_ev X amP_334 7 [.ref 139, .int x1] (q.1.toList ++ []) q.2)) := by
  refine (ev_aload rfl rfl).trans ?_
  refine (ev_getI rfl (by decide) am_K_139 (by decide) rfl).trans ?_
  refine (ev_if0 rfl).trans (am_ite (fun c1 => ?_) (fun c1 => ?_))
  · refine (ev_aload rfl rfl).trans ?_
    refine (ev_const0 (v := (3 : Int32)) rfl am_ci_3).trans ?_
    exact ev_invv (as := [.int (3 : Int32)]) rfl (by decide) am_K_139 rfl (by simp [Value.category])
  · refine (ev_iload rfl rfl).trans ?_
    refine (ev_const0 (v := (0 : Int32)) rfl am_ci_0).trans ?_
    refine (ev_const1 (v := (99 : Int32)) rfl am_ci_99).trans ?_
    exact ev_invs (as := [.int (99 : Int32), .int (0 : Int32), .int x1]) rfl rfl (by simp [Value.category])
theorem cl_334 (X : am_X) (I : Nat → Nat → Int32) (J : Nat → Nat → Int64) (x1 : Int32) : am_do X 334 [.ref 139, .int x1] (am_sh I J) = am_ev X amP_334 0 [.ref 139, .int x1] [] (am_sh I J) := am_do_of rfl rfl rfl
set_option maxRecDepth 10000 in
theorem sg_334_7 (X : am_X) (I : Nat → Nat → Int32) (J : Nat → Nat → Int64) (x1 : Int32) (x2 : Int32) : am_ev X amP_334 7 [.ref 139, .int x1] [.int x2] (am_sh I J) = (if x2 = 0 then (am_do X 219 [.ref 139, .int (3 : Int32)] (am_sh I J)).bind (fun q => am_ev X amP_334 17 [.ref 139, .int x1] (q.1.toList ++ []) q.2) else (if ¬ (I 148 0) = x1 then (am_do X 244 [.ref 139] (am_sh I J)).bind (fun q => am_ev X amP_334 20 [.ref 139, .int x1] (q.1.toList ++ []) q.2) else (am_do X 219 [.ref 139, .int (3 : Int32)] (am_sh I J)).bind (fun q => am_ev X amP_334 17 [.ref 139, .int x1] (q.1.toList ++ []) q.2))) := by
  refine (ev_if0 rfl).trans (am_ite (fun c1 => ?_) (fun c1 => ?_))
  · refine (ev_aload rfl rfl).trans ?_
    refine (ev_const0 (v := (3 : Int32)) rfl am_ci_3).trans ?_
    exact ev_invv (as := [.int (3 : Int32)]) rfl (by decide) am_K_139 rfl (by simp [Value.category])
  · refine (ev_aload rfl rfl).trans ?_
    refine (ev_getR rfl (by decide) am_K_139 (by decide) rfl am_R_139_22).trans ?_
    refine (ev_const0 (v := (0 : Int32)) rfl am_ci_0).trans ?_
    refine (ev_ialdC (jn := 0) rfl (by decide) am_K_148 (by decide) (by decide)).trans ?_
    refine (ev_iload rfl rfl).trans ?_
    refine (ev_icmp1 rfl).trans (am_ite (fun c2 => ?_) (fun c2 => ?_))
    · refine (ev_aload rfl rfl).trans ?_
      exact ev_invv (as := []) rfl (by decide) am_K_139 rfl (by simp [Value.category])
    · refine (ev_aload rfl rfl).trans ?_
      refine (ev_const0 (v := (3 : Int32)) rfl am_ci_3).trans ?_
      exact ev_invv (as := [.int (3 : Int32)]) rfl (by decide) am_K_139 rfl (by simp [Value.category])
set_option maxRecDepth 10000 in
theorem sg_334_17 (X : am_X) (I : Nat → Nat → Int32) (J : Nat → Nat → Int64) (x1 : Int32) (x2 : Int32) (z0 : x2 = 0 ∨ x2 = 1) : am_ev X amP_334 17 [.ref 139, .int x1] [.int x2] (am_sh I J) = some (some (.int x2), am_sh I J) := by
  exact ev_zret rfl z0
set_option maxRecDepth 10000 in
theorem sg_334_20 (X : am_X) (I : Nat → Nat → Int32) (J : Nat → Nat → Int64) (x1 : Int32) : am_ev X amP_334 20 [.ref 139, .int x1] [] (am_sh I J) = some (some (.int (1 : Int32)), am_sh (am_up I 148 0 x1) J) := by
  refine (ev_aload rfl rfl).trans ?_
  refine (ev_getR rfl (by decide) am_K_139 (by decide) rfl am_R_139_22).trans ?_
  refine (ev_const0 (v := (0 : Int32)) rfl am_ci_0).trans ?_
  refine (ev_iload rfl rfl).trans ?_
  refine (ev_iastC (jn := 0) rfl (by decide) am_K_148 (by decide) (by decide)).trans ?_
  refine (ev_const0 (v := (1 : Int32)) rfl am_ci_1).trans ?_
  exact ev_zret rfl (by decide)
