-- 182 X11_crowd
set_option maxRecDepth 10000 in
theorem sg_182_e0 (X : am_X) (I : Nat → Nat → Int32) (J : Nat → Nat → Int64) (x1 : Int32) : am_ev X amP_182 0 [.ref 0, .int x1] [] (am_sh I J) = (if 0 ≤ x1 then (am_do X 104 [.ref 16, .int x1] (am_sh I J)).bind (fun q => am_ev X amP_182 8 [.ref 0, .int x1] (q.1.toList ++ []) q.2) else some (some (.int (-1 : Int32)), am_sh I J)) := by
  refine (ev_iload rfl rfl).trans ?_
  refine (ev_if3 rfl).trans (am_ite (fun c1 => ?_) (fun c1 => ?_))
  · refine (ev_aload rfl rfl).trans ?_
    refine (ev_getR rfl (by decide) am_K_0 (by decide) rfl am_R_0_2).trans ?_
    refine (ev_iload rfl rfl).trans ?_
    exact ev_invv (as := [.int x1]) rfl (by decide) am_K_16 rfl (by simp [Value.category])
  · refine (ev_const0 (v := (-1 : Int32)) rfl am_ci_m1).trans ?_
    refine (ev_goto rfl).trans ?_
    exact ev_iret rfl
theorem cl_182 (X : am_X) (I : Nat → Nat → Int32) (J : Nat → Nat → Int64) (x1 : Int32) : am_do X 182 [.ref 0, .int x1] (am_sh I J) = am_ev X amP_182 0 [.ref 0, .int x1] [] (am_sh I J) := am_do_of rfl rfl rfl
set_option maxRecDepth 10000 in
theorem sg_182_8 (X : am_X) (I : Nat → Nat → Int32) (J : Nat → Nat → Int64) (x1 : Int32) (x2 : Int32) : am_ev X amP_182 8 [.ref 0, .int x1] [.int x2] (am_sh I J) = some (some (.int x2), am_sh I J) := by
  exact ev_iret rfl
-- 183 X11_crowded
set_option maxRecDepth 10000 in
theorem sg_183_e0 (X : am_X) (I : Nat → Nat → Int32) (J : Nat → Nat → Int64) (x1 : Int32) : am_ev X amP_183 0 [.ref 0, .int x1, .null] [] (am_sh I J) = (if x1 < 0 then some (some (.int (-1 : Int32)), am_sh I J) else (if x1 ≤ (1 : Int32) then (am_do X 105 [.ref 16] (am_sh I J)).bind (fun q => am_ev X amP_183 10 [.ref 0, .int x1, .null] (q.1.toList ++ []) q.2) else some (some (.int (-1 : Int32)), am_sh I J))) := by
  refine (ev_iload rfl rfl).trans ?_
  refine (ev_if2 rfl).trans (am_ite (fun c1 => ?_) (fun c1 => ?_))
  · refine (ev_const0 (v := (-1 : Int32)) rfl am_ci_m1).trans ?_
    exact ev_iret rfl
  · refine (ev_iload rfl rfl).trans ?_
    refine (ev_const0 (v := (1 : Int32)) rfl am_ci_1).trans ?_
    refine (ev_icmp5 rfl).trans (am_ite (fun c2 => ?_) (fun c2 => ?_))
    · refine (ev_aload rfl rfl).trans ?_
      refine (ev_getR rfl (by decide) am_K_0 (by decide) rfl am_R_0_2).trans ?_
      exact ev_invv (as := []) rfl (by decide) am_K_16 rfl (by simp [Value.category])
    · refine (ev_const0 (v := (-1 : Int32)) rfl am_ci_m1).trans ?_
      exact ev_iret rfl
theorem cl_183 (X : am_X) (I : Nat → Nat → Int32) (J : Nat → Nat → Int64) (x1 : Int32) : am_do X 183 [.ref 0, .int x1] (am_sh I J) = am_ev X amP_183 0 [.ref 0, .int x1, .null] [] (am_sh I J) := am_do_of rfl rfl rfl
set_option maxRecDepth 10000 in
theorem sg_183_10 (X : am_X) (I : Nat → Nat → Int32) (J : Nat → Nat → Int64) (x1 : Int32) (w2 : Value) (x3 : Int32) (hw2 : w2.category = 1) : am_ev X amP_183 10 [.ref 0, .int x1, w2] [.int x3] (am_sh I J) = (if ¬ x3 = (-1 : Int32) then (if ¬ x1 = 0 then (am_do X 104 [.ref 16, .int x3] (am_sh I J)).bind (fun q => am_ev X amP_183 24 [.ref 0, .int x1, .int x3] (q.1.toList ++ []) q.2) else some (some (.int x3), am_sh I J)) else some (some (.int (-1 : Int32)), am_sh I J)) := by
  refine (ev_istore (ls' := [.ref 0, .int x1, .int x3]) rfl (Nat.le_of_ble_eq_true rfl) rfl).trans ?_
  refine (ev_iload rfl rfl).trans ?_
  refine (ev_const0 (v := (-1 : Int32)) rfl am_ci_m1).trans ?_
  refine (ev_icmp1 rfl).trans (am_ite (fun c1 => ?_) (fun c1 => ?_))
  · refine (ev_iload rfl rfl).trans ?_
    refine (ev_if1 rfl).trans (am_ite (fun c2 => ?_) (fun c2 => ?_))
    · refine (ev_aload rfl rfl).trans ?_
      refine (ev_getR rfl (by decide) am_K_0 (by decide) rfl am_R_0_2).trans ?_
      refine (ev_iload rfl rfl).trans ?_
      exact ev_invv (as := [.int x3]) rfl (by decide) am_K_16 rfl (by simp [Value.category])
    · refine (ev_iload rfl rfl).trans ?_
      refine (ev_goto rfl).trans ?_
      exact ev_iret rfl
  · refine (ev_const0 (v := (-1 : Int32)) rfl am_ci_m1).trans ?_
    exact ev_iret rfl
set_option maxRecDepth 10000 in
theorem sg_183_24 (X : am_X) (I : Nat → Nat → Int32) (J : Nat → Nat → Int64) (x1 : Int32) (x2 : Int32) (x3 : Int32) : am_ev X amP_183 24 [.ref 0, .int x1, .int x2] [.int x3] (am_sh I J) = some (some (.int x3), am_sh I J) := by
  exact ev_iret rfl
-- 184 X11_kept
set_option maxRecDepth 10000 in
theorem sg_184_e0 (X : am_X) (I : Nat → Nat → Int32) (J : Nat → Nat → Int64) (x1 : Int32) (x2 : Int32) : am_ev X amP_184 0 [.ref 0, .int x1, .int x2] [] (am_sh I J) = (if x1 < 0 then some (some (.int (-1 : Int32)), am_sh I J) else (if (I 16 6) ≤ x1 then some (some (.int (-1 : Int32)), am_sh I J) else (if x2 < 0 then some (some (.int (-1 : Int32)), am_sh I J) else (if x2 ≤ (1 : Int32) then (if (((2 : Int32) * x1) + x2) < 0 ∨ 80 ≤ (((2 : Int32) * x1) + x2).toNatClampNeg then none else some (some (.int (I 18 (((2 : Int32) * x1) + x2).toNatClampNeg)), am_sh I J)) else some (some (.int (-1 : Int32)), am_sh I J))))) := by
  refine (ev_iload rfl rfl).trans ?_
  refine (ev_if2 rfl).trans (am_ite (fun c1 => ?_) (fun c1 => ?_))
  · refine (ev_const0 (v := (-1 : Int32)) rfl am_ci_m1).trans ?_
    exact ev_iret rfl
  · refine (ev_iload rfl rfl).trans ?_
    refine (ev_aload rfl rfl).trans ?_
    refine (ev_getR rfl (by decide) am_K_0 (by decide) rfl am_R_0_2).trans ?_
    refine (ev_getI rfl (by decide) am_K_16 (by decide) rfl).trans ?_
    refine (ev_icmp3 rfl).trans (am_ite (fun c2 => ?_) (fun c2 => ?_))
    · refine (ev_const0 (v := (-1 : Int32)) rfl am_ci_m1).trans ?_
      exact ev_iret rfl
    · refine (ev_iload rfl rfl).trans ?_
      refine (ev_if2 rfl).trans (am_ite (fun c3 => ?_) (fun c3 => ?_))
      · refine (ev_const0 (v := (-1 : Int32)) rfl am_ci_m1).trans ?_
        exact ev_iret rfl
      · refine (ev_iload rfl rfl).trans ?_
        refine (ev_const0 (v := (1 : Int32)) rfl am_ci_1).trans ?_
        refine (ev_icmp5 rfl).trans (am_ite (fun c4 => ?_) (fun c4 => ?_))
        · refine (ev_aload rfl rfl).trans ?_
          refine (ev_getR rfl (by decide) am_K_0 (by decide) rfl am_R_0_2).trans ?_
          refine (ev_getR rfl (by decide) am_K_16 (by decide) rfl am_R_16_7).trans ?_
          refine (ev_const0 (v := (2 : Int32)) rfl am_ci_2).trans ?_
          refine (ev_iload rfl rfl).trans ?_
          refine (ev_imul rfl).trans ?_
          refine (ev_iload rfl rfl).trans ?_
          refine (ev_iadd rfl).trans ?_
          refine (ev_iald rfl (by decide) am_K_18).trans (am_itn (fun g5 => ?_))
          exact ev_iret rfl
        · refine (ev_const0 (v := (-1 : Int32)) rfl am_ci_m1).trans ?_
          exact ev_iret rfl
theorem cl_184 (X : am_X) (I : Nat → Nat → Int32) (J : Nat → Nat → Int64) (x1 : Int32) (x2 : Int32) : am_do X 184 [.ref 0, .int x1, .int x2] (am_sh I J) = am_ev X amP_184 0 [.ref 0, .int x1, .int x2] [] (am_sh I J) := am_do_of rfl rfl rfl
-- 185 X11_doom
set_option maxRecDepth 10000 in
theorem sg_185_e0 (X : am_X) (I : Nat → Nat → Int32) (J : Nat → Nat → Int64) (x1 : Int32) : am_ev X amP_185 0 [.ref 0, .int x1] [] (am_sh I J) = (am_do X 101 [.ref 16, .int x1] (am_sh I J)).bind (fun q => am_ev X amP_185 4 [.ref 0, .int x1] (q.1.toList ++ []) q.2) := by
  refine (ev_aload rfl rfl).trans ?_
  refine (ev_getR rfl (by decide) am_K_0 (by decide) rfl am_R_0_2).trans ?_
  refine (ev_iload rfl rfl).trans ?_
  exact ev_invv (as := [.int x1]) rfl (by decide) am_K_16 rfl (by simp [Value.category])
theorem cl_185 (X : am_X) (I : Nat → Nat → Int32) (J : Nat → Nat → Int64) (x1 : Int32) : am_do X 185 [.ref 0, .int x1] (am_sh I J) = am_ev X amP_185 0 [.ref 0, .int x1] [] (am_sh I J) := am_do_of rfl rfl rfl
set_option maxRecDepth 10000 in
theorem sg_185_4 (X : am_X) (I : Nat → Nat → Int32) (J : Nat → Nat → Int64) (x1 : Int32) (x2 : Int32) : am_ev X amP_185 4 [.ref 0, .int x1] [.int x2] (am_sh I J) = (if ¬ x2 = 0 then (am_do X 102 [.ref 16] (am_sh I J)).bind (fun q => am_ev X amP_185 12 [.ref 0, .int x1] (q.1.toList ++ [.ref 89]) q.2) else some (some (.int (-1 : Int32)), am_sh I J)) := by
  refine (ev_if1 rfl).trans (am_ite (fun c1 => ?_) (fun c1 => ?_))
  · refine (ev_aload rfl rfl).trans ?_
    refine (ev_getR rfl (by decide) am_K_0 (by decide) rfl am_R_0_5).trans ?_
    refine (ev_aload rfl rfl).trans ?_
    refine (ev_getR rfl (by decide) am_K_0 (by decide) rfl am_R_0_2).trans ?_
    exact ev_invv (as := []) rfl (by decide) am_K_16 rfl (by simp [Value.category])
  · refine (ev_const0 (v := (-1 : Int32)) rfl am_ci_m1).trans ?_
    exact ev_iret rfl
set_option maxRecDepth 10000 in
theorem sg_185_12 (X : am_X) (I : Nat → Nat → Int32) (J : Nat → Nat → Int64) (x1 : Int32) (x2 : Int32) : am_ev X amP_185 12 [.ref 0, .int x1] [.int x2, .ref 89] (am_sh I J) = (am_do X 15 [.ref 89, .int x2, .int (I 16 4), .int (2400 : Int32)] (am_sh I J)).bind (fun q => am_ev X amP_185 17 [.ref 0, .int x1] (q.1.toList ++ []) q.2) := by
  refine (ev_aload rfl rfl).trans ?_
  refine (ev_getR rfl (by decide) am_K_0 (by decide) rfl am_R_0_2).trans ?_
  refine (ev_getI rfl (by decide) am_K_16 (by decide) rfl).trans ?_
  refine (ev_const2 (v := (2400 : Int32)) rfl am_ci_2400).trans ?_
  exact ev_invv (as := [.int (2400 : Int32), .int (I 16 4), .int x2]) rfl (by decide) am_K_89 rfl (by simp [Value.category])
set_option maxRecDepth 10000 in
theorem sg_185_17 (X : am_X) (I : Nat → Nat → Int32) (J : Nat → Nat → Int64) (x1 : Int32) : am_ev X amP_185 17 [.ref 0, .int x1] [] (am_sh I J) = (am_do X 18 [.ref 89, .int x1, .int (2400 : Int32)] (am_sh I J)).bind (fun q => am_ev X amP_185 22 [.ref 0, .int x1] (q.1.toList ++ []) q.2) := by
  refine (ev_aload rfl rfl).trans ?_
  refine (ev_getR rfl (by decide) am_K_0 (by decide) rfl am_R_0_5).trans ?_
  refine (ev_iload rfl rfl).trans ?_
  refine (ev_const2 (v := (2400 : Int32)) rfl am_ci_2400).trans ?_
  exact ev_invv (as := [.int (2400 : Int32), .int x1]) rfl (by decide) am_K_89 rfl (by simp [Value.category])
set_option maxRecDepth 10000 in
theorem sg_185_22 (X : am_X) (I : Nat → Nat → Int32) (J : Nat → Nat → Int64) (x1 : Int32) (x2 : Int32) : am_ev X amP_185 22 [.ref 0, .int x1] [.int x2] (am_sh I J) = some (some (.int x2), am_sh I J) := by
  exact ev_iret rfl
-- 186 X11_stays
set_option maxRecDepth 10000 in
theorem sg_186_e0 (X : am_X) (I : Nat → Nat → Int32) (J : Nat → Nat → Int64) (x1 : Int32) : am_ev X amP_186 0 [.ref 0, .int x1] [] (am_sh I J) = (if x1 < 0 then some (some (.int (-1 : Int32)), am_sh I J) else (if (2400 : Int32) < x1 then some (some (.int (-1 : Int32)), am_sh I J) else (if ¬ (I 16 1) = 0 then (am_do X 102 [.ref 16] (am_sh I J)).bind (fun q => am_ev X amP_186 16 [.ref 0, .int x1] (q.1.toList ++ [.ref 89]) q.2) else some (some (.int (-1 : Int32)), am_sh I J)))) := by
  refine (ev_iload rfl rfl).trans ?_
  refine (ev_if2 rfl).trans (am_ite (fun c1 => ?_) (fun c1 => ?_))
  · refine (ev_const0 (v := (-1 : Int32)) rfl am_ci_m1).trans ?_
    exact ev_iret rfl
  · refine (ev_iload rfl rfl).trans ?_
    refine (ev_const2 (v := (2400 : Int32)) rfl am_ci_2400).trans ?_
    refine (ev_icmp4 rfl).trans (am_ite (fun c2 => ?_) (fun c2 => ?_))
    · refine (ev_const0 (v := (-1 : Int32)) rfl am_ci_m1).trans ?_
      exact ev_iret rfl
    · refine (ev_aload rfl rfl).trans ?_
      refine (ev_getR rfl (by decide) am_K_0 (by decide) rfl am_R_0_2).trans ?_
      refine (ev_getI rfl (by decide) am_K_16 (by decide) rfl).trans ?_
      refine (ev_if1 rfl).trans (am_ite (fun c3 => ?_) (fun c3 => ?_))
      · refine (ev_aload rfl rfl).trans ?_
        refine (ev_getR rfl (by decide) am_K_0 (by decide) rfl am_R_0_5).trans ?_
        refine (ev_aload rfl rfl).trans ?_
        refine (ev_getR rfl (by decide) am_K_0 (by decide) rfl am_R_0_2).trans ?_
        exact ev_invv (as := []) rfl (by decide) am_K_16 rfl (by simp [Value.category])
      · refine (ev_const0 (v := (-1 : Int32)) rfl am_ci_m1).trans ?_
        exact ev_iret rfl
theorem cl_186 (X : am_X) (I : Nat → Nat → Int32) (J : Nat → Nat → Int64) (x1 : Int32) : am_do X 186 [.ref 0, .int x1] (am_sh I J) = am_ev X amP_186 0 [.ref 0, .int x1] [] (am_sh I J) := am_do_of rfl rfl rfl
set_option maxRecDepth 10000 in
theorem sg_186_16 (X : am_X) (I : Nat → Nat → Int32) (J : Nat → Nat → Int64) (x1 : Int32) (x2 : Int32) : am_ev X amP_186 16 [.ref 0, .int x1] [.int x2, .ref 89] (am_sh I J) = (am_do X 15 [.ref 89, .int x2, .int (I 16 4), .int x1] (am_sh I J)).bind (fun q => am_ev X amP_186 21 [.ref 0, .int x1] (q.1.toList ++ []) q.2) := by
  refine (ev_aload rfl rfl).trans ?_
  refine (ev_getR rfl (by decide) am_K_0 (by decide) rfl am_R_0_2).trans ?_
  refine (ev_getI rfl (by decide) am_K_16 (by decide) rfl).trans ?_
  refine (ev_iload rfl rfl).trans ?_
  exact ev_invv (as := [.int x1, .int (I 16 4), .int x2]) rfl (by decide) am_K_89 rfl (by simp [Value.category])
set_option maxRecDepth 10000 in
theorem sg_186_21 (X : am_X) (I : Nat → Nat → Int32) (J : Nat → Nat → Int64) (x1 : Int32) : am_ev X amP_186 21 [.ref 0, .int x1] [] (am_sh I J) = (am_do X 18 [.ref 89, .int (-1 : Int32), .int x1] (am_sh I J)).bind (fun q => am_ev X amP_186 26 [.ref 0, .int x1] (q.1.toList ++ []) q.2) := by
  refine (ev_aload rfl rfl).trans ?_
  refine (ev_getR rfl (by decide) am_K_0 (by decide) rfl am_R_0_5).trans ?_
  refine (ev_const0 (v := (-1 : Int32)) rfl am_ci_m1).trans ?_
  refine (ev_iload rfl rfl).trans ?_
  exact ev_invv (as := [.int x1, .int (-1 : Int32)]) rfl (by decide) am_K_89 rfl (by simp [Value.category])
set_option maxRecDepth 10000 in
theorem sg_186_26 (X : am_X) (I : Nat → Nat → Int32) (J : Nat → Nat → Int64) (x1 : Int32) (x2 : Int32) : am_ev X amP_186 26 [.ref 0, .int x1] [.int x2] (am_sh I J) = some (some (.int (I 89 8)), am_sh I J) := by
  refine (ev_popi rfl).trans ?_
  refine (ev_aload rfl rfl).trans ?_
  refine (ev_getR rfl (by decide) am_K_0 (by decide) rfl am_R_0_5).trans ?_
  refine (ev_getI rfl (by decide) am_K_89 (by decide) rfl).trans ?_
  exact ev_iret rfl
-- 187 X11_odds
set_option maxRecDepth 10000 in
theorem sg_187_e0 (X : am_X) (I : Nat → Nat → Int32) (J : Nat → Nat → Int64) (x1 : Int32) (x2 : Int32) : am_ev X amP_187 0 [.ref 0, .int x1, .int x2] [] (am_sh I J) = (am_do X 101 [.ref 16, .int x1] (am_sh I J)).bind (fun q => am_ev X amP_187 4 [.ref 0, .int x1, .int x2] (q.1.toList ++ []) q.2) := by
  refine (ev_aload rfl rfl).trans ?_
  refine (ev_getR rfl (by decide) am_K_0 (by decide) rfl am_R_0_2).trans ?_
  refine (ev_iload rfl rfl).trans ?_
  exact ev_invv (as := [.int x1]) rfl (by decide) am_K_16 rfl (by simp [Value.category])
theorem cl_187 (X : am_X) (I : Nat → Nat → Int32) (J : Nat → Nat → Int64) (x1 : Int32) (x2 : Int32) : am_do X 187 [.ref 0, .int x1, .int x2] (am_sh I J) = am_ev X amP_187 0 [.ref 0, .int x1, .int x2] [] (am_sh I J) := am_do_of rfl rfl rfl
set_option maxRecDepth 10000 in
theorem sg_187_4 (X : am_X) (I : Nat → Nat → Int32) (J : Nat → Nat → Int64) (x1 : Int32) (x2 : Int32) (x3 : Int32) : am_ev X amP_187 4 [.ref 0, .int x1, .int x2] [.int x3] (am_sh I J) = (if x3 = 0 then some (some (.int (-1 : Int32)), am_sh I J) else (if x2 < (1 : Int32) then some (some (.int (-1 : Int32)), am_sh I J) else (if x2 ≤ (400 : Int32) then (am_do X 133 [.ref 96, .int x1, .int x2] (am_sh I J)).bind (fun q => am_ev X amP_187 18 [.ref 0, .int x1, .int x2] (q.1.toList ++ []) q.2) else some (some (.int (-1 : Int32)), am_sh I J)))) := by
  refine (ev_if0 rfl).trans (am_ite (fun c1 => ?_) (fun c1 => ?_))
  · refine (ev_const0 (v := (-1 : Int32)) rfl am_ci_m1).trans ?_
    exact ev_iret rfl
  · refine (ev_iload rfl rfl).trans ?_
    refine (ev_const0 (v := (1 : Int32)) rfl am_ci_1).trans ?_
    refine (ev_icmp2 rfl).trans (am_ite (fun c2 => ?_) (fun c2 => ?_))
    · refine (ev_const0 (v := (-1 : Int32)) rfl am_ci_m1).trans ?_
      exact ev_iret rfl
    · refine (ev_iload rfl rfl).trans ?_
      refine (ev_const2 (v := (400 : Int32)) rfl am_ci_400).trans ?_
      refine (ev_icmp5 rfl).trans (am_ite (fun c3 => ?_) (fun c3 => ?_))
      · refine (ev_aload rfl rfl).trans ?_
        refine (ev_getR rfl (by decide) am_K_0 (by decide) rfl am_R_0_6).trans ?_
        refine (ev_iload rfl rfl).trans ?_
        refine (ev_iload rfl rfl).trans ?_
        exact ev_invv (as := [.int x2, .int x1]) rfl (by decide) am_K_96 rfl (by simp [Value.category])
      · refine (ev_const0 (v := (-1 : Int32)) rfl am_ci_m1).trans ?_
        exact ev_iret rfl
set_option maxRecDepth 10000 in
theorem sg_187_18 (X : am_X) (I : Nat → Nat → Int32) (J : Nat → Nat → Int64) (x1 : Int32) (x2 : Int32) (x3 : Int32) : am_ev X amP_187 18 [.ref 0, .int x1, .int x2] [.int x3] (am_sh I J) = some (some (.int x3), am_sh I J) := by
  exact ev_iret rfl
-- 188 X11_saves
set_option maxRecDepth 10000 in
theorem sg_188_e0 (X : am_X) (I : Nat → Nat → Int32) (J : Nat → Nat → Int64) (x1 : Int32) (x2 : Int32) : am_ev X amP_188 0 [.ref 0, .int x1, .int x2] [] (am_sh I J) = (am_do X 101 [.ref 16, .int x1] (am_sh I J)).bind (fun q => am_ev X amP_188 4 [.ref 0, .int x1, .int x2] (q.1.toList ++ []) q.2) := by
  refine (ev_aload rfl rfl).trans ?_
  refine (ev_getR rfl (by decide) am_K_0 (by decide) rfl am_R_0_2).trans ?_
  refine (ev_iload rfl rfl).trans ?_
  exact ev_invv (as := [.int x1]) rfl (by decide) am_K_16 rfl (by simp [Value.category])
theorem cl_188 (X : am_X) (I : Nat → Nat → Int32) (J : Nat → Nat → Int64) (x1 : Int32) (x2 : Int32) : am_do X 188 [.ref 0, .int x1, .int x2] (am_sh I J) = am_ev X amP_188 0 [.ref 0, .int x1, .int x2] [] (am_sh I J) := am_do_of rfl rfl rfl
set_option maxRecDepth 10000 in
theorem sg_188_4 (X : am_X) (I : Nat → Nat → Int32) (J : Nat → Nat → Int64) (x1 : Int32) (x2 : Int32) (x3 : Int32) : am_ev X amP_188 4 [.ref 0, .int x1, .int x2] [.int x3] (am_sh I J) = (if x3 = 0 then some (some (.int (-1 : Int32)), am_sh I J) else (if x2 < 0 then some (some (.int (-1 : Int32)), am_sh I J) else (if x2 ≤ (2 : Int32) then (am_do X 142 [.ref 96, .int x1] (am_sh I J)).bind (fun q => am_ev X amP_188 16 [.ref 0, .int x1, .int x2] (q.1.toList ++ []) q.2) else some (some (.int (-1 : Int32)), am_sh I J)))) := by
  refine (ev_if0 rfl).trans (am_ite (fun c1 => ?_) (fun c1 => ?_))
  · refine (ev_const0 (v := (-1 : Int32)) rfl am_ci_m1).trans ?_
    exact ev_iret rfl
  · refine (ev_iload rfl rfl).trans ?_
    refine (ev_if2 rfl).trans (am_ite (fun c2 => ?_) (fun c2 => ?_))
    · refine (ev_const0 (v := (-1 : Int32)) rfl am_ci_m1).trans ?_
      exact ev_iret rfl
    · refine (ev_iload rfl rfl).trans ?_
      refine (ev_const0 (v := (2 : Int32)) rfl am_ci_2).trans ?_
      refine (ev_icmp5 rfl).trans (am_ite (fun c3 => ?_) (fun c3 => ?_))
      · refine (ev_aload rfl rfl).trans ?_
        refine (ev_getR rfl (by decide) am_K_0 (by decide) rfl am_R_0_6).trans ?_
        refine (ev_iload rfl rfl).trans ?_
        exact ev_invv (as := [.int x1]) rfl (by decide) am_K_96 rfl (by simp [Value.category])
      · refine (ev_const0 (v := (-1 : Int32)) rfl am_ci_m1).trans ?_
        exact ev_iret rfl
set_option maxRecDepth 10000 in
theorem sg_188_16 (X : am_X) (I : Nat → Nat → Int32) (J : Nat → Nat → Int64) (x1 : Int32) (x2 : Int32) (x3 : Int32) : am_ev X amP_188 16 [.ref 0, .int x1, .int x2] [.int x3] (am_sh I J) = (if x3 = 0 then some (some (.int (-1 : Int32)), am_sh I J) else (if (x2 + (1 : Int32)) < 0 ∨ 5 ≤ (x2 + (1 : Int32)).toNatClampNeg then none else some (some (.int (I 103 (x2 + (1 : Int32)).toNatClampNeg)), am_sh I J))) := by
  refine (ev_if0 rfl).trans (am_ite (fun c1 => ?_) (fun c1 => ?_))
  · refine (ev_const0 (v := (-1 : Int32)) rfl am_ci_m1).trans ?_
    exact ev_iret rfl
  · refine (ev_aload rfl rfl).trans ?_
    refine (ev_getR rfl (by decide) am_K_0 (by decide) rfl am_R_0_6).trans ?_
    refine (ev_getR rfl (by decide) am_K_96 (by decide) rfl am_R_96_4).trans ?_
    refine (ev_iload rfl rfl).trans ?_
    refine (ev_const0 (v := (1 : Int32)) rfl am_ci_1).trans ?_
    refine (ev_iadd rfl).trans ?_
    refine (ev_iald rfl (by decide) am_K_103).trans (am_itn (fun g2 => ?_))
    refine (ev_goto rfl).trans ?_
    exact ev_iret rfl
-- 189 X11_tries
set_option maxRecDepth 10000 in
theorem sg_189_e0 (X : am_X) (I : Nat → Nat → Int32) (J : Nat → Nat → Int64) (x1 : Int32) (x2 : Int32) (x3 : Int32) : am_ev X amP_189 0 [.ref 0, .int x1, .int x2, .int x3] [] (am_sh I J) = (am_do X 101 [.ref 16, .int x1] (am_sh I J)).bind (fun q => am_ev X amP_189 4 [.ref 0, .int x1, .int x2, .int x3] (q.1.toList ++ []) q.2) := by
  refine (ev_aload rfl rfl).trans ?_
  refine (ev_getR rfl (by decide) am_K_0 (by decide) rfl am_R_0_2).trans ?_
  refine (ev_iload rfl rfl).trans ?_
  exact ev_invv (as := [.int x1]) rfl (by decide) am_K_16 rfl (by simp [Value.category])
theorem cl_189 (X : am_X) (I : Nat → Nat → Int32) (J : Nat → Nat → Int64) (x1 : Int32) (x2 : Int32) (x3 : Int32) : am_do X 189 [.ref 0, .int x1, .int x2, .int x3] (am_sh I J) = am_ev X amP_189 0 [.ref 0, .int x1, .int x2, .int x3] [] (am_sh I J) := am_do_of rfl rfl rfl
set_option maxRecDepth 10000 in
theorem sg_189_4 (X : am_X) (I : Nat → Nat → Int32) (J : Nat → Nat → Int64) (x1 : Int32) (x2 : Int32) (x3 : Int32) (x4 : Int32) : am_ev X amP_189 4 [.ref 0, .int x1, .int x2, .int x3] [.int x4] (am_sh I J) = (if x4 = 0 then some (some (.int (-1 : Int32)), am_sh I J) else (am_do X 138 [.ref 96, .int x1, .int x2, .int x3] (am_sh I J)).bind (fun q => am_ev X amP_189 11 [.ref 0, .int x1, .int x2, .int x3] (q.1.toList ++ []) q.2)) := by
  refine (ev_if0 rfl).trans (am_ite (fun c1 => ?_) (fun c1 => ?_))
  · refine (ev_const0 (v := (-1 : Int32)) rfl am_ci_m1).trans ?_
    exact ev_iret rfl
  · refine (ev_aload rfl rfl).trans ?_
    refine (ev_getR rfl (by decide) am_K_0 (by decide) rfl am_R_0_6).trans ?_
    refine (ev_iload rfl rfl).trans ?_
    refine (ev_iload rfl rfl).trans ?_
    refine (ev_iload rfl rfl).trans ?_
    exact ev_invv (as := [.int x3, .int x2, .int x1]) rfl (by decide) am_K_96 rfl (by simp [Value.category])
set_option maxRecDepth 10000 in
theorem sg_189_11 (X : am_X) (I : Nat → Nat → Int32) (J : Nat → Nat → Int64) (x1 : Int32) (x2 : Int32) (x3 : Int32) (x4 : Int32) : am_ev X amP_189 11 [.ref 0, .int x1, .int x2, .int x3] [.int x4] (am_sh I J) = some (some (.int x4), am_sh I J) := by
  refine (ev_goto rfl).trans ?_
  exact ev_iret rfl
-- 190 X11_clears
set_option maxRecDepth 10000 in
theorem sg_190_e0 (X : am_X) (I : Nat → Nat → Int32) (J : Nat → Nat → Int64) (x1 : Int32) (x2 : Int32) : am_ev X amP_190 0 [.ref 0, .int x1, .int x2] [] (am_sh I J) = (am_do X 101 [.ref 16, .int x1] (am_sh I J)).bind (fun q => am_ev X amP_190 4 [.ref 0, .int x1, .int x2] (q.1.toList ++ []) q.2) := by
  refine (ev_aload rfl rfl).trans ?_
  refine (ev_getR rfl (by decide) am_K_0 (by decide) rfl am_R_0_2).trans ?_
  refine (ev_iload rfl rfl).trans ?_
  exact ev_invv (as := [.int x1]) rfl (by decide) am_K_16 rfl (by simp [Value.category])
theorem cl_190 (X : am_X) (I : Nat → Nat → Int32) (J : Nat → Nat → Int64) (x1 : Int32) (x2 : Int32) : am_do X 190 [.ref 0, .int x1, .int x2] (am_sh I J) = am_ev X amP_190 0 [.ref 0, .int x1, .int x2] [] (am_sh I J) := am_do_of rfl rfl rfl
set_option maxRecDepth 10000 in
theorem sg_190_4 (X : am_X) (I : Nat → Nat → Int32) (J : Nat → Nat → Int64) (x1 : Int32) (x2 : Int32) (x3 : Int32) : am_ev X amP_190 4 [.ref 0, .int x1, .int x2] [.int x3] (am_sh I J) = (if x3 = 0 then some (some (.int (-1 : Int32)), am_sh I J) else (if x2 < 0 then some (some (.int (-1 : Int32)), am_sh I J) else (if x2 ≤ (2 : Int32) then (am_do X 143 [.ref 96, .int x1] (am_sh I J)).bind (fun q => am_ev X amP_190 16 [.ref 0, .int x1, .int x2] (q.1.toList ++ []) q.2) else some (some (.int (-1 : Int32)), am_sh I J)))) := by
  refine (ev_if0 rfl).trans (am_ite (fun c1 => ?_) (fun c1 => ?_))
  · refine (ev_const0 (v := (-1 : Int32)) rfl am_ci_m1).trans ?_
    exact ev_iret rfl
  · refine (ev_iload rfl rfl).trans ?_
    refine (ev_if2 rfl).trans (am_ite (fun c2 => ?_) (fun c2 => ?_))
    · refine (ev_const0 (v := (-1 : Int32)) rfl am_ci_m1).trans ?_
      exact ev_iret rfl
    · refine (ev_iload rfl rfl).trans ?_
      refine (ev_const0 (v := (2 : Int32)) rfl am_ci_2).trans ?_
      refine (ev_icmp5 rfl).trans (am_ite (fun c3 => ?_) (fun c3 => ?_))
      · refine (ev_aload rfl rfl).trans ?_
        refine (ev_getR rfl (by decide) am_K_0 (by decide) rfl am_R_0_6).trans ?_
        refine (ev_iload rfl rfl).trans ?_
        exact ev_invv (as := [.int x1]) rfl (by decide) am_K_96 rfl (by simp [Value.category])
      · refine (ev_const0 (v := (-1 : Int32)) rfl am_ci_m1).trans ?_
        exact ev_iret rfl
set_option maxRecDepth 10000 in
theorem sg_190_16 (X : am_X) (I : Nat → Nat → Int32) (J : Nat → Nat → Int64) (x1 : Int32) (x2 : Int32) (x3 : Int32) : am_ev X amP_190 16 [.ref 0, .int x1, .int x2] [.int x3] (am_sh I J) = (if x3 = 0 then some (some (.int (-1 : Int32)), am_sh I J) else (if (x2 + (1 : Int32)) < 0 ∨ 5 ≤ (x2 + (1 : Int32)).toNatClampNeg then none else some (some (.int (I 103 (x2 + (1 : Int32)).toNatClampNeg)), am_sh I J))) := by
  refine (ev_if0 rfl).trans (am_ite (fun c1 => ?_) (fun c1 => ?_))
  · refine (ev_const0 (v := (-1 : Int32)) rfl am_ci_m1).trans ?_
    exact ev_iret rfl
  · refine (ev_aload rfl rfl).trans ?_
    refine (ev_getR rfl (by decide) am_K_0 (by decide) rfl am_R_0_6).trans ?_
    refine (ev_getR rfl (by decide) am_K_96 (by decide) rfl am_R_96_4).trans ?_
    refine (ev_iload rfl rfl).trans ?_
    refine (ev_const0 (v := (1 : Int32)) rfl am_ci_1).trans ?_
    refine (ev_iadd rfl).trans ?_
    refine (ev_iald rfl (by decide) am_K_103).trans (am_itn (fun g2 => ?_))
    refine (ev_goto rfl).trans ?_
    exact ev_iret rfl
-- 191 X11_clearing
set_option maxRecDepth 10000 in
theorem sg_191_e0 (X : am_X) (I : Nat → Nat → Int32) (J : Nat → Nat → Int64) (x1 : Int32) : am_ev X amP_191 0 [.ref 0, .int x1] [] (am_sh I J) = (if x1 < 0 then some (some (.int (-1 : Int32)), am_sh I J) else (if x1 ≤ (3 : Int32) then (am_do X 144 [.ref 96] (am_sh I J)).bind (fun q => am_ev X amP_191 10 [.ref 0, .int x1] (q.1.toList ++ []) q.2) else some (some (.int (-1 : Int32)), am_sh I J))) := by
  refine (ev_iload rfl rfl).trans ?_
  refine (ev_if2 rfl).trans (am_ite (fun c1 => ?_) (fun c1 => ?_))
  · refine (ev_const0 (v := (-1 : Int32)) rfl am_ci_m1).trans ?_
    exact ev_iret rfl
  · refine (ev_iload rfl rfl).trans ?_
    refine (ev_const0 (v := (3 : Int32)) rfl am_ci_3).trans ?_
    refine (ev_icmp5 rfl).trans (am_ite (fun c2 => ?_) (fun c2 => ?_))
    · refine (ev_aload rfl rfl).trans ?_
      refine (ev_getR rfl (by decide) am_K_0 (by decide) rfl am_R_0_6).trans ?_
      exact ev_invv (as := []) rfl (by decide) am_K_96 rfl (by simp [Value.category])
    · refine (ev_const0 (v := (-1 : Int32)) rfl am_ci_m1).trans ?_
      exact ev_iret rfl
theorem cl_191 (X : am_X) (I : Nat → Nat → Int32) (J : Nat → Nat → Int64) (x1 : Int32) : am_do X 191 [.ref 0, .int x1] (am_sh I J) = am_ev X amP_191 0 [.ref 0, .int x1] [] (am_sh I J) := am_do_of rfl rfl rfl
set_option maxRecDepth 10000 in
theorem sg_191_10 (X : am_X) (I : Nat → Nat → Int32) (J : Nat → Nat → Int64) (x1 : Int32) (x2 : Int32) : am_ev X amP_191 10 [.ref 0, .int x1] [.int x2] (am_sh I J) = (if x2 = 0 then some (some (.int (-1 : Int32)), am_sh I J) else (if x1 < 0 ∨ 5 ≤ x1.toNatClampNeg then none else some (some (.int (I 103 x1.toNatClampNeg)), am_sh I J))) := by
  refine (ev_if0 rfl).trans (am_ite (fun c1 => ?_) (fun c1 => ?_))
  · refine (ev_const0 (v := (-1 : Int32)) rfl am_ci_m1).trans ?_
    exact ev_iret rfl
  · refine (ev_aload rfl rfl).trans ?_
    refine (ev_getR rfl (by decide) am_K_0 (by decide) rfl am_R_0_6).trans ?_
    refine (ev_getR rfl (by decide) am_K_96 (by decide) rfl am_R_96_4).trans ?_
    refine (ev_iload rfl rfl).trans ?_
    refine (ev_iald rfl (by decide) am_K_103).trans (am_itn (fun g2 => ?_))
    refine (ev_goto rfl).trans ?_
    exact ev_iret rfl
-- 192 X11_twice
set_option maxRecDepth 10000 in
theorem sg_192_e0 (X : am_X) (I : Nat → Nat → Int32) (J : Nat → Nat → Int64) (x1 : Int32) (x2 : Int32) : am_ev X amP_192 0 [.ref 0, .int x1, .int x2] [] (am_sh I J) = (am_do X 101 [.ref 16, .int x1] (am_sh I J)).bind (fun q => am_ev X amP_192 4 [.ref 0, .int x1, .int x2] (q.1.toList ++ []) q.2) := by
  refine (ev_aload rfl rfl).trans ?_
  refine (ev_getR rfl (by decide) am_K_0 (by decide) rfl am_R_0_2).trans ?_
  refine (ev_iload rfl rfl).trans ?_
  exact ev_invv (as := [.int x1]) rfl (by decide) am_K_16 rfl (by simp [Value.category])
theorem cl_192 (X : am_X) (I : Nat → Nat → Int32) (J : Nat → Nat → Int64) (x1 : Int32) (x2 : Int32) : am_do X 192 [.ref 0, .int x1, .int x2] (am_sh I J) = am_ev X amP_192 0 [.ref 0, .int x1, .int x2] [] (am_sh I J) := am_do_of rfl rfl rfl
set_option maxRecDepth 10000 in
theorem sg_192_4 (X : am_X) (I : Nat → Nat → Int32) (J : Nat → Nat → Int64) (x1 : Int32) (x2 : Int32) (x3 : Int32) : am_ev X amP_192 4 [.ref 0, .int x1, .int x2] [.int x3] (am_sh I J) = (if x3 = 0 then some (some (.int (-1 : Int32)), am_sh I J) else (if x2 < 0 then some (some (.int (-1 : Int32)), am_sh I J) else (if x2 ≤ (4 : Int32) then (am_do X 145 [.ref 96, .int x1] (am_sh I J)).bind (fun q => am_ev X amP_192 16 [.ref 0, .int x1, .int x2] (q.1.toList ++ []) q.2) else some (some (.int (-1 : Int32)), am_sh I J)))) := by
  refine (ev_if0 rfl).trans (am_ite (fun c1 => ?_) (fun c1 => ?_))
  · refine (ev_const0 (v := (-1 : Int32)) rfl am_ci_m1).trans ?_
    exact ev_iret rfl
  · refine (ev_iload rfl rfl).trans ?_
    refine (ev_if2 rfl).trans (am_ite (fun c2 => ?_) (fun c2 => ?_))
    · refine (ev_const0 (v := (-1 : Int32)) rfl am_ci_m1).trans ?_
      exact ev_iret rfl
    · refine (ev_iload rfl rfl).trans ?_
      refine (ev_const0 (v := (4 : Int32)) rfl am_ci_4).trans ?_
      refine (ev_icmp5 rfl).trans (am_ite (fun c3 => ?_) (fun c3 => ?_))
      · refine (ev_aload rfl rfl).trans ?_
        refine (ev_getR rfl (by decide) am_K_0 (by decide) rfl am_R_0_6).trans ?_
        refine (ev_iload rfl rfl).trans ?_
        exact ev_invv (as := [.int x1]) rfl (by decide) am_K_96 rfl (by simp [Value.category])
      · refine (ev_const0 (v := (-1 : Int32)) rfl am_ci_m1).trans ?_
        exact ev_iret rfl
set_option maxRecDepth 10000 in
theorem sg_192_16 (X : am_X) (I : Nat → Nat → Int32) (J : Nat → Nat → Int64) (x1 : Int32) (x2 : Int32) (x3 : Int32) : am_ev X amP_192 16 [.ref 0, .int x1, .int x2] [.int x3] (am_sh I J) = (if x3 = 0 then some (some (.int (-1 : Int32)), am_sh I J) else (if x2 < 0 ∨ 5 ≤ x2.toNatClampNeg then none else some (some (.int (I 103 x2.toNatClampNeg)), am_sh I J))) := by
  refine (ev_if0 rfl).trans (am_ite (fun c1 => ?_) (fun c1 => ?_))
  · refine (ev_const0 (v := (-1 : Int32)) rfl am_ci_m1).trans ?_
    exact ev_iret rfl
  · refine (ev_aload rfl rfl).trans ?_
    refine (ev_getR rfl (by decide) am_K_0 (by decide) rfl am_R_0_6).trans ?_
    refine (ev_getR rfl (by decide) am_K_96 (by decide) rfl am_R_96_4).trans ?_
    refine (ev_iload rfl rfl).trans ?_
    refine (ev_iald rfl (by decide) am_K_103).trans (am_itn (fun g2 => ?_))
    refine (ev_goto rfl).trans ?_
    exact ev_iret rfl
-- 193 X11_room
set_option maxRecDepth 10000 in
theorem sg_193_e0 (X : am_X) (I : Nat → Nat → Int32) (J : Nat → Nat → Int64) (x1 : Int32) (x2 : Int32) : am_ev X amP_193 0 [.ref 0, .int x1, .int x2, .null, .null, .null] [] (am_sh I J) = (am_do X 100 [.ref 16, .int x1, .int x2] (am_sh I J)).bind (fun q => am_ev X amP_193 5 [.ref 0, .int x1, .int x2, .null, .null, .null] (q.1.toList ++ []) q.2) := by
  refine (ev_aload rfl rfl).trans ?_
  refine (ev_getR rfl (by decide) am_K_0 (by decide) rfl am_R_0_2).trans ?_
  refine (ev_iload rfl rfl).trans ?_
  refine (ev_iload rfl rfl).trans ?_
  exact ev_invv (as := [.int x2, .int x1]) rfl (by decide) am_K_16 rfl (by simp [Value.category])
theorem cl_193 (X : am_X) (I : Nat → Nat → Int32) (J : Nat → Nat → Int64) (x1 : Int32) (x2 : Int32) : am_do X 193 [.ref 0, .int x1, .int x2] (am_sh I J) = am_ev X amP_193 0 [.ref 0, .int x1, .int x2, .null, .null, .null] [] (am_sh I J) := am_do_of rfl rfl rfl
set_option maxRecDepth 10000 in
theorem sg_193_5 (X : am_X) (I : Nat → Nat → Int32) (J : Nat → Nat → Int64) (x1 : Int32) (x2 : Int32) (w3 : Value) (w4 : Value) (w5 : Value) (x6 : Int32) (hw3 : w3.category = 1) (hw4 : w4.category = 1) (hw5 : w5.category = 1) : am_ev X amP_193 5 [.ref 0, .int x1, .int x2, w3, w4, w5] [.int x6] (am_sh I J) = (if ¬ x6 = 0 then (am_do X 52 [.ref 83, .int x1, .int x2] (am_sh I J)).bind (fun q => am_ev X amP_193 13 [.ref 0, .int x1, .int x2, w3, w4, w5] (q.1.toList ++ []) q.2) else some (some (.int (-1 : Int32)), am_sh I J)) := by
  refine (ev_if1 rfl).trans (am_ite (fun c1 => ?_) (fun c1 => ?_))
  · refine (ev_aload rfl rfl).trans ?_
    refine (ev_getR rfl (by decide) am_K_0 (by decide) rfl am_R_0_4).trans ?_
    refine (ev_iload rfl rfl).trans ?_
    refine (ev_iload rfl rfl).trans ?_
    exact ev_invv (as := [.int x2, .int x1]) rfl (by decide) am_K_83 rfl (by simp [Value.category])
  · refine (ev_const0 (v := (-1 : Int32)) rfl am_ci_m1).trans ?_
    exact ev_iret rfl
set_option maxRecDepth 10000 in
theorem sg_193_13 (X : am_X) (I : Nat → Nat → Int32) (J : Nat → Nat → Int64) (x1 : Int32) (x2 : Int32) (w3 : Value) (w4 : Value) (w5 : Value) (x6 : Int32) (hw3 : w3.category = 1) (hw4 : w4.category = 1) (hw5 : w5.category = 1) : am_ev X amP_193 13 [.ref 0, .int x1, .int x2, w3, w4, w5] [.int x6] (am_sh I J) = am_ev X amP_193 18 [.ref 0, .int x1, .int x2, .int x6, .int (-1 : Int32), .int (0 : Int32)] [] (am_sh I J) := by
  refine (ev_istore (ls' := [.ref 0, .int x1, .int x2, .int x6, w4, w5]) rfl (Nat.le_of_ble_eq_true rfl) rfl).trans ?_
  refine (ev_const0 (v := (-1 : Int32)) rfl am_ci_m1).trans ?_
  refine (ev_istore (ls' := [.ref 0, .int x1, .int x2, .int x6, .int (-1 : Int32), w5]) rfl (Nat.le_of_ble_eq_true rfl) rfl).trans ?_
  refine (ev_const0 (v := (0 : Int32)) rfl am_ci_0).trans ?_
  refine (ev_istore (ls' := [.ref 0, .int x1, .int x2, .int x6, .int (-1 : Int32), .int (0 : Int32)]) rfl (Nat.le_of_ble_eq_true rfl) rfl).trans ?_
  rfl
set_option maxRecDepth 10000 in
theorem sg_193_18 (X : am_X) (I : Nat → Nat → Int32) (J : Nat → Nat → Int64) (x1 : Int32) (x2 : Int32) (x3 : Int32) (x4 : Int32) (x5 : Int32) : am_ev X amP_193 18 [.ref 0, .int x1, .int x2, .int x3, .int x4, .int x5] [] (am_sh I J) = (if (99 : Int32) < x5 then some (some (.int x4), am_sh I J) else (if x3 ≤ (x5 * x5) then some (some (.int x4), am_sh I J) else am_ev X amP_193 18 [.ref 0, .int x1, .int x2, .int x3, .int x5, .int (x5 + (1 : Int32))] [] (am_sh I J))) := by
  refine (ev_iload rfl rfl).trans ?_
  refine (ev_const1 (v := (99 : Int32)) rfl am_ci_99).trans ?_
  refine (ev_icmp4 rfl).trans (am_ite (fun c1 => ?_) (fun c1 => ?_))
  · refine (ev_iload rfl rfl).trans ?_
    exact ev_iret rfl
  · refine (ev_iload rfl rfl).trans ?_
    refine (ev_iload rfl rfl).trans ?_
    refine (ev_imul rfl).trans ?_
    refine (ev_iload rfl rfl).trans ?_
    refine (ev_icmp3 rfl).trans (am_ite (fun c2 => ?_) (fun c2 => ?_))
    · refine (ev_iload rfl rfl).trans ?_
      exact ev_iret rfl
    · refine (ev_iload rfl rfl).trans ?_
      refine (ev_istore (ls' := [.ref 0, .int x1, .int x2, .int x3, .int x5, .int x5]) rfl (Nat.le_of_ble_eq_true rfl) rfl).trans ?_
      refine (ev_iincv (v := (1 : Int32)) (ls' := [.ref 0, .int x1, .int x2, .int x3, .int x5, .int (x5 + (1 : Int32))]) rfl am_ci_1 rfl rfl).trans ?_
      refine (ev_goto rfl).trans ?_
      rfl
-- 194 X11_see
set_option maxRecDepth 10000 in
theorem sg_194_e0 (X : am_X) (I : Nat → Nat → Int32) (J : Nat → Nat → Int64) (x1 : Int32) : am_ev X amP_194 0 [.ref 0, .int x1, .null] [] (am_sh I J) = (am_do X 99 [.ref 16, .int x1] (am_sh I J)).bind (fun q => am_ev X amP_194 4 [.ref 0, .int x1, .null] (q.1.toList ++ []) q.2) := by
  refine (ev_aload rfl rfl).trans ?_
  refine (ev_getR rfl (by decide) am_K_0 (by decide) rfl am_R_0_2).trans ?_
  refine (ev_iload rfl rfl).trans ?_
  exact ev_invv (as := [.int x1]) rfl (by decide) am_K_16 rfl (by simp [Value.category])
theorem cl_194 (X : am_X) (I : Nat → Nat → Int32) (J : Nat → Nat → Int64) (x1 : Int32) : am_do X 194 [.ref 0, .int x1] (am_sh I J) = am_ev X amP_194 0 [.ref 0, .int x1, .null] [] (am_sh I J) := am_do_of rfl rfl rfl
set_option maxRecDepth 10000 in
theorem sg_194_4 (X : am_X) (I : Nat → Nat → Int32) (J : Nat → Nat → Int64) (x1 : Int32) (w2 : Value) (x3 : Int32) (hw2 : w2.category = 1) : am_ev X amP_194 4 [.ref 0, .int x1, w2] [.int x3] (am_sh I J) = (if x3 = 0 then (am_do X 208 [.ref 0, .int (5 : Int32)] (am_sh I J)).bind (fun q => am_ev X amP_194 19 [.ref 0, .int x1, w2] (q.1.toList ++ []) q.2) else (am_do X 91 [.ref 128, .ref 1, .int x1] (am_sh I J)).bind (fun q => am_ev X amP_194 11 [.ref 0, .int x1, w2] (q.1.toList ++ []) q.2)) := by
  refine (ev_if0 rfl).trans (am_ite (fun c1 => ?_) (fun c1 => ?_))
  · refine (ev_aload rfl rfl).trans ?_
    refine (ev_const0 (v := (5 : Int32)) rfl am_ci_5).trans ?_
    exact ev_invv (as := [.int (5 : Int32)]) rfl (by decide) am_K_0 rfl (by simp [Value.category])
  · refine (ev_aload rfl rfl).trans ?_
    refine (ev_getR rfl (by decide) am_K_0 (by decide) rfl am_R_0_8).trans ?_
    refine (ev_aload rfl rfl).trans ?_
    refine (ev_getR rfl (by decide) am_K_0 (by decide) rfl am_R_0_0).trans ?_
    refine (ev_iload rfl rfl).trans ?_
    exact ev_invv (as := [.int x1, .ref 1]) rfl (by decide) am_K_128 rfl (by simp [Value.category])
set_option maxRecDepth 10000 in
theorem sg_194_11 (X : am_X) (I : Nat → Nat → Int32) (J : Nat → Nat → Int64) (x1 : Int32) (w2 : Value) (x3 : Int32) (hw2 : w2.category = 1) : am_ev X amP_194 11 [.ref 0, .int x1, w2] [.int x3] (am_sh I J) = (if x3 = 0 then (am_do X 208 [.ref 0, .int (5 : Int32)] (am_sh I J)).bind (fun q => am_ev X amP_194 19 [.ref 0, .int x1, w2] (q.1.toList ++ []) q.2) else some (some (.int (I 128 1)), am_sh (am_up I 1 1 (0 : Int32)) J)) := by
  refine (ev_if0 rfl).trans (am_ite (fun c1 => ?_) (fun c1 => ?_))
  · refine (ev_aload rfl rfl).trans ?_
    refine (ev_const0 (v := (5 : Int32)) rfl am_ci_5).trans ?_
    exact ev_invv (as := [.int (5 : Int32)]) rfl (by decide) am_K_0 rfl (by simp [Value.category])
  · refine (ev_aload rfl rfl).trans ?_
    refine (ev_getR rfl (by decide) am_K_0 (by decide) rfl am_R_0_8).trans ?_
    refine (ev_getI rfl (by decide) am_K_128 (by decide) rfl).trans ?_
    refine (ev_goto rfl).trans ?_
    refine (ev_istore (ls' := [.ref 0, .int x1, .int (I 128 1)]) rfl (Nat.le_of_ble_eq_true rfl) rfl).trans ?_
    refine (ev_aload rfl rfl).trans ?_
    refine (ev_getR rfl (by decide) am_K_0 (by decide) rfl am_R_0_0).trans ?_
    refine (ev_const0 (v := (0 : Int32)) rfl am_ci_0).trans ?_
    refine (ev_putI rfl (by decide) am_K_1 (by decide) rfl).trans ?_
    refine (ev_iload rfl rfl).trans ?_
    exact ev_iret rfl
set_option maxRecDepth 10000 in
theorem sg_194_19 (X : am_X) (I : Nat → Nat → Int32) (J : Nat → Nat → Int64) (x1 : Int32) (w2 : Value) (x3 : Int32) (hw2 : w2.category = 1) : am_ev X amP_194 19 [.ref 0, .int x1, w2] [.int x3] (am_sh I J) = some (some (.int x3), am_sh (am_up I 1 1 (0 : Int32)) J) := by
  refine (ev_istore (ls' := [.ref 0, .int x1, .int x3]) rfl (Nat.le_of_ble_eq_true rfl) rfl).trans ?_
  refine (ev_aload rfl rfl).trans ?_
  refine (ev_getR rfl (by decide) am_K_0 (by decide) rfl am_R_0_0).trans ?_
  refine (ev_const0 (v := (0 : Int32)) rfl am_ci_0).trans ?_
  refine (ev_putI rfl (by decide) am_K_1 (by decide) rfl).trans ?_
  refine (ev_iload rfl rfl).trans ?_
  exact ev_iret rfl
-- 195 X11_fits
set_option maxRecDepth 10000 in
theorem sg_195_e0 (X : am_X) (I : Nat → Nat → Int32) (J : Nat → Nat → Int64) (x1 : Int32) : am_ev X amP_195 0 [.ref 0, .int x1] [] (am_sh I J) = (if ¬ (I 128 1) = 0 then (am_do X 212 [.ref 0] (am_sh I J)).bind (fun q => am_ev X amP_195 10 [.ref 0, .int x1] (q.1.toList ++ [.ref 128]) q.2) else some (some (.int (-1 : Int32)), am_sh I J)) := by
  refine (ev_aload rfl rfl).trans ?_
  refine (ev_getR rfl (by decide) am_K_0 (by decide) rfl am_R_0_8).trans ?_
  refine (ev_getI rfl (by decide) am_K_128 (by decide) rfl).trans ?_
  refine (ev_if1 rfl).trans (am_ite (fun c1 => ?_) (fun c1 => ?_))
  · refine (ev_aload rfl rfl).trans ?_
    refine (ev_getR rfl (by decide) am_K_0 (by decide) rfl am_R_0_8).trans ?_
    refine (ev_aload rfl rfl).trans ?_
    exact ev_invv (as := []) rfl (by decide) am_K_0 rfl (by simp [Value.category])
  · refine (ev_const0 (v := (-1 : Int32)) rfl am_ci_m1).trans ?_
    refine (ev_goto rfl).trans ?_
    exact ev_iret rfl
theorem cl_195 (X : am_X) (I : Nat → Nat → Int32) (J : Nat → Nat → Int64) (x1 : Int32) : am_do X 195 [.ref 0, .int x1] (am_sh I J) = am_ev X amP_195 0 [.ref 0, .int x1] [] (am_sh I J) := am_do_of rfl rfl rfl
set_option maxRecDepth 10000 in
theorem sg_195_10 (X : am_X) (I : Nat → Nat → Int32) (J : Nat → Nat → Int64) (x1 : Int32) (b2 : Nat) (hb2 : b2 < 11) : am_ev X amP_195 10 [.ref 0, .int x1] [.ref (am_bd b2), .ref 128] (am_sh I J) = (am_do X 95 [.ref 128, .ref (am_bd b2), .int x1] (am_sh I J)).bind (fun q => am_ev X amP_195 12 [.ref 0, .int x1] (q.1.toList ++ []) q.2) := by
  refine (ev_iload rfl rfl).trans ?_
  exact ev_invv (as := [.int x1, .ref (am_bd b2)]) rfl (by decide) am_K_128 rfl (by simp [Value.category])
set_option maxRecDepth 10000 in
theorem sg_195_12 (X : am_X) (I : Nat → Nat → Int32) (J : Nat → Nat → Int64) (x1 : Int32) (x2 : Int32) : am_ev X amP_195 12 [.ref 0, .int x1] [.int x2] (am_sh I J) = some (some (.int x2), am_sh I J) := by
  exact ev_iret rfl
-- 196 X11_tells
set_option maxRecDepth 10000 in
theorem sg_196_e0 (X : am_X) (I : Nat → Nat → Int32) (J : Nat → Nat → Int64) (x1 : Int32) : am_ev X amP_196 0 [.ref 0, .int x1] [] (am_sh I J) = (if (I 128 1) = 0 then some (some (.int (-1 : Int32)), am_sh I J) else (if x1 < 0 then some (some (.int (-1 : Int32)), am_sh I J) else (if (1 : Int32) < x1 then some (some (.int (-1 : Int32)), am_sh I J) else (am_do X 212 [.ref 0] (am_sh I J)).bind (fun q => am_ev X amP_196 13 [.ref 0, .int x1] (q.1.toList ++ [.ref 128]) q.2)))) := by
  refine (ev_aload rfl rfl).trans ?_
  refine (ev_getR rfl (by decide) am_K_0 (by decide) rfl am_R_0_8).trans ?_
  refine (ev_getI rfl (by decide) am_K_128 (by decide) rfl).trans ?_
  refine (ev_if0 rfl).trans (am_ite (fun c1 => ?_) (fun c1 => ?_))
  · refine (ev_const0 (v := (-1 : Int32)) rfl am_ci_m1).trans ?_
    exact ev_iret rfl
  · refine (ev_iload rfl rfl).trans ?_
    refine (ev_if2 rfl).trans (am_ite (fun c2 => ?_) (fun c2 => ?_))
    · refine (ev_const0 (v := (-1 : Int32)) rfl am_ci_m1).trans ?_
      exact ev_iret rfl
    · refine (ev_iload rfl rfl).trans ?_
      refine (ev_const0 (v := (1 : Int32)) rfl am_ci_1).trans ?_
      refine (ev_icmp4 rfl).trans (am_ite (fun c3 => ?_) (fun c3 => ?_))
      · refine (ev_const0 (v := (-1 : Int32)) rfl am_ci_m1).trans ?_
        exact ev_iret rfl
      · refine (ev_aload rfl rfl).trans ?_
        refine (ev_getR rfl (by decide) am_K_0 (by decide) rfl am_R_0_8).trans ?_
        refine (ev_aload rfl rfl).trans ?_
        exact ev_invv (as := []) rfl (by decide) am_K_0 rfl (by simp [Value.category])
theorem cl_196 (X : am_X) (I : Nat → Nat → Int32) (J : Nat → Nat → Int64) (x1 : Int32) : am_do X 196 [.ref 0, .int x1] (am_sh I J) = am_ev X amP_196 0 [.ref 0, .int x1] [] (am_sh I J) := am_do_of rfl rfl rfl
set_option maxRecDepth 10000 in
theorem sg_196_13 (X : am_X) (I : Nat → Nat → Int32) (J : Nat → Nat → Int64) (x1 : Int32) (b2 : Nat) (hb2 : b2 < 11) : am_ev X amP_196 13 [.ref 0, .int x1] [.ref (am_bd b2), .ref 128] (am_sh I J) = (am_do X 96 [.ref 128, .ref (am_bd b2)] (am_sh I J)).bind (fun q => am_ev X amP_196 14 [.ref 0, .int x1] (q.1.toList ++ []) q.2) := by
  exact ev_invv (as := [.ref (am_bd b2)]) rfl (by decide) am_K_128 rfl (by simp [Value.category])
set_option maxRecDepth 10000 in
theorem sg_196_14 (X : am_X) (I : Nat → Nat → Int32) (J : Nat → Nat → Int64) (x1 : Int32) (x2 : Int32) : am_ev X amP_196 14 [.ref 0, .int x1] [.int x2] (am_sh I J) = (if ¬ x2 = 0 then (if ¬ x1 = 0 then some (some (.int (I 128 3)), am_sh I J) else some (some (.int (I 128 2)), am_sh I J)) else some (some (.int (-1 : Int32)), am_sh I J)) := by
  refine (ev_if1 rfl).trans (am_ite (fun c1 => ?_) (fun c1 => ?_))
  · refine (ev_iload rfl rfl).trans ?_
    refine (ev_if1 rfl).trans (am_ite (fun c2 => ?_) (fun c2 => ?_))
    · refine (ev_aload rfl rfl).trans ?_
      refine (ev_getR rfl (by decide) am_K_0 (by decide) rfl am_R_0_8).trans ?_
      refine (ev_getI rfl (by decide) am_K_128 (by decide) rfl).trans ?_
      exact ev_iret rfl
    · refine (ev_aload rfl rfl).trans ?_
      refine (ev_getR rfl (by decide) am_K_0 (by decide) rfl am_R_0_8).trans ?_
      refine (ev_getI rfl (by decide) am_K_128 (by decide) rfl).trans ?_
      refine (ev_goto rfl).trans ?_
      exact ev_iret rfl
  · refine (ev_const0 (v := (-1 : Int32)) rfl am_ci_m1).trans ?_
    exact ev_iret rfl
-- 197 X11_burn
set_option maxRecDepth 10000 in
theorem sg_197_e0 (X : am_X) (I : Nat → Nat → Int32) (J : Nat → Nat → Int64) (x1 : Int32) (x2 : Int32) (x3 : Int32) : am_ev X amP_197 0 [.ref 0, .int x1, .int x2, .int x3] [] (am_sh I J) = (am_do X 101 [.ref 16, .int x1] (am_sh I J)).bind (fun q => am_ev X amP_197 4 [.ref 0, .int x1, .int x2, .int x3] (q.1.toList ++ []) q.2) := by
  refine (ev_aload rfl rfl).trans ?_
  refine (ev_getR rfl (by decide) am_K_0 (by decide) rfl am_R_0_2).trans ?_
  refine (ev_iload rfl rfl).trans ?_
  exact ev_invv (as := [.int x1]) rfl (by decide) am_K_16 rfl (by simp [Value.category])
theorem cl_197 (X : am_X) (I : Nat → Nat → Int32) (J : Nat → Nat → Int64) (x1 : Int32) (x2 : Int32) (x3 : Int32) : am_do X 197 [.ref 0, .int x1, .int x2, .int x3] (am_sh I J) = am_ev X amP_197 0 [.ref 0, .int x1, .int x2, .int x3] [] (am_sh I J) := am_do_of rfl rfl rfl
set_option maxRecDepth 10000 in
theorem sg_197_4 (X : am_X) (I : Nat → Nat → Int32) (J : Nat → Nat → Int64) (x1 : Int32) (x2 : Int32) (x3 : Int32) (x4 : Int32) : am_ev X amP_197 4 [.ref 0, .int x1, .int x2, .int x3] [.int x4] (am_sh I J) = (if x4 = 0 then (am_do X 208 [.ref 0, .int (3 : Int32)] (am_sh I J)).bind (fun q => am_ev X amP_197 17 [.ref 0, .int x1, .int x2, .int x3] (q.1.toList ++ []) q.2) else (if x1 < 0 ∨ 10 ≤ x1.toNatClampNeg then none else (am_do X 46 [.ref (am_bd (x1.toNatClampNeg)), .int x2, .int x3] (am_sh I J)).bind (fun q => am_ev X amP_197 13 [.ref 0, .int x1, .int x2, .int x3] (q.1.toList ++ []) q.2))) := by
  refine (ev_if0 rfl).trans (am_ite (fun c1 => ?_) (fun c1 => ?_))
  · refine (ev_aload rfl rfl).trans ?_
    refine (ev_const0 (v := (3 : Int32)) rfl am_ci_3).trans ?_
    exact ev_invv (as := [.int (3 : Int32)]) rfl (by decide) am_K_0 rfl (by simp [Value.category])
  · refine (ev_aload rfl rfl).trans ?_
    refine (ev_getR rfl (by decide) am_K_0 (by decide) rfl am_R_0_2).trans ?_
    refine (ev_getR rfl (by decide) am_K_16 (by decide) rfl am_R_16_0).trans ?_
    refine (ev_iload rfl rfl).trans ?_
    refine (ev_aald rfl (by decide) (Or.inl am_K_17) (f := am_bd) (fun k hk => am_R17 hk)).trans (am_itn (fun g2 => ?_))
    refine (ev_iload rfl rfl).trans ?_
    refine (ev_iload rfl rfl).trans ?_
    exact ev_invv (as := [.int x3, .int x2]) rfl (by have := am_bd_lt (by omega : (x1.toNatClampNeg) < 11); omega) (am_Kbd (by omega : (x1.toNatClampNeg) < 11)) rfl (by simp [Value.category])
set_option maxRecDepth 10000 in
theorem sg_197_13 (X : am_X) (I : Nat → Nat → Int32) (J : Nat → Nat → Int64) (x1 : Int32) (x2 : Int32) (x3 : Int32) (x4 : Int32) : am_ev X amP_197 13 [.ref 0, .int x1, .int x2, .int x3] [.int x4] (am_sh I J) = (if ¬ x4 = 0 then (am_do X 6 [.ref 106, .int x1, .int x2, .int x3] (am_sh I J)).bind (fun q => am_ev X amP_197 24 [.ref 0, .int x1, .int x2, .int x3] (q.1.toList ++ []) q.2) else (am_do X 208 [.ref 0, .int (3 : Int32)] (am_sh I J)).bind (fun q => am_ev X amP_197 17 [.ref 0, .int x1, .int x2, .int x3] (q.1.toList ++ []) q.2)) := by
  refine (ev_if1 rfl).trans (am_ite (fun c1 => ?_) (fun c1 => ?_))
  · refine (ev_aload rfl rfl).trans ?_
    refine (ev_getR rfl (by decide) am_K_0 (by decide) rfl am_R_0_7).trans ?_
    refine (ev_iload rfl rfl).trans ?_
    refine (ev_iload rfl rfl).trans ?_
    refine (ev_iload rfl rfl).trans ?_
    exact ev_invv (as := [.int x3, .int x2, .int x1]) rfl (by decide) am_K_106 rfl (by simp [Value.category])
  · refine (ev_aload rfl rfl).trans ?_
    refine (ev_const0 (v := (3 : Int32)) rfl am_ci_3).trans ?_
    exact ev_invv (as := [.int (3 : Int32)]) rfl (by decide) am_K_0 rfl (by simp [Value.category])
set_option maxRecDepth 10000 in
theorem sg_197_17 (X : am_X) (I : Nat → Nat → Int32) (J : Nat → Nat → Int64) (x1 : Int32) (x2 : Int32) (x3 : Int32) (x4 : Int32) : am_ev X amP_197 17 [.ref 0, .int x1, .int x2, .int x3] [.int x4] (am_sh I J) = some (some (.int x4), am_sh I J) := by
  exact ev_iret rfl
set_option maxRecDepth 10000 in
theorem sg_197_24 (X : am_X) (I : Nat → Nat → Int32) (J : Nat → Nat → Int64) (x1 : Int32) (x2 : Int32) (x3 : Int32) : am_ev X amP_197 24 [.ref 0, .int x1, .int x2, .int x3] [] (am_sh I J) = (if x1 < 0 ∨ 10 ≤ x1.toNatClampNeg then none else some (some (.int (I (am_bd (x1.toNatClampNeg) + 1) 7)), am_sh I J)) := by
  refine (ev_aload rfl rfl).trans ?_
  refine (ev_getR rfl (by decide) am_K_0 (by decide) rfl am_R_0_2).trans ?_
  refine (ev_getR rfl (by decide) am_K_16 (by decide) rfl am_R_16_0).trans ?_
  refine (ev_iload rfl rfl).trans ?_
  refine (ev_aald rfl (by decide) (Or.inl am_K_17) (f := am_bd) (fun k hk => am_R17 hk)).trans (am_itn (fun g1 => ?_))
  refine (ev_getR rfl (by have := am_bd_lt (by omega : (x1.toNatClampNeg) < 11); omega) (am_Kbd (by omega : (x1.toNatClampNeg) < 11)) (by decide) rfl (am_Rb2 (by omega : (x1.toNatClampNeg) < 11))).trans ?_
  refine (ev_const1 (v := (7 : Int32)) rfl am_ci_7).trans ?_
  refine (ev_ialdC (jn := 7) rfl (by have := am_bd_lt (by omega : (x1.toNatClampNeg) < 11); omega) (am_Kbn (by omega : (x1.toNatClampNeg) < 11)) (by decide) (by decide)).trans ?_
  exact ev_iret rfl
-- 198 X11_up
set_option maxRecDepth 10000 in
theorem sg_198_e0 (X : am_X) (I : Nat → Nat → Int32) (J : Nat → Nat → Int64) (x1 : Int32) (x2 : Int32) : am_ev X amP_198 0 [.ref 0, .int x1, .int x2] [] (am_sh I J) = (am_do X 99 [.ref 16, .int x1] (am_sh I J)).bind (fun q => am_ev X amP_198 4 [.ref 0, .int x1, .int x2] (q.1.toList ++ []) q.2) := by
  refine (ev_aload rfl rfl).trans ?_
  refine (ev_getR rfl (by decide) am_K_0 (by decide) rfl am_R_0_2).trans ?_
  refine (ev_iload rfl rfl).trans ?_
  exact ev_invv (as := [.int x1]) rfl (by decide) am_K_16 rfl (by simp [Value.category])
theorem cl_198 (X : am_X) (I : Nat → Nat → Int32) (J : Nat → Nat → Int64) (x1 : Int32) (x2 : Int32) : am_do X 198 [.ref 0, .int x1, .int x2] (am_sh I J) = am_ev X amP_198 0 [.ref 0, .int x1, .int x2] [] (am_sh I J) := am_do_of rfl rfl rfl
set_option maxRecDepth 10000 in
theorem sg_198_4 (X : am_X) (I : Nat → Nat → Int32) (J : Nat → Nat → Int64) (x1 : Int32) (x2 : Int32) (x3 : Int32) : am_ev X amP_198 4 [.ref 0, .int x1, .int x2] [.int x3] (am_sh I J) = (if x3 = 0 then (am_do X 208 [.ref 0, .int (2 : Int32)] (am_sh I J)).bind (fun q => am_ev X amP_198 14 [.ref 0, .int x1, .int x2] (q.1.toList ++ []) q.2) else (am_do X 101 [.ref 16, .int x1] (am_sh I J)).bind (fun q => am_ev X amP_198 9 [.ref 0, .int x1, .int x2] (q.1.toList ++ []) q.2)) := by
  refine (ev_if0 rfl).trans (am_ite (fun c1 => ?_) (fun c1 => ?_))
  · refine (ev_aload rfl rfl).trans ?_
    refine (ev_const0 (v := (2 : Int32)) rfl am_ci_2).trans ?_
    exact ev_invv (as := [.int (2 : Int32)]) rfl (by decide) am_K_0 rfl (by simp [Value.category])
  · refine (ev_aload rfl rfl).trans ?_
    refine (ev_getR rfl (by decide) am_K_0 (by decide) rfl am_R_0_2).trans ?_
    refine (ev_iload rfl rfl).trans ?_
    exact ev_invv (as := [.int x1]) rfl (by decide) am_K_16 rfl (by simp [Value.category])
set_option maxRecDepth 10000 in
theorem sg_198_9 (X : am_X) (I : Nat → Nat → Int32) (J : Nat → Nat → Int64) (x1 : Int32) (x2 : Int32) (x3 : Int32) : am_ev X amP_198 9 [.ref 0, .int x1, .int x2] [.int x3] (am_sh I J) = (if ¬ x3 = x2 then (am_do X 7 [.ref 106, .int x1, .int x2] (am_sh I J)).bind (fun q => am_ev X amP_198 25 [.ref 0, .int x1, .int x2] (q.1.toList ++ []) q.2) else (am_do X 208 [.ref 0, .int (2 : Int32)] (am_sh I J)).bind (fun q => am_ev X amP_198 14 [.ref 0, .int x1, .int x2] (q.1.toList ++ []) q.2)) := by
  refine (ev_iload rfl rfl).trans ?_
  refine (ev_icmp1 rfl).trans (am_ite (fun c1 => ?_) (fun c1 => ?_))
  · refine (ev_aload rfl rfl).trans ?_
    refine (ev_getR rfl (by decide) am_K_0 (by decide) rfl am_R_0_7).trans ?_
    refine (ev_iload rfl rfl).trans ?_
    refine (ev_iload rfl rfl).trans ?_
    exact ev_invv (as := [.int x2, .int x1]) rfl (by decide) am_K_106 rfl (by simp [Value.category])
  · refine (ev_aload rfl rfl).trans ?_
    refine (ev_const0 (v := (2 : Int32)) rfl am_ci_2).trans ?_
    exact ev_invv (as := [.int (2 : Int32)]) rfl (by decide) am_K_0 rfl (by simp [Value.category])
set_option maxRecDepth 10000 in
theorem sg_198_14 (X : am_X) (I : Nat → Nat → Int32) (J : Nat → Nat → Int64) (x1 : Int32) (x2 : Int32) (x3 : Int32) : am_ev X amP_198 14 [.ref 0, .int x1, .int x2] [.int x3] (am_sh I J) = (if x3 = (-1 : Int32) then some (some (.int (0 : Int32)), am_sh I J) else some (some (.int (1 : Int32)), am_sh I J)) := by
  refine (ev_const0 (v := (-1 : Int32)) rfl am_ci_m1).trans ?_
  refine (ev_icmp0 rfl).trans (am_ite (fun c1 => ?_) (fun c1 => ?_))
  · refine (ev_const0 (v := (0 : Int32)) rfl am_ci_0).trans ?_
    exact ev_zret rfl (by decide)
  · refine (ev_const0 (v := (1 : Int32)) rfl am_ci_1).trans ?_
    refine (ev_goto rfl).trans ?_
    exact ev_zret rfl (by decide)
set_option maxRecDepth 10000 in
theorem sg_198_25 (X : am_X) (I : Nat → Nat → Int32) (J : Nat → Nat → Int64) (x1 : Int32) (x2 : Int32) : am_ev X amP_198 25 [.ref 0, .int x1, .int x2] [] (am_sh I J) = some (some (.int (1 : Int32)), am_sh I J) := by
  refine (ev_const0 (v := (1 : Int32)) rfl am_ci_1).trans ?_
  exact ev_zret rfl (by decide)
-- 199 X11_gap
set_option maxRecDepth 10000 in
theorem sg_199_e0 (X : am_X) (I : Nat → Nat → Int32) (J : Nat → Nat → Int64) (x1 : Int32) : am_ev X amP_199 0 [.ref 0, .int x1] [] (am_sh I J) = (if (I 16 1) = 0 then (am_do X 208 [.ref 0, .int (3 : Int32)] (am_sh I J)).bind (fun q => am_ev X amP_199 17 [.ref 0, .int x1] (q.1.toList ++ []) q.2) else (if x1 < 0 then (am_do X 208 [.ref 0, .int (3 : Int32)] (am_sh I J)).bind (fun q => am_ev X amP_199 17 [.ref 0, .int x1] (q.1.toList ++ []) q.2) else (if (99 : Int32) < x1 then (am_do X 208 [.ref 0, .int (3 : Int32)] (am_sh I J)).bind (fun q => am_ev X amP_199 17 [.ref 0, .int x1] (q.1.toList ++ []) q.2) else (if ¬ x1 = (I 16 3) then (am_do X 8 [.ref 106, .int x1] (am_sh I J)).bind (fun q => am_ev X amP_199 27 [.ref 0, .int x1] (q.1.toList ++ []) q.2) else (am_do X 208 [.ref 0, .int (3 : Int32)] (am_sh I J)).bind (fun q => am_ev X amP_199 17 [.ref 0, .int x1] (q.1.toList ++ []) q.2))))) := by
  refine (ev_aload rfl rfl).trans ?_
  refine (ev_getR rfl (by decide) am_K_0 (by decide) rfl am_R_0_2).trans ?_
  refine (ev_getI rfl (by decide) am_K_16 (by decide) rfl).trans ?_
  refine (ev_if0 rfl).trans (am_ite (fun c1 => ?_) (fun c1 => ?_))
  · refine (ev_aload rfl rfl).trans ?_
    refine (ev_const0 (v := (3 : Int32)) rfl am_ci_3).trans ?_
    exact ev_invv (as := [.int (3 : Int32)]) rfl (by decide) am_K_0 rfl (by simp [Value.category])
  · refine (ev_iload rfl rfl).trans ?_
    refine (ev_if2 rfl).trans (am_ite (fun c2 => ?_) (fun c2 => ?_))
    · refine (ev_aload rfl rfl).trans ?_
      refine (ev_const0 (v := (3 : Int32)) rfl am_ci_3).trans ?_
      exact ev_invv (as := [.int (3 : Int32)]) rfl (by decide) am_K_0 rfl (by simp [Value.category])
    · refine (ev_iload rfl rfl).trans ?_
      refine (ev_const1 (v := (99 : Int32)) rfl am_ci_99).trans ?_
      refine (ev_icmp4 rfl).trans (am_ite (fun c3 => ?_) (fun c3 => ?_))
      · refine (ev_aload rfl rfl).trans ?_
        refine (ev_const0 (v := (3 : Int32)) rfl am_ci_3).trans ?_
        exact ev_invv (as := [.int (3 : Int32)]) rfl (by decide) am_K_0 rfl (by simp [Value.category])
      · refine (ev_iload rfl rfl).trans ?_
        refine (ev_aload rfl rfl).trans ?_
        refine (ev_getR rfl (by decide) am_K_0 (by decide) rfl am_R_0_2).trans ?_
        refine (ev_getI rfl (by decide) am_K_16 (by decide) rfl).trans ?_
        refine (ev_icmp1 rfl).trans (am_ite (fun c4 => ?_) (fun c4 => ?_))
        · refine (ev_aload rfl rfl).trans ?_
          refine (ev_getR rfl (by decide) am_K_0 (by decide) rfl am_R_0_7).trans ?_
          refine (ev_iload rfl rfl).trans ?_
          exact ev_invv (as := [.int x1]) rfl (by decide) am_K_106 rfl (by simp [Value.category])
        · refine (ev_aload rfl rfl).trans ?_
          refine (ev_const0 (v := (3 : Int32)) rfl am_ci_3).trans ?_
          exact ev_invv (as := [.int (3 : Int32)]) rfl (by decide) am_K_0 rfl (by simp [Value.category])
theorem cl_199 (X : am_X) (I : Nat → Nat → Int32) (J : Nat → Nat → Int64) (x1 : Int32) : am_do X 199 [.ref 0, .int x1] (am_sh I J) = am_ev X amP_199 0 [.ref 0, .int x1] [] (am_sh I J) := am_do_of rfl rfl rfl
set_option maxRecDepth 10000 in
theorem sg_199_17 (X : am_X) (I : Nat → Nat → Int32) (J : Nat → Nat → Int64) (x1 : Int32) (x2 : Int32) : am_ev X amP_199 17 [.ref 0, .int x1] [.int x2] (am_sh I J) = (if x2 = (-1 : Int32) then some (some (.int (0 : Int32)), am_sh I J) else some (some (.int (1 : Int32)), am_sh I J)) := by
  refine (ev_const0 (v := (-1 : Int32)) rfl am_ci_m1).trans ?_
  refine (ev_icmp0 rfl).trans (am_ite (fun c1 => ?_) (fun c1 => ?_))
  · refine (ev_const0 (v := (0 : Int32)) rfl am_ci_0).trans ?_
    exact ev_zret rfl (by decide)
  · refine (ev_const0 (v := (1 : Int32)) rfl am_ci_1).trans ?_
    refine (ev_goto rfl).trans ?_
    exact ev_zret rfl (by decide)
set_option maxRecDepth 10000 in
theorem sg_199_27 (X : am_X) (I : Nat → Nat → Int32) (J : Nat → Nat → Int64) (x1 : Int32) : am_ev X amP_199 27 [.ref 0, .int x1] [] (am_sh I J) = some (some (.int (1 : Int32)), am_sh I J) := by
  refine (ev_const0 (v := (1 : Int32)) rfl am_ci_1).trans ?_
  exact ev_zret rfl (by decide)
-- 200 X11_ticks
set_option maxRecDepth 10000 in
theorem sg_200_e0 (X : am_X) (I : Nat → Nat → Int32) (J : Nat → Nat → Int64) (x1 : Int32) : am_ev X amP_200 0 [.ref 0, .int x1] [] (am_sh I J) = (if (I 16 1) = 0 then (am_do X 208 [.ref 0, .int (2 : Int32)] (am_sh I J)).bind (fun q => am_ev X amP_200 20 [.ref 0, .int x1] (q.1.toList ++ []) q.2) else (if x1 < (1 : Int32) then (am_do X 208 [.ref 0, .int (2 : Int32)] (am_sh I J)).bind (fun q => am_ev X amP_200 20 [.ref 0, .int x1] (q.1.toList ++ []) q.2) else (if (999 : Int32) < x1 then (am_do X 208 [.ref 0, .int (2 : Int32)] (am_sh I J)).bind (fun q => am_ev X amP_200 20 [.ref 0, .int x1] (q.1.toList ++ []) q.2) else (if ((I 16 5) + x1) ≤ (9999 : Int32) then (am_do X 9 [.ref 106, .int x1] (am_sh I J)).bind (fun q => am_ev X amP_200 25 [.ref 0, .int x1] (q.1.toList ++ []) q.2) else (am_do X 208 [.ref 0, .int (2 : Int32)] (am_sh I J)).bind (fun q => am_ev X amP_200 20 [.ref 0, .int x1] (q.1.toList ++ []) q.2))))) := by
  refine (ev_aload rfl rfl).trans ?_
  refine (ev_getR rfl (by decide) am_K_0 (by decide) rfl am_R_0_2).trans ?_
  refine (ev_getI rfl (by decide) am_K_16 (by decide) rfl).trans ?_
  refine (ev_if0 rfl).trans (am_ite (fun c1 => ?_) (fun c1 => ?_))
  · refine (ev_aload rfl rfl).trans ?_
    refine (ev_const0 (v := (2 : Int32)) rfl am_ci_2).trans ?_
    exact ev_invv (as := [.int (2 : Int32)]) rfl (by decide) am_K_0 rfl (by simp [Value.category])
  · refine (ev_iload rfl rfl).trans ?_
    refine (ev_const0 (v := (1 : Int32)) rfl am_ci_1).trans ?_
    refine (ev_icmp2 rfl).trans (am_ite (fun c2 => ?_) (fun c2 => ?_))
    · refine (ev_aload rfl rfl).trans ?_
      refine (ev_const0 (v := (2 : Int32)) rfl am_ci_2).trans ?_
      exact ev_invv (as := [.int (2 : Int32)]) rfl (by decide) am_K_0 rfl (by simp [Value.category])
    · refine (ev_iload rfl rfl).trans ?_
      refine (ev_const2 (v := (999 : Int32)) rfl am_ci_999).trans ?_
      refine (ev_icmp4 rfl).trans (am_ite (fun c3 => ?_) (fun c3 => ?_))
      · refine (ev_aload rfl rfl).trans ?_
        refine (ev_const0 (v := (2 : Int32)) rfl am_ci_2).trans ?_
        exact ev_invv (as := [.int (2 : Int32)]) rfl (by decide) am_K_0 rfl (by simp [Value.category])
      · refine (ev_aload rfl rfl).trans ?_
        refine (ev_getR rfl (by decide) am_K_0 (by decide) rfl am_R_0_2).trans ?_
        refine (ev_getI rfl (by decide) am_K_16 (by decide) rfl).trans ?_
        refine (ev_iload rfl rfl).trans ?_
        refine (ev_iadd rfl).trans ?_
        refine (ev_const2 (v := (9999 : Int32)) rfl am_ci_9999).trans ?_
        refine (ev_icmp5 rfl).trans (am_ite (fun c4 => ?_) (fun c4 => ?_))
        · refine (ev_aload rfl rfl).trans ?_
          refine (ev_getR rfl (by decide) am_K_0 (by decide) rfl am_R_0_7).trans ?_
          refine (ev_iload rfl rfl).trans ?_
          exact ev_invv (as := [.int x1]) rfl (by decide) am_K_106 rfl (by simp [Value.category])
        · refine (ev_aload rfl rfl).trans ?_
          refine (ev_const0 (v := (2 : Int32)) rfl am_ci_2).trans ?_
          exact ev_invv (as := [.int (2 : Int32)]) rfl (by decide) am_K_0 rfl (by simp [Value.category])
theorem cl_200 (X : am_X) (I : Nat → Nat → Int32) (J : Nat → Nat → Int64) (x1 : Int32) : am_do X 200 [.ref 0, .int x1] (am_sh I J) = am_ev X amP_200 0 [.ref 0, .int x1] [] (am_sh I J) := am_do_of rfl rfl rfl
set_option maxRecDepth 10000 in
theorem sg_200_20 (X : am_X) (I : Nat → Nat → Int32) (J : Nat → Nat → Int64) (x1 : Int32) (x2 : Int32) : am_ev X amP_200 20 [.ref 0, .int x1] [.int x2] (am_sh I J) = some (some (.int x2), am_sh I J) := by
  exact ev_iret rfl
set_option maxRecDepth 10000 in
theorem sg_200_25 (X : am_X) (I : Nat → Nat → Int32) (J : Nat → Nat → Int64) (x1 : Int32) : am_ev X amP_200 25 [.ref 0, .int x1] [] (am_sh I J) = some (some (.int (I 16 5)), am_sh I J) := by
  refine (ev_aload rfl rfl).trans ?_
  refine (ev_getR rfl (by decide) am_K_0 (by decide) rfl am_R_0_2).trans ?_
  refine (ev_getI rfl (by decide) am_K_16 (by decide) rfl).trans ?_
  exact ev_iret rfl
-- 201 X11_chance
set_option maxRecDepth 10000 in
theorem sg_201_e0 (X : am_X) (I : Nat → Nat → Int32) (J : Nat → Nat → Int64) (x1 : Int32) : am_ev X amP_201 0 [.ref 0, .int x1] [] (am_sh I J) = (if (I 16 2) = 0 then (am_do X 208 [.ref 0, .int (2 : Int32)] (am_sh I J)).bind (fun q => am_ev X amP_201 22 [.ref 0, .int x1] (q.1.toList ++ []) q.2) else (if x1 < (1 : Int32) then (am_do X 208 [.ref 0, .int (2 : Int32)] (am_sh I J)).bind (fun q => am_ev X amP_201 22 [.ref 0, .int x1] (q.1.toList ++ []) q.2) else (if (40 : Int32) < x1 then (am_do X 208 [.ref 0, .int (2 : Int32)] (am_sh I J)).bind (fun q => am_ev X amP_201 22 [.ref 0, .int x1] (q.1.toList ++ []) q.2) else (if ((I 16 5) + (x1 * (7 : Int32))) ≤ (9999 : Int32) then (am_do X 11 [.ref 106, .int x1] (am_sh I J)).bind (fun q => am_ev X amP_201 27 [.ref 0, .int x1] (q.1.toList ++ []) q.2) else (am_do X 208 [.ref 0, .int (2 : Int32)] (am_sh I J)).bind (fun q => am_ev X amP_201 22 [.ref 0, .int x1] (q.1.toList ++ []) q.2))))) := by
  refine (ev_aload rfl rfl).trans ?_
  refine (ev_getR rfl (by decide) am_K_0 (by decide) rfl am_R_0_2).trans ?_
  refine (ev_getI rfl (by decide) am_K_16 (by decide) rfl).trans ?_
  refine (ev_if0 rfl).trans (am_ite (fun c1 => ?_) (fun c1 => ?_))
  · refine (ev_aload rfl rfl).trans ?_
    refine (ev_const0 (v := (2 : Int32)) rfl am_ci_2).trans ?_
    exact ev_invv (as := [.int (2 : Int32)]) rfl (by decide) am_K_0 rfl (by simp [Value.category])
  · refine (ev_iload rfl rfl).trans ?_
    refine (ev_const0 (v := (1 : Int32)) rfl am_ci_1).trans ?_
    refine (ev_icmp2 rfl).trans (am_ite (fun c2 => ?_) (fun c2 => ?_))
    · refine (ev_aload rfl rfl).trans ?_
      refine (ev_const0 (v := (2 : Int32)) rfl am_ci_2).trans ?_
      exact ev_invv (as := [.int (2 : Int32)]) rfl (by decide) am_K_0 rfl (by simp [Value.category])
    · refine (ev_iload rfl rfl).trans ?_
      refine (ev_const1 (v := (40 : Int32)) rfl am_ci_40).trans ?_
      refine (ev_icmp4 rfl).trans (am_ite (fun c3 => ?_) (fun c3 => ?_))
      · refine (ev_aload rfl rfl).trans ?_
        refine (ev_const0 (v := (2 : Int32)) rfl am_ci_2).trans ?_
        exact ev_invv (as := [.int (2 : Int32)]) rfl (by decide) am_K_0 rfl (by simp [Value.category])
      · refine (ev_aload rfl rfl).trans ?_
        refine (ev_getR rfl (by decide) am_K_0 (by decide) rfl am_R_0_2).trans ?_
        refine (ev_getI rfl (by decide) am_K_16 (by decide) rfl).trans ?_
        refine (ev_iload rfl rfl).trans ?_
        refine (ev_const1 (v := (7 : Int32)) rfl am_ci_7).trans ?_
        refine (ev_imul rfl).trans ?_
        refine (ev_iadd rfl).trans ?_
        refine (ev_const2 (v := (9999 : Int32)) rfl am_ci_9999).trans ?_
        refine (ev_icmp5 rfl).trans (am_ite (fun c4 => ?_) (fun c4 => ?_))
        · refine (ev_aload rfl rfl).trans ?_
          refine (ev_getR rfl (by decide) am_K_0 (by decide) rfl am_R_0_7).trans ?_
          refine (ev_iload rfl rfl).trans ?_
          exact ev_invv (as := [.int x1]) rfl (by decide) am_K_106 rfl (by simp [Value.category])
        · refine (ev_aload rfl rfl).trans ?_
          refine (ev_const0 (v := (2 : Int32)) rfl am_ci_2).trans ?_
          exact ev_invv (as := [.int (2 : Int32)]) rfl (by decide) am_K_0 rfl (by simp [Value.category])
theorem cl_201 (X : am_X) (I : Nat → Nat → Int32) (J : Nat → Nat → Int64) (x1 : Int32) : am_do X 201 [.ref 0, .int x1] (am_sh I J) = am_ev X amP_201 0 [.ref 0, .int x1] [] (am_sh I J) := am_do_of rfl rfl rfl
set_option maxRecDepth 10000 in
theorem sg_201_22 (X : am_X) (I : Nat → Nat → Int32) (J : Nat → Nat → Int64) (x1 : Int32) (x2 : Int32) : am_ev X amP_201 22 [.ref 0, .int x1] [.int x2] (am_sh I J) = some (some (.int x2), am_sh I J) := by
  exact ev_iret rfl
set_option maxRecDepth 10000 in
theorem sg_201_27 (X : am_X) (I : Nat → Nat → Int32) (J : Nat → Nat → Int64) (x1 : Int32) : am_ev X amP_201 27 [.ref 0, .int x1] [] (am_sh I J) = some (some (.int (I 16 5)), am_sh I J) := by
  refine (ev_aload rfl rfl).trans ?_
  refine (ev_getR rfl (by decide) am_K_0 (by decide) rfl am_R_0_2).trans ?_
  refine (ev_getI rfl (by decide) am_K_16 (by decide) rfl).trans ?_
  exact ev_iret rfl
-- 202 X11_undo
set_option maxRecDepth 10000 in
theorem sg_202_e0 (X : am_X) (I : Nat → Nat → Int32) (J : Nat → Nat → Int64) : am_ev X amP_202 0 [.ref 0] [] (am_sh I J) = (am_do X 5 [.ref 106] (am_sh I J)).bind (fun q => am_ev X amP_202 3 [.ref 0] (q.1.toList ++ []) q.2) := by
  refine (ev_aload rfl rfl).trans ?_
  refine (ev_getR rfl (by decide) am_K_0 (by decide) rfl am_R_0_7).trans ?_
  exact ev_invv (as := []) rfl (by decide) am_K_106 rfl (by simp [Value.category])
theorem cl_202 (X : am_X) (I : Nat → Nat → Int32) (J : Nat → Nat → Int64) : am_do X 202 [.ref 0] (am_sh I J) = am_ev X amP_202 0 [.ref 0] [] (am_sh I J) := am_do_of rfl rfl rfl
set_option maxRecDepth 10000 in
theorem sg_202_3 (X : am_X) (I : Nat → Nat → Int32) (J : Nat → Nat → Int64) (x1 : Int32) : am_ev X amP_202 3 [.ref 0] [.int x1] (am_sh I J) = (if ¬ x1 = 0 then some (some (.int (1 : Int32)), am_sh I J) else (am_do X 208 [.ref 0, .int (4 : Int32)] (am_sh I J)).bind (fun q => am_ev X amP_202 7 [.ref 0] (q.1.toList ++ []) q.2)) := by
  refine (ev_if1 rfl).trans (am_ite (fun c1 => ?_) (fun c1 => ?_))
  · refine (ev_const0 (v := (1 : Int32)) rfl am_ci_1).trans ?_
    refine (ev_goto rfl).trans ?_
    exact ev_zret rfl (by decide)
  · refine (ev_aload rfl rfl).trans ?_
    refine (ev_const0 (v := (4 : Int32)) rfl am_ci_4).trans ?_
    exact ev_invv (as := [.int (4 : Int32)]) rfl (by decide) am_K_0 rfl (by simp [Value.category])
set_option maxRecDepth 10000 in
theorem sg_202_7 (X : am_X) (I : Nat → Nat → Int32) (J : Nat → Nat → Int64) (x1 : Int32) : am_ev X amP_202 7 [.ref 0] [.int x1] (am_sh I J) = (if x1 = (-1 : Int32) then some (some (.int (0 : Int32)), am_sh I J) else some (some (.int (1 : Int32)), am_sh I J)) := by
  refine (ev_const0 (v := (-1 : Int32)) rfl am_ci_m1).trans ?_
  refine (ev_icmp0 rfl).trans (am_ite (fun c1 => ?_) (fun c1 => ?_))
  · refine (ev_const0 (v := (0 : Int32)) rfl am_ci_0).trans ?_
    exact ev_zret rfl (by decide)
  · refine (ev_const0 (v := (1 : Int32)) rfl am_ci_1).trans ?_
    refine (ev_goto rfl).trans ?_
    exact ev_zret rfl (by decide)
-- 203 X11_seed
set_option maxRecDepth 10000 in
theorem sg_203_e0 (X : am_X) (I : Nat → Nat → Int32) (J : Nat → Nat → Int64) (x1 : Int32) : am_ev X amP_203 0 [.ref 0, .int x1] [] (am_sh I J) = (if 0 ≤ x1 then some (some (.int (1 : Int32)), am_sh (am_up I 106 7 x1) J) else (am_do X 208 [.ref 0, .int (5 : Int32)] (am_sh I J)).bind (fun q => am_ev X amP_203 5 [.ref 0, .int x1] (q.1.toList ++ []) q.2)) := by
  refine (ev_iload rfl rfl).trans ?_
  refine (ev_if3 rfl).trans (am_ite (fun c1 => ?_) (fun c1 => ?_))
  · refine (ev_aload rfl rfl).trans ?_
    refine (ev_getR rfl (by decide) am_K_0 (by decide) rfl am_R_0_7).trans ?_
    refine (ev_iload rfl rfl).trans ?_
    refine (ev_putI rfl (by decide) am_K_106 (by decide) rfl).trans ?_
    refine (ev_const0 (v := (1 : Int32)) rfl am_ci_1).trans ?_
    exact ev_zret rfl (by decide)
  · refine (ev_aload rfl rfl).trans ?_
    refine (ev_const0 (v := (5 : Int32)) rfl am_ci_5).trans ?_
    exact ev_invv (as := [.int (5 : Int32)]) rfl (by decide) am_K_0 rfl (by simp [Value.category])
theorem cl_203 (X : am_X) (I : Nat → Nat → Int32) (J : Nat → Nat → Int64) (x1 : Int32) : am_do X 203 [.ref 0, .int x1] (am_sh I J) = am_ev X amP_203 0 [.ref 0, .int x1] [] (am_sh I J) := am_do_of rfl rfl rfl
set_option maxRecDepth 10000 in
theorem sg_203_5 (X : am_X) (I : Nat → Nat → Int32) (J : Nat → Nat → Int64) (x1 : Int32) (x2 : Int32) : am_ev X amP_203 5 [.ref 0, .int x1] [.int x2] (am_sh I J) = (if x2 = (-1 : Int32) then some (some (.int (0 : Int32)), am_sh I J) else some (some (.int (1 : Int32)), am_sh I J)) := by
  refine (ev_const0 (v := (-1 : Int32)) rfl am_ci_m1).trans ?_
  refine (ev_icmp0 rfl).trans (am_ite (fun c1 => ?_) (fun c1 => ?_))
  · refine (ev_const0 (v := (0 : Int32)) rfl am_ci_0).trans ?_
    exact ev_zret rfl (by decide)
  · refine (ev_const0 (v := (1 : Int32)) rfl am_ci_1).trans ?_
    refine (ev_goto rfl).trans ?_
    exact ev_zret rfl (by decide)
-- 204 X11_image
set_option maxRecDepth 10000 in
theorem sg_204_e0 (X : am_X) (I : Nat → Nat → Int32) (J : Nat → Nat → Int64) : am_ev X amP_204 0 [.ref 0] [] (am_sh I J) = (am_do X 73 [.ref 133, .ref 16] (am_sh I J)).bind (fun q => am_ev X amP_204 5 [.ref 0] (q.1.toList ++ []) q.2) := by
  refine (ev_aload rfl rfl).trans ?_
  refine (ev_getR rfl (by decide) am_K_0 (by decide) rfl am_R_0_9).trans ?_
  refine (ev_aload rfl rfl).trans ?_
  refine (ev_getR rfl (by decide) am_K_0 (by decide) rfl am_R_0_2).trans ?_
  exact ev_invv (as := [.ref 16]) rfl (by decide) am_K_133 rfl (by simp [Value.category])
theorem cl_204 (X : am_X) (I : Nat → Nat → Int32) (J : Nat → Nat → Int64) : am_do X 204 [.ref 0] (am_sh I J) = am_ev X amP_204 0 [.ref 0] [] (am_sh I J) := am_do_of rfl rfl rfl
set_option maxRecDepth 10000 in
theorem sg_204_5 (X : am_X) (I : Nat → Nat → Int32) (J : Nat → Nat → Int64) (x1 : Int32) : am_ev X amP_204 5 [.ref 0] [.int x1] (am_sh I J) = some (some (.int x1), am_sh I J) := by
  exact ev_iret rfl
-- 205 X11_octet
set_option maxRecDepth 10000 in
theorem sg_205_e0 (X : am_X) (I : Nat → Nat → Int32) (J : Nat → Nat → Int64) (x1 : Int32) : am_ev X amP_205 0 [.ref 0, .int x1] [] (am_sh I J) = (if x1 < 0 then some (some (.int (-1 : Int32)), am_sh I J) else (if x1 < (I 133 1) then (if x1 < 0 ∨ 72 ≤ x1.toNatClampNeg then none else some (some (.int (I 134 x1.toNatClampNeg)), am_sh I J)) else some (some (.int (-1 : Int32)), am_sh I J))) := by
  refine (ev_iload rfl rfl).trans ?_
  refine (ev_if2 rfl).trans (am_ite (fun c1 => ?_) (fun c1 => ?_))
  · refine (ev_const0 (v := (-1 : Int32)) rfl am_ci_m1).trans ?_
    refine (ev_goto rfl).trans ?_
    exact ev_iret rfl
  · refine (ev_iload rfl rfl).trans ?_
    refine (ev_aload rfl rfl).trans ?_
    refine (ev_getR rfl (by decide) am_K_0 (by decide) rfl am_R_0_9).trans ?_
    refine (ev_getI rfl (by decide) am_K_133 (by decide) rfl).trans ?_
    refine (ev_icmp2 rfl).trans (am_ite (fun c2 => ?_) (fun c2 => ?_))
    · refine (ev_aload rfl rfl).trans ?_
      refine (ev_getR rfl (by decide) am_K_0 (by decide) rfl am_R_0_9).trans ?_
      refine (ev_getR rfl (by decide) am_K_133 (by decide) rfl am_R_133_0).trans ?_
      refine (ev_iload rfl rfl).trans ?_
      refine (ev_iald rfl (by decide) am_K_134).trans (am_itn (fun g3 => ?_))
      exact ev_iret rfl
    · refine (ev_const0 (v := (-1 : Int32)) rfl am_ci_m1).trans ?_
      refine (ev_goto rfl).trans ?_
      exact ev_iret rfl
theorem cl_205 (X : am_X) (I : Nat → Nat → Int32) (J : Nat → Nat → Int64) (x1 : Int32) : am_do X 205 [.ref 0, .int x1] (am_sh I J) = am_ev X amP_205 0 [.ref 0, .int x1] [] (am_sh I J) := am_do_of rfl rfl rfl
-- 206 X11_on
set_option maxRecDepth 10000 in
theorem sg_206_e0 (X : am_X) (I : Nat → Nat → Int32) (J : Nat → Nat → Int64) : am_ev X amP_206 0 [.ref 0, .null] [] (am_sh I J) = (if (I 16 1) = 0 then (am_do X 208 [.ref 0, .int (5 : Int32)] (am_sh (am_up I 1 1 (0 : Int32)) J)).bind (fun q => am_ev X amP_206 37 [.ref 0, .int (0 : Int32)] (q.1.toList ++ []) q.2) else (am_do X 74 [.ref 133, .ref 1, .ref 16] (am_sh I J)).bind (fun q => am_ev X amP_206 11 [.ref 0, .null] (q.1.toList ++ []) q.2)) := by
  refine (ev_aload rfl rfl).trans ?_
  refine (ev_getR rfl (by decide) am_K_0 (by decide) rfl am_R_0_2).trans ?_
  refine (ev_getI rfl (by decide) am_K_16 (by decide) rfl).trans ?_
  refine (ev_if0 rfl).trans (am_ite (fun c1 => ?_) (fun c1 => ?_))
  · refine (ev_const0 (v := (0 : Int32)) rfl am_ci_0).trans ?_
    refine (ev_istore (ls' := [.ref 0, .int (0 : Int32)]) rfl (Nat.le_of_ble_eq_true rfl) rfl).trans ?_
    refine (ev_iload rfl rfl).trans ?_
    refine ((ev_if0 rfl).trans (if_pos (by decide))).trans ?_
    refine (ev_aload rfl rfl).trans ?_
    refine (ev_getR rfl (by decide) am_K_0 (by decide) rfl am_R_0_0).trans ?_
    refine (ev_const0 (v := (0 : Int32)) rfl am_ci_0).trans ?_
    refine (ev_putI rfl (by decide) am_K_1 (by decide) rfl).trans ?_
    refine (ev_iload rfl rfl).trans ?_
    refine ((ev_if1 rfl).trans (if_neg (by decide))).trans ?_
    refine (ev_aload rfl rfl).trans ?_
    refine (ev_const0 (v := (5 : Int32)) rfl am_ci_5).trans ?_
    exact ev_invv (as := [.int (5 : Int32)]) rfl (by decide) am_K_0 rfl (by simp [Value.category])
  · refine (ev_aload rfl rfl).trans ?_
    refine (ev_getR rfl (by decide) am_K_0 (by decide) rfl am_R_0_9).trans ?_
    refine (ev_aload rfl rfl).trans ?_
    refine (ev_getR rfl (by decide) am_K_0 (by decide) rfl am_R_0_0).trans ?_
    refine (ev_aload rfl rfl).trans ?_
    refine (ev_getR rfl (by decide) am_K_0 (by decide) rfl am_R_0_2).trans ?_
    exact ev_invv (as := [.ref 16, .ref 1]) rfl (by decide) am_K_133 rfl (by simp [Value.category])
theorem cl_206 (X : am_X) (I : Nat → Nat → Int32) (J : Nat → Nat → Int64) : am_do X 206 [.ref 0] (am_sh I J) = am_ev X amP_206 0 [.ref 0, .null] [] (am_sh I J) := am_do_of rfl rfl rfl
set_option maxRecDepth 10000 in
theorem sg_206_11 (X : am_X) (I : Nat → Nat → Int32) (J : Nat → Nat → Int64) (w1 : Value) (x2 : Int32) (hw1 : w1.category = 1) : am_ev X amP_206 11 [.ref 0, w1] [.int x2] (am_sh I J) = (if x2 = 0 then (am_do X 208 [.ref 0, .int (5 : Int32)] (am_sh (am_up I 1 1 (0 : Int32)) J)).bind (fun q => am_ev X amP_206 37 [.ref 0, .int (0 : Int32)] (q.1.toList ++ []) q.2) else (am_do X 77 [.ref 133, .ref 1, .ref 16] (am_sh I J)).bind (fun q => am_ev X amP_206 25 [.ref 0, .int (1 : Int32)] (q.1.toList ++ []) q.2)) := by
  refine (ev_if0 rfl).trans (am_ite (fun c1 => ?_) (fun c1 => ?_))
  · refine (ev_const0 (v := (0 : Int32)) rfl am_ci_0).trans ?_
    refine (ev_istore (ls' := [.ref 0, .int (0 : Int32)]) rfl (Nat.le_of_ble_eq_true rfl) rfl).trans ?_
    refine (ev_iload rfl rfl).trans ?_
    refine ((ev_if0 rfl).trans (if_pos (by decide))).trans ?_
    refine (ev_aload rfl rfl).trans ?_
    refine (ev_getR rfl (by decide) am_K_0 (by decide) rfl am_R_0_0).trans ?_
    refine (ev_const0 (v := (0 : Int32)) rfl am_ci_0).trans ?_
    refine (ev_putI rfl (by decide) am_K_1 (by decide) rfl).trans ?_
    refine (ev_iload rfl rfl).trans ?_
    refine ((ev_if1 rfl).trans (if_neg (by decide))).trans ?_
    refine (ev_aload rfl rfl).trans ?_
    refine (ev_const0 (v := (5 : Int32)) rfl am_ci_5).trans ?_
    exact ev_invv (as := [.int (5 : Int32)]) rfl (by decide) am_K_0 rfl (by simp [Value.category])
  · refine (ev_const0 (v := (1 : Int32)) rfl am_ci_1).trans ?_
    refine (ev_goto rfl).trans ?_
    refine (ev_istore (ls' := [.ref 0, .int (1 : Int32)]) rfl (Nat.le_of_ble_eq_true rfl) rfl).trans ?_
    refine (ev_iload rfl rfl).trans ?_
    refine ((ev_if0 rfl).trans (if_neg (by decide))).trans ?_
    refine (ev_aload rfl rfl).trans ?_
    refine (ev_getR rfl (by decide) am_K_0 (by decide) rfl am_R_0_9).trans ?_
    refine (ev_aload rfl rfl).trans ?_
    refine (ev_getR rfl (by decide) am_K_0 (by decide) rfl am_R_0_0).trans ?_
    refine (ev_aload rfl rfl).trans ?_
    refine (ev_getR rfl (by decide) am_K_0 (by decide) rfl am_R_0_2).trans ?_
    exact ev_invv (as := [.ref 16, .ref 1]) rfl (by decide) am_K_133 rfl (by simp [Value.category])
set_option maxRecDepth 10000 in
theorem sg_206_25 (X : am_X) (I : Nat → Nat → Int32) (J : Nat → Nat → Int64) (x1 : Int32) : am_ev X amP_206 25 [.ref 0, .int x1] [] (am_sh I J) = (am_do X 1 [.ref 106] (am_sh I J)).bind (fun q => am_ev X amP_206 28 [.ref 0, .int x1] (q.1.toList ++ []) q.2) := by
  refine (ev_aload rfl rfl).trans ?_
  refine (ev_getR rfl (by decide) am_K_0 (by decide) rfl am_R_0_7).trans ?_
  exact ev_invv (as := []) rfl (by decide) am_K_106 rfl (by simp [Value.category])
set_option maxRecDepth 10000 in
theorem sg_206_28 (X : am_X) (I : Nat → Nat → Int32) (J : Nat → Nat → Int64) (x1 : Int32) : am_ev X amP_206 28 [.ref 0, .int x1] [] (am_sh I J) = (if ¬ x1 = 0 then some (some (.int (1 : Int32)), am_sh (am_up I 1 1 (0 : Int32)) J) else (am_do X 208 [.ref 0, .int (5 : Int32)] (am_sh (am_up I 1 1 (0 : Int32)) J)).bind (fun q => am_ev X amP_206 37 [.ref 0, .int x1] (q.1.toList ++ []) q.2)) := by
  refine (ev_aload rfl rfl).trans ?_
  refine (ev_getR rfl (by decide) am_K_0 (by decide) rfl am_R_0_0).trans ?_
  refine (ev_const0 (v := (0 : Int32)) rfl am_ci_0).trans ?_
  refine (ev_putI rfl (by decide) am_K_1 (by decide) rfl).trans ?_
  refine (ev_iload rfl rfl).trans ?_
  refine (ev_if1 rfl).trans (am_ite (fun c1 => ?_) (fun c1 => ?_))
  · refine (ev_const0 (v := (1 : Int32)) rfl am_ci_1).trans ?_
    refine (ev_goto rfl).trans ?_
    exact ev_zret rfl (by decide)
  · refine (ev_aload rfl rfl).trans ?_
    refine (ev_const0 (v := (5 : Int32)) rfl am_ci_5).trans ?_
    exact ev_invv (as := [.int (5 : Int32)]) rfl (by decide) am_K_0 rfl (by simp [Value.category])
set_option maxRecDepth 10000 in
theorem sg_206_37 (X : am_X) (I : Nat → Nat → Int32) (J : Nat → Nat → Int64) (x1 : Int32) (x2 : Int32) : am_ev X amP_206 37 [.ref 0, .int x1] [.int x2] (am_sh I J) = (if x2 = (-1 : Int32) then some (some (.int (0 : Int32)), am_sh I J) else some (some (.int (1 : Int32)), am_sh I J)) := by
  refine (ev_const0 (v := (-1 : Int32)) rfl am_ci_m1).trans ?_
  refine (ev_icmp0 rfl).trans (am_ite (fun c1 => ?_) (fun c1 => ?_))
  · refine (ev_const0 (v := (0 : Int32)) rfl am_ci_0).trans ?_
    exact ev_zret rfl (by decide)
  · refine (ev_const0 (v := (1 : Int32)) rfl am_ci_1).trans ?_
    refine (ev_goto rfl).trans ?_
    exact ev_zret rfl (by decide)
-- 207 X11_status
set_option maxRecDepth 10000 in
theorem sg_207_e0 (X : am_X) (I : Nat → Nat → Int32) (J : Nat → Nat → Int64) (x1 : Int32) : am_ev X amP_207 0 [.ref 0, .int x1] [] (am_sh I J) = (if x1 < 0 then some (some (.int (-1 : Int32)), am_sh I J) else (if x1 < (Int32.ofNat 6) then (if x1 < 0 ∨ 6 ≤ x1.toNatClampNeg then none else some (some (.int (I 138 x1.toNatClampNeg)), am_sh I J)) else some (some (.int (-1 : Int32)), am_sh I J))) := by
  refine (ev_iload rfl rfl).trans ?_
  refine (ev_if2 rfl).trans (am_ite (fun c1 => ?_) (fun c1 => ?_))
  · refine (ev_const0 (v := (-1 : Int32)) rfl am_ci_m1).trans ?_
    refine (ev_goto rfl).trans ?_
    exact ev_iret rfl
  · refine (ev_iload rfl rfl).trans ?_
    refine (ev_aload rfl rfl).trans ?_
    refine (ev_getR rfl (by decide) am_K_0 (by decide) rfl am_R_0_12).trans ?_
    refine (ev_alen rfl (by decide) am_K_138 (by decide) (by decide)).trans ?_
    refine (ev_icmp2 rfl).trans (am_ite (fun c2 => ?_) (fun c2 => ?_))
    · refine (ev_aload rfl rfl).trans ?_
      refine (ev_getR rfl (by decide) am_K_0 (by decide) rfl am_R_0_12).trans ?_
      refine (ev_iload rfl rfl).trans ?_
      refine (ev_iald rfl (by decide) am_K_138).trans (am_itn (fun g3 => ?_))
      exact ev_iret rfl
    · refine (ev_const0 (v := (-1 : Int32)) rfl am_ci_m1).trans ?_
      refine (ev_goto rfl).trans ?_
      exact ev_iret rfl
theorem cl_207 (X : am_X) (I : Nat → Nat → Int32) (J : Nat → Nat → Int64) (x1 : Int32) : am_do X 207 [.ref 0, .int x1] (am_sh I J) = am_ev X amP_207 0 [.ref 0, .int x1] [] (am_sh I J) := am_do_of rfl rfl rfl
-- 208 X11_refuse
set_option maxRecDepth 10000 in
theorem sg_208_e0 (X : am_X) (I : Nat → Nat → Int32) (J : Nat → Nat → Int64) (x1 : Int32) : am_ev X amP_208 0 [.ref 0, .int x1] [] (am_sh I J) = (if x1 < 0 then some (some (.int (-1 : Int32)), am_sh I J) else (if (Int32.ofNat 6) ≤ x1 then some (some (.int (-1 : Int32)), am_sh I J) else (if x1 < 0 ∨ 6 ≤ x1.toNatClampNeg then none else (if x1 < 0 ∨ 6 ≤ x1.toNatClampNeg then none else some (some (.int (-1 : Int32)), am_sh (am_up I 138 x1.toNatClampNeg ((I 138 x1.toNatClampNeg) + (1 : Int32))) J))))) := by
  refine (ev_iload rfl rfl).trans ?_
  refine (ev_if2 rfl).trans (am_ite (fun c1 => ?_) (fun c1 => ?_))
  · refine (ev_const0 (v := (-1 : Int32)) rfl am_ci_m1).trans ?_
    exact ev_iret rfl
  · refine (ev_iload rfl rfl).trans ?_
    refine (ev_aload rfl rfl).trans ?_
    refine (ev_getR rfl (by decide) am_K_0 (by decide) rfl am_R_0_12).trans ?_
    refine (ev_alen rfl (by decide) am_K_138 (by decide) (by decide)).trans ?_
    refine (ev_icmp3 rfl).trans (am_ite (fun c2 => ?_) (fun c2 => ?_))
    · refine (ev_const0 (v := (-1 : Int32)) rfl am_ci_m1).trans ?_
      exact ev_iret rfl
    · refine (ev_aload rfl rfl).trans ?_
      refine (ev_getR rfl (by decide) am_K_0 (by decide) rfl am_R_0_12).trans ?_
      refine (ev_iload rfl rfl).trans ?_
      refine (ev_dup2 rfl).trans ?_
      refine (ev_iald rfl (by decide) am_K_138).trans (am_itn (fun g3 => ?_))
      refine (ev_const0 (v := (1 : Int32)) rfl am_ci_1).trans ?_
      refine (ev_iadd rfl).trans ?_
      refine (ev_iast rfl (by decide) am_K_138).trans (am_itn (fun g4 => ?_))
      refine (ev_const0 (v := (-1 : Int32)) rfl am_ci_m1).trans ?_
      exact ev_iret rfl
theorem cl_208 (X : am_X) (I : Nat → Nat → Int32) (J : Nat → Nat → Int64) (x1 : Int32) : am_do X 208 [.ref 0, .int x1] (am_sh I J) = am_ev X amP_208 0 [.ref 0, .int x1] [] (am_sh I J) := am_do_of rfl rfl rfl
-- 209 X11_isTick
set_option maxRecDepth 10000 in
theorem sg_209_e0 (X : am_X) (I : Nat → Nat → Int32) (J : Nat → Nat → Int64) (x1 : Int32) : am_ev X amP_209 0 [.int x1] [] (am_sh I J) = (if x1 < 0 then some (some (.int (0 : Int32)), am_sh I J) else (if (9999 : Int32) < x1 then some (some (.int (0 : Int32)), am_sh I J) else some (some (.int (1 : Int32)), am_sh I J))) := by
  refine (ev_iload rfl rfl).trans ?_
  refine (ev_if2 rfl).trans (am_ite (fun c1 => ?_) (fun c1 => ?_))
  · refine (ev_const0 (v := (0 : Int32)) rfl am_ci_0).trans ?_
    exact ev_zret rfl (by decide)
  · refine (ev_iload rfl rfl).trans ?_
    refine (ev_const2 (v := (9999 : Int32)) rfl am_ci_9999).trans ?_
    refine (ev_icmp4 rfl).trans (am_ite (fun c2 => ?_) (fun c2 => ?_))
    · refine (ev_const0 (v := (0 : Int32)) rfl am_ci_0).trans ?_
      exact ev_zret rfl (by decide)
    · refine (ev_const0 (v := (1 : Int32)) rfl am_ci_1).trans ?_
      refine (ev_goto rfl).trans ?_
      exact ev_zret rfl (by decide)
theorem cl_209 (X : am_X) (I : Nat → Nat → Int32) (J : Nat → Nat → Int64) (x1 : Int32) : am_do X 209 [.int x1] (am_sh I J) = am_ev X amP_209 0 [.int x1] [] (am_sh I J) := am_do_of rfl rfl rfl
-- 210 X11_isSpan
set_option maxRecDepth 10000 in
theorem sg_210_e0 (X : am_X) (I : Nat → Nat → Int32) (J : Nat → Nat → Int64) (x1 : Int32) (x2 : Int32) : am_ev X amP_210 0 [.int x1, .int x2] [] (am_sh I J) = (am_do X 209 [.int x1] (am_sh I J)).bind (fun q => am_ev X amP_210 2 [.int x1, .int x2] (q.1.toList ++ []) q.2) := by
  refine (ev_iload rfl rfl).trans ?_
  exact ev_invs (as := [.int x1]) rfl rfl (by simp [Value.category])
theorem cl_210 (X : am_X) (I : Nat → Nat → Int32) (J : Nat → Nat → Int64) (x1 : Int32) (x2 : Int32) : am_do X 210 [.int x1, .int x2] (am_sh I J) = am_ev X amP_210 0 [.int x1, .int x2] [] (am_sh I J) := am_do_of rfl rfl rfl
set_option maxRecDepth 10000 in
theorem sg_210_2 (X : am_X) (I : Nat → Nat → Int32) (J : Nat → Nat → Int64) (x1 : Int32) (x2 : Int32) (x3 : Int32) : am_ev X amP_210 2 [.int x1, .int x2] [.int x3] (am_sh I J) = (if x3 = 0 then some (some (.int (0 : Int32)), am_sh I J) else (am_do X 209 [.int x2] (am_sh I J)).bind (fun q => am_ev X amP_210 5 [.int x1, .int x2] (q.1.toList ++ []) q.2)) := by
  refine (ev_if0 rfl).trans (am_ite (fun c1 => ?_) (fun c1 => ?_))
  · refine (ev_const0 (v := (0 : Int32)) rfl am_ci_0).trans ?_
    exact ev_zret rfl (by decide)
  · refine (ev_iload rfl rfl).trans ?_
    exact ev_invs (as := [.int x2]) rfl rfl (by simp [Value.category])
set_option maxRecDepth 10000 in
theorem sg_210_5 (X : am_X) (I : Nat → Nat → Int32) (J : Nat → Nat → Int64) (x1 : Int32) (x2 : Int32) (x3 : Int32) : am_ev X amP_210 5 [.int x1, .int x2] [.int x3] (am_sh I J) = (if x3 = 0 then some (some (.int (0 : Int32)), am_sh I J) else (if x2 < x1 then some (some (.int (0 : Int32)), am_sh I J) else (if (200 : Int32) < (x2 - x1) then some (some (.int (0 : Int32)), am_sh I J) else some (some (.int (1 : Int32)), am_sh I J)))) := by
  refine (ev_if0 rfl).trans (am_ite (fun c1 => ?_) (fun c1 => ?_))
  · refine (ev_const0 (v := (0 : Int32)) rfl am_ci_0).trans ?_
    exact ev_zret rfl (by decide)
  · refine (ev_iload rfl rfl).trans ?_
    refine (ev_iload rfl rfl).trans ?_
    refine (ev_icmp2 rfl).trans (am_ite (fun c2 => ?_) (fun c2 => ?_))
    · refine (ev_const0 (v := (0 : Int32)) rfl am_ci_0).trans ?_
      exact ev_zret rfl (by decide)
    · refine (ev_iload rfl rfl).trans ?_
      refine (ev_iload rfl rfl).trans ?_
      refine (ev_isub rfl).trans ?_
      refine (ev_const2 (v := (200 : Int32)) rfl am_ci_200).trans ?_
      refine (ev_icmp4 rfl).trans (am_ite (fun c3 => ?_) (fun c3 => ?_))
      · refine (ev_const0 (v := (0 : Int32)) rfl am_ci_0).trans ?_
        exact ev_zret rfl (by decide)
      · refine (ev_const0 (v := (1 : Int32)) rfl am_ci_1).trans ?_
        refine (ev_goto rfl).trans ?_
        exact ev_zret rfl (by decide)
-- 211 X11_isUnsureness
set_option maxRecDepth 10000 in
theorem sg_211_e0 (X : am_X) (I : Nat → Nat → Int32) (J : Nat → Nat → Int64) (x1 : Int32) : am_ev X amP_211 0 [.int x1] [] (am_sh I J) = (if x1 < 0 then some (some (.int (0 : Int32)), am_sh I J) else (if (5 : Int32) < x1 then some (some (.int (0 : Int32)), am_sh I J) else some (some (.int (1 : Int32)), am_sh I J))) := by
  refine (ev_iload rfl rfl).trans ?_
  refine (ev_if2 rfl).trans (am_ite (fun c1 => ?_) (fun c1 => ?_))
  · refine (ev_const0 (v := (0 : Int32)) rfl am_ci_0).trans ?_
    exact ev_zret rfl (by decide)
  · refine (ev_iload rfl rfl).trans ?_
    refine (ev_const0 (v := (5 : Int32)) rfl am_ci_5).trans ?_
    refine (ev_icmp4 rfl).trans (am_ite (fun c2 => ?_) (fun c2 => ?_))
    · refine (ev_const0 (v := (0 : Int32)) rfl am_ci_0).trans ?_
      exact ev_zret rfl (by decide)
    · refine (ev_const0 (v := (1 : Int32)) rfl am_ci_1).trans ?_
      refine (ev_goto rfl).trans ?_
      exact ev_zret rfl (by decide)
theorem cl_211 (X : am_X) (I : Nat → Nat → Int32) (J : Nat → Nat → Int64) (x1 : Int32) : am_do X 211 [.int x1] (am_sh I J) = am_ev X amP_211 0 [.int x1] [] (am_sh I J) := am_do_of rfl rfl rfl
-- 212 X11_seenBody
set_option maxRecDepth 10000 in
theorem sg_212_e0 (X : am_X) (I : Nat → Nat → Int32) (J : Nat → Nat → Int64) : am_ev X amP_212 0 [.ref 0] [] (am_sh I J) = (am_do X 99 [.ref 16, .int (I 128 0)] (am_sh I J)).bind (fun q => am_ev X amP_212 9 [.ref 0] (q.1.toList ++ [.ref 17]) q.2) := by
  refine (ev_aload rfl rfl).trans ?_
  refine (ev_getR rfl (by decide) am_K_0 (by decide) rfl am_R_0_2).trans ?_
  refine (ev_getR rfl (by decide) am_K_16 (by decide) rfl am_R_16_0).trans ?_
  refine (ev_aload rfl rfl).trans ?_
  refine (ev_getR rfl (by decide) am_K_0 (by decide) rfl am_R_0_2).trans ?_
  refine (ev_aload rfl rfl).trans ?_
  refine (ev_getR rfl (by decide) am_K_0 (by decide) rfl am_R_0_8).trans ?_
  refine (ev_getI rfl (by decide) am_K_128 (by decide) rfl).trans ?_
  exact ev_invv (as := [.int (I 128 0)]) rfl (by decide) am_K_16 rfl (by simp [Value.category])
theorem cl_212 (X : am_X) (I : Nat → Nat → Int32) (J : Nat → Nat → Int64) : am_do X 212 [.ref 0] (am_sh I J) = am_ev X amP_212 0 [.ref 0] [] (am_sh I J) := am_do_of rfl rfl rfl
set_option maxRecDepth 10000 in
theorem sg_212_9 (X : am_X) (I : Nat → Nat → Int32) (J : Nat → Nat → Int64) (x1 : Int32) : am_ev X amP_212 9 [.ref 0] [.int x1, .ref 17] (am_sh I J) = (if x1 = 0 then (if (0 : Int32) < 0 ∨ 10 ≤ (0 : Int32).toNatClampNeg then none else some (some (.ref (am_bd ((0 : Int32).toNatClampNeg))), am_sh I J)) else (if (I 128 0) < 0 ∨ 10 ≤ (I 128 0).toNatClampNeg then none else some (some (.ref (am_bd ((I 128 0).toNatClampNeg))), am_sh I J))) := by
  refine (ev_if0 rfl).trans (am_ite (fun c1 => ?_) (fun c1 => ?_))
  · refine (ev_const0 (v := (0 : Int32)) rfl am_ci_0).trans ?_
    refine (ev_aald rfl (by decide) (Or.inl am_K_17) (f := am_bd) (fun k hk => am_R17 hk)).trans (am_itn (fun g2 => ?_))
    exact ev_aret rfl
  · refine (ev_aload rfl rfl).trans ?_
    refine (ev_getR rfl (by decide) am_K_0 (by decide) rfl am_R_0_8).trans ?_
    refine (ev_getI rfl (by decide) am_K_128 (by decide) rfl).trans ?_
    refine (ev_goto rfl).trans ?_
    refine (ev_aald rfl (by decide) (Or.inl am_K_17) (f := am_bd) (fun k hk => am_R17 hk)).trans (am_itn (fun g2 => ?_))
    exact ev_aret rfl
-- 214 X12_isIn
set_option maxRecDepth 10000 in
theorem sg_214_e0 (X : am_X) (I : Nat → Nat → Int32) (J : Nat → Nat → Int64) (x1 : Int32) (x2 : Int32) (x3 : Int32) : am_ev X amP_214 0 [.int x1, .int x2, .int x3] [] (am_sh I J) = (if x1 < x2 then some (some (.int (0 : Int32)), am_sh I J) else (if x3 < x1 then some (some (.int (0 : Int32)), am_sh I J) else some (some (.int (1 : Int32)), am_sh I J))) := by
  refine (ev_iload rfl rfl).trans ?_
  refine (ev_iload rfl rfl).trans ?_
  refine (ev_icmp2 rfl).trans (am_ite (fun c1 => ?_) (fun c1 => ?_))
  · refine (ev_const0 (v := (0 : Int32)) rfl am_ci_0).trans ?_
    exact ev_zret rfl (by decide)
  · refine (ev_iload rfl rfl).trans ?_
    refine (ev_iload rfl rfl).trans ?_
    refine (ev_icmp4 rfl).trans (am_ite (fun c2 => ?_) (fun c2 => ?_))
    · refine (ev_const0 (v := (0 : Int32)) rfl am_ci_0).trans ?_
      exact ev_zret rfl (by decide)
    · refine (ev_const0 (v := (1 : Int32)) rfl am_ci_1).trans ?_
      refine (ev_goto rfl).trans ?_
      exact ev_zret rfl (by decide)
theorem cl_214 (X : am_X) (I : Nat → Nat → Int32) (J : Nat → Nat → Int64) (x1 : Int32) (x2 : Int32) (x3 : Int32) : am_do X 214 [.int x1, .int x2, .int x3] (am_sh I J) = am_ev X amP_214 0 [.int x1, .int x2, .int x3] [] (am_sh I J) := am_do_of rfl rfl rfl
-- 215 X12_lesser
set_option maxRecDepth 10000 in
theorem sg_215_e0 (X : am_X) (I : Nat → Nat → Int32) (J : Nat → Nat → Int64) (x1 : Int32) (x2 : Int32) : am_ev X amP_215 0 [.int x1, .int x2] [] (am_sh I J) = (if x2 ≤ x1 then some (some (.int x2), am_sh I J) else some (some (.int x1), am_sh I J)) := by
  refine (ev_iload rfl rfl).trans ?_
  refine (ev_iload rfl rfl).trans ?_
  refine (ev_icmp3 rfl).trans (am_ite (fun c1 => ?_) (fun c1 => ?_))
  · refine (ev_iload rfl rfl).trans ?_
    exact ev_iret rfl
  · refine (ev_iload rfl rfl).trans ?_
    refine (ev_goto rfl).trans ?_
    exact ev_iret rfl
theorem cl_215 (X : am_X) (I : Nat → Nat → Int32) (J : Nat → Nat → Int64) (x1 : Int32) (x2 : Int32) : am_do X 215 [.int x1, .int x2] (am_sh I J) = am_ev X amP_215 0 [.int x1, .int x2] [] (am_sh I J) := am_do_of rfl rfl rfl
-- 216 X12_greater
set_option maxRecDepth 10000 in
theorem sg_216_e0 (X : am_X) (I : Nat → Nat → Int32) (J : Nat → Nat → Int64) (x1 : Int32) (x2 : Int32) : am_ev X amP_216 0 [.int x1, .int x2] [] (am_sh I J) = (if x1 ≤ x2 then some (some (.int x2), am_sh I J) else some (some (.int x1), am_sh I J)) := by
  refine (ev_iload rfl rfl).trans ?_
  refine (ev_iload rfl rfl).trans ?_
  refine (ev_icmp5 rfl).trans (am_ite (fun c1 => ?_) (fun c1 => ?_))
  · refine (ev_iload rfl rfl).trans ?_
    exact ev_iret rfl
  · refine (ev_iload rfl rfl).trans ?_
    refine (ev_goto rfl).trans ?_
    exact ev_iret rfl
theorem cl_216 (X : am_X) (I : Nat → Nat → Int32) (J : Nat → Nat → Int64) (x1 : Int32) (x2 : Int32) : am_do X 216 [.int x1, .int x2] (am_sh I J) = am_ev X amP_216 0 [.int x1, .int x2] [] (am_sh I J) := am_do_of rfl rfl rfl
-- 217 X12_common
set_option maxRecDepth 10000 in
theorem sg_217_e0 (X : am_X) (I : Nat → Nat → Int32) (J : Nat → Nat → Int64) (x1 : Int32) (x2 : Int32) : am_ev X amP_217 0 [.int x1, .int x2, .null, .null, .null] [] (am_sh I J) = am_ev X amP_217 4 [.int x1, .int x2, .int x1, .int x2, .null] [] (am_sh I J) := by
  refine (ev_iload rfl rfl).trans ?_
  refine (ev_istore (ls' := [.int x1, .int x2, .int x1, .null, .null]) rfl (Nat.le_of_ble_eq_true rfl) rfl).trans ?_
  refine (ev_iload rfl rfl).trans ?_
  refine (ev_istore (ls' := [.int x1, .int x2, .int x1, .int x2, .null]) rfl (Nat.le_of_ble_eq_true rfl) rfl).trans ?_
  rfl
theorem cl_217 (X : am_X) (I : Nat → Nat → Int32) (J : Nat → Nat → Int64) (x1 : Int32) (x2 : Int32) : am_do X 217 [.int x1, .int x2] (am_sh I J) = am_ev X amP_217 0 [.int x1, .int x2, .null, .null, .null] [] (am_sh I J) := am_do_of rfl rfl rfl
set_option maxRecDepth 10000 in
theorem sg_217_4 (X : am_X) (I : Nat → Nat → Int32) (J : Nat → Nat → Int64) (x1 : Int32) (x2 : Int32) (x3 : Int32) (x4 : Int32) (w5 : Value) (hw5 : w5.category = 1) : am_ev X amP_217 4 [.int x1, .int x2, .int x3, .int x4, w5] [] (am_sh I J) = (if x4 = 0 then some (some (.int x3), am_sh I J) else (if x4 = 0 then none else am_ev X amP_217 4 [.int x1, .int x2, .int x4, .int (x3 - x3 / x4 * x4), .int (x3 - x3 / x4 * x4)] [] (am_sh I J))) := by
  refine (ev_iload rfl rfl).trans ?_
  refine (ev_if0 rfl).trans (am_ite (fun c1 => ?_) (fun c1 => ?_))
  · refine (ev_iload rfl rfl).trans ?_
    exact ev_iret rfl
  · refine (ev_iload rfl rfl).trans ?_
    refine (ev_iload rfl rfl).trans ?_
    refine (ev_irem rfl).trans (am_itn (fun g2 => ?_))
    refine (ev_istore (ls' := [.int x1, .int x2, .int x3, .int x4, .int (x3 - x3 / x4 * x4)]) rfl (Nat.le_of_ble_eq_true rfl) rfl).trans ?_
    refine (ev_iload rfl rfl).trans ?_
    refine (ev_istore (ls' := [.int x1, .int x2, .int x4, .int x4, .int (x3 - x3 / x4 * x4)]) rfl (Nat.le_of_ble_eq_true rfl) rfl).trans ?_
    refine (ev_iload rfl rfl).trans ?_
    refine (ev_istore (ls' := [.int x1, .int x2, .int x4, .int (x3 - x3 / x4 * x4), .int (x3 - x3 / x4 * x4)]) rfl (Nat.le_of_ble_eq_true rfl) rfl).trans ?_
    refine (ev_goto rfl).trans ?_
    rfl
-- 218 X12_refuses
set_option maxRecDepth 10000 in
theorem sg_218_e0 (X : am_X) (I : Nat → Nat → Int32) (J : Nat → Nat → Int64) (x1 : Int32) : am_ev X amP_218 0 [.ref 139, .int x1] [] (am_sh I J) = (if x1 < 0 ∨ 6 ≤ x1.toNatClampNeg then none else (if x1 < 0 ∨ 6 ≤ x1.toNatClampNeg then none else some (some (.int (-1 : Int32)), am_sh (am_up I 146 x1.toNatClampNeg ((I 146 x1.toNatClampNeg) + (1 : Int32))) J))) := by
  refine (ev_aload rfl rfl).trans ?_
  refine (ev_getR rfl (by decide) am_K_139 (by decide) rfl am_R_139_13).trans ?_
  refine (ev_iload rfl rfl).trans ?_
  refine (ev_dup2 rfl).trans ?_
  refine (ev_iald rfl (by decide) am_K_146).trans (am_itn (fun g1 => ?_))
  refine (ev_const0 (v := (1 : Int32)) rfl am_ci_1).trans ?_
  refine (ev_iadd rfl).trans ?_
  refine (ev_iast rfl (by decide) am_K_146).trans (am_itn (fun g2 => ?_))
  refine (ev_const0 (v := (-1 : Int32)) rfl am_ci_m1).trans ?_
  exact ev_iret rfl
theorem cl_218 (X : am_X) (I : Nat → Nat → Int32) (J : Nat → Nat → Int64) (x1 : Int32) : am_do X 218 [.ref 139, .int x1] (am_sh I J) = am_ev X amP_218 0 [.ref 139, .int x1] [] (am_sh I J) := am_do_of rfl rfl rfl
-- 219 X12_isRefused
set_option maxRecDepth 10000 in
theorem sg_219_e0 (X : am_X) (I : Nat → Nat → Int32) (J : Nat → Nat → Int64) (x1 : Int32) : am_ev X amP_219 0 [.ref 139, .int x1] [] (am_sh I J) = (if x1 < 0 ∨ 6 ≤ x1.toNatClampNeg then none else (if x1 < 0 ∨ 6 ≤ x1.toNatClampNeg then none else some (some (.int (0 : Int32)), am_sh (am_up I 146 x1.toNatClampNeg ((I 146 x1.toNatClampNeg) + (1 : Int32))) J))) := by
  refine (ev_aload rfl rfl).trans ?_
  refine (ev_getR rfl (by decide) am_K_139 (by decide) rfl am_R_139_13).trans ?_
  refine (ev_iload rfl rfl).trans ?_
  refine (ev_dup2 rfl).trans ?_
  refine (ev_iald rfl (by decide) am_K_146).trans (am_itn (fun g1 => ?_))
  refine (ev_const0 (v := (1 : Int32)) rfl am_ci_1).trans ?_
  refine (ev_iadd rfl).trans ?_
  refine (ev_iast rfl (by decide) am_K_146).trans (am_itn (fun g2 => ?_))
  refine (ev_const0 (v := (0 : Int32)) rfl am_ci_0).trans ?_
  exact ev_zret rfl (by decide)
theorem cl_219 (X : am_X) (I : Nat → Nat → Int32) (J : Nat → Nat → Int64) (x1 : Int32) : am_do X 219 [.ref 139, .int x1] (am_sh I J) = am_ev X amP_219 0 [.ref 139, .int x1] [] (am_sh I J) := am_do_of rfl rfl rfl
-- 220 X12_lays
set_option maxRecDepth 10000 in
theorem sg_220_e0 (X : am_X) (I : Nat → Nat → Int32) (J : Nat → Nat → Int64) (x1 : Int32) : am_ev X amP_220 0 [.ref 139, .int x1, .null] [] (am_sh I J) = am_ev X amP_220 2 [.ref 139, .int x1, .int (0 : Int32)] [] (am_sh I J) := by
  refine (ev_const0 (v := (0 : Int32)) rfl am_ci_0).trans ?_
  refine (ev_istore (ls' := [.ref 139, .int x1, .int (0 : Int32)]) rfl (Nat.le_of_ble_eq_true rfl) rfl).trans ?_
  rfl
theorem cl_220 (X : am_X) (I : Nat → Nat → Int32) (J : Nat → Nat → Int64) (x1 : Int32) : am_do X 220 [.ref 139, .int x1] (am_sh I J) = am_ev X amP_220 0 [.ref 139, .int x1, .null] [] (am_sh I J) := am_do_of rfl rfl rfl
set_option maxRecDepth 10000 in
theorem sg_220_2 (X : am_X) (I : Nat → Nat → Int32) (J : Nat → Nat → Int64) (x1 : Int32) (x2 : Int32) : am_ev X amP_220 2 [.ref 139, .int x1, .int x2] [] (am_sh I J) = (if (4 : Int32) ≤ x2 then some (none, am_sh (am_up I 139 12 ((I 139 12) + (4 : Int32))) J) else (if ((I 139 12) + x2) < 0 ∨ 1600 ≤ ((I 139 12) + x2).toNatClampNeg then none else am_ev X amP_220 2 [.ref 139, .int x1, .int (x2 + (1 : Int32))] [] (am_sh (am_up I 145 ((I 139 12) + x2).toNatClampNeg ((x1 >>> (((24 : Int32) - ((8 : Int32) * x2)) &&& 31)) &&& (255 : Int32))) J))) := by
  refine (ev_iload rfl rfl).trans ?_
  refine (ev_const0 (v := (4 : Int32)) rfl am_ci_4).trans ?_
  refine (ev_icmp3 rfl).trans (am_ite (fun c1 => ?_) (fun c1 => ?_))
  · refine (ev_aload rfl rfl).trans ?_
    refine (ev_dupr rfl).trans ?_
    refine (ev_getI rfl (by decide) am_K_139 (by decide) rfl).trans ?_
    refine (ev_const0 (v := (4 : Int32)) rfl am_ci_4).trans ?_
    refine (ev_iadd rfl).trans ?_
    refine (ev_putI rfl (by decide) am_K_139 (by decide) rfl).trans ?_
    exact ev_vret rfl
  · refine (ev_aload rfl rfl).trans ?_
    refine (ev_getR rfl (by decide) am_K_139 (by decide) rfl am_R_139_11).trans ?_
    refine (ev_aload rfl rfl).trans ?_
    refine (ev_getI rfl (by decide) am_K_139 (by decide) rfl).trans ?_
    refine (ev_iload rfl rfl).trans ?_
    refine (ev_iadd rfl).trans ?_
    refine (ev_iload rfl rfl).trans ?_
    refine (ev_const1 (v := (24 : Int32)) rfl am_ci_24).trans ?_
    refine (ev_const1 (v := (8 : Int32)) rfl am_ci_8).trans ?_
    refine (ev_iload rfl rfl).trans ?_
    refine (ev_imul rfl).trans ?_
    refine (ev_isub rfl).trans ?_
    refine (ev_ishr rfl).trans ?_
    refine (ev_const2 (v := (255 : Int32)) rfl am_ci_255).trans ?_
    refine (ev_iand rfl).trans ?_
    refine (ev_iast rfl (by decide) am_K_145).trans (am_itn (fun g2 => ?_))
    refine (ev_iincv (v := (1 : Int32)) (ls' := [.ref 139, .int x1, .int (x2 + (1 : Int32))]) rfl am_ci_1 rfl rfl).trans ?_
    refine (ev_goto rfl).trans ?_
    rfl
-- 221 X12_feed
set_option maxRecDepth 10000 in
theorem sg_221_e0 (X : am_X) (I : Nat → Nat → Int32) (J : Nat → Nat → Int64) (x1 : Int32) (x2 : Int32) (x3 : Int32) (x4 : Int32) (x5 : Int32) : am_ev X amP_221 0 [.ref 139, .int x1, .int x2, .int x3, .int x4, .int x5] [] (am_sh I J) = (if ((I 139 12) + (20 : Int32)) ≤ (1600 : Int32) then (am_do X 220 [.ref 139, .int x1] (am_sh I J)).bind (fun q => am_ev X amP_221 13 [.ref 139, .int x1, .int x2, .int x3, .int x4, .int x5] (q.1.toList ++ []) q.2) else (am_do X 218 [.ref 139, .int (0 : Int32)] (am_sh I J)).bind (fun q => am_ev X amP_221 9 [.ref 139, .int x1, .int x2, .int x3, .int x4, .int x5] (q.1.toList ++ []) q.2)) := by
  refine (ev_aload rfl rfl).trans ?_
  refine (ev_getI rfl (by decide) am_K_139 (by decide) rfl).trans ?_
  refine (ev_const1 (v := (20 : Int32)) rfl am_ci_20).trans ?_
  refine (ev_iadd rfl).trans ?_
  refine (ev_const2 (v := (1600 : Int32)) rfl am_ci_1600).trans ?_
  refine (ev_icmp5 rfl).trans (am_ite (fun c1 => ?_) (fun c1 => ?_))
  · refine (ev_aload rfl rfl).trans ?_
    refine (ev_iload rfl rfl).trans ?_
    exact ev_invv (as := [.int x1]) rfl (by decide) am_K_139 rfl (by simp [Value.category])
  · refine (ev_aload rfl rfl).trans ?_
    refine (ev_const0 (v := (0 : Int32)) rfl am_ci_0).trans ?_
    exact ev_invv (as := [.int (0 : Int32)]) rfl (by decide) am_K_139 rfl (by simp [Value.category])
theorem cl_221 (X : am_X) (I : Nat → Nat → Int32) (J : Nat → Nat → Int64) (x1 : Int32) (x2 : Int32) (x3 : Int32) (x4 : Int32) (x5 : Int32) : am_do X 221 [.ref 139, .int x1, .int x2, .int x3, .int x4, .int x5] (am_sh I J) = am_ev X amP_221 0 [.ref 139, .int x1, .int x2, .int x3, .int x4, .int x5] [] (am_sh I J) := am_do_of rfl rfl rfl
set_option maxRecDepth 10000 in
theorem sg_221_9 (X : am_X) (I : Nat → Nat → Int32) (J : Nat → Nat → Int64) (x1 : Int32) (x2 : Int32) (x3 : Int32) (x4 : Int32) (x5 : Int32) (x6 : Int32) : am_ev X amP_221 9 [.ref 139, .int x1, .int x2, .int x3, .int x4, .int x5] [.int x6] (am_sh I J) = some (some (.int x6), am_sh I J) := by
  exact ev_iret rfl
set_option maxRecDepth 10000 in
theorem sg_221_13 (X : am_X) (I : Nat → Nat → Int32) (J : Nat → Nat → Int64) (x1 : Int32) (x2 : Int32) (x3 : Int32) (x4 : Int32) (x5 : Int32) : am_ev X amP_221 13 [.ref 139, .int x1, .int x2, .int x3, .int x4, .int x5] [] (am_sh I J) = (am_do X 220 [.ref 139, .int x2] (am_sh I J)).bind (fun q => am_ev X amP_221 16 [.ref 139, .int x1, .int x2, .int x3, .int x4, .int x5] (q.1.toList ++ []) q.2) := by
  refine (ev_aload rfl rfl).trans ?_
  refine (ev_iload rfl rfl).trans ?_
  exact ev_invv (as := [.int x2]) rfl (by decide) am_K_139 rfl (by simp [Value.category])
set_option maxRecDepth 10000 in
theorem sg_221_16 (X : am_X) (I : Nat → Nat → Int32) (J : Nat → Nat → Int64) (x1 : Int32) (x2 : Int32) (x3 : Int32) (x4 : Int32) (x5 : Int32) : am_ev X amP_221 16 [.ref 139, .int x1, .int x2, .int x3, .int x4, .int x5] [] (am_sh I J) = (am_do X 220 [.ref 139, .int x3] (am_sh I J)).bind (fun q => am_ev X amP_221 19 [.ref 139, .int x1, .int x2, .int x3, .int x4, .int x5] (q.1.toList ++ []) q.2) := by
  refine (ev_aload rfl rfl).trans ?_
  refine (ev_iload rfl rfl).trans ?_
  exact ev_invv (as := [.int x3]) rfl (by decide) am_K_139 rfl (by simp [Value.category])
set_option maxRecDepth 10000 in
theorem sg_221_19 (X : am_X) (I : Nat → Nat → Int32) (J : Nat → Nat → Int64) (x1 : Int32) (x2 : Int32) (x3 : Int32) (x4 : Int32) (x5 : Int32) : am_ev X amP_221 19 [.ref 139, .int x1, .int x2, .int x3, .int x4, .int x5] [] (am_sh I J) = (am_do X 220 [.ref 139, .int x4] (am_sh I J)).bind (fun q => am_ev X amP_221 22 [.ref 139, .int x1, .int x2, .int x3, .int x4, .int x5] (q.1.toList ++ []) q.2) := by
  refine (ev_aload rfl rfl).trans ?_
  refine (ev_iload rfl rfl).trans ?_
  exact ev_invv (as := [.int x4]) rfl (by decide) am_K_139 rfl (by simp [Value.category])
set_option maxRecDepth 10000 in
theorem sg_221_22 (X : am_X) (I : Nat → Nat → Int32) (J : Nat → Nat → Int64) (x1 : Int32) (x2 : Int32) (x3 : Int32) (x4 : Int32) (x5 : Int32) : am_ev X amP_221 22 [.ref 139, .int x1, .int x2, .int x3, .int x4, .int x5] [] (am_sh I J) = (am_do X 220 [.ref 139, .int x5] (am_sh I J)).bind (fun q => am_ev X amP_221 25 [.ref 139, .int x1, .int x2, .int x3, .int x4, .int x5] (q.1.toList ++ []) q.2) := by
  refine (ev_aload rfl rfl).trans ?_
  refine (ev_iload rfl rfl).trans ?_
  exact ev_invv (as := [.int x5]) rfl (by decide) am_K_139 rfl (by simp [Value.category])
set_option maxRecDepth 10000 in
theorem sg_221_25 (X : am_X) (I : Nat → Nat → Int32) (J : Nat → Nat → Int64) (x1 : Int32) (x2 : Int32) (x3 : Int32) (x4 : Int32) (x5 : Int32) : am_ev X amP_221 25 [.ref 139, .int x1, .int x2, .int x3, .int x4, .int x5] [] (am_sh I J) = some (some (.int (I 139 12)), am_sh I J) := by
  refine (ev_aload rfl rfl).trans ?_
  refine (ev_getI rfl (by decide) am_K_139 (by decide) rfl).trans ?_
  exact ev_iret rfl
-- 222 X12_end
set_option maxRecDepth 10000 in
theorem sg_222_e0 (X : am_X) (I : Nat → Nat → Int32) (J : Nat → Nat → Int64) (x1 : Int32) : am_ev X amP_222 0 [.ref 139, .int x1] [] (am_sh I J) = (if x1 < 0 then (am_do X 219 [.ref 139, .int (0 : Int32)] (am_sh I J)).bind (fun q => am_ev X amP_222 9 [.ref 139, .int x1] (q.1.toList ++ []) q.2) else (if x1 ≤ (I 139 12) then some (some (.int (1 : Int32)), am_sh (am_up I 139 12 x1) J) else (am_do X 219 [.ref 139, .int (0 : Int32)] (am_sh I J)).bind (fun q => am_ev X amP_222 9 [.ref 139, .int x1] (q.1.toList ++ []) q.2))) := by
  refine (ev_iload rfl rfl).trans ?_
  refine (ev_if2 rfl).trans (am_ite (fun c1 => ?_) (fun c1 => ?_))
  · refine (ev_aload rfl rfl).trans ?_
    refine (ev_const0 (v := (0 : Int32)) rfl am_ci_0).trans ?_
    exact ev_invv (as := [.int (0 : Int32)]) rfl (by decide) am_K_139 rfl (by simp [Value.category])
  · refine (ev_iload rfl rfl).trans ?_
    refine (ev_aload rfl rfl).trans ?_
    refine (ev_getI rfl (by decide) am_K_139 (by decide) rfl).trans ?_
    refine (ev_icmp5 rfl).trans (am_ite (fun c2 => ?_) (fun c2 => ?_))
    · refine (ev_aload rfl rfl).trans ?_
      refine (ev_iload rfl rfl).trans ?_
      refine (ev_putI rfl (by decide) am_K_139 (by decide) rfl).trans ?_
      refine (ev_const0 (v := (1 : Int32)) rfl am_ci_1).trans ?_
      exact ev_zret rfl (by decide)
    · refine (ev_aload rfl rfl).trans ?_
      refine (ev_const0 (v := (0 : Int32)) rfl am_ci_0).trans ?_
      exact ev_invv (as := [.int (0 : Int32)]) rfl (by decide) am_K_139 rfl (by simp [Value.category])
theorem cl_222 (X : am_X) (I : Nat → Nat → Int32) (J : Nat → Nat → Int64) (x1 : Int32) : am_do X 222 [.ref 139, .int x1] (am_sh I J) = am_ev X amP_222 0 [.ref 139, .int x1] [] (am_sh I J) := am_do_of rfl rfl rfl
set_option maxRecDepth 10000 in
theorem sg_222_9 (X : am_X) (I : Nat → Nat → Int32) (J : Nat → Nat → Int64) (x1 : Int32) (x2 : Int32) (z0 : x2 = 0 ∨ x2 = 1) : am_ev X amP_222 9 [.ref 139, .int x1] [.int x2] (am_sh I J) = some (some (.int x2), am_sh I J) := by
  exact ev_zret rfl z0
-- 223 X12_taken
set_option maxRecDepth 10000 in
theorem sg_223_e0 (X : am_X) (I : Nat → Nat → Int32) (J : Nat → Nat → Int64) : am_ev X amP_223 0 [.ref 139, .null] [] (am_sh I J) = some (some (.int (I 139 12)), am_sh (am_up I 139 12 (0 : Int32)) J) := by
  refine (ev_aload rfl rfl).trans ?_
  refine (ev_getI rfl (by decide) am_K_139 (by decide) rfl).trans ?_
  refine (ev_istore (ls' := [.ref 139, .int (I 139 12)]) rfl (Nat.le_of_ble_eq_true rfl) rfl).trans ?_
  refine (ev_aload rfl rfl).trans ?_
  refine (ev_const0 (v := (0 : Int32)) rfl am_ci_0).trans ?_
  refine (ev_putI rfl (by decide) am_K_139 (by decide) rfl).trans ?_
  refine (ev_iload rfl rfl).trans ?_
  exact ev_iret rfl
theorem cl_223 (X : am_X) (I : Nat → Nat → Int32) (J : Nat → Nat → Int64) : am_do X 223 [.ref 139] (am_sh I J) = am_ev X amP_223 0 [.ref 139, .null] [] (am_sh I J) := am_do_of rfl rfl rfl
-- 224 X12_byteAt
set_option maxRecDepth 10000 in
theorem sg_224_e0 (X : am_X) (I : Nat → Nat → Int32) (J : Nat → Nat → Int64) (x1 : Int32) : am_ev X amP_224 0 [.ref 139, .int x1] [] (am_sh I J) = (if x1 < 0 then some (some (.int (-1 : Int32)), am_sh I J) else (if (I 139 16) ≤ x1 then some (some (.int (-1 : Int32)), am_sh I J) else (if x1 < 0 ∨ 1600 ≤ x1.toNatClampNeg then none else some (some (.int (I 145 x1.toNatClampNeg)), am_sh I J)))) := by
  refine (ev_iload rfl rfl).trans ?_
  refine (ev_if2 rfl).trans (am_ite (fun c1 => ?_) (fun c1 => ?_))
  · refine (ev_const0 (v := (-1 : Int32)) rfl am_ci_m1).trans ?_
    exact ev_iret rfl
  · refine (ev_iload rfl rfl).trans ?_
    refine (ev_aload rfl rfl).trans ?_
    refine (ev_getI rfl (by decide) am_K_139 (by decide) rfl).trans ?_
    refine (ev_icmp3 rfl).trans (am_ite (fun c2 => ?_) (fun c2 => ?_))
    · refine (ev_const0 (v := (-1 : Int32)) rfl am_ci_m1).trans ?_
      exact ev_iret rfl
    · refine (ev_aload rfl rfl).trans ?_
      refine (ev_getR rfl (by decide) am_K_139 (by decide) rfl am_R_139_11).trans ?_
      refine (ev_iload rfl rfl).trans ?_
      refine (ev_iald rfl (by decide) am_K_145).trans (am_itn (fun g3 => ?_))
      refine (ev_goto rfl).trans ?_
      exact ev_iret rfl
theorem cl_224 (X : am_X) (I : Nat → Nat → Int32) (J : Nat → Nat → Int64) (x1 : Int32) : am_do X 224 [.ref 139, .int x1] (am_sh I J) = am_ev X amP_224 0 [.ref 139, .int x1] [] (am_sh I J) := am_do_of rfl rfl rfl
-- 225 X12_isSmall
set_option maxRecDepth 10000 in
theorem sg_225_e0 (X : am_X) (I : Nat → Nat → Int32) (J : Nat → Nat → Int64) (x1 : Int32) : am_ev X amP_225 0 [.ref 139, .int x1] [] (am_sh I J) = (am_do X 224 [.ref 139, .int x1] (am_sh I J)).bind (fun q => am_ev X amP_225 3 [.ref 139, .int x1] (q.1.toList ++ []) q.2) := by
  refine (ev_aload rfl rfl).trans ?_
  refine (ev_iload rfl rfl).trans ?_
  exact ev_invv (as := [.int x1]) rfl (by decide) am_K_139 rfl (by simp [Value.category])
theorem cl_225 (X : am_X) (I : Nat → Nat → Int32) (J : Nat → Nat → Int64) (x1 : Int32) : am_do X 225 [.ref 139, .int x1] (am_sh I J) = am_ev X amP_225 0 [.ref 139, .int x1] [] (am_sh I J) := am_do_of rfl rfl rfl
set_option maxRecDepth 10000 in
theorem sg_225_3 (X : am_X) (I : Nat → Nat → Int32) (J : Nat → Nat → Int64) (x1 : Int32) (x2 : Int32) : am_ev X amP_225 3 [.ref 139, .int x1] [.int x2] (am_sh I J) = (if x2 < (97 : Int32) then some (some (.int (0 : Int32)), am_sh I J) else (am_do X 224 [.ref 139, .int x1] (am_sh I J)).bind (fun q => am_ev X amP_225 8 [.ref 139, .int x1] (q.1.toList ++ []) q.2)) := by
  refine (ev_const1 (v := (97 : Int32)) rfl am_ci_97).trans ?_
  refine (ev_icmp2 rfl).trans (am_ite (fun c1 => ?_) (fun c1 => ?_))
  · refine (ev_const0 (v := (0 : Int32)) rfl am_ci_0).trans ?_
    exact ev_zret rfl (by decide)
  · refine (ev_aload rfl rfl).trans ?_
    refine (ev_iload rfl rfl).trans ?_
    exact ev_invv (as := [.int x1]) rfl (by decide) am_K_139 rfl (by simp [Value.category])
set_option maxRecDepth 10000 in
theorem sg_225_8 (X : am_X) (I : Nat → Nat → Int32) (J : Nat → Nat → Int64) (x1 : Int32) (x2 : Int32) : am_ev X amP_225 8 [.ref 139, .int x1] [.int x2] (am_sh I J) = (if (122 : Int32) < x2 then some (some (.int (0 : Int32)), am_sh I J) else some (some (.int (1 : Int32)), am_sh I J)) := by
  refine (ev_const1 (v := (122 : Int32)) rfl am_ci_122).trans ?_
  refine (ev_icmp4 rfl).trans (am_ite (fun c1 => ?_) (fun c1 => ?_))
  · refine (ev_const0 (v := (0 : Int32)) rfl am_ci_0).trans ?_
    exact ev_zret rfl (by decide)
  · refine (ev_const0 (v := (1 : Int32)) rfl am_ci_1).trans ?_
    refine (ev_goto rfl).trans ?_
    exact ev_zret rfl (by decide)
-- 226 X12_isDigit
set_option maxRecDepth 10000 in
theorem sg_226_e0 (X : am_X) (I : Nat → Nat → Int32) (J : Nat → Nat → Int64) (x1 : Int32) : am_ev X amP_226 0 [.ref 139, .int x1] [] (am_sh I J) = (am_do X 224 [.ref 139, .int x1] (am_sh I J)).bind (fun q => am_ev X amP_226 3 [.ref 139, .int x1] (q.1.toList ++ []) q.2) := by
  refine (ev_aload rfl rfl).trans ?_
  refine (ev_iload rfl rfl).trans ?_
  exact ev_invv (as := [.int x1]) rfl (by decide) am_K_139 rfl (by simp [Value.category])
theorem cl_226 (X : am_X) (I : Nat → Nat → Int32) (J : Nat → Nat → Int64) (x1 : Int32) : am_do X 226 [.ref 139, .int x1] (am_sh I J) = am_ev X amP_226 0 [.ref 139, .int x1] [] (am_sh I J) := am_do_of rfl rfl rfl
set_option maxRecDepth 10000 in
theorem sg_226_3 (X : am_X) (I : Nat → Nat → Int32) (J : Nat → Nat → Int64) (x1 : Int32) (x2 : Int32) : am_ev X amP_226 3 [.ref 139, .int x1] [.int x2] (am_sh I J) = (if x2 < (48 : Int32) then some (some (.int (0 : Int32)), am_sh I J) else (am_do X 224 [.ref 139, .int x1] (am_sh I J)).bind (fun q => am_ev X amP_226 8 [.ref 139, .int x1] (q.1.toList ++ []) q.2)) := by
  refine (ev_const1 (v := (48 : Int32)) rfl am_ci_48).trans ?_
  refine (ev_icmp2 rfl).trans (am_ite (fun c1 => ?_) (fun c1 => ?_))
  · refine (ev_const0 (v := (0 : Int32)) rfl am_ci_0).trans ?_
    exact ev_zret rfl (by decide)
  · refine (ev_aload rfl rfl).trans ?_
    refine (ev_iload rfl rfl).trans ?_
    exact ev_invv (as := [.int x1]) rfl (by decide) am_K_139 rfl (by simp [Value.category])
set_option maxRecDepth 10000 in
theorem sg_226_8 (X : am_X) (I : Nat → Nat → Int32) (J : Nat → Nat → Int64) (x1 : Int32) (x2 : Int32) : am_ev X amP_226 8 [.ref 139, .int x1] [.int x2] (am_sh I J) = (if (57 : Int32) < x2 then some (some (.int (0 : Int32)), am_sh I J) else some (some (.int (1 : Int32)), am_sh I J)) := by
  refine (ev_const1 (v := (57 : Int32)) rfl am_ci_57).trans ?_
  refine (ev_icmp4 rfl).trans (am_ite (fun c1 => ?_) (fun c1 => ?_))
  · refine (ev_const0 (v := (0 : Int32)) rfl am_ci_0).trans ?_
    exact ev_zret rfl (by decide)
  · refine (ev_const0 (v := (1 : Int32)) rfl am_ci_1).trans ?_
    refine (ev_goto rfl).trans ?_
    exact ev_zret rfl (by decide)
-- 227 X12_here
set_option maxRecDepth 10000 in
theorem sg_227_e0 (X : am_X) (I : Nat → Nat → Int32) (J : Nat → Nat → Int64) : am_ev X amP_227 0 [.ref 139] [] (am_sh I J) = (am_do X 224 [.ref 139, .int (I 139 17)] (am_sh I J)).bind (fun q => am_ev X amP_227 4 [.ref 139] (q.1.toList ++ []) q.2) := by
  refine (ev_aload rfl rfl).trans ?_
  refine (ev_aload rfl rfl).trans ?_
  refine (ev_getI rfl (by decide) am_K_139 (by decide) rfl).trans ?_
  exact ev_invv (as := [.int (I 139 17)]) rfl (by decide) am_K_139 rfl (by simp [Value.category])
theorem cl_227 (X : am_X) (I : Nat → Nat → Int32) (J : Nat → Nat → Int64) : am_do X 227 [.ref 139] (am_sh I J) = am_ev X amP_227 0 [.ref 139] [] (am_sh I J) := am_do_of rfl rfl rfl
set_option maxRecDepth 10000 in
theorem sg_227_0 (X : am_X) (I : Nat → Nat → Int32) (J : Nat → Nat → Int64) : am_ev X amP_227 0 [.ref 139] [] (am_sh I J) = (am_do X 224 [.ref 139, .int (I 139 17)] (am_sh I J)).bind (fun q => am_ev X amP_227 4 [.ref 139] (q.1.toList ++ []) q.2) := by
  refine (ev_aload rfl rfl).trans ?_
  refine (ev_aload rfl rfl).trans ?_
  refine (ev_getI rfl (by decide) am_K_139 (by decide) rfl).trans ?_
  exact ev_invv (as := [.int (I 139 17)]) rfl (by decide) am_K_139 rfl (by simp [Value.category])
set_option maxRecDepth 10000 in
theorem sg_227_4 (X : am_X) (I : Nat → Nat → Int32) (J : Nat → Nat → Int64) (x1 : Int32) : am_ev X amP_227 4 [.ref 139] [.int x1] (am_sh I J) = (if x1 = (10 : Int32) then am_ev X amP_227 0 [.ref 139] [] (am_sh (am_up I 139 17 ((I 139 17) + (1 : Int32))) J) else (am_do X 224 [.ref 139, .int (I 139 17)] (am_sh I J)).bind (fun q => am_ev X amP_227 10 [.ref 139] (q.1.toList ++ []) q.2)) := by
  refine (ev_const1 (v := (10 : Int32)) rfl am_ci_10).trans ?_
  refine (ev_icmp0 rfl).trans (am_ite (fun c1 => ?_) (fun c1 => ?_))
  · refine (ev_aload rfl rfl).trans ?_
    refine (ev_dupr rfl).trans ?_
    refine (ev_getI rfl (by decide) am_K_139 (by decide) rfl).trans ?_
    refine (ev_const0 (v := (1 : Int32)) rfl am_ci_1).trans ?_
    refine (ev_iadd rfl).trans ?_
    refine (ev_putI rfl (by decide) am_K_139 (by decide) rfl).trans ?_
    refine (ev_goto rfl).trans ?_
    rfl
  · refine (ev_aload rfl rfl).trans ?_
    refine (ev_aload rfl rfl).trans ?_
    refine (ev_getI rfl (by decide) am_K_139 (by decide) rfl).trans ?_
    exact ev_invv (as := [.int (I 139 17)]) rfl (by decide) am_K_139 rfl (by simp [Value.category])
set_option maxRecDepth 10000 in
theorem sg_227_10 (X : am_X) (I : Nat → Nat → Int32) (J : Nat → Nat → Int64) (x1 : Int32) : am_ev X amP_227 10 [.ref 139] [.int x1] (am_sh I J) = (if ¬ x1 = (32 : Int32) then (am_do X 224 [.ref 139, .int (I 139 17)] (am_sh I J)).bind (fun q => am_ev X amP_227 23 [.ref 139] (q.1.toList ++ []) q.2) else am_ev X amP_227 0 [.ref 139] [] (am_sh (am_up I 139 17 ((I 139 17) + (1 : Int32))) J)) := by
  refine (ev_const1 (v := (32 : Int32)) rfl am_ci_32).trans ?_
  refine (ev_icmp1 rfl).trans (am_ite (fun c1 => ?_) (fun c1 => ?_))
  · refine (ev_aload rfl rfl).trans ?_
    refine (ev_aload rfl rfl).trans ?_
    refine (ev_getI rfl (by decide) am_K_139 (by decide) rfl).trans ?_
    exact ev_invv (as := [.int (I 139 17)]) rfl (by decide) am_K_139 rfl (by simp [Value.category])
  · refine (ev_aload rfl rfl).trans ?_
    refine (ev_dupr rfl).trans ?_
    refine (ev_getI rfl (by decide) am_K_139 (by decide) rfl).trans ?_
    refine (ev_const0 (v := (1 : Int32)) rfl am_ci_1).trans ?_
    refine (ev_iadd rfl).trans ?_
    refine (ev_putI rfl (by decide) am_K_139 (by decide) rfl).trans ?_
    refine (ev_goto rfl).trans ?_
    rfl
set_option maxRecDepth 10000 in
theorem sg_227_23 (X : am_X) (I : Nat → Nat → Int32) (J : Nat → Nat → Int64) (x1 : Int32) : am_ev X amP_227 23 [.ref 139] [.int x1] (am_sh I J) = some (some (.int x1), am_sh I J) := by
  exact ev_iret rfl
-- 228 X12_fails
set_option maxRecDepth 10000 in
theorem sg_228_e0 (X : am_X) (I : Nat → Nat → Int32) (J : Nat → Nat → Int64) (x1 : Int32) (x2 : Int32) : am_ev X amP_228 0 [.ref 139, .int x1, .int x2] [] (am_sh I J) = (if (I 139 19) = 0 then some (none, am_sh (am_up (am_up I 139 19 x1) 139 20 x2) J) else some (none, am_sh I J)) := by
  refine (ev_aload rfl rfl).trans ?_
  refine (ev_getI rfl (by decide) am_K_139 (by decide) rfl).trans ?_
  refine (ev_if0 rfl).trans (am_ite (fun c1 => ?_) (fun c1 => ?_))
  · refine (ev_aload rfl rfl).trans ?_
    refine (ev_iload rfl rfl).trans ?_
    refine (ev_putI rfl (by decide) am_K_139 (by decide) rfl).trans ?_
    refine (ev_aload rfl rfl).trans ?_
    refine (ev_iload rfl rfl).trans ?_
    refine (ev_putI rfl (by decide) am_K_139 (by decide) rfl).trans ?_
    exact ev_vret rfl
  · exact ev_vret rfl
theorem cl_228 (X : am_X) (I : Nat → Nat → Int32) (J : Nat → Nat → Int64) (x1 : Int32) (x2 : Int32) : am_do X 228 [.ref 139, .int x1, .int x2] (am_sh I J) = am_ev X amP_228 0 [.ref 139, .int x1, .int x2] [] (am_sh I J) := am_do_of rfl rfl rfl
-- 229 X12_goes
set_option maxRecDepth 10000 in
theorem sg_229_e0 (X : am_X) (I : Nat → Nat → Int32) (J : Nat → Nat → Int64) : am_ev X amP_229 0 [.ref 139] [] (am_sh I J) = (if ¬ (I 139 19) = 0 then some (some (.int (0 : Int32)), am_sh I J) else some (some (.int (1 : Int32)), am_sh I J)) := by
  refine (ev_aload rfl rfl).trans ?_
  refine (ev_getI rfl (by decide) am_K_139 (by decide) rfl).trans ?_
  refine (ev_if1 rfl).trans (am_ite (fun c1 => ?_) (fun c1 => ?_))
  · refine (ev_const0 (v := (0 : Int32)) rfl am_ci_0).trans ?_
    exact ev_zret rfl (by decide)
  · refine (ev_const0 (v := (1 : Int32)) rfl am_ci_1).trans ?_
    refine (ev_goto rfl).trans ?_
    exact ev_zret rfl (by decide)
theorem cl_229 (X : am_X) (I : Nat → Nat → Int32) (J : Nat → Nat → Int64) : am_do X 229 [.ref 139] (am_sh I J) = am_ev X amP_229 0 [.ref 139] [] (am_sh I J) := am_do_of rfl rfl rfl
-- 230 X12_word
set_option maxRecDepth 10000 in
theorem sg_230_e0 (X : am_X) (I : Nat → Nat → Int32) (J : Nat → Nat → Int64) : am_ev X amP_230 0 [.ref 139] [] (am_sh I J) = (am_do X 229 [.ref 139] (am_sh I J)).bind (fun q => am_ev X amP_230 2 [.ref 139] (q.1.toList ++ []) q.2) := by
  refine (ev_aload rfl rfl).trans ?_
  exact ev_invv (as := []) rfl (by decide) am_K_139 rfl (by simp [Value.category])
theorem cl_230 (X : am_X) (I : Nat → Nat → Int32) (J : Nat → Nat → Int64) : am_do X 230 [.ref 139] (am_sh I J) = am_ev X amP_230 0 [.ref 139] [] (am_sh I J) := am_do_of rfl rfl rfl
set_option maxRecDepth 10000 in
theorem sg_230_2 (X : am_X) (I : Nat → Nat → Int32) (J : Nat → Nat → Int64) (x1 : Int32) : am_ev X amP_230 2 [.ref 139] [.int x1] (am_sh I J) = (if ¬ x1 = 0 then (am_do X 227 [.ref 139] (am_sh I J)).bind (fun q => am_ev X amP_230 6 [.ref 139] (q.1.toList ++ []) q.2) else some (none, am_sh I J)) := by
  refine (ev_if1 rfl).trans (am_ite (fun c1 => ?_) (fun c1 => ?_))
  · refine (ev_aload rfl rfl).trans ?_
    exact ev_invv (as := []) rfl (by decide) am_K_139 rfl (by simp [Value.category])
  · exact ev_vret rfl
set_option maxRecDepth 10000 in
theorem sg_230_6 (X : am_X) (I : Nat → Nat → Int32) (J : Nat → Nat → Int64) (x1 : Int32) : am_ev X amP_230 6 [.ref 139] [.int x1] (am_sh I J) = (am_do X 225 [.ref 139, .int ((am_up I 139 18 (I 139 17)) 139 17)] (am_sh (am_up I 139 18 (I 139 17)) J)).bind (fun q => am_ev X amP_230 15 [.ref 139] (q.1.toList ++ []) q.2) := by
  refine (ev_popi rfl).trans ?_
  refine (ev_aload rfl rfl).trans ?_
  refine (ev_aload rfl rfl).trans ?_
  refine (ev_getI rfl (by decide) am_K_139 (by decide) rfl).trans ?_
  refine (ev_putI rfl (by decide) am_K_139 (by decide) rfl).trans ?_
  refine (ev_aload rfl rfl).trans ?_
  refine (ev_aload rfl rfl).trans ?_
  refine (ev_getI rfl (by decide) am_K_139 (by decide) rfl).trans ?_
  exact ev_invv (as := [.int ((am_up I 139 18 (I 139 17)) 139 17)]) rfl (by decide) am_K_139 rfl (by simp [Value.category])
set_option maxRecDepth 10000 in
theorem sg_230_15 (X : am_X) (I : Nat → Nat → Int32) (J : Nat → Nat → Int64) (x1 : Int32) : am_ev X amP_230 15 [.ref 139] [.int x1] (am_sh I J) = (if x1 = 0 then (am_do X 228 [.ref 139, .int (1 : Int32), .int (I 139 17)] (am_sh I J)).bind (fun q => am_ev X amP_230 35 [.ref 139] (q.1.toList ++ []) q.2) else (am_do X 225 [.ref 139, .int ((I 139 17) - (1 : Int32))] (am_sh I J)).bind (fun q => am_ev X amP_230 22 [.ref 139] (q.1.toList ++ []) q.2)) := by
  refine (ev_if0 rfl).trans (am_ite (fun c1 => ?_) (fun c1 => ?_))
  · refine (ev_aload rfl rfl).trans ?_
    refine (ev_const0 (v := (1 : Int32)) rfl am_ci_1).trans ?_
    refine (ev_aload rfl rfl).trans ?_
    refine (ev_getI rfl (by decide) am_K_139 (by decide) rfl).trans ?_
    exact ev_invv (as := [.int (I 139 17), .int (1 : Int32)]) rfl (by decide) am_K_139 rfl (by simp [Value.category])
  · refine (ev_aload rfl rfl).trans ?_
    refine (ev_aload rfl rfl).trans ?_
    refine (ev_getI rfl (by decide) am_K_139 (by decide) rfl).trans ?_
    refine (ev_const0 (v := (1 : Int32)) rfl am_ci_1).trans ?_
    refine (ev_isub rfl).trans ?_
    exact ev_invv (as := [.int ((I 139 17) - (1 : Int32))]) rfl (by decide) am_K_139 rfl (by simp [Value.category])
set_option maxRecDepth 10000 in
theorem sg_230_22 (X : am_X) (I : Nat → Nat → Int32) (J : Nat → Nat → Int64) (x1 : Int32) : am_ev X amP_230 22 [.ref 139] [.int x1] (am_sh I J) = (if ¬ x1 = 0 then (am_do X 228 [.ref 139, .int (1 : Int32), .int (I 139 17)] (am_sh I J)).bind (fun q => am_ev X amP_230 35 [.ref 139] (q.1.toList ++ []) q.2) else (am_do X 226 [.ref 139, .int ((I 139 17) - (1 : Int32))] (am_sh I J)).bind (fun q => am_ev X amP_230 29 [.ref 139] (q.1.toList ++ []) q.2)) := by
  refine (ev_if1 rfl).trans (am_ite (fun c1 => ?_) (fun c1 => ?_))
  · refine (ev_aload rfl rfl).trans ?_
    refine (ev_const0 (v := (1 : Int32)) rfl am_ci_1).trans ?_
    refine (ev_aload rfl rfl).trans ?_
    refine (ev_getI rfl (by decide) am_K_139 (by decide) rfl).trans ?_
    exact ev_invv (as := [.int (I 139 17), .int (1 : Int32)]) rfl (by decide) am_K_139 rfl (by simp [Value.category])
  · refine (ev_aload rfl rfl).trans ?_
    refine (ev_aload rfl rfl).trans ?_
    refine (ev_getI rfl (by decide) am_K_139 (by decide) rfl).trans ?_
    refine (ev_const0 (v := (1 : Int32)) rfl am_ci_1).trans ?_
    refine (ev_isub rfl).trans ?_
    exact ev_invv (as := [.int ((I 139 17) - (1 : Int32))]) rfl (by decide) am_K_139 rfl (by simp [Value.category])
set_option maxRecDepth 10000 in
theorem sg_230_29 (X : am_X) (I : Nat → Nat → Int32) (J : Nat → Nat → Int64) (x1 : Int32) : am_ev X amP_230 29 [.ref 139] [.int x1] (am_sh I J) = (if x1 = 0 then am_ev X amP_230 36 [.ref 139] [] (am_sh I J) else (am_do X 228 [.ref 139, .int (1 : Int32), .int (I 139 17)] (am_sh I J)).bind (fun q => am_ev X amP_230 35 [.ref 139] (q.1.toList ++ []) q.2)) := by
  refine (ev_if0 rfl).trans (am_ite (fun c1 => ?_) (fun c1 => ?_))
  · rfl
  · refine (ev_aload rfl rfl).trans ?_
    refine (ev_const0 (v := (1 : Int32)) rfl am_ci_1).trans ?_
    refine (ev_aload rfl rfl).trans ?_
    refine (ev_getI rfl (by decide) am_K_139 (by decide) rfl).trans ?_
    exact ev_invv (as := [.int (I 139 17), .int (1 : Int32)]) rfl (by decide) am_K_139 rfl (by simp [Value.category])
set_option maxRecDepth 10000 in
theorem sg_230_35 (X : am_X) (I : Nat → Nat → Int32) (J : Nat → Nat → Int64) : am_ev X amP_230 35 [.ref 139] [] (am_sh I J) = some (none, am_sh I J) := by
  exact ev_vret rfl
set_option maxRecDepth 10000 in
theorem sg_230_36 (X : am_X) (I : Nat → Nat → Int32) (J : Nat → Nat → Int64) : am_ev X amP_230 36 [.ref 139] [] (am_sh I J) = (am_do X 225 [.ref 139, .int (I 139 17)] (am_sh I J)).bind (fun q => am_ev X amP_230 40 [.ref 139] (q.1.toList ++ []) q.2) := by
  refine (ev_aload rfl rfl).trans ?_
  refine (ev_aload rfl rfl).trans ?_
  refine (ev_getI rfl (by decide) am_K_139 (by decide) rfl).trans ?_
  exact ev_invv (as := [.int (I 139 17)]) rfl (by decide) am_K_139 rfl (by simp [Value.category])
set_option maxRecDepth 10000 in
theorem sg_230_40 (X : am_X) (I : Nat → Nat → Int32) (J : Nat → Nat → Int64) (x1 : Int32) : am_ev X amP_230 40 [.ref 139] [.int x1] (am_sh I J) = (if x1 = 0 then some (none, am_sh I J) else am_ev X amP_230 36 [.ref 139] [] (am_sh (am_up I 139 17 ((I 139 17) + (1 : Int32))) J)) := by
  refine (ev_if0 rfl).trans (am_ite (fun c1 => ?_) (fun c1 => ?_))
  · exact ev_vret rfl
  · refine (ev_aload rfl rfl).trans ?_
    refine (ev_dupr rfl).trans ?_
    refine (ev_getI rfl (by decide) am_K_139 (by decide) rfl).trans ?_
    refine (ev_const0 (v := (1 : Int32)) rfl am_ci_1).trans ?_
    refine (ev_iadd rfl).trans ?_
    refine (ev_putI rfl (by decide) am_K_139 (by decide) rfl).trans ?_
    refine (ev_goto rfl).trans ?_
    rfl
-- 231 X12_own
set_option maxRecDepth 10000 in
theorem sg_231_e0 (X : am_X) (I : Nat → Nat → Int32) (J : Nat → Nat → Int64) : am_ev X amP_231 0 [.ref 139, .null, .null, .null] [] (am_sh I J) = am_ev X amP_231 4 [.ref 139, .int (0 : Int32), .int (0 : Int32), .null] [] (am_sh I J) := by
  refine (ev_const0 (v := (0 : Int32)) rfl am_ci_0).trans ?_
  refine (ev_istore (ls' := [.ref 139, .int (0 : Int32), .null, .null]) rfl (Nat.le_of_ble_eq_true rfl) rfl).trans ?_
  refine (ev_const0 (v := (0 : Int32)) rfl am_ci_0).trans ?_
  refine (ev_istore (ls' := [.ref 139, .int (0 : Int32), .int (0 : Int32), .null]) rfl (Nat.le_of_ble_eq_true rfl) rfl).trans ?_
  rfl
theorem cl_231 (X : am_X) (I : Nat → Nat → Int32) (J : Nat → Nat → Int64) : am_do X 231 [.ref 139] (am_sh I J) = am_ev X amP_231 0 [.ref 139, .null, .null, .null] [] (am_sh I J) := am_do_of rfl rfl rfl
set_option maxRecDepth 10000 in
theorem sg_231_4 (X : am_X) (I : Nat → Nat → Int32) (J : Nat → Nat → Int64) (x1 : Int32) (x2 : Int32) (w3 : Value) (hw3 : w3.category = 1) : am_ev X amP_231 4 [.ref 139, .int x1, .int x2, w3] [] (am_sh I J) = (if (54 : Int32) ≤ x1 then some (some (.int (-1 : Int32)), am_sh I J) else am_ev X amP_231 9 [.ref 139, .int x1, .int x2, .int (0 : Int32)] [] (am_sh I J)) := by
  refine (ev_iload rfl rfl).trans ?_
  refine (ev_const1 (v := (54 : Int32)) rfl am_ci_54).trans ?_
  refine (ev_icmp3 rfl).trans (am_ite (fun c1 => ?_) (fun c1 => ?_))
  · refine (ev_const0 (v := (-1 : Int32)) rfl am_ci_m1).trans ?_
    exact ev_iret rfl
  · refine (ev_const0 (v := (0 : Int32)) rfl am_ci_0).trans ?_
    refine (ev_istore (ls' := [.ref 139, .int x1, .int x2, .int (0 : Int32)]) rfl (Nat.le_of_ble_eq_true rfl) rfl).trans ?_
    rfl
set_option maxRecDepth 10000 in
theorem sg_231_9 (X : am_X) (I : Nat → Nat → Int32) (J : Nat → Nat → Int64) (x1 : Int32) (x2 : Int32) (x3 : Int32) : am_ev X amP_231 9 [.ref 139, .int x1, .int x2, .int x3] [] (am_sh I J) = (if (x1 + x3) < 0 ∨ 54 ≤ (x1 + x3).toNatClampNeg then none else (if (I 147 (x1 + x3).toNatClampNeg) = 0 then (if (x1 + x3) < 0 ∨ 54 ≤ (x1 + x3).toNatClampNeg then none else (if ¬ (I 147 (x1 + x3).toNatClampNeg) = 0 then am_ev X amP_231 57 [.ref 139, .int x1, .int x2, .int x3] [] (am_sh I J) else (if ¬ ((I 139 18) + x3) = (I 139 17) then am_ev X amP_231 57 [.ref 139, .int x1, .int x2, .int x3] [] (am_sh I J) else some (some (.int x2), am_sh I J)))) else (if (I 139 17) ≤ ((I 139 18) + x3) then (if (x1 + x3) < 0 ∨ 54 ≤ (x1 + x3).toNatClampNeg then none else (if ¬ (I 147 (x1 + x3).toNatClampNeg) = 0 then am_ev X amP_231 57 [.ref 139, .int x1, .int x2, .int x3] [] (am_sh I J) else (if ¬ ((I 139 18) + x3) = (I 139 17) then am_ev X amP_231 57 [.ref 139, .int x1, .int x2, .int x3] [] (am_sh I J) else some (some (.int x2), am_sh I J)))) else (if ((I 139 18) + x3) < 0 ∨ 1600 ≤ ((I 139 18) + x3).toNatClampNeg then none else (if (x1 + x3) < 0 ∨ 54 ≤ (x1 + x3).toNatClampNeg then none else (if ¬ ((I 145 ((I 139 18) + x3).toNatClampNeg) - (96 : Int32)) = (I 147 (x1 + x3).toNatClampNeg) then (if (x1 + x3) < 0 ∨ 54 ≤ (x1 + x3).toNatClampNeg then none else (if ¬ (I 147 (x1 + x3).toNatClampNeg) = 0 then am_ev X amP_231 57 [.ref 139, .int x1, .int x2, .int x3] [] (am_sh I J) else (if ¬ ((I 139 18) + x3) = (I 139 17) then am_ev X amP_231 57 [.ref 139, .int x1, .int x2, .int x3] [] (am_sh I J) else some (some (.int x2), am_sh I J)))) else am_ev X amP_231 9 [.ref 139, .int x1, .int x2, .int (x3 + (1 : Int32))] [] (am_sh I J))))))) := by
  refine (ev_aload rfl rfl).trans ?_
  refine (ev_getR rfl (by decide) am_K_139 (by decide) rfl am_R_139_21).trans ?_
  refine (ev_iload rfl rfl).trans ?_
  refine (ev_iload rfl rfl).trans ?_
  refine (ev_iadd rfl).trans ?_
  refine (ev_iald rfl (by decide) am_K_147).trans (am_itn (fun g1 => ?_))
  refine (ev_if0 rfl).trans (am_ite (fun c2 => ?_) (fun c2 => ?_))
  · refine (ev_aload rfl rfl).trans ?_
    refine (ev_getR rfl (by decide) am_K_139 (by decide) rfl am_R_139_21).trans ?_
    refine (ev_iload rfl rfl).trans ?_
    refine (ev_iload rfl rfl).trans ?_
    refine (ev_iadd rfl).trans ?_
    refine (ev_iald rfl (by decide) am_K_147).trans (am_itn (fun g3 => ?_))
    refine (ev_if1 rfl).trans (am_ite (fun c4 => ?_) (fun c4 => ?_))
    · rfl
    · refine (ev_aload rfl rfl).trans ?_
      refine (ev_getI rfl (by decide) am_K_139 (by decide) rfl).trans ?_
      refine (ev_iload rfl rfl).trans ?_
      refine (ev_iadd rfl).trans ?_
      refine (ev_aload rfl rfl).trans ?_
      refine (ev_getI rfl (by decide) am_K_139 (by decide) rfl).trans ?_
      refine (ev_icmp1 rfl).trans (am_ite (fun c5 => ?_) (fun c5 => ?_))
      · rfl
      · refine (ev_iload rfl rfl).trans ?_
        exact ev_iret rfl
  · refine (ev_aload rfl rfl).trans ?_
    refine (ev_getI rfl (by decide) am_K_139 (by decide) rfl).trans ?_
    refine (ev_iload rfl rfl).trans ?_
    refine (ev_iadd rfl).trans ?_
    refine (ev_aload rfl rfl).trans ?_
    refine (ev_getI rfl (by decide) am_K_139 (by decide) rfl).trans ?_
    refine (ev_icmp3 rfl).trans (am_ite (fun c3 => ?_) (fun c3 => ?_))
    · refine (ev_aload rfl rfl).trans ?_
      refine (ev_getR rfl (by decide) am_K_139 (by decide) rfl am_R_139_21).trans ?_
      refine (ev_iload rfl rfl).trans ?_
      refine (ev_iload rfl rfl).trans ?_
      refine (ev_iadd rfl).trans ?_
      refine (ev_iald rfl (by decide) am_K_147).trans (am_itn (fun g4 => ?_))
      refine (ev_if1 rfl).trans (am_ite (fun c5 => ?_) (fun c5 => ?_))
      · rfl
      · refine (ev_aload rfl rfl).trans ?_
        refine (ev_getI rfl (by decide) am_K_139 (by decide) rfl).trans ?_
        refine (ev_iload rfl rfl).trans ?_
        refine (ev_iadd rfl).trans ?_
        refine (ev_aload rfl rfl).trans ?_
        refine (ev_getI rfl (by decide) am_K_139 (by decide) rfl).trans ?_
        refine (ev_icmp1 rfl).trans (am_ite (fun c6 => ?_) (fun c6 => ?_))
        · rfl
        · refine (ev_iload rfl rfl).trans ?_
          exact ev_iret rfl
    · refine (ev_aload rfl rfl).trans ?_
      refine (ev_getR rfl (by decide) am_K_139 (by decide) rfl am_R_139_11).trans ?_
      refine (ev_aload rfl rfl).trans ?_
      refine (ev_getI rfl (by decide) am_K_139 (by decide) rfl).trans ?_
      refine (ev_iload rfl rfl).trans ?_
      refine (ev_iadd rfl).trans ?_
      refine (ev_iald rfl (by decide) am_K_145).trans (am_itn (fun g4 => ?_))
      refine (ev_const1 (v := (96 : Int32)) rfl am_ci_96).trans ?_
      refine (ev_isub rfl).trans ?_
      refine (ev_aload rfl rfl).trans ?_
      refine (ev_getR rfl (by decide) am_K_139 (by decide) rfl am_R_139_21).trans ?_
      refine (ev_iload rfl rfl).trans ?_
      refine (ev_iload rfl rfl).trans ?_
      refine (ev_iadd rfl).trans ?_
      refine (ev_iald rfl (by decide) am_K_147).trans (am_itn (fun g5 => ?_))
      refine (ev_icmp1 rfl).trans (am_ite (fun c6 => ?_) (fun c6 => ?_))
      · refine (ev_aload rfl rfl).trans ?_
        refine (ev_getR rfl (by decide) am_K_139 (by decide) rfl am_R_139_21).trans ?_
        refine (ev_iload rfl rfl).trans ?_
        refine (ev_iload rfl rfl).trans ?_
        refine (ev_iadd rfl).trans ?_
        refine (ev_iald rfl (by decide) am_K_147).trans (am_itn (fun g7 => ?_))
        refine (ev_if1 rfl).trans (am_ite (fun c8 => ?_) (fun c8 => ?_))
        · rfl
        · refine (ev_aload rfl rfl).trans ?_
          refine (ev_getI rfl (by decide) am_K_139 (by decide) rfl).trans ?_
          refine (ev_iload rfl rfl).trans ?_
          refine (ev_iadd rfl).trans ?_
          refine (ev_aload rfl rfl).trans ?_
          refine (ev_getI rfl (by decide) am_K_139 (by decide) rfl).trans ?_
          refine (ev_icmp1 rfl).trans (am_ite (fun c9 => ?_) (fun c9 => ?_))
          · rfl
          · refine (ev_iload rfl rfl).trans ?_
            exact ev_iret rfl
      · refine (ev_iincv (v := (1 : Int32)) (ls' := [.ref 139, .int x1, .int x2, .int (x3 + (1 : Int32))]) rfl am_ci_1 rfl rfl).trans ?_
        refine (ev_goto rfl).trans ?_
        rfl
set_option maxRecDepth 10000 in
theorem sg_231_57 (X : am_X) (I : Nat → Nat → Int32) (J : Nat → Nat → Int64) (x1 : Int32) (x2 : Int32) (x3 : Int32) : am_ev X amP_231 57 [.ref 139, .int x1, .int x2, .int x3] [] (am_sh I J) = (if x1 < 0 ∨ 54 ≤ x1.toNatClampNeg then none else (if (I 147 x1.toNatClampNeg) = 0 then am_ev X amP_231 4 [.ref 139, .int (x1 + (1 : Int32)), .int (x2 + (1 : Int32)), .int x3] [] (am_sh I J) else am_ev X amP_231 57 [.ref 139, .int (x1 + (1 : Int32)), .int x2, .int x3] [] (am_sh I J))) := by
  refine (ev_aload rfl rfl).trans ?_
  refine (ev_getR rfl (by decide) am_K_139 (by decide) rfl am_R_139_21).trans ?_
  refine (ev_iload rfl rfl).trans ?_
  refine (ev_iald rfl (by decide) am_K_147).trans (am_itn (fun g1 => ?_))
  refine (ev_if0 rfl).trans (am_ite (fun c2 => ?_) (fun c2 => ?_))
  · refine (ev_iincv (v := (1 : Int32)) (ls' := [.ref 139, .int (x1 + (1 : Int32)), .int x2, .int x3]) rfl am_ci_1 rfl rfl).trans ?_
    refine (ev_iincv (v := (1 : Int32)) (ls' := [.ref 139, .int (x1 + (1 : Int32)), .int (x2 + (1 : Int32)), .int x3]) rfl am_ci_1 rfl rfl).trans ?_
    refine (ev_goto rfl).trans ?_
    rfl
  · refine (ev_iincv (v := (1 : Int32)) (ls' := [.ref 139, .int (x1 + (1 : Int32)), .int x2, .int x3]) rfl am_ci_1 rfl rfl).trans ?_
    refine (ev_goto rfl).trans ?_
    rfl
-- 232 X12_must
set_option maxRecDepth 10000 in
theorem sg_232_e0 (X : am_X) (I : Nat → Nat → Int32) (J : Nat → Nat → Int64) (x1 : Int32) : am_ev X amP_232 0 [.ref 139, .int x1] [] (am_sh I J) = (am_do X 230 [.ref 139] (am_sh I J)).bind (fun q => am_ev X amP_232 2 [.ref 139, .int x1] (q.1.toList ++ []) q.2) := by
  refine (ev_aload rfl rfl).trans ?_
  exact ev_invv (as := []) rfl (by decide) am_K_139 rfl (by simp [Value.category])
theorem cl_232 (X : am_X) (I : Nat → Nat → Int32) (J : Nat → Nat → Int64) (x1 : Int32) : am_do X 232 [.ref 139, .int x1] (am_sh I J) = am_ev X amP_232 0 [.ref 139, .int x1] [] (am_sh I J) := am_do_of rfl rfl rfl
set_option maxRecDepth 10000 in
theorem sg_232_2 (X : am_X) (I : Nat → Nat → Int32) (J : Nat → Nat → Int64) (x1 : Int32) : am_ev X amP_232 2 [.ref 139, .int x1] [] (am_sh I J) = (am_do X 229 [.ref 139] (am_sh I J)).bind (fun q => am_ev X amP_232 4 [.ref 139, .int x1] (q.1.toList ++ []) q.2) := by
  refine (ev_aload rfl rfl).trans ?_
  exact ev_invv (as := []) rfl (by decide) am_K_139 rfl (by simp [Value.category])
set_option maxRecDepth 10000 in
theorem sg_232_4 (X : am_X) (I : Nat → Nat → Int32) (J : Nat → Nat → Int64) (x1 : Int32) (x2 : Int32) : am_ev X amP_232 4 [.ref 139, .int x1] [.int x2] (am_sh I J) = (if x2 = 0 then some (none, am_sh I J) else (am_do X 231 [.ref 139] (am_sh I J)).bind (fun q => am_ev X amP_232 7 [.ref 139, .int x1] (q.1.toList ++ []) q.2)) := by
  refine (ev_if0 rfl).trans (am_ite (fun c1 => ?_) (fun c1 => ?_))
  · exact ev_vret rfl
  · refine (ev_aload rfl rfl).trans ?_
    exact ev_invv (as := []) rfl (by decide) am_K_139 rfl (by simp [Value.category])
set_option maxRecDepth 10000 in
theorem sg_232_7 (X : am_X) (I : Nat → Nat → Int32) (J : Nat → Nat → Int64) (x1 : Int32) (x2 : Int32) : am_ev X amP_232 7 [.ref 139, .int x1] [.int x2] (am_sh I J) = (if x2 = x1 then some (none, am_sh I J) else (am_do X 228 [.ref 139, .int (1 : Int32), .int (I 139 18)] (am_sh I J)).bind (fun q => am_ev X amP_232 14 [.ref 139, .int x1] (q.1.toList ++ []) q.2)) := by
  refine (ev_iload rfl rfl).trans ?_
  refine (ev_icmp0 rfl).trans (am_ite (fun c1 => ?_) (fun c1 => ?_))
  · exact ev_vret rfl
  · refine (ev_aload rfl rfl).trans ?_
    refine (ev_const0 (v := (1 : Int32)) rfl am_ci_1).trans ?_
    refine (ev_aload rfl rfl).trans ?_
    refine (ev_getI rfl (by decide) am_K_139 (by decide) rfl).trans ?_
    exact ev_invv (as := [.int (I 139 18), .int (1 : Int32)]) rfl (by decide) am_K_139 rfl (by simp [Value.category])
set_option maxRecDepth 10000 in
theorem sg_232_14 (X : am_X) (I : Nat → Nat → Int32) (J : Nat → Nat → Int64) (x1 : Int32) : am_ev X amP_232 14 [.ref 139, .int x1] [] (am_sh I J) = some (none, am_sh I J) := by
  exact ev_vret rfl
-- 233 X12_endsWell
set_option maxRecDepth 10000 in
theorem sg_233_e0 (X : am_X) (I : Nat → Nat → Int32) (J : Nat → Nat → Int64) : am_ev X amP_233 0 [.ref 139] [] (am_sh I J) = (am_do X 229 [.ref 139] (am_sh I J)).bind (fun q => am_ev X amP_233 2 [.ref 139] (q.1.toList ++ []) q.2) := by
  refine (ev_aload rfl rfl).trans ?_
  exact ev_invv (as := []) rfl (by decide) am_K_139 rfl (by simp [Value.category])
theorem cl_233 (X : am_X) (I : Nat → Nat → Int32) (J : Nat → Nat → Int64) : am_do X 233 [.ref 139] (am_sh I J) = am_ev X amP_233 0 [.ref 139] [] (am_sh I J) := am_do_of rfl rfl rfl
set_option maxRecDepth 10000 in
theorem sg_233_2 (X : am_X) (I : Nat → Nat → Int32) (J : Nat → Nat → Int64) (x1 : Int32) : am_ev X amP_233 2 [.ref 139] [.int x1] (am_sh I J) = (if ¬ x1 = 0 then (am_do X 227 [.ref 139] (am_sh I J)).bind (fun q => am_ev X amP_233 6 [.ref 139] (q.1.toList ++ []) q.2) else some (none, am_sh I J)) := by
  refine (ev_if1 rfl).trans (am_ite (fun c1 => ?_) (fun c1 => ?_))
  · refine (ev_aload rfl rfl).trans ?_
    exact ev_invv (as := []) rfl (by decide) am_K_139 rfl (by simp [Value.category])
  · exact ev_vret rfl
set_option maxRecDepth 10000 in
theorem sg_233_6 (X : am_X) (I : Nat → Nat → Int32) (J : Nat → Nat → Int64) (x1 : Int32) : am_ev X amP_233 6 [.ref 139] [.int x1] (am_sh I J) = (if ¬ x1 = (59 : Int32) then (am_do X 228 [.ref 139, .int (1 : Int32), .int (I 139 17)] (am_sh I J)).bind (fun q => am_ev X amP_233 20 [.ref 139] (q.1.toList ++ []) q.2) else some (none, am_sh (am_up I 139 17 ((I 139 17) + (1 : Int32))) J)) := by
  refine (ev_const1 (v := (59 : Int32)) rfl am_ci_59).trans ?_
  refine (ev_icmp1 rfl).trans (am_ite (fun c1 => ?_) (fun c1 => ?_))
  · refine (ev_aload rfl rfl).trans ?_
    refine (ev_const0 (v := (1 : Int32)) rfl am_ci_1).trans ?_
    refine (ev_aload rfl rfl).trans ?_
    refine (ev_getI rfl (by decide) am_K_139 (by decide) rfl).trans ?_
    exact ev_invv (as := [.int (I 139 17), .int (1 : Int32)]) rfl (by decide) am_K_139 rfl (by simp [Value.category])
  · refine (ev_aload rfl rfl).trans ?_
    refine (ev_dupr rfl).trans ?_
    refine (ev_getI rfl (by decide) am_K_139 (by decide) rfl).trans ?_
    refine (ev_const0 (v := (1 : Int32)) rfl am_ci_1).trans ?_
    refine (ev_iadd rfl).trans ?_
    refine (ev_putI rfl (by decide) am_K_139 (by decide) rfl).trans ?_
    refine (ev_goto rfl).trans ?_
    exact ev_vret rfl
set_option maxRecDepth 10000 in
theorem sg_233_20 (X : am_X) (I : Nat → Nat → Int32) (J : Nat → Nat → Int64) : am_ev X amP_233 20 [.ref 139] [] (am_sh I J) = some (none, am_sh I J) := by
  exact ev_vret rfl
-- 234 X12_told
set_option maxRecDepth 10000 in
theorem sg_234_e0 (X : am_X) (I : Nat → Nat → Int32) (J : Nat → Nat → Int64) (x1 : Int32) (x2 : Int32) (x3 : Int32) : am_ev X amP_234 0 [.ref 139, .int x1, .int x2, .int x3, .null] [] (am_sh I J) = (am_do X 232 [.ref 139, .int x1] (am_sh I J)).bind (fun q => am_ev X amP_234 3 [.ref 139, .int x1, .int x2, .int x3, .null] (q.1.toList ++ []) q.2) := by
  refine (ev_aload rfl rfl).trans ?_
  refine (ev_iload rfl rfl).trans ?_
  exact ev_invv (as := [.int x1]) rfl (by decide) am_K_139 rfl (by simp [Value.category])
theorem cl_234 (X : am_X) (I : Nat → Nat → Int32) (J : Nat → Nat → Int64) (x1 : Int32) (x2 : Int32) (x3 : Int32) : am_do X 234 [.ref 139, .int x1, .int x2, .int x3] (am_sh I J) = am_ev X amP_234 0 [.ref 139, .int x1, .int x2, .int x3, .null] [] (am_sh I J) := am_do_of rfl rfl rfl
set_option maxRecDepth 10000 in
theorem sg_234_3 (X : am_X) (I : Nat → Nat → Int32) (J : Nat → Nat → Int64) (x1 : Int32) (x2 : Int32) (x3 : Int32) (w4 : Value) (hw4 : w4.category = 1) : am_ev X amP_234 3 [.ref 139, .int x1, .int x2, .int x3, w4] [] (am_sh I J) = (am_do X 229 [.ref 139] (am_sh I J)).bind (fun q => am_ev X amP_234 5 [.ref 139, .int x1, .int x2, .int x3, w4] (q.1.toList ++ []) q.2) := by
  refine (ev_aload rfl rfl).trans ?_
  exact ev_invv (as := []) rfl (by decide) am_K_139 rfl (by simp [Value.category])
set_option maxRecDepth 10000 in
theorem sg_234_5 (X : am_X) (I : Nat → Nat → Int32) (J : Nat → Nat → Int64) (x1 : Int32) (x2 : Int32) (x3 : Int32) (w4 : Value) (x5 : Int32) (hw4 : w4.category = 1) : am_ev X amP_234 5 [.ref 139, .int x1, .int x2, .int x3, w4] [.int x5] (am_sh I J) = (if ¬ x5 = 0 then (am_do X 227 [.ref 139] (am_sh I J)).bind (fun q => am_ev X amP_234 10 [.ref 139, .int x1, .int x2, .int x3, w4] (q.1.toList ++ []) q.2) else some (some (.int (0 : Int32)), am_sh I J)) := by
  refine (ev_if1 rfl).trans (am_ite (fun c1 => ?_) (fun c1 => ?_))
  · refine (ev_aload rfl rfl).trans ?_
    exact ev_invv (as := []) rfl (by decide) am_K_139 rfl (by simp [Value.category])
  · refine (ev_const0 (v := (0 : Int32)) rfl am_ci_0).trans ?_
    exact ev_iret rfl
set_option maxRecDepth 10000 in
theorem sg_234_10 (X : am_X) (I : Nat → Nat → Int32) (J : Nat → Nat → Int64) (x1 : Int32) (x2 : Int32) (x3 : Int32) (w4 : Value) (x5 : Int32) (hw4 : w4.category = 1) : am_ev X amP_234 10 [.ref 139, .int x1, .int x2, .int x3, w4] [.int x5] (am_sh I J) = (am_do X 226 [.ref 139, .int ((am_up I 139 18 (I 139 17)) 139 17)] (am_sh (am_up I 139 18 (I 139 17)) J)).bind (fun q => am_ev X amP_234 19 [.ref 139, .int x1, .int x2, .int x3, w4] (q.1.toList ++ []) q.2) := by
  refine (ev_popi rfl).trans ?_
  refine (ev_aload rfl rfl).trans ?_
  refine (ev_aload rfl rfl).trans ?_
  refine (ev_getI rfl (by decide) am_K_139 (by decide) rfl).trans ?_
  refine (ev_putI rfl (by decide) am_K_139 (by decide) rfl).trans ?_
  refine (ev_aload rfl rfl).trans ?_
  refine (ev_aload rfl rfl).trans ?_
  refine (ev_getI rfl (by decide) am_K_139 (by decide) rfl).trans ?_
  exact ev_invv (as := [.int ((am_up I 139 18 (I 139 17)) 139 17)]) rfl (by decide) am_K_139 rfl (by simp [Value.category])
set_option maxRecDepth 10000 in
theorem sg_234_19 (X : am_X) (I : Nat → Nat → Int32) (J : Nat → Nat → Int64) (x1 : Int32) (x2 : Int32) (x3 : Int32) (w4 : Value) (x5 : Int32) (hw4 : w4.category = 1) : am_ev X amP_234 19 [.ref 139, .int x1, .int x2, .int x3, w4] [.int x5] (am_sh I J) = (if x5 = 0 then (am_do X 228 [.ref 139, .int (1 : Int32), .int (I 139 17)] (am_sh I J)).bind (fun q => am_ev X amP_234 39 [.ref 139, .int x1, .int x2, .int x3, w4] (q.1.toList ++ []) q.2) else (am_do X 225 [.ref 139, .int ((I 139 17) - (1 : Int32))] (am_sh I J)).bind (fun q => am_ev X amP_234 26 [.ref 139, .int x1, .int x2, .int x3, w4] (q.1.toList ++ []) q.2)) := by
  refine (ev_if0 rfl).trans (am_ite (fun c1 => ?_) (fun c1 => ?_))
  · refine (ev_aload rfl rfl).trans ?_
    refine (ev_const0 (v := (1 : Int32)) rfl am_ci_1).trans ?_
    refine (ev_aload rfl rfl).trans ?_
    refine (ev_getI rfl (by decide) am_K_139 (by decide) rfl).trans ?_
    exact ev_invv (as := [.int (I 139 17), .int (1 : Int32)]) rfl (by decide) am_K_139 rfl (by simp [Value.category])
  · refine (ev_aload rfl rfl).trans ?_
    refine (ev_aload rfl rfl).trans ?_
    refine (ev_getI rfl (by decide) am_K_139 (by decide) rfl).trans ?_
    refine (ev_const0 (v := (1 : Int32)) rfl am_ci_1).trans ?_
    refine (ev_isub rfl).trans ?_
    exact ev_invv (as := [.int ((I 139 17) - (1 : Int32))]) rfl (by decide) am_K_139 rfl (by simp [Value.category])
set_option maxRecDepth 10000 in
theorem sg_234_26 (X : am_X) (I : Nat → Nat → Int32) (J : Nat → Nat → Int64) (x1 : Int32) (x2 : Int32) (x3 : Int32) (w4 : Value) (x5 : Int32) (hw4 : w4.category = 1) : am_ev X amP_234 26 [.ref 139, .int x1, .int x2, .int x3, w4] [.int x5] (am_sh I J) = (if ¬ x5 = 0 then (am_do X 228 [.ref 139, .int (1 : Int32), .int (I 139 17)] (am_sh I J)).bind (fun q => am_ev X amP_234 39 [.ref 139, .int x1, .int x2, .int x3, w4] (q.1.toList ++ []) q.2) else (am_do X 226 [.ref 139, .int ((I 139 17) - (1 : Int32))] (am_sh I J)).bind (fun q => am_ev X amP_234 33 [.ref 139, .int x1, .int x2, .int x3, w4] (q.1.toList ++ []) q.2)) := by
  refine (ev_if1 rfl).trans (am_ite (fun c1 => ?_) (fun c1 => ?_))
  · refine (ev_aload rfl rfl).trans ?_
    refine (ev_const0 (v := (1 : Int32)) rfl am_ci_1).trans ?_
    refine (ev_aload rfl rfl).trans ?_
    refine (ev_getI rfl (by decide) am_K_139 (by decide) rfl).trans ?_
    exact ev_invv (as := [.int (I 139 17), .int (1 : Int32)]) rfl (by decide) am_K_139 rfl (by simp [Value.category])
  · refine (ev_aload rfl rfl).trans ?_
    refine (ev_aload rfl rfl).trans ?_
    refine (ev_getI rfl (by decide) am_K_139 (by decide) rfl).trans ?_
    refine (ev_const0 (v := (1 : Int32)) rfl am_ci_1).trans ?_
    refine (ev_isub rfl).trans ?_
    exact ev_invv (as := [.int ((I 139 17) - (1 : Int32))]) rfl (by decide) am_K_139 rfl (by simp [Value.category])
set_option maxRecDepth 10000 in
theorem sg_234_33 (X : am_X) (I : Nat → Nat → Int32) (J : Nat → Nat → Int64) (x1 : Int32) (x2 : Int32) (x3 : Int32) (w4 : Value) (x5 : Int32) (hw4 : w4.category = 1) : am_ev X amP_234 33 [.ref 139, .int x1, .int x2, .int x3, w4] [.int x5] (am_sh I J) = (if x5 = 0 then am_ev X amP_234 43 [.ref 139, .int x1, .int x2, .int x3, .int (0 : Int32)] [] (am_sh I J) else (am_do X 228 [.ref 139, .int (1 : Int32), .int (I 139 17)] (am_sh I J)).bind (fun q => am_ev X amP_234 39 [.ref 139, .int x1, .int x2, .int x3, w4] (q.1.toList ++ []) q.2)) := by
  refine (ev_if0 rfl).trans (am_ite (fun c1 => ?_) (fun c1 => ?_))
  · refine (ev_const0 (v := (0 : Int32)) rfl am_ci_0).trans ?_
    refine (ev_istore (ls' := [.ref 139, .int x1, .int x2, .int x3, .int (0 : Int32)]) rfl (Nat.le_of_ble_eq_true rfl) rfl).trans ?_
    rfl
  · refine (ev_aload rfl rfl).trans ?_
    refine (ev_const0 (v := (1 : Int32)) rfl am_ci_1).trans ?_
    refine (ev_aload rfl rfl).trans ?_
    refine (ev_getI rfl (by decide) am_K_139 (by decide) rfl).trans ?_
    exact ev_invv (as := [.int (I 139 17), .int (1 : Int32)]) rfl (by decide) am_K_139 rfl (by simp [Value.category])
set_option maxRecDepth 10000 in
theorem sg_234_39 (X : am_X) (I : Nat → Nat → Int32) (J : Nat → Nat → Int64) (x1 : Int32) (x2 : Int32) (x3 : Int32) (w4 : Value) (hw4 : w4.category = 1) : am_ev X amP_234 39 [.ref 139, .int x1, .int x2, .int x3, w4] [] (am_sh I J) = some (some (.int (0 : Int32)), am_sh I J) := by
  refine (ev_const0 (v := (0 : Int32)) rfl am_ci_0).trans ?_
  exact ev_iret rfl
set_option maxRecDepth 10000 in
theorem sg_234_43 (X : am_X) (I : Nat → Nat → Int32) (J : Nat → Nat → Int64) (x1 : Int32) (x2 : Int32) (x3 : Int32) (x4 : Int32) : am_ev X amP_234 43 [.ref 139, .int x1, .int x2, .int x3, .int x4] [] (am_sh I J) = (am_do X 226 [.ref 139, .int (I 139 17)] (am_sh I J)).bind (fun q => am_ev X amP_234 47 [.ref 139, .int x1, .int x2, .int x3, .int x4] (q.1.toList ++ []) q.2) := by
  refine (ev_aload rfl rfl).trans ?_
  refine (ev_aload rfl rfl).trans ?_
  refine (ev_getI rfl (by decide) am_K_139 (by decide) rfl).trans ?_
  exact ev_invv (as := [.int (I 139 17)]) rfl (by decide) am_K_139 rfl (by simp [Value.category])
set_option maxRecDepth 10000 in
theorem sg_234_47 (X : am_X) (I : Nat → Nat → Int32) (J : Nat → Nat → Int64) (x1 : Int32) (x2 : Int32) (x3 : Int32) (x4 : Int32) (x5 : Int32) : am_ev X amP_234 47 [.ref 139, .int x1, .int x2, .int x3, .int x4] [.int x5] (am_sh I J) = (if x5 = 0 then (am_do X 214 [.int x4, .int x2, .int x3] (am_sh I J)).bind (fun q => am_ev X amP_234 85 [.ref 139, .int x1, .int x2, .int x3, .int x4] (q.1.toList ++ []) q.2) else (am_do X 229 [.ref 139] (am_sh I J)).bind (fun q => am_ev X amP_234 50 [.ref 139, .int x1, .int x2, .int x3, .int x4] (q.1.toList ++ []) q.2)) := by
  refine (ev_if0 rfl).trans (am_ite (fun c1 => ?_) (fun c1 => ?_))
  · refine (ev_iload rfl rfl).trans ?_
    refine (ev_iload rfl rfl).trans ?_
    refine (ev_iload rfl rfl).trans ?_
    exact ev_invs (as := [.int x3, .int x2, .int x4]) rfl rfl (by simp [Value.category])
  · refine (ev_aload rfl rfl).trans ?_
    exact ev_invv (as := []) rfl (by decide) am_K_139 rfl (by simp [Value.category])
set_option maxRecDepth 10000 in
theorem sg_234_50 (X : am_X) (I : Nat → Nat → Int32) (J : Nat → Nat → Int64) (x1 : Int32) (x2 : Int32) (x3 : Int32) (x4 : Int32) (x5 : Int32) : am_ev X amP_234 50 [.ref 139, .int x1, .int x2, .int x3, .int x4] [.int x5] (am_sh I J) = (if x5 = 0 then (am_do X 214 [.int x4, .int x2, .int x3] (am_sh I J)).bind (fun q => am_ev X amP_234 85 [.ref 139, .int x1, .int x2, .int x3, .int x4] (q.1.toList ++ []) q.2) else (if ¬ ((I 139 17) - (I 139 18)) = (3 : Int32) then (am_do X 224 [.ref 139, .int (I 139 17)] (am_sh I J)).bind (fun q => am_ev X amP_234 70 [.ref 139, .int x1, .int x2, .int x3, .int x4] (q.1.toList ++ [.int ((10 : Int32) * x4)]) q.2) else (am_do X 228 [.ref 139, .int (1 : Int32), .int (I 139 17)] (am_sh I J)).bind (fun q => am_ev X amP_234 63 [.ref 139, .int x1, .int x2, .int x3, .int x4] (q.1.toList ++ []) q.2))) := by
  refine (ev_if0 rfl).trans (am_ite (fun c1 => ?_) (fun c1 => ?_))
  · refine (ev_iload rfl rfl).trans ?_
    refine (ev_iload rfl rfl).trans ?_
    refine (ev_iload rfl rfl).trans ?_
    exact ev_invs (as := [.int x3, .int x2, .int x4]) rfl rfl (by simp [Value.category])
  · refine (ev_aload rfl rfl).trans ?_
    refine (ev_getI rfl (by decide) am_K_139 (by decide) rfl).trans ?_
    refine (ev_aload rfl rfl).trans ?_
    refine (ev_getI rfl (by decide) am_K_139 (by decide) rfl).trans ?_
    refine (ev_isub rfl).trans ?_
    refine (ev_const0 (v := (3 : Int32)) rfl am_ci_3).trans ?_
    refine (ev_icmp1 rfl).trans (am_ite (fun c2 => ?_) (fun c2 => ?_))
    · refine (ev_const1 (v := (10 : Int32)) rfl am_ci_10).trans ?_
      refine (ev_iload rfl rfl).trans ?_
      refine (ev_imul rfl).trans ?_
      refine (ev_aload rfl rfl).trans ?_
      refine (ev_aload rfl rfl).trans ?_
      refine (ev_getI rfl (by decide) am_K_139 (by decide) rfl).trans ?_
      exact ev_invv (as := [.int (I 139 17)]) rfl (by decide) am_K_139 rfl (by simp [Value.category])
    · refine (ev_aload rfl rfl).trans ?_
      refine (ev_const0 (v := (1 : Int32)) rfl am_ci_1).trans ?_
      refine (ev_aload rfl rfl).trans ?_
      refine (ev_getI rfl (by decide) am_K_139 (by decide) rfl).trans ?_
      exact ev_invv (as := [.int (I 139 17), .int (1 : Int32)]) rfl (by decide) am_K_139 rfl (by simp [Value.category])
set_option maxRecDepth 10000 in
theorem sg_234_63 (X : am_X) (I : Nat → Nat → Int32) (J : Nat → Nat → Int64) (x1 : Int32) (x2 : Int32) (x3 : Int32) (x4 : Int32) : am_ev X amP_234 63 [.ref 139, .int x1, .int x2, .int x3, .int x4] [] (am_sh I J) = (am_do X 224 [.ref 139, .int (I 139 17)] (am_sh I J)).bind (fun q => am_ev X amP_234 70 [.ref 139, .int x1, .int x2, .int x3, .int x4] (q.1.toList ++ [.int ((10 : Int32) * x4)]) q.2) := by
  refine (ev_const1 (v := (10 : Int32)) rfl am_ci_10).trans ?_
  refine (ev_iload rfl rfl).trans ?_
  refine (ev_imul rfl).trans ?_
  refine (ev_aload rfl rfl).trans ?_
  refine (ev_aload rfl rfl).trans ?_
  refine (ev_getI rfl (by decide) am_K_139 (by decide) rfl).trans ?_
  exact ev_invv (as := [.int (I 139 17)]) rfl (by decide) am_K_139 rfl (by simp [Value.category])
set_option maxRecDepth 10000 in
theorem sg_234_70 (X : am_X) (I : Nat → Nat → Int32) (J : Nat → Nat → Int64) (x1 : Int32) (x2 : Int32) (x3 : Int32) (x4 : Int32) (x5 : Int32) (x6 : Int32) : am_ev X amP_234 70 [.ref 139, .int x1, .int x2, .int x3, .int x4] [.int x6, .int x5] (am_sh I J) = am_ev X amP_234 43 [.ref 139, .int x1, .int x2, .int x3, .int ((x5 + x6) - (48 : Int32))] [] (am_sh (am_up I 139 17 ((I 139 17) + (1 : Int32))) J) := by
  refine (ev_iadd rfl).trans ?_
  refine (ev_const1 (v := (48 : Int32)) rfl am_ci_48).trans ?_
  refine (ev_isub rfl).trans ?_
  refine (ev_istore (ls' := [.ref 139, .int x1, .int x2, .int x3, .int ((x5 + x6) - (48 : Int32))]) rfl (Nat.le_of_ble_eq_true rfl) rfl).trans ?_
  refine (ev_aload rfl rfl).trans ?_
  refine (ev_dupr rfl).trans ?_
  refine (ev_getI rfl (by decide) am_K_139 (by decide) rfl).trans ?_
  refine (ev_const0 (v := (1 : Int32)) rfl am_ci_1).trans ?_
  refine (ev_iadd rfl).trans ?_
  refine (ev_putI rfl (by decide) am_K_139 (by decide) rfl).trans ?_
  refine (ev_goto rfl).trans ?_
  rfl
set_option maxRecDepth 10000 in
theorem sg_234_85 (X : am_X) (I : Nat → Nat → Int32) (J : Nat → Nat → Int64) (x1 : Int32) (x2 : Int32) (x3 : Int32) (x4 : Int32) (x5 : Int32) : am_ev X amP_234 85 [.ref 139, .int x1, .int x2, .int x3, .int x4] [.int x5] (am_sh I J) = (if ¬ x5 = 0 then (am_do X 229 [.ref 139] (am_sh I J)).bind (fun q => am_ev X amP_234 93 [.ref 139, .int x1, .int x2, .int x3, .int x4] (q.1.toList ++ []) q.2) else (am_do X 228 [.ref 139, .int (2 : Int32), .int (I 139 18)] (am_sh I J)).bind (fun q => am_ev X amP_234 91 [.ref 139, .int x1, .int x2, .int x3, .int x4] (q.1.toList ++ []) q.2)) := by
  refine (ev_if1 rfl).trans (am_ite (fun c1 => ?_) (fun c1 => ?_))
  · refine (ev_aload rfl rfl).trans ?_
    exact ev_invv (as := []) rfl (by decide) am_K_139 rfl (by simp [Value.category])
  · refine (ev_aload rfl rfl).trans ?_
    refine (ev_const0 (v := (2 : Int32)) rfl am_ci_2).trans ?_
    refine (ev_aload rfl rfl).trans ?_
    refine (ev_getI rfl (by decide) am_K_139 (by decide) rfl).trans ?_
    exact ev_invv (as := [.int (I 139 18), .int (2 : Int32)]) rfl (by decide) am_K_139 rfl (by simp [Value.category])
set_option maxRecDepth 10000 in
theorem sg_234_91 (X : am_X) (I : Nat → Nat → Int32) (J : Nat → Nat → Int64) (x1 : Int32) (x2 : Int32) (x3 : Int32) (x4 : Int32) : am_ev X amP_234 91 [.ref 139, .int x1, .int x2, .int x3, .int x4] [] (am_sh I J) = (am_do X 229 [.ref 139] (am_sh I J)).bind (fun q => am_ev X amP_234 93 [.ref 139, .int x1, .int x2, .int x3, .int x4] (q.1.toList ++ []) q.2) := by
  refine (ev_aload rfl rfl).trans ?_
  exact ev_invv (as := []) rfl (by decide) am_K_139 rfl (by simp [Value.category])
set_option maxRecDepth 10000 in
theorem sg_234_93 (X : am_X) (I : Nat → Nat → Int32) (J : Nat → Nat → Int64) (x1 : Int32) (x2 : Int32) (x3 : Int32) (x4 : Int32) (x5 : Int32) : am_ev X amP_234 93 [.ref 139, .int x1, .int x2, .int x3, .int x4] [.int x5] (am_sh I J) = (if x5 = 0 then some (some (.int (0 : Int32)), am_sh I J) else some (some (.int x4), am_sh I J)) := by
  refine (ev_if0 rfl).trans (am_ite (fun c1 => ?_) (fun c1 => ?_))
  · refine (ev_const0 (v := (0 : Int32)) rfl am_ci_0).trans ?_
    exact ev_iret rfl
  · refine (ev_iload rfl rfl).trans ?_
    refine (ev_goto rfl).trans ?_
    exact ev_iret rfl
