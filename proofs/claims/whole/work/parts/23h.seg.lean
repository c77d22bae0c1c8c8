-- 235 X12_isName
set_option maxRecDepth 10000 in
theorem sg_235_e0 (X : am_X) (I : Nat → Nat → Int32) (J : Nat → Nat → Int64) (x1 : Int32) (x2 : Int32) : am_ev X amP_235 0 [.ref 139, .int x1, .int x2, .null, .null, .null] [] (am_sh I J) = am_ev X amP_235 2 [.ref 139, .int x1, .int x2, .int (0 : Int32), .null, .null] [] (am_sh I J) := by
  refine (ev_const0 (v := (0 : Int32)) rfl am_ci_0).trans ?_
  refine (ev_istore (ls' := [.ref 139, .int x1, .int x2, .int (0 : Int32), .null, .null]) rfl (Nat.le_of_ble_eq_true rfl) rfl).trans ?_
  rfl
theorem cl_235 (X : am_X) (I : Nat → Nat → Int32) (J : Nat → Nat → Int64) (x1 : Int32) (x2 : Int32) : am_do X 235 [.ref 139, .int x1, .int x2] (am_sh I J) = am_ev X amP_235 0 [.ref 139, .int x1, .int x2, .null, .null, .null] [] (am_sh I J) := am_do_of rfl rfl rfl
set_option maxRecDepth 10000 in
theorem sg_235_2 (X : am_X) (I : Nat → Nat → Int32) (J : Nat → Nat → Int64) (x1 : Int32) (x2 : Int32) (x3 : Int32) (w4 : Value) (w5 : Value) (hw4 : w4.category = 1) (hw5 : w5.category = 1) : am_ev X amP_235 2 [.ref 139, .int x1, .int x2, .int x3, w4, w5] [] (am_sh I J) = (if (6 : Int32) ≤ x3 then some (some (.int (1 : Int32)), am_sh I J) else (if (I 139 17) ≤ ((I 139 18) + x3) then (if x2 = 0 then (if (((6 : Int32) * x1) + x3) < 0 ∨ 60 ≤ (((6 : Int32) * x1) + x3).toNatClampNeg then none else (if (I 144 (((6 : Int32) * x1) + x3).toNatClampNeg) = (0 : Int32) then am_ev X amP_235 2 [.ref 139, .int x1, .int x2, .int (x3 + (1 : Int32)), .int (0 : Int32), .int (I 144 (((6 : Int32) * x1) + x3).toNatClampNeg)] [] (am_sh I J) else some (some (.int (0 : Int32)), am_sh I J))) else (if (((6 : Int32) * x1) + x3) < 0 ∨ 60 ≤ (((6 : Int32) * x1) + x3).toNatClampNeg then none else (if (I 142 (((6 : Int32) * x1) + x3).toNatClampNeg) = (0 : Int32) then am_ev X amP_235 2 [.ref 139, .int x1, .int x2, .int (x3 + (1 : Int32)), .int (0 : Int32), .int (I 142 (((6 : Int32) * x1) + x3).toNatClampNeg)] [] (am_sh I J) else some (some (.int (0 : Int32)), am_sh I J)))) else (if ((I 139 18) + x3) < 0 ∨ 1600 ≤ ((I 139 18) + x3).toNatClampNeg then none else (if x2 = 0 then (if (((6 : Int32) * x1) + x3) < 0 ∨ 60 ≤ (((6 : Int32) * x1) + x3).toNatClampNeg then none else (if (I 144 (((6 : Int32) * x1) + x3).toNatClampNeg) = ((I 145 ((I 139 18) + x3).toNatClampNeg) - (96 : Int32)) then am_ev X amP_235 2 [.ref 139, .int x1, .int x2, .int (x3 + (1 : Int32)), .int ((I 145 ((I 139 18) + x3).toNatClampNeg) - (96 : Int32)), .int (I 144 (((6 : Int32) * x1) + x3).toNatClampNeg)] [] (am_sh I J) else some (some (.int (0 : Int32)), am_sh I J))) else (if (((6 : Int32) * x1) + x3) < 0 ∨ 60 ≤ (((6 : Int32) * x1) + x3).toNatClampNeg then none else (if (I 142 (((6 : Int32) * x1) + x3).toNatClampNeg) = ((I 145 ((I 139 18) + x3).toNatClampNeg) - (96 : Int32)) then am_ev X amP_235 2 [.ref 139, .int x1, .int x2, .int (x3 + (1 : Int32)), .int ((I 145 ((I 139 18) + x3).toNatClampNeg) - (96 : Int32)), .int (I 142 (((6 : Int32) * x1) + x3).toNatClampNeg)] [] (am_sh I J) else some (some (.int (0 : Int32)), am_sh I J))))))) := by
  refine (ev_iload rfl rfl).trans ?_
  refine (ev_const1 (v := (6 : Int32)) rfl am_ci_6).trans ?_
  refine (ev_icmp3 rfl).trans (am_ite (fun c1 => ?_) (fun c1 => ?_))
  · refine (ev_const0 (v := (1 : Int32)) rfl am_ci_1).trans ?_
    exact ev_zret rfl (by decide)
  · refine (ev_aload rfl rfl).trans ?_
    refine (ev_getI rfl (by decide) am_K_139 (by decide) rfl).trans ?_
    refine (ev_iload rfl rfl).trans ?_
    refine (ev_iadd rfl).trans ?_
    refine (ev_aload rfl rfl).trans ?_
    refine (ev_getI rfl (by decide) am_K_139 (by decide) rfl).trans ?_
    refine (ev_icmp3 rfl).trans (am_ite (fun c2 => ?_) (fun c2 => ?_))
    · refine (ev_const0 (v := (0 : Int32)) rfl am_ci_0).trans ?_
      refine (ev_istore (ls' := [.ref 139, .int x1, .int x2, .int x3, .int (0 : Int32), w5]) rfl (Nat.le_of_ble_eq_true rfl) rfl).trans ?_
      refine (ev_iload rfl rfl).trans ?_
      refine (ev_if0 rfl).trans (am_ite (fun c3 => ?_) (fun c3 => ?_))
      · refine (ev_aload rfl rfl).trans ?_
        refine (ev_getR rfl (by decide) am_K_139 (by decide) rfl am_R_139_10).trans ?_
        refine (ev_const1 (v := (6 : Int32)) rfl am_ci_6).trans ?_
        refine (ev_iload rfl rfl).trans ?_
        refine (ev_imul rfl).trans ?_
        refine (ev_iload rfl rfl).trans ?_
        refine (ev_iadd rfl).trans ?_
        refine (ev_iald rfl (by decide) am_K_144).trans (am_itn (fun g4 => ?_))
        refine (ev_istore (ls' := [.ref 139, .int x1, .int x2, .int x3, .int (0 : Int32), .int (I 144 (((6 : Int32) * x1) + x3).toNatClampNeg)]) rfl (Nat.le_of_ble_eq_true rfl) rfl).trans ?_
        refine (ev_iload rfl rfl).trans ?_
        refine (ev_iload rfl rfl).trans ?_
        refine (ev_icmp0 rfl).trans (am_ite (fun c5 => ?_) (fun c5 => ?_))
        · refine (ev_iincv (v := (1 : Int32)) (ls' := [.ref 139, .int x1, .int x2, .int (x3 + (1 : Int32)), .int (0 : Int32), .int (I 144 (((6 : Int32) * x1) + x3).toNatClampNeg)]) rfl am_ci_1 rfl rfl).trans ?_
          refine (ev_goto rfl).trans ?_
          rfl
        · refine (ev_const0 (v := (0 : Int32)) rfl am_ci_0).trans ?_
          exact ev_zret rfl (by decide)
      · refine (ev_aload rfl rfl).trans ?_
        refine (ev_getR rfl (by decide) am_K_139 (by decide) rfl am_R_139_5).trans ?_
        refine (ev_const1 (v := (6 : Int32)) rfl am_ci_6).trans ?_
        refine (ev_iload rfl rfl).trans ?_
        refine (ev_imul rfl).trans ?_
        refine (ev_iload rfl rfl).trans ?_
        refine (ev_iadd rfl).trans ?_
        refine (ev_iald rfl (by decide) am_K_142).trans (am_itn (fun g4 => ?_))
        refine (ev_goto rfl).trans ?_
        refine (ev_istore (ls' := [.ref 139, .int x1, .int x2, .int x3, .int (0 : Int32), .int (I 142 (((6 : Int32) * x1) + x3).toNatClampNeg)]) rfl (Nat.le_of_ble_eq_true rfl) rfl).trans ?_
        refine (ev_iload rfl rfl).trans ?_
        refine (ev_iload rfl rfl).trans ?_
        refine (ev_icmp0 rfl).trans (am_ite (fun c5 => ?_) (fun c5 => ?_))
        · refine (ev_iincv (v := (1 : Int32)) (ls' := [.ref 139, .int x1, .int x2, .int (x3 + (1 : Int32)), .int (0 : Int32), .int (I 142 (((6 : Int32) * x1) + x3).toNatClampNeg)]) rfl am_ci_1 rfl rfl).trans ?_
          refine (ev_goto rfl).trans ?_
          rfl
        · refine (ev_const0 (v := (0 : Int32)) rfl am_ci_0).trans ?_
          exact ev_zret rfl (by decide)
    · refine (ev_aload rfl rfl).trans ?_
      refine (ev_getR rfl (by decide) am_K_139 (by decide) rfl am_R_139_11).trans ?_
      refine (ev_aload rfl rfl).trans ?_
      refine (ev_getI rfl (by decide) am_K_139 (by decide) rfl).trans ?_
      refine (ev_iload rfl rfl).trans ?_
      refine (ev_iadd rfl).trans ?_
      refine (ev_iald rfl (by decide) am_K_145).trans (am_itn (fun g3 => ?_))
      refine (ev_const1 (v := (96 : Int32)) rfl am_ci_96).trans ?_
      refine (ev_isub rfl).trans ?_
      refine (ev_goto rfl).trans ?_
      refine (ev_istore (ls' := [.ref 139, .int x1, .int x2, .int x3, .int ((I 145 ((I 139 18) + x3).toNatClampNeg) - (96 : Int32)), w5]) rfl (Nat.le_of_ble_eq_true rfl) rfl).trans ?_
      refine (ev_iload rfl rfl).trans ?_
      refine (ev_if0 rfl).trans (am_ite (fun c4 => ?_) (fun c4 => ?_))
      · refine (ev_aload rfl rfl).trans ?_
        refine (ev_getR rfl (by decide) am_K_139 (by decide) rfl am_R_139_10).trans ?_
        refine (ev_const1 (v := (6 : Int32)) rfl am_ci_6).trans ?_
        refine (ev_iload rfl rfl).trans ?_
        refine (ev_imul rfl).trans ?_
        refine (ev_iload rfl rfl).trans ?_
        refine (ev_iadd rfl).trans ?_
        refine (ev_iald rfl (by decide) am_K_144).trans (am_itn (fun g5 => ?_))
        refine (ev_istore (ls' := [.ref 139, .int x1, .int x2, .int x3, .int ((I 145 ((I 139 18) + x3).toNatClampNeg) - (96 : Int32)), .int (I 144 (((6 : Int32) * x1) + x3).toNatClampNeg)]) rfl (Nat.le_of_ble_eq_true rfl) rfl).trans ?_
        refine (ev_iload rfl rfl).trans ?_
        refine (ev_iload rfl rfl).trans ?_
        refine (ev_icmp0 rfl).trans (am_ite (fun c6 => ?_) (fun c6 => ?_))
        · refine (ev_iincv (v := (1 : Int32)) (ls' := [.ref 139, .int x1, .int x2, .int (x3 + (1 : Int32)), .int ((I 145 ((I 139 18) + x3).toNatClampNeg) - (96 : Int32)), .int (I 144 (((6 : Int32) * x1) + x3).toNatClampNeg)]) rfl am_ci_1 rfl rfl).trans ?_
          refine (ev_goto rfl).trans ?_
          rfl
        · refine (ev_const0 (v := (0 : Int32)) rfl am_ci_0).trans ?_
          exact ev_zret rfl (by decide)
      · refine (ev_aload rfl rfl).trans ?_
        refine (ev_getR rfl (by decide) am_K_139 (by decide) rfl am_R_139_5).trans ?_
        refine (ev_const1 (v := (6 : Int32)) rfl am_ci_6).trans ?_
        refine (ev_iload rfl rfl).trans ?_
        refine (ev_imul rfl).trans ?_
        refine (ev_iload rfl rfl).trans ?_
        refine (ev_iadd rfl).trans ?_
        refine (ev_iald rfl (by decide) am_K_142).trans (am_itn (fun g5 => ?_))
        refine (ev_goto rfl).trans ?_
        refine (ev_istore (ls' := [.ref 139, .int x1, .int x2, .int x3, .int ((I 145 ((I 139 18) + x3).toNatClampNeg) - (96 : Int32)), .int (I 142 (((6 : Int32) * x1) + x3).toNatClampNeg)]) rfl (Nat.le_of_ble_eq_true rfl) rfl).trans ?_
        refine (ev_iload rfl rfl).trans ?_
        refine (ev_iload rfl rfl).trans ?_
        refine (ev_icmp0 rfl).trans (am_ite (fun c6 => ?_) (fun c6 => ?_))
        · refine (ev_iincv (v := (1 : Int32)) (ls' := [.ref 139, .int x1, .int x2, .int (x3 + (1 : Int32)), .int ((I 145 ((I 139 18) + x3).toNatClampNeg) - (96 : Int32)), .int (I 142 (((6 : Int32) * x1) + x3).toNatClampNeg)]) rfl am_ci_1 rfl rfl).trans ?_
          refine (ev_goto rfl).trans ?_
          rfl
        · refine (ev_const0 (v := (0 : Int32)) rfl am_ci_0).trans ?_
          exact ev_zret rfl (by decide)
-- 236 X12_freshName
set_option maxRecDepth 10000 in
theorem sg_236_e0 (X : am_X) (I : Nat → Nat → Int32) (J : Nat → Nat → Int64) : am_ev X amP_236 0 [.ref 139, .null] [] (am_sh I J) = (am_do X 230 [.ref 139] (am_sh I J)).bind (fun q => am_ev X amP_236 2 [.ref 139, .null] (q.1.toList ++ []) q.2) := by
  refine (ev_aload rfl rfl).trans ?_
  exact ev_invv (as := []) rfl (by decide) am_K_139 rfl (by simp [Value.category])
theorem cl_236 (X : am_X) (I : Nat → Nat → Int32) (J : Nat → Nat → Int64) : am_do X 236 [.ref 139] (am_sh I J) = am_ev X amP_236 0 [.ref 139, .null] [] (am_sh I J) := am_do_of rfl rfl rfl
set_option maxRecDepth 10000 in
theorem sg_236_2 (X : am_X) (I : Nat → Nat → Int32) (J : Nat → Nat → Int64) (w1 : Value) (hw1 : w1.category = 1) : am_ev X amP_236 2 [.ref 139, w1] [] (am_sh I J) = (am_do X 229 [.ref 139] (am_sh I J)).bind (fun q => am_ev X amP_236 4 [.ref 139, w1] (q.1.toList ++ []) q.2) := by
  refine (ev_aload rfl rfl).trans ?_
  exact ev_invv (as := []) rfl (by decide) am_K_139 rfl (by simp [Value.category])
set_option maxRecDepth 10000 in
theorem sg_236_4 (X : am_X) (I : Nat → Nat → Int32) (J : Nat → Nat → Int64) (w1 : Value) (x2 : Int32) (hw1 : w1.category = 1) : am_ev X amP_236 4 [.ref 139, w1] [.int x2] (am_sh I J) = (if ¬ x2 = 0 then (am_do X 231 [.ref 139] (am_sh I J)).bind (fun q => am_ev X amP_236 8 [.ref 139, w1] (q.1.toList ++ []) q.2) else some (none, am_sh I J)) := by
  refine (ev_if1 rfl).trans (am_ite (fun c1 => ?_) (fun c1 => ?_))
  · refine (ev_aload rfl rfl).trans ?_
    exact ev_invv (as := []) rfl (by decide) am_K_139 rfl (by simp [Value.category])
  · exact ev_vret rfl
set_option maxRecDepth 10000 in
theorem sg_236_8 (X : am_X) (I : Nat → Nat → Int32) (J : Nat → Nat → Int64) (w1 : Value) (x2 : Int32) (hw1 : w1.category = 1) : am_ev X amP_236 8 [.ref 139, w1] [.int x2] (am_sh I J) = (if x2 = (-1 : Int32) then (if ((I 139 17) - (I 139 18)) ≤ (6 : Int32) then am_ev X amP_236 32 [.ref 139, .int (0 : Int32)] [] (am_sh I J) else (am_do X 228 [.ref 139, .int (1 : Int32), .int ((I 139 18) + (6 : Int32))] (am_sh I J)).bind (fun q => am_ev X amP_236 30 [.ref 139, w1] (q.1.toList ++ []) q.2)) else (am_do X 228 [.ref 139, .int (1 : Int32), .int (I 139 18)] (am_sh I J)).bind (fun q => am_ev X amP_236 15 [.ref 139, w1] (q.1.toList ++ []) q.2)) := by
  refine (ev_const0 (v := (-1 : Int32)) rfl am_ci_m1).trans ?_
  refine (ev_icmp0 rfl).trans (am_ite (fun c1 => ?_) (fun c1 => ?_))
  · refine (ev_aload rfl rfl).trans ?_
    refine (ev_getI rfl (by decide) am_K_139 (by decide) rfl).trans ?_
    refine (ev_aload rfl rfl).trans ?_
    refine (ev_getI rfl (by decide) am_K_139 (by decide) rfl).trans ?_
    refine (ev_isub rfl).trans ?_
    refine (ev_const1 (v := (6 : Int32)) rfl am_ci_6).trans ?_
    refine (ev_icmp5 rfl).trans (am_ite (fun c2 => ?_) (fun c2 => ?_))
    · refine (ev_const0 (v := (0 : Int32)) rfl am_ci_0).trans ?_
      refine (ev_istore (ls' := [.ref 139, .int (0 : Int32)]) rfl (Nat.le_of_ble_eq_true rfl) rfl).trans ?_
      rfl
    · refine (ev_aload rfl rfl).trans ?_
      refine (ev_const0 (v := (1 : Int32)) rfl am_ci_1).trans ?_
      refine (ev_aload rfl rfl).trans ?_
      refine (ev_getI rfl (by decide) am_K_139 (by decide) rfl).trans ?_
      refine (ev_const1 (v := (6 : Int32)) rfl am_ci_6).trans ?_
      refine (ev_iadd rfl).trans ?_
      exact ev_invv (as := [.int ((I 139 18) + (6 : Int32)), .int (1 : Int32)]) rfl (by decide) am_K_139 rfl (by simp [Value.category])
  · refine (ev_aload rfl rfl).trans ?_
    refine (ev_const0 (v := (1 : Int32)) rfl am_ci_1).trans ?_
    refine (ev_aload rfl rfl).trans ?_
    refine (ev_getI rfl (by decide) am_K_139 (by decide) rfl).trans ?_
    exact ev_invv (as := [.int (I 139 18), .int (1 : Int32)]) rfl (by decide) am_K_139 rfl (by simp [Value.category])
set_option maxRecDepth 10000 in
theorem sg_236_15 (X : am_X) (I : Nat → Nat → Int32) (J : Nat → Nat → Int64) (w1 : Value) (hw1 : w1.category = 1) : am_ev X amP_236 15 [.ref 139, w1] [] (am_sh I J) = am_ev X amP_236 32 [.ref 139, .int (0 : Int32)] [] (am_sh I J) := by
  refine (ev_goto rfl).trans ?_
  refine (ev_const0 (v := (0 : Int32)) rfl am_ci_0).trans ?_
  refine (ev_istore (ls' := [.ref 139, .int (0 : Int32)]) rfl (Nat.le_of_ble_eq_true rfl) rfl).trans ?_
  rfl
set_option maxRecDepth 10000 in
theorem sg_236_30 (X : am_X) (I : Nat → Nat → Int32) (J : Nat → Nat → Int64) (w1 : Value) (hw1 : w1.category = 1) : am_ev X amP_236 30 [.ref 139, w1] [] (am_sh I J) = am_ev X amP_236 32 [.ref 139, .int (0 : Int32)] [] (am_sh I J) := by
  refine (ev_const0 (v := (0 : Int32)) rfl am_ci_0).trans ?_
  refine (ev_istore (ls' := [.ref 139, .int (0 : Int32)]) rfl (Nat.le_of_ble_eq_true rfl) rfl).trans ?_
  rfl
set_option maxRecDepth 10000 in
theorem sg_236_32 (X : am_X) (I : Nat → Nat → Int32) (J : Nat → Nat → Int64) (x1 : Int32) : am_ev X amP_236 32 [.ref 139, .int x1] [] (am_sh I J) = (am_do X 229 [.ref 139] (am_sh I J)).bind (fun q => am_ev X amP_236 34 [.ref 139, .int x1] (q.1.toList ++ []) q.2) := by
  refine (ev_aload rfl rfl).trans ?_
  exact ev_invv (as := []) rfl (by decide) am_K_139 rfl (by simp [Value.category])
set_option maxRecDepth 10000 in
theorem sg_236_34 (X : am_X) (I : Nat → Nat → Int32) (J : Nat → Nat → Int64) (x1 : Int32) (x2 : Int32) : am_ev X amP_236 34 [.ref 139, .int x1] [.int x2] (am_sh I J) = (if x2 = 0 then am_ev X amP_236 53 [.ref 139, .int (0 : Int32)] [] (am_sh I J) else (if (I 139 6) ≤ x1 then am_ev X amP_236 53 [.ref 139, .int (0 : Int32)] [] (am_sh I J) else (am_do X 235 [.ref 139, .int x1, .int (0 : Int32)] (am_sh I J)).bind (fun q => am_ev X amP_236 43 [.ref 139, .int x1] (q.1.toList ++ []) q.2))) := by
  refine (ev_if0 rfl).trans (am_ite (fun c1 => ?_) (fun c1 => ?_))
  · refine (ev_const0 (v := (0 : Int32)) rfl am_ci_0).trans ?_
    refine (ev_istore (ls' := [.ref 139, .int (0 : Int32)]) rfl (Nat.le_of_ble_eq_true rfl) rfl).trans ?_
    rfl
  · refine (ev_iload rfl rfl).trans ?_
    refine (ev_aload rfl rfl).trans ?_
    refine (ev_getI rfl (by decide) am_K_139 (by decide) rfl).trans ?_
    refine (ev_icmp3 rfl).trans (am_ite (fun c2 => ?_) (fun c2 => ?_))
    · refine (ev_const0 (v := (0 : Int32)) rfl am_ci_0).trans ?_
      refine (ev_istore (ls' := [.ref 139, .int (0 : Int32)]) rfl (Nat.le_of_ble_eq_true rfl) rfl).trans ?_
      rfl
    · refine (ev_aload rfl rfl).trans ?_
      refine (ev_iload rfl rfl).trans ?_
      refine (ev_const0 (v := (0 : Int32)) rfl am_ci_0).trans ?_
      exact ev_invv (as := [.int (0 : Int32), .int x1]) rfl (by decide) am_K_139 rfl (by simp [Value.category])
set_option maxRecDepth 10000 in
theorem sg_236_43 (X : am_X) (I : Nat → Nat → Int32) (J : Nat → Nat → Int64) (x1 : Int32) (x2 : Int32) : am_ev X amP_236 43 [.ref 139, .int x1] [.int x2] (am_sh I J) = (if x2 = 0 then am_ev X amP_236 32 [.ref 139, .int (x1 + (1 : Int32))] [] (am_sh I J) else (am_do X 228 [.ref 139, .int (3 : Int32), .int (I 139 18)] (am_sh I J)).bind (fun q => am_ev X amP_236 49 [.ref 139, .int x1] (q.1.toList ++ []) q.2)) := by
  refine (ev_if0 rfl).trans (am_ite (fun c1 => ?_) (fun c1 => ?_))
  · refine (ev_iincv (v := (1 : Int32)) (ls' := [.ref 139, .int (x1 + (1 : Int32))]) rfl am_ci_1 rfl rfl).trans ?_
    refine (ev_goto rfl).trans ?_
    rfl
  · refine (ev_aload rfl rfl).trans ?_
    refine (ev_const0 (v := (3 : Int32)) rfl am_ci_3).trans ?_
    refine (ev_aload rfl rfl).trans ?_
    refine (ev_getI rfl (by decide) am_K_139 (by decide) rfl).trans ?_
    exact ev_invv (as := [.int (I 139 18), .int (3 : Int32)]) rfl (by decide) am_K_139 rfl (by simp [Value.category])
set_option maxRecDepth 10000 in
theorem sg_236_49 (X : am_X) (I : Nat → Nat → Int32) (J : Nat → Nat → Int64) (x1 : Int32) : am_ev X amP_236 49 [.ref 139, .int x1] [] (am_sh I J) = am_ev X amP_236 32 [.ref 139, .int (x1 + (1 : Int32))] [] (am_sh I J) := by
  refine (ev_iincv (v := (1 : Int32)) (ls' := [.ref 139, .int (x1 + (1 : Int32))]) rfl am_ci_1 rfl rfl).trans ?_
  refine (ev_goto rfl).trans ?_
  rfl
set_option maxRecDepth 10000 in
theorem sg_236_53 (X : am_X) (I : Nat → Nat → Int32) (J : Nat → Nat → Int64) (x1 : Int32) : am_ev X amP_236 53 [.ref 139, .int x1] [] (am_sh I J) = (am_do X 229 [.ref 139] (am_sh I J)).bind (fun q => am_ev X amP_236 55 [.ref 139, .int x1] (q.1.toList ++ []) q.2) := by
  refine (ev_aload rfl rfl).trans ?_
  exact ev_invv (as := []) rfl (by decide) am_K_139 rfl (by simp [Value.category])
set_option maxRecDepth 10000 in
theorem sg_236_55 (X : am_X) (I : Nat → Nat → Int32) (J : Nat → Nat → Int64) (x1 : Int32) (x2 : Int32) : am_ev X amP_236 55 [.ref 139, .int x1] [.int x2] (am_sh I J) = (if x2 = 0 then some (none, am_sh I J) else (if (6 : Int32) ≤ x1 then some (none, am_sh I J) else (if (I 139 17) ≤ ((I 139 18) + x1) then (if (((6 : Int32) * (I 139 6)) + x1) < 0 ∨ 60 ≤ (((6 : Int32) * (I 139 6)) + x1).toNatClampNeg then none else am_ev X amP_236 53 [.ref 139, .int (x1 + (1 : Int32))] [] (am_sh (am_up I 144 (((6 : Int32) * (I 139 6)) + x1).toNatClampNeg (0 : Int32)) J)) else (if ((I 139 18) + x1) < 0 ∨ 1600 ≤ ((I 139 18) + x1).toNatClampNeg then none else (if (((6 : Int32) * (I 139 6)) + x1) < 0 ∨ 60 ≤ (((6 : Int32) * (I 139 6)) + x1).toNatClampNeg then none else am_ev X amP_236 53 [.ref 139, .int (x1 + (1 : Int32))] [] (am_sh (am_up I 144 (((6 : Int32) * (I 139 6)) + x1).toNatClampNeg ((I 145 ((I 139 18) + x1).toNatClampNeg) - (96 : Int32))) J)))))) := by
  refine (ev_if0 rfl).trans (am_ite (fun c1 => ?_) (fun c1 => ?_))
  · exact ev_vret rfl
  · refine (ev_iload rfl rfl).trans ?_
    refine (ev_const1 (v := (6 : Int32)) rfl am_ci_6).trans ?_
    refine (ev_icmp3 rfl).trans (am_ite (fun c2 => ?_) (fun c2 => ?_))
    · exact ev_vret rfl
    · refine (ev_aload rfl rfl).trans ?_
      refine (ev_getR rfl (by decide) am_K_139 (by decide) rfl am_R_139_10).trans ?_
      refine (ev_const1 (v := (6 : Int32)) rfl am_ci_6).trans ?_
      refine (ev_aload rfl rfl).trans ?_
      refine (ev_getI rfl (by decide) am_K_139 (by decide) rfl).trans ?_
      refine (ev_imul rfl).trans ?_
      refine (ev_iload rfl rfl).trans ?_
      refine (ev_iadd rfl).trans ?_
      refine (ev_aload rfl rfl).trans ?_
      refine (ev_getI rfl (by decide) am_K_139 (by decide) rfl).trans ?_
      refine (ev_iload rfl rfl).trans ?_
      refine (ev_iadd rfl).trans ?_
      refine (ev_aload rfl rfl).trans ?_
      refine (ev_getI rfl (by decide) am_K_139 (by decide) rfl).trans ?_
      refine (ev_icmp3 rfl).trans (am_ite (fun c3 => ?_) (fun c3 => ?_))
      · refine (ev_const0 (v := (0 : Int32)) rfl am_ci_0).trans ?_
        refine (ev_iast rfl (by decide) am_K_144).trans (am_itn (fun g4 => ?_))
        refine (ev_iincv (v := (1 : Int32)) (ls' := [.ref 139, .int (x1 + (1 : Int32))]) rfl am_ci_1 rfl rfl).trans ?_
        refine (ev_goto rfl).trans ?_
        rfl
      · refine (ev_aload rfl rfl).trans ?_
        refine (ev_getR rfl (by decide) am_K_139 (by decide) rfl am_R_139_11).trans ?_
        refine (ev_aload rfl rfl).trans ?_
        refine (ev_getI rfl (by decide) am_K_139 (by decide) rfl).trans ?_
        refine (ev_iload rfl rfl).trans ?_
        refine (ev_iadd rfl).trans ?_
        refine (ev_iald rfl (by decide) am_K_145).trans (am_itn (fun g4 => ?_))
        refine (ev_const1 (v := (96 : Int32)) rfl am_ci_96).trans ?_
        refine (ev_isub rfl).trans ?_
        refine (ev_goto rfl).trans ?_
        refine (ev_iast rfl (by decide) am_K_144).trans (am_itn (fun g5 => ?_))
        refine (ev_iincv (v := (1 : Int32)) (ls' := [.ref 139, .int (x1 + (1 : Int32))]) rfl am_ci_1 rfl rfl).trans ?_
        refine (ev_goto rfl).trans ?_
        rfl
-- 237 X12_readsBody
set_option maxRecDepth 10000 in
theorem sg_237_e0 (X : am_X) (I : Nat → Nat → Int32) (J : Nat → Nat → Int64) : am_ev X amP_237 0 [.ref 139, .null] [] (am_sh I J) = (am_do X 230 [.ref 139] (am_sh I J)).bind (fun q => am_ev X amP_237 2 [.ref 139, .null] (q.1.toList ++ []) q.2) := by
  refine (ev_aload rfl rfl).trans ?_
  exact ev_invv (as := []) rfl (by decide) am_K_139 rfl (by simp [Value.category])
theorem cl_237 (X : am_X) (I : Nat → Nat → Int32) (J : Nat → Nat → Int64) : am_do X 237 [.ref 139] (am_sh I J) = am_ev X amP_237 0 [.ref 139, .null] [] (am_sh I J) := am_do_of rfl rfl rfl
set_option maxRecDepth 10000 in
theorem sg_237_2 (X : am_X) (I : Nat → Nat → Int32) (J : Nat → Nat → Int64) (w1 : Value) (hw1 : w1.category = 1) : am_ev X amP_237 2 [.ref 139, w1] [] (am_sh I J) = (am_do X 229 [.ref 139] (am_sh I J)).bind (fun q => am_ev X amP_237 4 [.ref 139, w1] (q.1.toList ++ []) q.2) := by
  refine (ev_aload rfl rfl).trans ?_
  exact ev_invv (as := []) rfl (by decide) am_K_139 rfl (by simp [Value.category])
set_option maxRecDepth 10000 in
theorem sg_237_4 (X : am_X) (I : Nat → Nat → Int32) (J : Nat → Nat → Int64) (w1 : Value) (x2 : Int32) (hw1 : w1.category = 1) : am_ev X amP_237 4 [.ref 139, w1] [.int x2] (am_sh I J) = (if x2 = 0 then (am_do X 229 [.ref 139] (am_sh I J)).bind (fun q => am_ev X amP_237 16 [.ref 139, w1] (q.1.toList ++ []) q.2) else (am_do X 231 [.ref 139] (am_sh I J)).bind (fun q => am_ev X amP_237 7 [.ref 139, w1] (q.1.toList ++ []) q.2)) := by
  refine (ev_if0 rfl).trans (am_ite (fun c1 => ?_) (fun c1 => ?_))
  · refine (ev_aload rfl rfl).trans ?_
    exact ev_invv (as := []) rfl (by decide) am_K_139 rfl (by simp [Value.category])
  · refine (ev_aload rfl rfl).trans ?_
    exact ev_invv (as := []) rfl (by decide) am_K_139 rfl (by simp [Value.category])
set_option maxRecDepth 10000 in
theorem sg_237_7 (X : am_X) (I : Nat → Nat → Int32) (J : Nat → Nat → Int64) (w1 : Value) (x2 : Int32) (hw1 : w1.category = 1) : am_ev X amP_237 7 [.ref 139, w1] [.int x2] (am_sh I J) = (if x2 = (2 : Int32) then (am_do X 229 [.ref 139] (am_sh I J)).bind (fun q => am_ev X amP_237 16 [.ref 139, w1] (q.1.toList ++ []) q.2) else (am_do X 228 [.ref 139, .int (1 : Int32), .int (I 139 18)] (am_sh I J)).bind (fun q => am_ev X amP_237 14 [.ref 139, w1] (q.1.toList ++ []) q.2)) := by
  refine (ev_const0 (v := (2 : Int32)) rfl am_ci_2).trans ?_
  refine (ev_icmp0 rfl).trans (am_ite (fun c1 => ?_) (fun c1 => ?_))
  · refine (ev_aload rfl rfl).trans ?_
    exact ev_invv (as := []) rfl (by decide) am_K_139 rfl (by simp [Value.category])
  · refine (ev_aload rfl rfl).trans ?_
    refine (ev_const0 (v := (1 : Int32)) rfl am_ci_1).trans ?_
    refine (ev_aload rfl rfl).trans ?_
    refine (ev_getI rfl (by decide) am_K_139 (by decide) rfl).trans ?_
    exact ev_invv (as := [.int (I 139 18), .int (1 : Int32)]) rfl (by decide) am_K_139 rfl (by simp [Value.category])
set_option maxRecDepth 10000 in
theorem sg_237_14 (X : am_X) (I : Nat → Nat → Int32) (J : Nat → Nat → Int64) (w1 : Value) (hw1 : w1.category = 1) : am_ev X amP_237 14 [.ref 139, w1] [] (am_sh I J) = (am_do X 229 [.ref 139] (am_sh I J)).bind (fun q => am_ev X amP_237 16 [.ref 139, w1] (q.1.toList ++ []) q.2) := by
  refine (ev_aload rfl rfl).trans ?_
  exact ev_invv (as := []) rfl (by decide) am_K_139 rfl (by simp [Value.category])
set_option maxRecDepth 10000 in
theorem sg_237_16 (X : am_X) (I : Nat → Nat → Int32) (J : Nat → Nat → Int64) (w1 : Value) (x2 : Int32) (hw1 : w1.category = 1) : am_ev X amP_237 16 [.ref 139, w1] [.int x2] (am_sh I J) = (if x2 = 0 then (am_do X 229 [.ref 139] (am_sh I J)).bind (fun q => am_ev X amP_237 28 [.ref 139, w1] (q.1.toList ++ []) q.2) else (if ¬ (I 139 6) = (10 : Int32) then (am_do X 229 [.ref 139] (am_sh I J)).bind (fun q => am_ev X amP_237 28 [.ref 139, w1] (q.1.toList ++ []) q.2) else (am_do X 228 [.ref 139, .int (5 : Int32), .int (I 139 18)] (am_sh I J)).bind (fun q => am_ev X amP_237 26 [.ref 139, w1] (q.1.toList ++ []) q.2))) := by
  refine (ev_if0 rfl).trans (am_ite (fun c1 => ?_) (fun c1 => ?_))
  · refine (ev_aload rfl rfl).trans ?_
    exact ev_invv (as := []) rfl (by decide) am_K_139 rfl (by simp [Value.category])
  · refine (ev_aload rfl rfl).trans ?_
    refine (ev_getI rfl (by decide) am_K_139 (by decide) rfl).trans ?_
    refine (ev_const1 (v := (10 : Int32)) rfl am_ci_10).trans ?_
    refine (ev_icmp1 rfl).trans (am_ite (fun c2 => ?_) (fun c2 => ?_))
    · refine (ev_aload rfl rfl).trans ?_
      exact ev_invv (as := []) rfl (by decide) am_K_139 rfl (by simp [Value.category])
    · refine (ev_aload rfl rfl).trans ?_
      refine (ev_const0 (v := (5 : Int32)) rfl am_ci_5).trans ?_
      refine (ev_aload rfl rfl).trans ?_
      refine (ev_getI rfl (by decide) am_K_139 (by decide) rfl).trans ?_
      exact ev_invv (as := [.int (I 139 18), .int (5 : Int32)]) rfl (by decide) am_K_139 rfl (by simp [Value.category])
set_option maxRecDepth 10000 in
theorem sg_237_26 (X : am_X) (I : Nat → Nat → Int32) (J : Nat → Nat → Int64) (w1 : Value) (hw1 : w1.category = 1) : am_ev X amP_237 26 [.ref 139, w1] [] (am_sh I J) = (am_do X 229 [.ref 139] (am_sh I J)).bind (fun q => am_ev X amP_237 28 [.ref 139, w1] (q.1.toList ++ []) q.2) := by
  refine (ev_aload rfl rfl).trans ?_
  exact ev_invv (as := []) rfl (by decide) am_K_139 rfl (by simp [Value.category])
set_option maxRecDepth 10000 in
theorem sg_237_28 (X : am_X) (I : Nat → Nat → Int32) (J : Nat → Nat → Int64) (w1 : Value) (x2 : Int32) (hw1 : w1.category = 1) : am_ev X amP_237 28 [.ref 139, w1] [.int x2] (am_sh I J) = (if ¬ x2 = 0 then (am_do X 236 [.ref 139] (am_sh I J)).bind (fun q => am_ev X amP_237 32 [.ref 139, w1] (q.1.toList ++ []) q.2) else some (none, am_sh I J)) := by
  refine (ev_if1 rfl).trans (am_ite (fun c1 => ?_) (fun c1 => ?_))
  · refine (ev_aload rfl rfl).trans ?_
    exact ev_invv (as := []) rfl (by decide) am_K_139 rfl (by simp [Value.category])
  · exact ev_vret rfl
set_option maxRecDepth 10000 in
theorem sg_237_32 (X : am_X) (I : Nat → Nat → Int32) (J : Nat → Nat → Int64) (w1 : Value) (hw1 : w1.category = 1) : am_ev X amP_237 32 [.ref 139, w1] [] (am_sh I J) = (am_do X 234 [.ref 139, .int (3 : Int32), .int (1 : Int32), .int (200 : Int32)] (am_sh I J)).bind (fun q => am_ev X amP_237 45 [.ref 139, .int ((8 : Int32) * (I 139 6))] (q.1.toList ++ [.int ((8 : Int32) * (I 139 6)), .ref 143]) q.2) := by
  refine (ev_const1 (v := (8 : Int32)) rfl am_ci_8).trans ?_
  refine (ev_aload rfl rfl).trans ?_
  refine (ev_getI rfl (by decide) am_K_139 (by decide) rfl).trans ?_
  refine (ev_imul rfl).trans ?_
  refine (ev_istore (ls' := [.ref 139, .int ((8 : Int32) * (I 139 6))]) rfl (Nat.le_of_ble_eq_true rfl) rfl).trans ?_
  refine (ev_aload rfl rfl).trans ?_
  refine (ev_getR rfl (by decide) am_K_139 (by decide) rfl am_R_139_9).trans ?_
  refine (ev_iload rfl rfl).trans ?_
  refine (ev_aload rfl rfl).trans ?_
  refine (ev_const0 (v := (3 : Int32)) rfl am_ci_3).trans ?_
  refine (ev_const0 (v := (1 : Int32)) rfl am_ci_1).trans ?_
  refine (ev_const2 (v := (200 : Int32)) rfl am_ci_200).trans ?_
  exact ev_invv (as := [.int (200 : Int32), .int (1 : Int32), .int (3 : Int32)]) rfl (by decide) am_K_139 rfl (by simp [Value.category])
set_option maxRecDepth 10000 in
theorem sg_237_45 (X : am_X) (I : Nat → Nat → Int32) (J : Nat → Nat → Int64) (x1 : Int32) (x2 : Int32) (x3 : Int32) : am_ev X amP_237 45 [.ref 139, .int x1] [.int x3, .int x2, .ref 143] (am_sh I J) = (if x2 < 0 ∨ 80 ≤ x2.toNatClampNeg then none else (if x1 < 0 ∨ 80 ≤ x1.toNatClampNeg then none else (am_do X 234 [.ref 139, .int (4 : Int32), .int ((am_up I 143 x2.toNatClampNeg x3) 143 x1.toNatClampNeg), .int (200 : Int32)] (am_sh (am_up I 143 x2.toNatClampNeg x3) J)).bind (fun q => am_ev X amP_237 59 [.ref 139, .int x1] (q.1.toList ++ [.int (x1 + (1 : Int32)), .ref 143]) q.2))) := by
  refine (ev_iast rfl (by decide) am_K_143).trans (am_itn (fun g1 => ?_))
  refine (ev_aload rfl rfl).trans ?_
  refine (ev_getR rfl (by decide) am_K_139 (by decide) rfl am_R_139_9).trans ?_
  refine (ev_iload rfl rfl).trans ?_
  refine (ev_const0 (v := (1 : Int32)) rfl am_ci_1).trans ?_
  refine (ev_iadd rfl).trans ?_
  refine (ev_aload rfl rfl).trans ?_
  refine (ev_const0 (v := (4 : Int32)) rfl am_ci_4).trans ?_
  refine (ev_aload rfl rfl).trans ?_
  refine (ev_getR rfl (by decide) am_K_139 (by decide) rfl am_R_139_9).trans ?_
  refine (ev_iload rfl rfl).trans ?_
  refine (ev_iald rfl (by decide) am_K_143).trans (am_itn (fun g2 => ?_))
  refine (ev_const2 (v := (200 : Int32)) rfl am_ci_200).trans ?_
  exact ev_invv (as := [.int (200 : Int32), .int ((am_up I 143 x2.toNatClampNeg x3) 143 x1.toNatClampNeg), .int (4 : Int32)]) rfl (by decide) am_K_139 rfl (by simp [Value.category])
set_option maxRecDepth 10000 in
theorem sg_237_59 (X : am_X) (I : Nat → Nat → Int32) (J : Nat → Nat → Int64) (x1 : Int32) (x2 : Int32) (x3 : Int32) : am_ev X amP_237 59 [.ref 139, .int x1] [.int x3, .int x2, .ref 143] (am_sh I J) = (if x2 < 0 ∨ 80 ≤ x2.toNatClampNeg then none else (am_do X 234 [.ref 139, .int (5 : Int32), .int (2 : Int32), .int (48 : Int32)] (am_sh (am_up I 143 x2.toNatClampNeg x3) J)).bind (fun q => am_ev X amP_237 70 [.ref 139, .int x1] (q.1.toList ++ [.int (x1 + (2 : Int32)), .ref 143]) q.2)) := by
  refine (ev_iast rfl (by decide) am_K_143).trans (am_itn (fun g1 => ?_))
  refine (ev_aload rfl rfl).trans ?_
  refine (ev_getR rfl (by decide) am_K_139 (by decide) rfl am_R_139_9).trans ?_
  refine (ev_iload rfl rfl).trans ?_
  refine (ev_const0 (v := (2 : Int32)) rfl am_ci_2).trans ?_
  refine (ev_iadd rfl).trans ?_
  refine (ev_aload rfl rfl).trans ?_
  refine (ev_const0 (v := (5 : Int32)) rfl am_ci_5).trans ?_
  refine (ev_const0 (v := (2 : Int32)) rfl am_ci_2).trans ?_
  refine (ev_const1 (v := (48 : Int32)) rfl am_ci_48).trans ?_
  exact ev_invv (as := [.int (48 : Int32), .int (2 : Int32), .int (5 : Int32)]) rfl (by decide) am_K_139 rfl (by simp [Value.category])
set_option maxRecDepth 10000 in
theorem sg_237_70 (X : am_X) (I : Nat → Nat → Int32) (J : Nat → Nat → Int64) (x1 : Int32) (x2 : Int32) (x3 : Int32) : am_ev X amP_237 70 [.ref 139, .int x1] [.int x3, .int x2, .ref 143] (am_sh I J) = (if x2 < 0 ∨ 80 ≤ x2.toNatClampNeg then none else (if (x1 + (2 : Int32)) < 0 ∨ 80 ≤ (x1 + (2 : Int32)).toNatClampNeg then none else (am_do X 234 [.ref 139, .int (6 : Int32), .int (0 : Int32), .int (((am_up I 143 x2.toNatClampNeg x3) 143 (x1 + (2 : Int32)).toNatClampNeg) - (1 : Int32))] (am_sh (am_up I 143 x2.toNatClampNeg x3) J)).bind (fun q => am_ev X amP_237 88 [.ref 139, .int x1] (q.1.toList ++ [.int (x1 + (3 : Int32)), .ref 143]) q.2))) := by
  refine (ev_iast rfl (by decide) am_K_143).trans (am_itn (fun g1 => ?_))
  refine (ev_aload rfl rfl).trans ?_
  refine (ev_getR rfl (by decide) am_K_139 (by decide) rfl am_R_139_9).trans ?_
  refine (ev_iload rfl rfl).trans ?_
  refine (ev_const0 (v := (3 : Int32)) rfl am_ci_3).trans ?_
  refine (ev_iadd rfl).trans ?_
  refine (ev_aload rfl rfl).trans ?_
  refine (ev_const1 (v := (6 : Int32)) rfl am_ci_6).trans ?_
  refine (ev_const0 (v := (0 : Int32)) rfl am_ci_0).trans ?_
  refine (ev_aload rfl rfl).trans ?_
  refine (ev_getR rfl (by decide) am_K_139 (by decide) rfl am_R_139_9).trans ?_
  refine (ev_iload rfl rfl).trans ?_
  refine (ev_const0 (v := (2 : Int32)) rfl am_ci_2).trans ?_
  refine (ev_iadd rfl).trans ?_
  refine (ev_iald rfl (by decide) am_K_143).trans (am_itn (fun g2 => ?_))
  refine (ev_const0 (v := (1 : Int32)) rfl am_ci_1).trans ?_
  refine (ev_isub rfl).trans ?_
  exact ev_invv (as := [.int (((am_up I 143 x2.toNatClampNeg x3) 143 (x1 + (2 : Int32)).toNatClampNeg) - (1 : Int32)), .int (0 : Int32), .int (6 : Int32)]) rfl (by decide) am_K_139 rfl (by simp [Value.category])
set_option maxRecDepth 10000 in
theorem sg_237_88 (X : am_X) (I : Nat → Nat → Int32) (J : Nat → Nat → Int64) (x1 : Int32) (x2 : Int32) (x3 : Int32) : am_ev X amP_237 88 [.ref 139, .int x1] [.int x3, .int x2, .ref 143] (am_sh I J) = (if x2 < 0 ∨ 80 ≤ x2.toNatClampNeg then none else (if (x1 + (2 : Int32)) < 0 ∨ 80 ≤ (x1 + (2 : Int32)).toNatClampNeg then none else (am_do X 234 [.ref 139, .int (7 : Int32), .int (0 : Int32), .int (((am_up I 143 x2.toNatClampNeg x3) 143 (x1 + (2 : Int32)).toNatClampNeg) - (1 : Int32))] (am_sh (am_up I 143 x2.toNatClampNeg x3) J)).bind (fun q => am_ev X amP_237 106 [.ref 139, .int x1] (q.1.toList ++ [.int (x1 + (4 : Int32)), .ref 143]) q.2))) := by
  refine (ev_iast rfl (by decide) am_K_143).trans (am_itn (fun g1 => ?_))
  refine (ev_aload rfl rfl).trans ?_
  refine (ev_getR rfl (by decide) am_K_139 (by decide) rfl am_R_139_9).trans ?_
  refine (ev_iload rfl rfl).trans ?_
  refine (ev_const0 (v := (4 : Int32)) rfl am_ci_4).trans ?_
  refine (ev_iadd rfl).trans ?_
  refine (ev_aload rfl rfl).trans ?_
  refine (ev_const1 (v := (7 : Int32)) rfl am_ci_7).trans ?_
  refine (ev_const0 (v := (0 : Int32)) rfl am_ci_0).trans ?_
  refine (ev_aload rfl rfl).trans ?_
  refine (ev_getR rfl (by decide) am_K_139 (by decide) rfl am_R_139_9).trans ?_
  refine (ev_iload rfl rfl).trans ?_
  refine (ev_const0 (v := (2 : Int32)) rfl am_ci_2).trans ?_
  refine (ev_iadd rfl).trans ?_
  refine (ev_iald rfl (by decide) am_K_143).trans (am_itn (fun g2 => ?_))
  refine (ev_const0 (v := (1 : Int32)) rfl am_ci_1).trans ?_
  refine (ev_isub rfl).trans ?_
  exact ev_invv (as := [.int (((am_up I 143 x2.toNatClampNeg x3) 143 (x1 + (2 : Int32)).toNatClampNeg) - (1 : Int32)), .int (0 : Int32), .int (7 : Int32)]) rfl (by decide) am_K_139 rfl (by simp [Value.category])
set_option maxRecDepth 10000 in
theorem sg_237_106 (X : am_X) (I : Nat → Nat → Int32) (J : Nat → Nat → Int64) (x1 : Int32) (x2 : Int32) (x3 : Int32) : am_ev X amP_237 106 [.ref 139, .int x1] [.int x3, .int x2, .ref 143] (am_sh I J) = (if x2 < 0 ∨ 80 ≤ x2.toNatClampNeg then none else (am_do X 234 [.ref 139, .int (8 : Int32), .int (0 : Int32), .int (16 : Int32)] (am_sh (am_up I 143 x2.toNatClampNeg x3) J)).bind (fun q => am_ev X amP_237 117 [.ref 139, .int x1] (q.1.toList ++ [.int (x1 + (5 : Int32)), .ref 143]) q.2)) := by
  refine (ev_iast rfl (by decide) am_K_143).trans (am_itn (fun g1 => ?_))
  refine (ev_aload rfl rfl).trans ?_
  refine (ev_getR rfl (by decide) am_K_139 (by decide) rfl am_R_139_9).trans ?_
  refine (ev_iload rfl rfl).trans ?_
  refine (ev_const0 (v := (5 : Int32)) rfl am_ci_5).trans ?_
  refine (ev_iadd rfl).trans ?_
  refine (ev_aload rfl rfl).trans ?_
  refine (ev_const1 (v := (8 : Int32)) rfl am_ci_8).trans ?_
  refine (ev_const0 (v := (0 : Int32)) rfl am_ci_0).trans ?_
  refine (ev_const1 (v := (16 : Int32)) rfl am_ci_16).trans ?_
  exact ev_invv (as := [.int (16 : Int32), .int (0 : Int32), .int (8 : Int32)]) rfl (by decide) am_K_139 rfl (by simp [Value.category])
set_option maxRecDepth 10000 in
theorem sg_237_117 (X : am_X) (I : Nat → Nat → Int32) (J : Nat → Nat → Int64) (x1 : Int32) (x2 : Int32) (x3 : Int32) : am_ev X amP_237 117 [.ref 139, .int x1] [.int x3, .int x2, .ref 143] (am_sh I J) = (if x2 < 0 ∨ 80 ≤ x2.toNatClampNeg then none else (am_do X 234 [.ref 139, .int (9 : Int32), .int (0 : Int32), .int (3 : Int32)] (am_sh (am_up I 143 x2.toNatClampNeg x3) J)).bind (fun q => am_ev X amP_237 128 [.ref 139, .int x1] (q.1.toList ++ [.int (x1 + (6 : Int32)), .ref 143]) q.2)) := by
  refine (ev_iast rfl (by decide) am_K_143).trans (am_itn (fun g1 => ?_))
  refine (ev_aload rfl rfl).trans ?_
  refine (ev_getR rfl (by decide) am_K_139 (by decide) rfl am_R_139_9).trans ?_
  refine (ev_iload rfl rfl).trans ?_
  refine (ev_const1 (v := (6 : Int32)) rfl am_ci_6).trans ?_
  refine (ev_iadd rfl).trans ?_
  refine (ev_aload rfl rfl).trans ?_
  refine (ev_const1 (v := (9 : Int32)) rfl am_ci_9).trans ?_
  refine (ev_const0 (v := (0 : Int32)) rfl am_ci_0).trans ?_
  refine (ev_const0 (v := (3 : Int32)) rfl am_ci_3).trans ?_
  exact ev_invv (as := [.int (3 : Int32), .int (0 : Int32), .int (9 : Int32)]) rfl (by decide) am_K_139 rfl (by simp [Value.category])
set_option maxRecDepth 10000 in
theorem sg_237_128 (X : am_X) (I : Nat → Nat → Int32) (J : Nat → Nat → Int64) (x1 : Int32) (x2 : Int32) (x3 : Int32) : am_ev X amP_237 128 [.ref 139, .int x1] [.int x3, .int x2, .ref 143] (am_sh I J) = (if x2 < 0 ∨ 80 ≤ x2.toNatClampNeg then none else (am_do X 234 [.ref 139, .int (10 : Int32), .int (0 : Int32), .int (99 : Int32)] (am_sh (am_up I 143 x2.toNatClampNeg x3) J)).bind (fun q => am_ev X amP_237 139 [.ref 139, .int x1] (q.1.toList ++ [.int (x1 + (7 : Int32)), .ref 143]) q.2)) := by
  refine (ev_iast rfl (by decide) am_K_143).trans (am_itn (fun g1 => ?_))
  refine (ev_aload rfl rfl).trans ?_
  refine (ev_getR rfl (by decide) am_K_139 (by decide) rfl am_R_139_9).trans ?_
  refine (ev_iload rfl rfl).trans ?_
  refine (ev_const1 (v := (7 : Int32)) rfl am_ci_7).trans ?_
  refine (ev_iadd rfl).trans ?_
  refine (ev_aload rfl rfl).trans ?_
  refine (ev_const1 (v := (10 : Int32)) rfl am_ci_10).trans ?_
  refine (ev_const0 (v := (0 : Int32)) rfl am_ci_0).trans ?_
  refine (ev_const1 (v := (99 : Int32)) rfl am_ci_99).trans ?_
  exact ev_invv (as := [.int (99 : Int32), .int (0 : Int32), .int (10 : Int32)]) rfl (by decide) am_K_139 rfl (by simp [Value.category])
set_option maxRecDepth 10000 in
theorem sg_237_139 (X : am_X) (I : Nat → Nat → Int32) (J : Nat → Nat → Int64) (x1 : Int32) (x2 : Int32) (x3 : Int32) : am_ev X amP_237 139 [.ref 139, .int x1] [.int x3, .int x2, .ref 143] (am_sh I J) = (if x2 < 0 ∨ 80 ≤ x2.toNatClampNeg then none else some (none, am_sh (am_up (am_up I 143 x2.toNatClampNeg x3) 139 6 (((am_up I 143 x2.toNatClampNeg x3) 139 6) + (1 : Int32))) J)) := by
  refine (ev_iast rfl (by decide) am_K_143).trans (am_itn (fun g1 => ?_))
  refine (ev_aload rfl rfl).trans ?_
  refine (ev_dupr rfl).trans ?_
  refine (ev_getI rfl (by decide) am_K_139 (by decide) rfl).trans ?_
  refine (ev_const0 (v := (1 : Int32)) rfl am_ci_1).trans ?_
  refine (ev_iadd rfl).trans ?_
  refine (ev_putI rfl (by decide) am_K_139 (by decide) rfl).trans ?_
  exact ev_vret rfl
-- 238 X12_readsAll
set_option maxRecDepth 10000 in
theorem sg_238_e0 (X : am_X) (I : Nat → Nat → Int32) (J : Nat → Nat → Int64) : am_ev X amP_238 0 [.ref 139, .null] [] (am_sh I J) = (am_do X 234 [.ref 139, .int (0 : Int32), .int (0 : Int32), .int (99 : Int32)] (am_sh (am_up I 139 6 (0 : Int32)) J)).bind (fun q => am_ev X amP_238 9 [.ref 139, .null] (q.1.toList ++ [.ref 139]) q.2) := by
  refine (ev_aload rfl rfl).trans ?_
  refine (ev_const0 (v := (0 : Int32)) rfl am_ci_0).trans ?_
  refine (ev_putI rfl (by decide) am_K_139 (by decide) rfl).trans ?_
  refine (ev_aload rfl rfl).trans ?_
  refine (ev_aload rfl rfl).trans ?_
  refine (ev_const0 (v := (0 : Int32)) rfl am_ci_0).trans ?_
  refine (ev_const0 (v := (0 : Int32)) rfl am_ci_0).trans ?_
  refine (ev_const1 (v := (99 : Int32)) rfl am_ci_99).trans ?_
  exact ev_invv (as := [.int (99 : Int32), .int (0 : Int32), .int (0 : Int32)]) rfl (by decide) am_K_139 rfl (by simp [Value.category])
theorem cl_238 (X : am_X) (I : Nat → Nat → Int32) (J : Nat → Nat → Int64) : am_do X 238 [.ref 139] (am_sh I J) = am_ev X amP_238 0 [.ref 139, .null] [] (am_sh I J) := am_do_of rfl rfl rfl
set_option maxRecDepth 10000 in
theorem sg_238_9 (X : am_X) (I : Nat → Nat → Int32) (J : Nat → Nat → Int64) (w1 : Value) (x2 : Int32) (hw1 : w1.category = 1) : am_ev X amP_238 9 [.ref 139, w1] [.int x2, .ref 139] (am_sh I J) = (am_do X 234 [.ref 139, .int (1 : Int32), .int (0 : Int32), .int (20 : Int32)] (am_sh (am_up I 139 7 x2) J)).bind (fun q => am_ev X amP_238 16 [.ref 139, w1] (q.1.toList ++ [.ref 139]) q.2) := by
  refine (ev_putI rfl (by decide) am_K_139 (by decide) rfl).trans ?_
  refine (ev_aload rfl rfl).trans ?_
  refine (ev_aload rfl rfl).trans ?_
  refine (ev_const0 (v := (1 : Int32)) rfl am_ci_1).trans ?_
  refine (ev_const0 (v := (0 : Int32)) rfl am_ci_0).trans ?_
  refine (ev_const1 (v := (20 : Int32)) rfl am_ci_20).trans ?_
  exact ev_invv (as := [.int (20 : Int32), .int (0 : Int32), .int (1 : Int32)]) rfl (by decide) am_K_139 rfl (by simp [Value.category])
set_option maxRecDepth 10000 in
theorem sg_238_16 (X : am_X) (I : Nat → Nat → Int32) (J : Nat → Nat → Int64) (w1 : Value) (x2 : Int32) (hw1 : w1.category = 1) : am_ev X amP_238 16 [.ref 139, w1] [.int x2, .ref 139] (am_sh I J) = (am_do X 233 [.ref 139] (am_sh (am_up I 139 8 x2) J)).bind (fun q => am_ev X amP_238 19 [.ref 139, w1] (q.1.toList ++ []) q.2) := by
  refine (ev_putI rfl (by decide) am_K_139 (by decide) rfl).trans ?_
  refine (ev_aload rfl rfl).trans ?_
  exact ev_invv (as := []) rfl (by decide) am_K_139 rfl (by simp [Value.category])
set_option maxRecDepth 10000 in
theorem sg_238_19 (X : am_X) (I : Nat → Nat → Int32) (J : Nat → Nat → Int64) (w1 : Value) (hw1 : w1.category = 1) : am_ev X amP_238 19 [.ref 139, w1] [] (am_sh I J) = am_ev X amP_238 21 [.ref 139, .int (1 : Int32)] [] (am_sh I J) := by
  refine (ev_const0 (v := (1 : Int32)) rfl am_ci_1).trans ?_
  refine (ev_istore (ls' := [.ref 139, .int (1 : Int32)]) rfl (Nat.le_of_ble_eq_true rfl) rfl).trans ?_
  rfl
set_option maxRecDepth 10000 in
theorem sg_238_21 (X : am_X) (I : Nat → Nat → Int32) (J : Nat → Nat → Int64) (x1 : Int32) : am_ev X amP_238 21 [.ref 139, .int x1] [] (am_sh I J) = (am_do X 229 [.ref 139] (am_sh I J)).bind (fun q => am_ev X amP_238 23 [.ref 139, .int x1] (q.1.toList ++ []) q.2) := by
  refine (ev_aload rfl rfl).trans ?_
  exact ev_invv (as := []) rfl (by decide) am_K_139 rfl (by simp [Value.category])
set_option maxRecDepth 10000 in
theorem sg_238_23 (X : am_X) (I : Nat → Nat → Int32) (J : Nat → Nat → Int64) (x1 : Int32) (x2 : Int32) : am_ev X amP_238 23 [.ref 139, .int x1] [.int x2] (am_sh I J) = (if x2 = 0 then some (some (.int x1), am_sh I J) else (am_do X 227 [.ref 139] (am_sh I J)).bind (fun q => am_ev X amP_238 26 [.ref 139, .int x1] (q.1.toList ++ []) q.2)) := by
  refine (ev_if0 rfl).trans (am_ite (fun c1 => ?_) (fun c1 => ?_))
  · refine (ev_iload rfl rfl).trans ?_
    exact ev_iret rfl
  · refine (ev_aload rfl rfl).trans ?_
    exact ev_invv (as := []) rfl (by decide) am_K_139 rfl (by simp [Value.category])
set_option maxRecDepth 10000 in
theorem sg_238_26 (X : am_X) (I : Nat → Nat → Int32) (J : Nat → Nat → Int64) (x1 : Int32) (x2 : Int32) : am_ev X amP_238 26 [.ref 139, .int x1] [.int x2] (am_sh I J) = (if x2 = (-1 : Int32) then some (some (.int x1), am_sh I J) else (am_do X 237 [.ref 139] (am_sh I J)).bind (fun q => am_ev X amP_238 30 [.ref 139, .int x1] (q.1.toList ++ []) q.2)) := by
  refine (ev_const0 (v := (-1 : Int32)) rfl am_ci_m1).trans ?_
  refine (ev_icmp0 rfl).trans (am_ite (fun c1 => ?_) (fun c1 => ?_))
  · refine (ev_iload rfl rfl).trans ?_
    exact ev_iret rfl
  · refine (ev_aload rfl rfl).trans ?_
    exact ev_invv (as := []) rfl (by decide) am_K_139 rfl (by simp [Value.category])
set_option maxRecDepth 10000 in
theorem sg_238_30 (X : am_X) (I : Nat → Nat → Int32) (J : Nat → Nat → Int64) (x1 : Int32) : am_ev X amP_238 30 [.ref 139, .int x1] [] (am_sh I J) = (am_do X 233 [.ref 139] (am_sh I J)).bind (fun q => am_ev X amP_238 32 [.ref 139, .int x1] (q.1.toList ++ []) q.2) := by
  refine (ev_aload rfl rfl).trans ?_
  exact ev_invv (as := []) rfl (by decide) am_K_139 rfl (by simp [Value.category])
set_option maxRecDepth 10000 in
theorem sg_238_32 (X : am_X) (I : Nat → Nat → Int32) (J : Nat → Nat → Int64) (x1 : Int32) : am_ev X amP_238 32 [.ref 139, .int x1] [] (am_sh I J) = am_ev X amP_238 21 [.ref 139, .int (x1 + (1 : Int32))] [] (am_sh I J) := by
  refine (ev_iincv (v := (1 : Int32)) (ls' := [.ref 139, .int (x1 + (1 : Int32))]) rfl am_ci_1 rfl rfl).trans ?_
  refine (ev_goto rfl).trans ?_
  rfl
-- 239 X12_sky
set_option maxRecDepth 10000 in
theorem sg_239_e0 (X : am_X) (I : Nat → Nat → Int32) (J : Nat → Nat → Int64) : am_ev X amP_239 0 [.ref 139, .null, .null] [] (am_sh I J) = (am_do X 223 [.ref 139] (am_sh I J)).bind (fun q => am_ev X amP_239 3 [.ref 139, .null, .null] (q.1.toList ++ [.ref 139]) q.2) := by
  refine (ev_aload rfl rfl).trans ?_
  refine (ev_aload rfl rfl).trans ?_
  exact ev_invv (as := []) rfl (by decide) am_K_139 rfl (by simp [Value.category])
theorem cl_239 (X : am_X) (I : Nat → Nat → Int32) (J : Nat → Nat → Int64) : am_do X 239 [.ref 139] (am_sh I J) = am_ev X amP_239 0 [.ref 139, .null, .null] [] (am_sh I J) := am_do_of rfl rfl rfl
set_option maxRecDepth 10000 in
theorem sg_239_3 (X : am_X) (I : Nat → Nat → Int32) (J : Nat → Nat → Int64) (w1 : Value) (w2 : Value) (x3 : Int32) (hw1 : w1.category = 1) (hw2 : w2.category = 1) : am_ev X amP_239 3 [.ref 139, w1, w2] [.int x3, .ref 139] (am_sh I J) = (am_do X 238 [.ref 139] (am_sh (am_up (am_up (am_up (am_up I 139 16 x3) 139 17 (0 : Int32)) 139 19 (0 : Int32)) 139 20 (-1 : Int32)) J)).bind (fun q => am_ev X amP_239 15 [.ref 139, w1, w2] (q.1.toList ++ []) q.2) := by
  refine (ev_putI rfl (by decide) am_K_139 (by decide) rfl).trans ?_
  refine (ev_aload rfl rfl).trans ?_
  refine (ev_const0 (v := (0 : Int32)) rfl am_ci_0).trans ?_
  refine (ev_putI rfl (by decide) am_K_139 (by decide) rfl).trans ?_
  refine (ev_aload rfl rfl).trans ?_
  refine (ev_const0 (v := (0 : Int32)) rfl am_ci_0).trans ?_
  refine (ev_putI rfl (by decide) am_K_139 (by decide) rfl).trans ?_
  refine (ev_aload rfl rfl).trans ?_
  refine (ev_const0 (v := (-1 : Int32)) rfl am_ci_m1).trans ?_
  refine (ev_putI rfl (by decide) am_K_139 (by decide) rfl).trans ?_
  refine (ev_aload rfl rfl).trans ?_
  exact ev_invv (as := []) rfl (by decide) am_K_139 rfl (by simp [Value.category])
set_option maxRecDepth 10000 in
theorem sg_239_15 (X : am_X) (I : Nat → Nat → Int32) (J : Nat → Nat → Int64) (w1 : Value) (w2 : Value) (x3 : Int32) (hw1 : w1.category = 1) (hw2 : w2.category = 1) : am_ev X amP_239 15 [.ref 139, w1, w2] [.int x3] (am_sh I J) = (if ((am_up (am_up I 139 14 (I 139 19)) 139 15 ((am_up I 139 14 (I 139 19)) 139 20)) 139 19) = 0 then am_ev X amP_239 44 [.ref 139, .int x3, .int (0 : Int32)] [] (am_sh (am_up (am_up (am_up (am_up (am_up I 139 14 (I 139 19)) 139 15 ((am_up I 139 14 (I 139 19)) 139 20)) 139 0 (1 : Int32)) 139 1 ((am_up (am_up (am_up I 139 14 (I 139 19)) 139 15 ((am_up I 139 14 (I 139 19)) 139 20)) 139 0 (1 : Int32)) 139 6)) 139 2 ((am_up (am_up (am_up (am_up I 139 14 (I 139 19)) 139 15 ((am_up I 139 14 (I 139 19)) 139 20)) 139 0 (1 : Int32)) 139 1 ((am_up (am_up (am_up I 139 14 (I 139 19)) 139 15 ((am_up I 139 14 (I 139 19)) 139 20)) 139 0 (1 : Int32)) 139 6)) 139 8)) J) else (am_do X 218 [.ref 139, .int (1 : Int32)] (am_sh (am_up (am_up I 139 14 (I 139 19)) 139 15 ((am_up I 139 14 (I 139 19)) 139 20)) J)).bind (fun q => am_ev X amP_239 30 [.ref 139, .int x3, w2] (q.1.toList ++ []) q.2)) := by
  refine (ev_istore (ls' := [.ref 139, .int x3, w2]) rfl (Nat.le_of_ble_eq_true rfl) rfl).trans ?_
  refine (ev_aload rfl rfl).trans ?_
  refine (ev_aload rfl rfl).trans ?_
  refine (ev_getI rfl (by decide) am_K_139 (by decide) rfl).trans ?_
  refine (ev_putI rfl (by decide) am_K_139 (by decide) rfl).trans ?_
  refine (ev_aload rfl rfl).trans ?_
  refine (ev_aload rfl rfl).trans ?_
  refine (ev_getI rfl (by decide) am_K_139 (by decide) rfl).trans ?_
  refine (ev_putI rfl (by decide) am_K_139 (by decide) rfl).trans ?_
  refine (ev_aload rfl rfl).trans ?_
  refine (ev_getI rfl (by decide) am_K_139 (by decide) rfl).trans ?_
  refine (ev_if0 rfl).trans (am_ite (fun c1 => ?_) (fun c1 => ?_))
  · refine (ev_aload rfl rfl).trans ?_
    refine (ev_const0 (v := (1 : Int32)) rfl am_ci_1).trans ?_
    refine (ev_putZ rfl (by decide) am_K_139 (by decide) rfl (by decide)).trans ?_
    refine (ev_aload rfl rfl).trans ?_
    refine (ev_aload rfl rfl).trans ?_
    refine (ev_getI rfl (by decide) am_K_139 (by decide) rfl).trans ?_
    refine (ev_putI rfl (by decide) am_K_139 (by decide) rfl).trans ?_
    refine (ev_aload rfl rfl).trans ?_
    refine (ev_aload rfl rfl).trans ?_
    refine (ev_getI rfl (by decide) am_K_139 (by decide) rfl).trans ?_
    refine (ev_putI rfl (by decide) am_K_139 (by decide) rfl).trans ?_
    refine (ev_const0 (v := (0 : Int32)) rfl am_ci_0).trans ?_
    refine (ev_istore (ls' := [.ref 139, .int x3, .int (0 : Int32)]) rfl (Nat.le_of_ble_eq_true rfl) rfl).trans ?_
    rfl
  · refine (ev_aload rfl rfl).trans ?_
    refine (ev_const0 (v := (1 : Int32)) rfl am_ci_1).trans ?_
    exact ev_invv (as := [.int (1 : Int32)]) rfl (by decide) am_K_139 rfl (by simp [Value.category])
set_option maxRecDepth 10000 in
theorem sg_239_30 (X : am_X) (I : Nat → Nat → Int32) (J : Nat → Nat → Int64) (x1 : Int32) (w2 : Value) (x3 : Int32) (hw2 : w2.category = 1) : am_ev X amP_239 30 [.ref 139, .int x1, w2] [.int x3] (am_sh I J) = some (some (.int x3), am_sh I J) := by
  exact ev_iret rfl
set_option maxRecDepth 10000 in
theorem sg_239_44 (X : am_X) (I : Nat → Nat → Int32) (J : Nat → Nat → Int64) (x1 : Int32) (x2 : Int32) : am_ev X amP_239 44 [.ref 139, .int x1, .int x2] [] (am_sh I J) = (if (153 : Int32) ≤ x2 then am_ev X amP_239 62 [.ref 139, .int x1, .int (0 : Int32)] [] (am_sh (am_up I 148 0 (I 139 7)) J) else (if x2 < 0 ∨ 153 ≤ x2.toNatClampNeg then none else am_ev X amP_239 44 [.ref 139, .int x1, .int (x2 + (1 : Int32))] [] (am_sh (am_up I 148 x2.toNatClampNeg (0 : Int32)) J))) := by
  refine (ev_iload rfl rfl).trans ?_
  refine (ev_const2 (v := (153 : Int32)) rfl am_ci_153).trans ?_
  refine (ev_icmp3 rfl).trans (am_ite (fun c1 => ?_) (fun c1 => ?_))
  · refine (ev_aload rfl rfl).trans ?_
    refine (ev_getR rfl (by decide) am_K_139 (by decide) rfl am_R_139_22).trans ?_
    refine (ev_const0 (v := (0 : Int32)) rfl am_ci_0).trans ?_
    refine (ev_aload rfl rfl).trans ?_
    refine (ev_getI rfl (by decide) am_K_139 (by decide) rfl).trans ?_
    refine (ev_iastC (jn := 0) rfl (by decide) am_K_148 (by decide) (by decide)).trans ?_
    refine (ev_const0 (v := (0 : Int32)) rfl am_ci_0).trans ?_
    refine (ev_istore (ls' := [.ref 139, .int x1, .int (0 : Int32)]) rfl (Nat.le_of_ble_eq_true rfl) rfl).trans ?_
    rfl
  · refine (ev_aload rfl rfl).trans ?_
    refine (ev_getR rfl (by decide) am_K_139 (by decide) rfl am_R_139_22).trans ?_
    refine (ev_iload rfl rfl).trans ?_
    refine (ev_const0 (v := (0 : Int32)) rfl am_ci_0).trans ?_
    refine (ev_iast rfl (by decide) am_K_148).trans (am_itn (fun g2 => ?_))
    refine (ev_iincv (v := (1 : Int32)) (ls' := [.ref 139, .int x1, .int (x2 + (1 : Int32))]) rfl am_ci_1 rfl rfl).trans ?_
    refine (ev_goto rfl).trans ?_
    rfl
set_option maxRecDepth 10000 in
theorem sg_239_62 (X : am_X) (I : Nat → Nat → Int32) (J : Nat → Nat → Int64) (x1 : Int32) (x2 : Int32) : am_ev X amP_239 62 [.ref 139, .int x1, .int x2] [] (am_sh I J) = (if (I 139 1) ≤ x2 then am_ev X amP_239 169 [.ref 139, .int x1, .int (0 : Int32)] [] (am_sh I J) else (if (((8 : Int32) * x2) + (2 : Int32)) < 0 ∨ 80 ≤ (((8 : Int32) * x2) + (2 : Int32)).toNatClampNeg then none else (if x2 < 0 ∨ 10 ≤ x2.toNatClampNeg then none else (if (((8 : Int32) * x2) + (6 : Int32)) < 0 ∨ 80 ≤ (((8 : Int32) * x2) + (6 : Int32)).toNatClampNeg then none else (if x2 < 0 ∨ 10 ≤ x2.toNatClampNeg then none else (if ((8 : Int32) * x2) < 0 ∨ 80 ≤ ((8 : Int32) * x2).toNatClampNeg then none else (am_do X 242 [.ref 139, .int x2, .int (0 : Int32), .int ((am_up (am_up I 140 x2.toNatClampNeg (I 143 (((8 : Int32) * x2) + (2 : Int32)).toNatClampNeg)) 141 x2.toNatClampNeg ((am_up I 140 x2.toNatClampNeg (I 143 (((8 : Int32) * x2) + (2 : Int32)).toNatClampNeg)) 143 (((8 : Int32) * x2) + (6 : Int32)).toNatClampNeg)) 143 ((8 : Int32) * x2).toNatClampNeg)] (am_sh (am_up (am_up I 140 x2.toNatClampNeg (I 143 (((8 : Int32) * x2) + (2 : Int32)).toNatClampNeg)) 141 x2.toNatClampNeg ((am_up I 140 x2.toNatClampNeg (I 143 (((8 : Int32) * x2) + (2 : Int32)).toNatClampNeg)) 143 (((8 : Int32) * x2) + (6 : Int32)).toNatClampNeg)) J)).bind (fun q => am_ev X amP_239 100 [.ref 139, .int x1, .int x2] (q.1.toList ++ []) q.2))))))) := by
  refine (ev_iload rfl rfl).trans ?_
  refine (ev_aload rfl rfl).trans ?_
  refine (ev_getI rfl (by decide) am_K_139 (by decide) rfl).trans ?_
  refine (ev_icmp3 rfl).trans (am_ite (fun c1 => ?_) (fun c1 => ?_))
  · refine (ev_const0 (v := (0 : Int32)) rfl am_ci_0).trans ?_
    refine (ev_istore (ls' := [.ref 139, .int x1, .int (0 : Int32)]) rfl (Nat.le_of_ble_eq_true rfl) rfl).trans ?_
    rfl
  · refine (ev_aload rfl rfl).trans ?_
    refine (ev_getR rfl (by decide) am_K_139 (by decide) rfl am_R_139_3).trans ?_
    refine (ev_iload rfl rfl).trans ?_
    refine (ev_aload rfl rfl).trans ?_
    refine (ev_getR rfl (by decide) am_K_139 (by decide) rfl am_R_139_9).trans ?_
    refine (ev_const1 (v := (8 : Int32)) rfl am_ci_8).trans ?_
    refine (ev_iload rfl rfl).trans ?_
    refine (ev_imul rfl).trans ?_
    refine (ev_const0 (v := (2 : Int32)) rfl am_ci_2).trans ?_
    refine (ev_iadd rfl).trans ?_
    refine (ev_iald rfl (by decide) am_K_143).trans (am_itn (fun g2 => ?_))
    refine (ev_iast rfl (by decide) am_K_140).trans (am_itn (fun g3 => ?_))
    refine (ev_aload rfl rfl).trans ?_
    refine (ev_getR rfl (by decide) am_K_139 (by decide) rfl am_R_139_4).trans ?_
    refine (ev_iload rfl rfl).trans ?_
    refine (ev_aload rfl rfl).trans ?_
    refine (ev_getR rfl (by decide) am_K_139 (by decide) rfl am_R_139_9).trans ?_
    refine (ev_const1 (v := (8 : Int32)) rfl am_ci_8).trans ?_
    refine (ev_iload rfl rfl).trans ?_
    refine (ev_imul rfl).trans ?_
    refine (ev_const1 (v := (6 : Int32)) rfl am_ci_6).trans ?_
    refine (ev_iadd rfl).trans ?_
    refine (ev_iald rfl (by decide) am_K_143).trans (am_itn (fun g4 => ?_))
    refine (ev_iast rfl (by decide) am_K_141).trans (am_itn (fun g5 => ?_))
    refine (ev_aload rfl rfl).trans ?_
    refine (ev_iload rfl rfl).trans ?_
    refine (ev_const0 (v := (0 : Int32)) rfl am_ci_0).trans ?_
    refine (ev_aload rfl rfl).trans ?_
    refine (ev_getR rfl (by decide) am_K_139 (by decide) rfl am_R_139_9).trans ?_
    refine (ev_const1 (v := (8 : Int32)) rfl am_ci_8).trans ?_
    refine (ev_iload rfl rfl).trans ?_
    refine (ev_imul rfl).trans ?_
    refine (ev_iald rfl (by decide) am_K_143).trans (am_itn (fun g6 => ?_))
    exact ev_invv (as := [.int ((am_up (am_up I 140 x2.toNatClampNeg (I 143 (((8 : Int32) * x2) + (2 : Int32)).toNatClampNeg)) 141 x2.toNatClampNeg ((am_up I 140 x2.toNatClampNeg (I 143 (((8 : Int32) * x2) + (2 : Int32)).toNatClampNeg)) 143 (((8 : Int32) * x2) + (6 : Int32)).toNatClampNeg)) 143 ((8 : Int32) * x2).toNatClampNeg), .int (0 : Int32), .int x2]) rfl (by decide) am_K_139 rfl (by simp [Value.category])
set_option maxRecDepth 10000 in
theorem sg_239_100 (X : am_X) (I : Nat → Nat → Int32) (J : Nat → Nat → Int64) (x1 : Int32) (x2 : Int32) : am_ev X amP_239 100 [.ref 139, .int x1, .int x2] [] (am_sh I J) = (if (((8 : Int32) * x2) + (1 : Int32)) < 0 ∨ 80 ≤ (((8 : Int32) * x2) + (1 : Int32)).toNatClampNeg then none else (am_do X 242 [.ref 139, .int x2, .int (1 : Int32), .int (I 143 (((8 : Int32) * x2) + (1 : Int32)).toNatClampNeg)] (am_sh I J)).bind (fun q => am_ev X amP_239 112 [.ref 139, .int x1, .int x2] (q.1.toList ++ []) q.2)) := by
  refine (ev_aload rfl rfl).trans ?_
  refine (ev_iload rfl rfl).trans ?_
  refine (ev_const0 (v := (1 : Int32)) rfl am_ci_1).trans ?_
  refine (ev_aload rfl rfl).trans ?_
  refine (ev_getR rfl (by decide) am_K_139 (by decide) rfl am_R_139_9).trans ?_
  refine (ev_const1 (v := (8 : Int32)) rfl am_ci_8).trans ?_
  refine (ev_iload rfl rfl).trans ?_
  refine (ev_imul rfl).trans ?_
  refine (ev_const0 (v := (1 : Int32)) rfl am_ci_1).trans ?_
  refine (ev_iadd rfl).trans ?_
  refine (ev_iald rfl (by decide) am_K_143).trans (am_itn (fun g1 => ?_))
  exact ev_invv (as := [.int (I 143 (((8 : Int32) * x2) + (1 : Int32)).toNatClampNeg), .int (1 : Int32), .int x2]) rfl (by decide) am_K_139 rfl (by simp [Value.category])
set_option maxRecDepth 10000 in
theorem sg_239_112 (X : am_X) (I : Nat → Nat → Int32) (J : Nat → Nat → Int64) (x1 : Int32) (x2 : Int32) : am_ev X amP_239 112 [.ref 139, .int x1, .int x2] [] (am_sh I J) = (if (((8 : Int32) * x2) + (3 : Int32)) < 0 ∨ 80 ≤ (((8 : Int32) * x2) + (3 : Int32)).toNatClampNeg then none else (am_do X 242 [.ref 139, .int x2, .int (2 : Int32), .int (I 143 (((8 : Int32) * x2) + (3 : Int32)).toNatClampNeg)] (am_sh I J)).bind (fun q => am_ev X amP_239 124 [.ref 139, .int x1, .int x2] (q.1.toList ++ []) q.2)) := by
  refine (ev_aload rfl rfl).trans ?_
  refine (ev_iload rfl rfl).trans ?_
  refine (ev_const0 (v := (2 : Int32)) rfl am_ci_2).trans ?_
  refine (ev_aload rfl rfl).trans ?_
  refine (ev_getR rfl (by decide) am_K_139 (by decide) rfl am_R_139_9).trans ?_
  refine (ev_const1 (v := (8 : Int32)) rfl am_ci_8).trans ?_
  refine (ev_iload rfl rfl).trans ?_
  refine (ev_imul rfl).trans ?_
  refine (ev_const0 (v := (3 : Int32)) rfl am_ci_3).trans ?_
  refine (ev_iadd rfl).trans ?_
  refine (ev_iald rfl (by decide) am_K_143).trans (am_itn (fun g1 => ?_))
  exact ev_invv (as := [.int (I 143 (((8 : Int32) * x2) + (3 : Int32)).toNatClampNeg), .int (2 : Int32), .int x2]) rfl (by decide) am_K_139 rfl (by simp [Value.category])
set_option maxRecDepth 10000 in
theorem sg_239_124 (X : am_X) (I : Nat → Nat → Int32) (J : Nat → Nat → Int64) (x1 : Int32) (x2 : Int32) : am_ev X amP_239 124 [.ref 139, .int x1, .int x2] [] (am_sh I J) = (if (((8 : Int32) * x2) + (4 : Int32)) < 0 ∨ 80 ≤ (((8 : Int32) * x2) + (4 : Int32)).toNatClampNeg then none else (am_do X 242 [.ref 139, .int x2, .int (3 : Int32), .int (I 143 (((8 : Int32) * x2) + (4 : Int32)).toNatClampNeg)] (am_sh I J)).bind (fun q => am_ev X amP_239 136 [.ref 139, .int x1, .int x2] (q.1.toList ++ []) q.2)) := by
  refine (ev_aload rfl rfl).trans ?_
  refine (ev_iload rfl rfl).trans ?_
  refine (ev_const0 (v := (3 : Int32)) rfl am_ci_3).trans ?_
  refine (ev_aload rfl rfl).trans ?_
  refine (ev_getR rfl (by decide) am_K_139 (by decide) rfl am_R_139_9).trans ?_
  refine (ev_const1 (v := (8 : Int32)) rfl am_ci_8).trans ?_
  refine (ev_iload rfl rfl).trans ?_
  refine (ev_imul rfl).trans ?_
  refine (ev_const0 (v := (4 : Int32)) rfl am_ci_4).trans ?_
  refine (ev_iadd rfl).trans ?_
  refine (ev_iald rfl (by decide) am_K_143).trans (am_itn (fun g1 => ?_))
  exact ev_invv (as := [.int (I 143 (((8 : Int32) * x2) + (4 : Int32)).toNatClampNeg), .int (3 : Int32), .int x2]) rfl (by decide) am_K_139 rfl (by simp [Value.category])
set_option maxRecDepth 10000 in
theorem sg_239_136 (X : am_X) (I : Nat → Nat → Int32) (J : Nat → Nat → Int64) (x1 : Int32) (x2 : Int32) : am_ev X amP_239 136 [.ref 139, .int x1, .int x2] [] (am_sh I J) = (if (((8 : Int32) * x2) + (5 : Int32)) < 0 ∨ 80 ≤ (((8 : Int32) * x2) + (5 : Int32)).toNatClampNeg then none else (am_do X 242 [.ref 139, .int x2, .int (4 : Int32), .int (I 143 (((8 : Int32) * x2) + (5 : Int32)).toNatClampNeg)] (am_sh I J)).bind (fun q => am_ev X amP_239 148 [.ref 139, .int x1, .int x2] (q.1.toList ++ []) q.2)) := by
  refine (ev_aload rfl rfl).trans ?_
  refine (ev_iload rfl rfl).trans ?_
  refine (ev_const0 (v := (4 : Int32)) rfl am_ci_4).trans ?_
  refine (ev_aload rfl rfl).trans ?_
  refine (ev_getR rfl (by decide) am_K_139 (by decide) rfl am_R_139_9).trans ?_
  refine (ev_const1 (v := (8 : Int32)) rfl am_ci_8).trans ?_
  refine (ev_iload rfl rfl).trans ?_
  refine (ev_imul rfl).trans ?_
  refine (ev_const0 (v := (5 : Int32)) rfl am_ci_5).trans ?_
  refine (ev_iadd rfl).trans ?_
  refine (ev_iald rfl (by decide) am_K_143).trans (am_itn (fun g1 => ?_))
  exact ev_invv (as := [.int (I 143 (((8 : Int32) * x2) + (5 : Int32)).toNatClampNeg), .int (4 : Int32), .int x2]) rfl (by decide) am_K_139 rfl (by simp [Value.category])
set_option maxRecDepth 10000 in
theorem sg_239_148 (X : am_X) (I : Nat → Nat → Int32) (J : Nat → Nat → Int64) (x1 : Int32) (x2 : Int32) : am_ev X amP_239 148 [.ref 139, .int x1, .int x2] [] (am_sh I J) = (if (((8 : Int32) * x2) + (7 : Int32)) < 0 ∨ 80 ≤ (((8 : Int32) * x2) + (7 : Int32)).toNatClampNeg then none else (am_do X 242 [.ref 139, .int x2, .int (5 : Int32), .int (I 143 (((8 : Int32) * x2) + (7 : Int32)).toNatClampNeg)] (am_sh I J)).bind (fun q => am_ev X amP_239 160 [.ref 139, .int x1, .int x2] (q.1.toList ++ []) q.2)) := by
  refine (ev_aload rfl rfl).trans ?_
  refine (ev_iload rfl rfl).trans ?_
  refine (ev_const0 (v := (5 : Int32)) rfl am_ci_5).trans ?_
  refine (ev_aload rfl rfl).trans ?_
  refine (ev_getR rfl (by decide) am_K_139 (by decide) rfl am_R_139_9).trans ?_
  refine (ev_const1 (v := (8 : Int32)) rfl am_ci_8).trans ?_
  refine (ev_iload rfl rfl).trans ?_
  refine (ev_imul rfl).trans ?_
  refine (ev_const1 (v := (7 : Int32)) rfl am_ci_7).trans ?_
  refine (ev_iadd rfl).trans ?_
  refine (ev_iald rfl (by decide) am_K_143).trans (am_itn (fun g1 => ?_))
  exact ev_invv (as := [.int (I 143 (((8 : Int32) * x2) + (7 : Int32)).toNatClampNeg), .int (5 : Int32), .int x2]) rfl (by decide) am_K_139 rfl (by simp [Value.category])
set_option maxRecDepth 10000 in
theorem sg_239_160 (X : am_X) (I : Nat → Nat → Int32) (J : Nat → Nat → Int64) (x1 : Int32) (x2 : Int32) : am_ev X amP_239 160 [.ref 139, .int x1, .int x2] [] (am_sh I J) = (am_do X 242 [.ref 139, .int x2, .int (6 : Int32), .int (1 : Int32)] (am_sh I J)).bind (fun q => am_ev X amP_239 165 [.ref 139, .int x1, .int x2] (q.1.toList ++ []) q.2) := by
  refine (ev_aload rfl rfl).trans ?_
  refine (ev_iload rfl rfl).trans ?_
  refine (ev_const1 (v := (6 : Int32)) rfl am_ci_6).trans ?_
  refine (ev_const0 (v := (1 : Int32)) rfl am_ci_1).trans ?_
  exact ev_invv (as := [.int (1 : Int32), .int (6 : Int32), .int x2]) rfl (by decide) am_K_139 rfl (by simp [Value.category])
set_option maxRecDepth 10000 in
theorem sg_239_165 (X : am_X) (I : Nat → Nat → Int32) (J : Nat → Nat → Int64) (x1 : Int32) (x2 : Int32) : am_ev X amP_239 165 [.ref 139, .int x1, .int x2] [] (am_sh I J) = am_ev X amP_239 62 [.ref 139, .int x1, .int (x2 + (1 : Int32))] [] (am_sh I J) := by
  refine (ev_iincv (v := (1 : Int32)) (ls' := [.ref 139, .int x1, .int (x2 + (1 : Int32))]) rfl am_ci_1 rfl rfl).trans ?_
  refine (ev_goto rfl).trans ?_
  rfl
set_option maxRecDepth 10000 in
theorem sg_239_169 (X : am_X) (I : Nat → Nat → Int32) (J : Nat → Nat → Int64) (x1 : Int32) (x2 : Int32) : am_ev X amP_239 169 [.ref 139, .int x1, .int x2] [] (am_sh I J) = (if (60 : Int32) ≤ x2 then (am_do X 248 [.ref 139] (am_sh (am_up (am_up I 139 24 (0 : Int32)) 139 36 (0 : Int32)) J)).bind (fun q => am_ev X amP_239 190 [.ref 139, .int x1, .int x2] (q.1.toList ++ []) q.2) else (if x2 < 0 ∨ 60 ≤ x2.toNatClampNeg then none else (if x2 < 0 ∨ 60 ≤ x2.toNatClampNeg then none else am_ev X amP_239 169 [.ref 139, .int x1, .int (x2 + (1 : Int32))] [] (am_sh (am_up I 142 x2.toNatClampNeg (I 144 x2.toNatClampNeg)) J)))) := by
  refine (ev_iload rfl rfl).trans ?_
  refine (ev_const1 (v := (60 : Int32)) rfl am_ci_60).trans ?_
  refine (ev_icmp3 rfl).trans (am_ite (fun c1 => ?_) (fun c1 => ?_))
  · refine (ev_aload rfl rfl).trans ?_
    refine (ev_const0 (v := (0 : Int32)) rfl am_ci_0).trans ?_
    refine (ev_putI rfl (by decide) am_K_139 (by decide) rfl).trans ?_
    refine (ev_aload rfl rfl).trans ?_
    refine (ev_const0 (v := (0 : Int32)) rfl am_ci_0).trans ?_
    refine (ev_putI rfl (by decide) am_K_139 (by decide) rfl).trans ?_
    refine (ev_aload rfl rfl).trans ?_
    exact ev_invv (as := []) rfl (by decide) am_K_139 rfl (by simp [Value.category])
  · refine (ev_aload rfl rfl).trans ?_
    refine (ev_getR rfl (by decide) am_K_139 (by decide) rfl am_R_139_5).trans ?_
    refine (ev_iload rfl rfl).trans ?_
    refine (ev_aload rfl rfl).trans ?_
    refine (ev_getR rfl (by decide) am_K_139 (by decide) rfl am_R_139_10).trans ?_
    refine (ev_iload rfl rfl).trans ?_
    refine (ev_iald rfl (by decide) am_K_144).trans (am_itn (fun g2 => ?_))
    refine (ev_iast rfl (by decide) am_K_142).trans (am_itn (fun g3 => ?_))
    refine (ev_iincv (v := (1 : Int32)) (ls' := [.ref 139, .int x1, .int (x2 + (1 : Int32))]) rfl am_ci_1 rfl rfl).trans ?_
    refine (ev_goto rfl).trans ?_
    rfl
set_option maxRecDepth 10000 in
theorem sg_239_190 (X : am_X) (I : Nat → Nat → Int32) (J : Nat → Nat → Int64) (x1 : Int32) (x2 : Int32) : am_ev X amP_239 190 [.ref 139, .int x1, .int x2] [] (am_sh I J) = some (some (.int x1), am_sh I J) := by
  refine (ev_iload rfl rfl).trans ?_
  exact ev_iret rfl
-- 240 X12_fault
set_option maxRecDepth 10000 in
theorem sg_240_e0 (X : am_X) (I : Nat → Nat → Int32) (J : Nat → Nat → Int64) (x1 : Int32) : am_ev X amP_240 0 [.ref 139, .int x1] [] (am_sh I J) = (if ¬ x1 = 0 then (if ¬ x1 = (1 : Int32) then some (some (.int (-1 : Int32)), am_sh I J) else some (some (.int (I 139 15)), am_sh I J)) else some (some (.int (I 139 14)), am_sh I J)) := by
  refine (ev_iload rfl rfl).trans ?_
  refine (ev_if1 rfl).trans (am_ite (fun c1 => ?_) (fun c1 => ?_))
  · refine (ev_iload rfl rfl).trans ?_
    refine (ev_const0 (v := (1 : Int32)) rfl am_ci_1).trans ?_
    refine (ev_icmp1 rfl).trans (am_ite (fun c2 => ?_) (fun c2 => ?_))
    · refine (ev_const0 (v := (-1 : Int32)) rfl am_ci_m1).trans ?_
      exact ev_iret rfl
    · refine (ev_aload rfl rfl).trans ?_
      refine (ev_getI rfl (by decide) am_K_139 (by decide) rfl).trans ?_
      refine (ev_goto rfl).trans ?_
      exact ev_iret rfl
  · refine (ev_aload rfl rfl).trans ?_
    refine (ev_getI rfl (by decide) am_K_139 (by decide) rfl).trans ?_
    refine (ev_goto rfl).trans ?_
    exact ev_iret rfl
theorem cl_240 (X : am_X) (I : Nat → Nat → Int32) (J : Nat → Nat → Int64) (x1 : Int32) : am_do X 240 [.ref 139, .int x1] (am_sh I J) = am_ev X amP_240 0 [.ref 139, .int x1] [] (am_sh I J) := am_do_of rfl rfl rfl
-- 241 X12_of
set_option maxRecDepth 10000 in
theorem sg_241_e0 (X : am_X) (I : Nat → Nat → Int32) (J : Nat → Nat → Int64) (x1 : Int32) (x2 : Int32) : am_ev X amP_241 0 [.ref 139, .int x1, .int x2] [] (am_sh I J) = (if (((3 : Int32) + ((7 : Int32) * x1)) + x2) < 0 ∨ 153 ≤ (((3 : Int32) + ((7 : Int32) * x1)) + x2).toNatClampNeg then none else some (some (.int (I 148 (((3 : Int32) + ((7 : Int32) * x1)) + x2).toNatClampNeg)), am_sh I J)) := by
  refine (ev_aload rfl rfl).trans ?_
  refine (ev_getR rfl (by decide) am_K_139 (by decide) rfl am_R_139_22).trans ?_
  refine (ev_const0 (v := (3 : Int32)) rfl am_ci_3).trans ?_
  refine (ev_const1 (v := (7 : Int32)) rfl am_ci_7).trans ?_
  refine (ev_iload rfl rfl).trans ?_
  refine (ev_imul rfl).trans ?_
  refine (ev_iadd rfl).trans ?_
  refine (ev_iload rfl rfl).trans ?_
  refine (ev_iadd rfl).trans ?_
  refine (ev_iald rfl (by decide) am_K_148).trans (am_itn (fun g1 => ?_))
  exact ev_iret rfl
theorem cl_241 (X : am_X) (I : Nat → Nat → Int32) (J : Nat → Nat → Int64) (x1 : Int32) (x2 : Int32) : am_do X 241 [.ref 139, .int x1, .int x2] (am_sh I J) = am_ev X amP_241 0 [.ref 139, .int x1, .int x2] [] (am_sh I J) := am_do_of rfl rfl rfl
-- 242 X12_sets
set_option maxRecDepth 10000 in
theorem sg_242_e0 (X : am_X) (I : Nat → Nat → Int32) (J : Nat → Nat → Int64) (x1 : Int32) (x2 : Int32) (x3 : Int32) : am_ev X amP_242 0 [.ref 139, .int x1, .int x2, .int x3] [] (am_sh I J) = (if (((3 : Int32) + ((7 : Int32) * x1)) + x2) < 0 ∨ 153 ≤ (((3 : Int32) + ((7 : Int32) * x1)) + x2).toNatClampNeg then none else some (none, am_sh (am_up I 148 (((3 : Int32) + ((7 : Int32) * x1)) + x2).toNatClampNeg x3) J)) := by
  refine (ev_aload rfl rfl).trans ?_
  refine (ev_getR rfl (by decide) am_K_139 (by decide) rfl am_R_139_22).trans ?_
  refine (ev_const0 (v := (3 : Int32)) rfl am_ci_3).trans ?_
  refine (ev_const1 (v := (7 : Int32)) rfl am_ci_7).trans ?_
  refine (ev_iload rfl rfl).trans ?_
  refine (ev_imul rfl).trans ?_
  refine (ev_iadd rfl).trans ?_
  refine (ev_iload rfl rfl).trans ?_
  refine (ev_iadd rfl).trans ?_
  refine (ev_iload rfl rfl).trans ?_
  refine (ev_iast rfl (by decide) am_K_148).trans (am_itn (fun g1 => ?_))
  exact ev_vret rfl
theorem cl_242 (X : am_X) (I : Nat → Nat → Int32) (J : Nat → Nat → Int64) (x1 : Int32) (x2 : Int32) (x3 : Int32) : am_do X 242 [.ref 139, .int x1, .int x2, .int x3] (am_sh I J) = am_ev X amP_242 0 [.ref 139, .int x1, .int x2, .int x3] [] (am_sh I J) := am_do_of rfl rfl rfl
-- 243 X12_isUp
set_option maxRecDepth 10000 in
theorem sg_243_e0 (X : am_X) (I : Nat → Nat → Int32) (J : Nat → Nat → Int64) (x1 : Int32) : am_ev X amP_243 0 [.ref 139, .int x1] [] (am_sh I J) = (am_do X 241 [.ref 139, .int x1, .int (6 : Int32)] (am_sh I J)).bind (fun q => am_ev X amP_243 4 [.ref 139, .int x1] (q.1.toList ++ []) q.2) := by
  refine (ev_aload rfl rfl).trans ?_
  refine (ev_iload rfl rfl).trans ?_
  refine (ev_const1 (v := (6 : Int32)) rfl am_ci_6).trans ?_
  exact ev_invv (as := [.int (6 : Int32), .int x1]) rfl (by decide) am_K_139 rfl (by simp [Value.category])
theorem cl_243 (X : am_X) (I : Nat → Nat → Int32) (J : Nat → Nat → Int64) (x1 : Int32) : am_do X 243 [.ref 139, .int x1] (am_sh I J) = am_ev X amP_243 0 [.ref 139, .int x1] [] (am_sh I J) := am_do_of rfl rfl rfl
set_option maxRecDepth 10000 in
theorem sg_243_4 (X : am_X) (I : Nat → Nat → Int32) (J : Nat → Nat → Int64) (x1 : Int32) (x2 : Int32) : am_ev X amP_243 4 [.ref 139, .int x1] [.int x2] (am_sh I J) = (if ¬ x2 = (1 : Int32) then some (some (.int (0 : Int32)), am_sh I J) else some (some (.int (1 : Int32)), am_sh I J)) := by
  refine (ev_const0 (v := (1 : Int32)) rfl am_ci_1).trans ?_
  refine (ev_icmp1 rfl).trans (am_ite (fun c1 => ?_) (fun c1 => ?_))
  · refine (ev_const0 (v := (0 : Int32)) rfl am_ci_0).trans ?_
    exact ev_zret rfl (by decide)
  · refine (ev_const0 (v := (1 : Int32)) rfl am_ci_1).trans ?_
    refine (ev_goto rfl).trans ?_
    exact ev_zret rfl (by decide)
-- 244 X12_remembers
set_option maxRecDepth 10000 in
theorem sg_244_e0 (X : am_X) (I : Nat → Nat → Int32) (J : Nat → Nat → Int64) : am_ev X amP_244 0 [.ref 139, .null] [] (am_sh I J) = (if ¬ (I 139 24) = (20 : Int32) then am_ev X amP_244 29 [.ref 139, .int (0 : Int32)] [] (am_sh I J) else am_ev X amP_244 6 [.ref 139, .int (0 : Int32)] [] (am_sh I J)) := by
  refine (ev_aload rfl rfl).trans ?_
  refine (ev_getI rfl (by decide) am_K_139 (by decide) rfl).trans ?_
  refine (ev_const1 (v := (20 : Int32)) rfl am_ci_20).trans ?_
  refine (ev_icmp1 rfl).trans (am_ite (fun c1 => ?_) (fun c1 => ?_))
  · refine (ev_const0 (v := (0 : Int32)) rfl am_ci_0).trans ?_
    refine (ev_istore (ls' := [.ref 139, .int (0 : Int32)]) rfl (Nat.le_of_ble_eq_true rfl) rfl).trans ?_
    rfl
  · refine (ev_const0 (v := (0 : Int32)) rfl am_ci_0).trans ?_
    refine (ev_istore (ls' := [.ref 139, .int (0 : Int32)]) rfl (Nat.le_of_ble_eq_true rfl) rfl).trans ?_
    rfl
theorem cl_244 (X : am_X) (I : Nat → Nat → Int32) (J : Nat → Nat → Int64) : am_do X 244 [.ref 139] (am_sh I J) = am_ev X amP_244 0 [.ref 139, .null] [] (am_sh I J) := am_do_of rfl rfl rfl
set_option maxRecDepth 10000 in
theorem sg_244_6 (X : am_X) (I : Nat → Nat → Int32) (J : Nat → Nat → Int64) (x1 : Int32) : am_ev X amP_244 6 [.ref 139, .int x1] [] (am_sh I J) = (if (2907 : Int32) ≤ x1 then am_ev X amP_244 29 [.ref 139, .int (0 : Int32)] [] (am_sh (am_up I 139 24 ((I 139 24) - (1 : Int32))) J) else (if (x1 + (153 : Int32)) < 0 ∨ 3060 ≤ (x1 + (153 : Int32)).toNatClampNeg then none else (if x1 < 0 ∨ 3060 ≤ x1.toNatClampNeg then none else am_ev X amP_244 6 [.ref 139, .int (x1 + (1 : Int32))] [] (am_sh (am_up I 149 x1.toNatClampNeg (I 149 (x1 + (153 : Int32)).toNatClampNeg)) J)))) := by
  refine (ev_iload rfl rfl).trans ?_
  refine (ev_const2 (v := (2907 : Int32)) rfl am_ci_2907).trans ?_
  refine (ev_icmp3 rfl).trans (am_ite (fun c1 => ?_) (fun c1 => ?_))
  · refine (ev_aload rfl rfl).trans ?_
    refine (ev_dupr rfl).trans ?_
    refine (ev_getI rfl (by decide) am_K_139 (by decide) rfl).trans ?_
    refine (ev_const0 (v := (1 : Int32)) rfl am_ci_1).trans ?_
    refine (ev_isub rfl).trans ?_
    refine (ev_putI rfl (by decide) am_K_139 (by decide) rfl).trans ?_
    refine (ev_const0 (v := (0 : Int32)) rfl am_ci_0).trans ?_
    refine (ev_istore (ls' := [.ref 139, .int (0 : Int32)]) rfl (Nat.le_of_ble_eq_true rfl) rfl).trans ?_
    rfl
  · refine (ev_aload rfl rfl).trans ?_
    refine (ev_getR rfl (by decide) am_K_139 (by decide) rfl am_R_139_23).trans ?_
    refine (ev_iload rfl rfl).trans ?_
    refine (ev_aload rfl rfl).trans ?_
    refine (ev_getR rfl (by decide) am_K_139 (by decide) rfl am_R_139_23).trans ?_
    refine (ev_iload rfl rfl).trans ?_
    refine (ev_const2 (v := (153 : Int32)) rfl am_ci_153).trans ?_
    refine (ev_iadd rfl).trans ?_
    refine (ev_iald rfl (by decide) am_K_149).trans (am_itn (fun g2 => ?_))
    refine (ev_iast rfl (by decide) am_K_149).trans (am_itn (fun g3 => ?_))
    refine (ev_iincv (v := (1 : Int32)) (ls' := [.ref 139, .int (x1 + (1 : Int32))]) rfl am_ci_1 rfl rfl).trans ?_
    refine (ev_goto rfl).trans ?_
    rfl
set_option maxRecDepth 10000 in
theorem sg_244_29 (X : am_X) (I : Nat → Nat → Int32) (J : Nat → Nat → Int64) (x1 : Int32) : am_ev X amP_244 29 [.ref 139, .int x1] [] (am_sh I J) = (if (153 : Int32) ≤ x1 then some (none, am_sh (am_up I 139 24 ((I 139 24) + (1 : Int32))) J) else (if x1 < 0 ∨ 153 ≤ x1.toNatClampNeg then none else (if (((153 : Int32) * (I 139 24)) + x1) < 0 ∨ 3060 ≤ (((153 : Int32) * (I 139 24)) + x1).toNatClampNeg then none else am_ev X amP_244 29 [.ref 139, .int (x1 + (1 : Int32))] [] (am_sh (am_up I 149 (((153 : Int32) * (I 139 24)) + x1).toNatClampNeg (I 148 x1.toNatClampNeg)) J)))) := by
  refine (ev_iload rfl rfl).trans ?_
  refine (ev_const2 (v := (153 : Int32)) rfl am_ci_153).trans ?_
  refine (ev_icmp3 rfl).trans (am_ite (fun c1 => ?_) (fun c1 => ?_))
  · refine (ev_aload rfl rfl).trans ?_
    refine (ev_dupr rfl).trans ?_
    refine (ev_getI rfl (by decide) am_K_139 (by decide) rfl).trans ?_
    refine (ev_const0 (v := (1 : Int32)) rfl am_ci_1).trans ?_
    refine (ev_iadd rfl).trans ?_
    refine (ev_putI rfl (by decide) am_K_139 (by decide) rfl).trans ?_
    exact ev_vret rfl
  · refine (ev_aload rfl rfl).trans ?_
    refine (ev_getR rfl (by decide) am_K_139 (by decide) rfl am_R_139_23).trans ?_
    refine (ev_const2 (v := (153 : Int32)) rfl am_ci_153).trans ?_
    refine (ev_aload rfl rfl).trans ?_
    refine (ev_getI rfl (by decide) am_K_139 (by decide) rfl).trans ?_
    refine (ev_imul rfl).trans ?_
    refine (ev_iload rfl rfl).trans ?_
    refine (ev_iadd rfl).trans ?_
    refine (ev_aload rfl rfl).trans ?_
    refine (ev_getR rfl (by decide) am_K_139 (by decide) rfl am_R_139_22).trans ?_
    refine (ev_iload rfl rfl).trans ?_
    refine (ev_iald rfl (by decide) am_K_148).trans (am_itn (fun g2 => ?_))
    refine (ev_iast rfl (by decide) am_K_149).trans (am_itn (fun g3 => ?_))
    refine (ev_iincv (v := (1 : Int32)) (ls' := [.ref 139, .int (x1 + (1 : Int32))]) rfl am_ci_1 rfl rfl).trans ?_
    refine (ev_goto rfl).trans ?_
    rfl
-- 245 X12_onRing
set_option maxRecDepth 10000 in
theorem sg_245_e0 (X : am_X) (I : Nat → Nat → Int32) (J : Nat → Nat → Int64) (x1 : Int32) (x2 : Int32) (x3 : Int32) : am_ev X amP_245 0 [.int x1, .int x2, .int x3] [] (am_sh I J) = (if x2 < x1 then (if ((2 : Int32) * x2) < x1 then (if ((3 : Int32) * x2) < x1 then (if x3 = 0 then some (some (.int (x1 - ((4 : Int32) * x2))), am_sh I J) else some (some (.int (x1 - ((3 : Int32) * x2))), am_sh I J)) else (if x3 = 0 then some (some (.int (((2 : Int32) * x2) - x1)), am_sh I J) else some (some (.int (x1 - ((3 : Int32) * x2))), am_sh I J))) else (if x3 = 0 then some (some (.int (((2 : Int32) * x2) - x1)), am_sh I J) else some (some (.int (x2 - x1)), am_sh I J))) else (if x3 = 0 then some (some (.int x1), am_sh I J) else some (some (.int (x2 - x1)), am_sh I J))) := by
  refine (ev_iload rfl rfl).trans ?_
  refine (ev_iload rfl rfl).trans ?_
  refine (ev_icmp4 rfl).trans (am_ite (fun c1 => ?_) (fun c1 => ?_))
  · refine (ev_iload rfl rfl).trans ?_
    refine (ev_const0 (v := (2 : Int32)) rfl am_ci_2).trans ?_
    refine (ev_iload rfl rfl).trans ?_
    refine (ev_imul rfl).trans ?_
    refine (ev_icmp4 rfl).trans (am_ite (fun c2 => ?_) (fun c2 => ?_))
    · refine (ev_iload rfl rfl).trans ?_
      refine (ev_const0 (v := (3 : Int32)) rfl am_ci_3).trans ?_
      refine (ev_iload rfl rfl).trans ?_
      refine (ev_imul rfl).trans ?_
      refine (ev_icmp4 rfl).trans (am_ite (fun c3 => ?_) (fun c3 => ?_))
      · refine (ev_iload rfl rfl).trans ?_
        refine (ev_if0 rfl).trans (am_ite (fun c4 => ?_) (fun c4 => ?_))
        · refine (ev_iload rfl rfl).trans ?_
          refine (ev_const0 (v := (4 : Int32)) rfl am_ci_4).trans ?_
          refine (ev_iload rfl rfl).trans ?_
          refine (ev_imul rfl).trans ?_
          refine (ev_isub rfl).trans ?_
          exact ev_iret rfl
        · refine (ev_iload rfl rfl).trans ?_
          refine (ev_const0 (v := (3 : Int32)) rfl am_ci_3).trans ?_
          refine (ev_iload rfl rfl).trans ?_
          refine (ev_imul rfl).trans ?_
          refine (ev_isub rfl).trans ?_
          refine (ev_goto rfl).trans ?_
          exact ev_iret rfl
      · refine (ev_iload rfl rfl).trans ?_
        refine (ev_if0 rfl).trans (am_ite (fun c4 => ?_) (fun c4 => ?_))
        · refine (ev_const0 (v := (2 : Int32)) rfl am_ci_2).trans ?_
          refine (ev_iload rfl rfl).trans ?_
          refine (ev_imul rfl).trans ?_
          refine (ev_iload rfl rfl).trans ?_
          refine (ev_isub rfl).trans ?_
          exact ev_iret rfl
        · refine (ev_iload rfl rfl).trans ?_
          refine (ev_const0 (v := (3 : Int32)) rfl am_ci_3).trans ?_
          refine (ev_iload rfl rfl).trans ?_
          refine (ev_imul rfl).trans ?_
          refine (ev_isub rfl).trans ?_
          refine (ev_goto rfl).trans ?_
          exact ev_iret rfl
    · refine (ev_iload rfl rfl).trans ?_
      refine (ev_if0 rfl).trans (am_ite (fun c3 => ?_) (fun c3 => ?_))
      · refine (ev_const0 (v := (2 : Int32)) rfl am_ci_2).trans ?_
        refine (ev_iload rfl rfl).trans ?_
        refine (ev_imul rfl).trans ?_
        refine (ev_iload rfl rfl).trans ?_
        refine (ev_isub rfl).trans ?_
        exact ev_iret rfl
      · refine (ev_iload rfl rfl).trans ?_
        refine (ev_iload rfl rfl).trans ?_
        refine (ev_isub rfl).trans ?_
        refine (ev_goto rfl).trans ?_
        exact ev_iret rfl
  · refine (ev_iload rfl rfl).trans ?_
    refine (ev_if0 rfl).trans (am_ite (fun c2 => ?_) (fun c2 => ?_))
    · refine (ev_iload rfl rfl).trans ?_
      exact ev_iret rfl
    · refine (ev_iload rfl rfl).trans ?_
      refine (ev_iload rfl rfl).trans ?_
      refine (ev_isub rfl).trans ?_
      refine (ev_goto rfl).trans ?_
      exact ev_iret rfl
theorem cl_245 (X : am_X) (I : Nat → Nat → Int32) (J : Nat → Nat → Int64) (x1 : Int32) (x2 : Int32) (x3 : Int32) : am_do X 245 [.int x1, .int x2, .int x3] (am_sh I J) = am_ev X amP_245 0 [.int x1, .int x2, .int x3] [] (am_sh I J) := am_do_of rfl rfl rfl
-- 246 X12_laysPlace
set_option maxRecDepth 10000 in
theorem sg_246_e0 (X : am_X) (I : Nat → Nat → Int32) (J : Nat → Nat → Int64) (x1 : Int32) (x2 : Int32) : am_ev X amP_246 0 [.ref 139, .int x1, .int x2, .null, .null, .null, .null, .null, .null, .null, .null] [] (am_sh I J) = (am_do X 241 [.ref 139, .int x1, .int (2 : Int32)] (am_sh I J)).bind (fun q => am_ev X amP_246 4 [.ref 139, .int x1, .int x2, .null, .null, .null, .null, .null, .null, .null, .null] (q.1.toList ++ []) q.2) := by
  refine (ev_aload rfl rfl).trans ?_
  refine (ev_iload rfl rfl).trans ?_
  refine (ev_const0 (v := (2 : Int32)) rfl am_ci_2).trans ?_
  exact ev_invv (as := [.int (2 : Int32), .int x1]) rfl (by decide) am_K_139 rfl (by simp [Value.category])
theorem cl_246 (X : am_X) (I : Nat → Nat → Int32) (J : Nat → Nat → Int64) (x1 : Int32) (x2 : Int32) : am_do X 246 [.ref 139, .int x1, .int x2] (am_sh I J) = am_ev X amP_246 0 [.ref 139, .int x1, .int x2, .null, .null, .null, .null, .null, .null, .null, .null] [] (am_sh I J) := am_do_of rfl rfl rfl
set_option maxRecDepth 10000 in
theorem sg_246_4 (X : am_X) (I : Nat → Nat → Int32) (J : Nat → Nat → Int64) (x1 : Int32) (x2 : Int32) (w3 : Value) (w4 : Value) (w5 : Value) (w6 : Value) (w7 : Value) (w8 : Value) (w9 : Value) (w10 : Value) (x11 : Int32) (hw3 : w3.category = 1) (hw4 : w4.category = 1) (hw5 : w5.category = 1) (hw6 : w6.category = 1) (hw7 : w7.category = 1) (hw8 : w8.category = 1) (hw9 : w9.category = 1) (hw10 : w10.category = 1) : am_ev X amP_246 4 [.ref 139, .int x1, .int x2, w3, w4, w5, w6, w7, w8, w9, w10] [.int x11] (am_sh I J) = (if x1 < 0 ∨ 10 ≤ x1.toNatClampNeg then none else (if (I 140 x1.toNatClampNeg) = 0 then none else (am_do X 241 [.ref 139, .int x1, .int (3 : Int32)] (am_sh I J)).bind (fun q => am_ev X amP_246 17 [.ref 139, .int x1, .int x2, .int ((x11 + x2) - (x11 + x2) / (I 140 x1.toNatClampNeg) * (I 140 x1.toNatClampNeg)), w4, w5, w6, w7, w8, w9, w10] (q.1.toList ++ [.int ((x11 + x2) - (x11 + x2) / (I 140 x1.toNatClampNeg) * (I 140 x1.toNatClampNeg))]) q.2))) := by
  refine (ev_iload rfl rfl).trans ?_
  refine (ev_iadd rfl).trans ?_
  refine (ev_aload rfl rfl).trans ?_
  refine (ev_getR rfl (by decide) am_K_139 (by decide) rfl am_R_139_3).trans ?_
  refine (ev_iload rfl rfl).trans ?_
  refine (ev_iald rfl (by decide) am_K_140).trans (am_itn (fun g1 => ?_))
  refine (ev_irem rfl).trans (am_itn (fun g2 => ?_))
  refine (ev_istore (ls' := [.ref 139, .int x1, .int x2, .int ((x11 + x2) - (x11 + x2) / (I 140 x1.toNatClampNeg) * (I 140 x1.toNatClampNeg)), w4, w5, w6, w7, w8, w9, w10]) rfl (Nat.le_of_ble_eq_true rfl) rfl).trans ?_
  refine (ev_iload rfl rfl).trans ?_
  refine (ev_aload rfl rfl).trans ?_
  refine (ev_iload rfl rfl).trans ?_
  refine (ev_const0 (v := (3 : Int32)) rfl am_ci_3).trans ?_
  exact ev_invv (as := [.int (3 : Int32), .int x1]) rfl (by decide) am_K_139 rfl (by simp [Value.category])
set_option maxRecDepth 10000 in
theorem sg_246_17 (X : am_X) (I : Nat → Nat → Int32) (J : Nat → Nat → Int64) (x1 : Int32) (x2 : Int32) (x3 : Int32) (w4 : Value) (w5 : Value) (w6 : Value) (w7 : Value) (w8 : Value) (w9 : Value) (w10 : Value) (x11 : Int32) (x12 : Int32) (hw4 : w4.category = 1) (hw5 : w5.category = 1) (hw6 : w6.category = 1) (hw7 : w7.category = 1) (hw8 : w8.category = 1) (hw9 : w9.category = 1) (hw10 : w10.category = 1) : am_ev X amP_246 17 [.ref 139, .int x1, .int x2, .int x3, w4, w5, w6, w7, w8, w9, w10] [.int x12, .int x11] (am_sh I J) = (if x1 < 0 ∨ 10 ≤ x1.toNatClampNeg then none else (if (I 140 x1.toNatClampNeg) = 0 then none else (am_do X 241 [.ref 139, .int x1, .int (0 : Int32)] (am_sh I J)).bind (fun q => am_ev X amP_246 28 [.ref 139, .int x1, .int x2, .int x3, .int ((x11 + x12) - (x11 + x12) / (I 140 x1.toNatClampNeg) * (I 140 x1.toNatClampNeg)), w5, w6, w7, w8, w9, w10] (q.1.toList ++ []) q.2))) := by
  refine (ev_iadd rfl).trans ?_
  refine (ev_aload rfl rfl).trans ?_
  refine (ev_getR rfl (by decide) am_K_139 (by decide) rfl am_R_139_3).trans ?_
  refine (ev_iload rfl rfl).trans ?_
  refine (ev_iald rfl (by decide) am_K_140).trans (am_itn (fun g1 => ?_))
  refine (ev_irem rfl).trans (am_itn (fun g2 => ?_))
  refine (ev_istore (ls' := [.ref 139, .int x1, .int x2, .int x3, .int ((x11 + x12) - (x11 + x12) / (I 140 x1.toNatClampNeg) * (I 140 x1.toNatClampNeg)), w5, w6, w7, w8, w9, w10]) rfl (Nat.le_of_ble_eq_true rfl) rfl).trans ?_
  refine (ev_aload rfl rfl).trans ?_
  refine (ev_iload rfl rfl).trans ?_
  refine (ev_const0 (v := (0 : Int32)) rfl am_ci_0).trans ?_
  exact ev_invv (as := [.int (0 : Int32), .int x1]) rfl (by decide) am_K_139 rfl (by simp [Value.category])
set_option maxRecDepth 10000 in
theorem sg_246_28 (X : am_X) (I : Nat → Nat → Int32) (J : Nat → Nat → Int64) (x1 : Int32) (x2 : Int32) (x3 : Int32) (x4 : Int32) (w5 : Value) (w6 : Value) (w7 : Value) (w8 : Value) (w9 : Value) (w10 : Value) (x11 : Int32) (hw5 : w5.category = 1) (hw6 : w6.category = 1) (hw7 : w7.category = 1) (hw8 : w8.category = 1) (hw9 : w9.category = 1) (hw10 : w10.category = 1) : am_ev X amP_246 28 [.ref 139, .int x1, .int x2, .int x3, .int x4, w5, w6, w7, w8, w9, w10] [.int x11] (am_sh I J) = (am_do X 241 [.ref 139, .int x1, .int (1 : Int32)] (am_sh I J)).bind (fun q => am_ev X amP_246 33 [.ref 139, .int x1, .int x2, .int x3, .int x4, w5, w6, w7, w8, w9, w10] (q.1.toList ++ [.int (2 : Int32), .int x11]) q.2) := by
  refine (ev_const0 (v := (2 : Int32)) rfl am_ci_2).trans ?_
  refine (ev_aload rfl rfl).trans ?_
  refine (ev_iload rfl rfl).trans ?_
  refine (ev_const0 (v := (1 : Int32)) rfl am_ci_1).trans ?_
  exact ev_invv (as := [.int (1 : Int32), .int x1]) rfl (by decide) am_K_139 rfl (by simp [Value.category])
set_option maxRecDepth 10000 in
theorem sg_246_33 (X : am_X) (I : Nat → Nat → Int32) (J : Nat → Nat → Int64) (x1 : Int32) (x2 : Int32) (x3 : Int32) (x4 : Int32) (w5 : Value) (w6 : Value) (w7 : Value) (w8 : Value) (w9 : Value) (w10 : Value) (x11 : Int32) (x12 : Int32) (x13 : Int32) (hw5 : w5.category = 1) (hw6 : w6.category = 1) (hw7 : w7.category = 1) (hw8 : w8.category = 1) (hw9 : w9.category = 1) (hw10 : w10.category = 1) : am_ev X amP_246 33 [.ref 139, .int x1, .int x2, .int x3, .int x4, w5, w6, w7, w8, w9, w10] [.int x13, .int x12, .int x11] (am_sh I J) = (am_do X 241 [.ref 139, .int x1, .int (0 : Int32)] (am_sh I J)).bind (fun q => am_ev X amP_246 37 [.ref 139, .int x1, .int x2, .int x3, .int x4, w5, w6, w7, w8, w9, w10] (q.1.toList ++ [.int x13, .int x12, .int x11]) q.2) := by
  refine (ev_aload rfl rfl).trans ?_
  refine (ev_iload rfl rfl).trans ?_
  refine (ev_const0 (v := (0 : Int32)) rfl am_ci_0).trans ?_
  exact ev_invv (as := [.int (0 : Int32), .int x1]) rfl (by decide) am_K_139 rfl (by simp [Value.category])
set_option maxRecDepth 10000 in
theorem sg_246_37 (X : am_X) (I : Nat → Nat → Int32) (J : Nat → Nat → Int64) (x1 : Int32) (x2 : Int32) (x3 : Int32) (x4 : Int32) (w5 : Value) (w6 : Value) (w7 : Value) (w8 : Value) (w9 : Value) (w10 : Value) (x11 : Int32) (x12 : Int32) (x13 : Int32) (x14 : Int32) (hw5 : w5.category = 1) (hw6 : w6.category = 1) (hw7 : w7.category = 1) (hw8 : w8.category = 1) (hw9 : w9.category = 1) (hw10 : w10.category = 1) : am_ev X amP_246 37 [.ref 139, .int x1, .int x2, .int x3, .int x4, w5, w6, w7, w8, w9, w10] [.int x14, .int x13, .int x12, .int x11] (am_sh I J) = (if x1 < 0 ∨ 10 ≤ x1.toNatClampNeg then none else (am_do X 215 [.int x4, .int ((I 140 x1.toNatClampNeg) - x4)] (am_sh I J)).bind (fun q => am_ev X amP_246 47 [.ref 139, .int x1, .int x2, .int x3, .int x4, w5, w6, w7, w8, w9, w10] (q.1.toList ++ [.int (x12 * (x13 - x14)), .int x11]) q.2)) := by
  refine (ev_isub rfl).trans ?_
  refine (ev_imul rfl).trans ?_
  refine (ev_iload rfl rfl).trans ?_
  refine (ev_aload rfl rfl).trans ?_
  refine (ev_getR rfl (by decide) am_K_139 (by decide) rfl am_R_139_3).trans ?_
  refine (ev_iload rfl rfl).trans ?_
  refine (ev_iald rfl (by decide) am_K_140).trans (am_itn (fun g1 => ?_))
  refine (ev_iload rfl rfl).trans ?_
  refine (ev_isub rfl).trans ?_
  exact ev_invs (as := [.int ((I 140 x1.toNatClampNeg) - x4), .int x4]) rfl rfl (by simp [Value.category])
set_option maxRecDepth 10000 in
theorem sg_246_47 (X : am_X) (I : Nat → Nat → Int32) (J : Nat → Nat → Int64) (x1 : Int32) (x2 : Int32) (x3 : Int32) (x4 : Int32) (w5 : Value) (w6 : Value) (w7 : Value) (w8 : Value) (w9 : Value) (w10 : Value) (x11 : Int32) (x12 : Int32) (x13 : Int32) (hw5 : w5.category = 1) (hw6 : w6.category = 1) (hw7 : w7.category = 1) (hw8 : w8.category = 1) (hw9 : w9.category = 1) (hw10 : w10.category = 1) : am_ev X amP_246 47 [.ref 139, .int x1, .int x2, .int x3, .int x4, w5, w6, w7, w8, w9, w10] [.int x13, .int x12, .int x11] (am_sh I J) = (if x1 < 0 ∨ 10 ≤ x1.toNatClampNeg then none else (if (I 140 x1.toNatClampNeg) = 0 then none else (if x1 < 0 ∨ 10 ≤ x1.toNatClampNeg then none else (if (I 140 x1.toNatClampNeg) = 0 then none else (am_do X 245 [.int ((((4 : Int32) * x3) * (x11 + ((x12 * x13) / (I 140 x1.toNatClampNeg)))) / (I 140 x1.toNatClampNeg)), .int (x11 + ((x12 * x13) / (I 140 x1.toNatClampNeg))), .int (1 : Int32)] (am_sh I J)).bind (fun q => am_ev X amP_246 70 [.ref 139, .int x1, .int x2, .int x3, .int x4, .int (x11 + ((x12 * x13) / (I 140 x1.toNatClampNeg))), .int ((((4 : Int32) * x3) * (x11 + ((x12 * x13) / (I 140 x1.toNatClampNeg)))) / (I 140 x1.toNatClampNeg)), w7, w8, w9, w10] (q.1.toList ++ []) q.2))))) := by
  refine (ev_imul rfl).trans ?_
  refine (ev_aload rfl rfl).trans ?_
  refine (ev_getR rfl (by decide) am_K_139 (by decide) rfl am_R_139_3).trans ?_
  refine (ev_iload rfl rfl).trans ?_
  refine (ev_iald rfl (by decide) am_K_140).trans (am_itn (fun g1 => ?_))
  refine (ev_idiv rfl).trans (am_itn (fun g2 => ?_))
  refine (ev_iadd rfl).trans ?_
  refine (ev_istore (ls' := [.ref 139, .int x1, .int x2, .int x3, .int x4, .int (x11 + ((x12 * x13) / (I 140 x1.toNatClampNeg))), w6, w7, w8, w9, w10]) rfl (Nat.le_of_ble_eq_true rfl) rfl).trans ?_
  refine (ev_const0 (v := (4 : Int32)) rfl am_ci_4).trans ?_
  refine (ev_iload rfl rfl).trans ?_
  refine (ev_imul rfl).trans ?_
  refine (ev_iload rfl rfl).trans ?_
  refine (ev_imul rfl).trans ?_
  refine (ev_aload rfl rfl).trans ?_
  refine (ev_getR rfl (by decide) am_K_139 (by decide) rfl am_R_139_3).trans ?_
  refine (ev_iload rfl rfl).trans ?_
  refine (ev_iald rfl (by decide) am_K_140).trans (am_itn (fun g3 => ?_))
  refine (ev_idiv rfl).trans (am_itn (fun g4 => ?_))
  refine (ev_istore (ls' := [.ref 139, .int x1, .int x2, .int x3, .int x4, .int (x11 + ((x12 * x13) / (I 140 x1.toNatClampNeg))), .int ((((4 : Int32) * x3) * (x11 + ((x12 * x13) / (I 140 x1.toNatClampNeg)))) / (I 140 x1.toNatClampNeg)), w7, w8, w9, w10]) rfl (Nat.le_of_ble_eq_true rfl) rfl).trans ?_
  refine (ev_iload rfl rfl).trans ?_
  refine (ev_iload rfl rfl).trans ?_
  refine (ev_const0 (v := (1 : Int32)) rfl am_ci_1).trans ?_
  exact ev_invs (as := [.int (1 : Int32), .int (x11 + ((x12 * x13) / (I 140 x1.toNatClampNeg))), .int ((((4 : Int32) * x3) * (x11 + ((x12 * x13) / (I 140 x1.toNatClampNeg)))) / (I 140 x1.toNatClampNeg))]) rfl rfl (by simp [Value.category])
set_option maxRecDepth 10000 in
theorem sg_246_70 (X : am_X) (I : Nat → Nat → Int32) (J : Nat → Nat → Int64) (x1 : Int32) (x2 : Int32) (x3 : Int32) (x4 : Int32) (x5 : Int32) (x6 : Int32) (w7 : Value) (w8 : Value) (w9 : Value) (w10 : Value) (x11 : Int32) (hw7 : w7.category = 1) (hw8 : w8.category = 1) (hw9 : w9.category = 1) (hw10 : w10.category = 1) : am_ev X amP_246 70 [.ref 139, .int x1, .int x2, .int x3, .int x4, .int x5, .int x6, w7, w8, w9, w10] [.int x11] (am_sh I J) = (am_do X 245 [.int x6, .int x5, .int (0 : Int32)] (am_sh I J)).bind (fun q => am_ev X amP_246 75 [.ref 139, .int x1, .int x2, .int x3, .int x4, .int x5, .int x6, .int x11, w8, w9, w10] (q.1.toList ++ []) q.2) := by
  refine (ev_istore (ls' := [.ref 139, .int x1, .int x2, .int x3, .int x4, .int x5, .int x6, .int x11, w8, w9, w10]) rfl (Nat.le_of_ble_eq_true rfl) rfl).trans ?_
  refine (ev_iload rfl rfl).trans ?_
  refine (ev_iload rfl rfl).trans ?_
  refine (ev_const0 (v := (0 : Int32)) rfl am_ci_0).trans ?_
  exact ev_invs (as := [.int (0 : Int32), .int x5, .int x6]) rfl rfl (by simp [Value.category])
set_option maxRecDepth 10000 in
theorem sg_246_75 (X : am_X) (I : Nat → Nat → Int32) (J : Nat → Nat → Int64) (x1 : Int32) (x2 : Int32) (x3 : Int32) (x4 : Int32) (x5 : Int32) (x6 : Int32) (x7 : Int32) (w8 : Value) (w9 : Value) (w10 : Value) (x11 : Int32) (hw8 : w8.category = 1) (hw9 : w9.category = 1) (hw10 : w10.category = 1) : am_ev X amP_246 75 [.ref 139, .int x1, .int x2, .int x3, .int x4, .int x5, .int x6, .int x7, w8, w9, w10] [.int x11] (am_sh I J) = (am_do X 241 [.ref 139, .int x1, .int (4 : Int32)] (am_sh I J)).bind (fun q => am_ev X amP_246 82 [.ref 139, .int x1, .int x2, .int x3, .int x4, .int x5, .int x6, .int x7, .int x11, w9, w10] (q.1.toList ++ [.int (16 : Int32), .int x11]) q.2) := by
  refine (ev_istore (ls' := [.ref 139, .int x1, .int x2, .int x3, .int x4, .int x5, .int x6, .int x7, .int x11, w9, w10]) rfl (Nat.le_of_ble_eq_true rfl) rfl).trans ?_
  refine (ev_iload rfl rfl).trans ?_
  refine (ev_const1 (v := (16 : Int32)) rfl am_ci_16).trans ?_
  refine (ev_aload rfl rfl).trans ?_
  refine (ev_iload rfl rfl).trans ?_
  refine (ev_const0 (v := (4 : Int32)) rfl am_ci_4).trans ?_
  exact ev_invv (as := [.int (4 : Int32), .int x1]) rfl (by decide) am_K_139 rfl (by simp [Value.category])
set_option maxRecDepth 10000 in
theorem sg_246_82 (X : am_X) (I : Nat → Nat → Int32) (J : Nat → Nat → Int64) (x1 : Int32) (x2 : Int32) (x3 : Int32) (x4 : Int32) (x5 : Int32) (x6 : Int32) (x7 : Int32) (x8 : Int32) (w9 : Value) (w10 : Value) (x11 : Int32) (x12 : Int32) (x13 : Int32) (hw9 : w9.category = 1) (hw10 : w10.category = 1) : am_ev X amP_246 82 [.ref 139, .int x1, .int x2, .int x3, .int x4, .int x5, .int x6, .int x7, .int x8, w9, w10] [.int x13, .int x12, .int x11] (am_sh I J) = (if x1 < 0 ∨ 10 ≤ x1.toNatClampNeg then none else (if ¬ (I 141 x1.toNatClampNeg) = 0 then (if x1 < 0 ∨ 10 ≤ x1.toNatClampNeg then none else (if ¬ (I 141 x1.toNatClampNeg) = (1 : Int32) then (if x1 < 0 ∨ 10 ≤ x1.toNatClampNeg then none else (if ¬ (I 141 x1.toNatClampNeg) = (2 : Int32) then am_ev X amP_246 124 [.ref 139, .int x1, .int x2, .int x3, .int x4, .int x5, .int x6, .int x7, .int x8, .int ((x11 * (x12 - x13)) / (16 : Int32)), .int ((4 : Int32) * (((48 : Int32) * x1) + x2))] [.int ((x11 * (x12 - x13)) / (16 : Int32)), .int ((4 : Int32) * (((48 : Int32) * x1) + x2)), .ref 150] (am_sh I J) else am_ev X amP_246 124 [.ref 139, .int x1, .int x2, .int x3, .int x4, .int x5, .int x6, .int x7, .int x8, .int ((x11 * (x12 - x13)) / (16 : Int32)), .int ((4 : Int32) * (((48 : Int32) * x1) + x2))] [.int (-x7), .int ((4 : Int32) * (((48 : Int32) * x1) + x2)), .ref 150] (am_sh I J))) else am_ev X amP_246 124 [.ref 139, .int x1, .int x2, .int x3, .int x4, .int x5, .int x6, .int x7, .int x8, .int ((x11 * (x12 - x13)) / (16 : Int32)), .int ((4 : Int32) * (((48 : Int32) * x1) + x2))] [.int (-((x11 * (x12 - x13)) / (16 : Int32))), .int ((4 : Int32) * (((48 : Int32) * x1) + x2)), .ref 150] (am_sh I J))) else am_ev X amP_246 124 [.ref 139, .int x1, .int x2, .int x3, .int x4, .int x5, .int x6, .int x7, .int x8, .int ((x11 * (x12 - x13)) / (16 : Int32)), .int ((4 : Int32) * (((48 : Int32) * x1) + x2))] [.int x7, .int ((4 : Int32) * (((48 : Int32) * x1) + x2)), .ref 150] (am_sh I J))) := by
  refine (ev_isub rfl).trans ?_
  refine (ev_imul rfl).trans ?_
  refine (ev_const1 (v := (16 : Int32)) rfl am_ci_16).trans ?_
  refine (ev_idivN (by decide) rfl).trans ?_
  refine (ev_istore (ls' := [.ref 139, .int x1, .int x2, .int x3, .int x4, .int x5, .int x6, .int x7, .int x8, .int ((x11 * (x12 - x13)) / (16 : Int32)), w10]) rfl (Nat.le_of_ble_eq_true rfl) rfl).trans ?_
  refine (ev_const0 (v := (4 : Int32)) rfl am_ci_4).trans ?_
  refine (ev_const1 (v := (48 : Int32)) rfl am_ci_48).trans ?_
  refine (ev_iload rfl rfl).trans ?_
  refine (ev_imul rfl).trans ?_
  refine (ev_iload rfl rfl).trans ?_
  refine (ev_iadd rfl).trans ?_
  refine (ev_imul rfl).trans ?_
  refine (ev_istore (ls' := [.ref 139, .int x1, .int x2, .int x3, .int x4, .int x5, .int x6, .int x7, .int x8, .int ((x11 * (x12 - x13)) / (16 : Int32)), .int ((4 : Int32) * (((48 : Int32) * x1) + x2))]) rfl (Nat.le_of_ble_eq_true rfl) rfl).trans ?_
  refine (ev_aload rfl rfl).trans ?_
  refine (ev_getR rfl (by decide) am_K_139 (by decide) rfl am_R_139_25).trans ?_
  refine (ev_iload rfl rfl).trans ?_
  refine (ev_aload rfl rfl).trans ?_
  refine (ev_getR rfl (by decide) am_K_139 (by decide) rfl am_R_139_4).trans ?_
  refine (ev_iload rfl rfl).trans ?_
  refine (ev_iald rfl (by decide) am_K_141).trans (am_itn (fun g1 => ?_))
  refine (ev_if1 rfl).trans (am_ite (fun c2 => ?_) (fun c2 => ?_))
  · refine (ev_aload rfl rfl).trans ?_
    refine (ev_getR rfl (by decide) am_K_139 (by decide) rfl am_R_139_4).trans ?_
    refine (ev_iload rfl rfl).trans ?_
    refine (ev_iald rfl (by decide) am_K_141).trans (am_itn (fun g3 => ?_))
    refine (ev_const0 (v := (1 : Int32)) rfl am_ci_1).trans ?_
    refine (ev_icmp1 rfl).trans (am_ite (fun c4 => ?_) (fun c4 => ?_))
    · refine (ev_aload rfl rfl).trans ?_
      refine (ev_getR rfl (by decide) am_K_139 (by decide) rfl am_R_139_4).trans ?_
      refine (ev_iload rfl rfl).trans ?_
      refine (ev_iald rfl (by decide) am_K_141).trans (am_itn (fun g5 => ?_))
      refine (ev_const0 (v := (2 : Int32)) rfl am_ci_2).trans ?_
      refine (ev_icmp1 rfl).trans (am_ite (fun c6 => ?_) (fun c6 => ?_))
      · refine (ev_iload rfl rfl).trans ?_
        rfl
      · refine (ev_iload rfl rfl).trans ?_
        refine (ev_ineg rfl).trans ?_
        refine (ev_goto rfl).trans ?_
        rfl
    · refine (ev_iload rfl rfl).trans ?_
      refine (ev_ineg rfl).trans ?_
      refine (ev_goto rfl).trans ?_
      rfl
  · refine (ev_iload rfl rfl).trans ?_
    refine (ev_goto rfl).trans ?_
    rfl
set_option maxRecDepth 10000 in
theorem sg_246_124 (X : am_X) (I : Nat → Nat → Int32) (J : Nat → Nat → Int64) (x1 : Int32) (x2 : Int32) (x3 : Int32) (x4 : Int32) (x5 : Int32) (x6 : Int32) (x7 : Int32) (x8 : Int32) (x9 : Int32) (x10 : Int32) (x11 : Int32) (x12 : Int32) : am_ev X amP_246 124 [.ref 139, .int x1, .int x2, .int x3, .int x4, .int x5, .int x6, .int x7, .int x8, .int x9, .int x10] [.int x12, .int x11, .ref 150] (am_sh I J) = (if x11 < 0 ∨ 1920 ≤ x11.toNatClampNeg then none else (if x1 < 0 ∨ 10 ≤ x1.toNatClampNeg then none else (if ¬ ((am_up I 150 x11.toNatClampNeg x12) 141 x1.toNatClampNeg) = 0 then (if x1 < 0 ∨ 10 ≤ x1.toNatClampNeg then none else (if ¬ ((am_up I 150 x11.toNatClampNeg x12) 141 x1.toNatClampNeg) = (1 : Int32) then (if x1 < 0 ∨ 10 ≤ x1.toNatClampNeg then none else (if ¬ ((am_up I 150 x11.toNatClampNeg x12) 141 x1.toNatClampNeg) = (2 : Int32) then am_ev X amP_246 156 [.ref 139, .int x1, .int x2, .int x3, .int x4, .int x5, .int x6, .int x7, .int x8, .int x9, .int x10] [.int (-x7), .int (x10 + (1 : Int32)), .ref 150] (am_sh (am_up I 150 x11.toNatClampNeg x12) J) else am_ev X amP_246 156 [.ref 139, .int x1, .int x2, .int x3, .int x4, .int x5, .int x6, .int x7, .int x8, .int x9, .int x10] [.int (-x9), .int (x10 + (1 : Int32)), .ref 150] (am_sh (am_up I 150 x11.toNatClampNeg x12) J))) else am_ev X amP_246 156 [.ref 139, .int x1, .int x2, .int x3, .int x4, .int x5, .int x6, .int x7, .int x8, .int x9, .int x10] [.int x7, .int (x10 + (1 : Int32)), .ref 150] (am_sh (am_up I 150 x11.toNatClampNeg x12) J))) else am_ev X amP_246 156 [.ref 139, .int x1, .int x2, .int x3, .int x4, .int x5, .int x6, .int x7, .int x8, .int x9, .int x10] [.int x9, .int (x10 + (1 : Int32)), .ref 150] (am_sh (am_up I 150 x11.toNatClampNeg x12) J)))) := by
  refine (ev_iast rfl (by decide) am_K_150).trans (am_itn (fun g1 => ?_))
  refine (ev_aload rfl rfl).trans ?_
  refine (ev_getR rfl (by decide) am_K_139 (by decide) rfl am_R_139_25).trans ?_
  refine (ev_iload rfl rfl).trans ?_
  refine (ev_const0 (v := (1 : Int32)) rfl am_ci_1).trans ?_
  refine (ev_iadd rfl).trans ?_
  refine (ev_aload rfl rfl).trans ?_
  refine (ev_getR rfl (by decide) am_K_139 (by decide) rfl am_R_139_4).trans ?_
  refine (ev_iload rfl rfl).trans ?_
  refine (ev_iald rfl (by decide) am_K_141).trans (am_itn (fun g2 => ?_))
  refine (ev_if1 rfl).trans (am_ite (fun c3 => ?_) (fun c3 => ?_))
  · refine (ev_aload rfl rfl).trans ?_
    refine (ev_getR rfl (by decide) am_K_139 (by decide) rfl am_R_139_4).trans ?_
    refine (ev_iload rfl rfl).trans ?_
    refine (ev_iald rfl (by decide) am_K_141).trans (am_itn (fun g4 => ?_))
    refine (ev_const0 (v := (1 : Int32)) rfl am_ci_1).trans ?_
    refine (ev_icmp1 rfl).trans (am_ite (fun c5 => ?_) (fun c5 => ?_))
    · refine (ev_aload rfl rfl).trans ?_
      refine (ev_getR rfl (by decide) am_K_139 (by decide) rfl am_R_139_4).trans ?_
      refine (ev_iload rfl rfl).trans ?_
      refine (ev_iald rfl (by decide) am_K_141).trans (am_itn (fun g6 => ?_))
      refine (ev_const0 (v := (2 : Int32)) rfl am_ci_2).trans ?_
      refine (ev_icmp1 rfl).trans (am_ite (fun c7 => ?_) (fun c7 => ?_))
      · refine (ev_iload rfl rfl).trans ?_
        refine (ev_ineg rfl).trans ?_
        rfl
      · refine (ev_iload rfl rfl).trans ?_
        refine (ev_ineg rfl).trans ?_
        refine (ev_goto rfl).trans ?_
        rfl
    · refine (ev_iload rfl rfl).trans ?_
      refine (ev_goto rfl).trans ?_
      rfl
  · refine (ev_iload rfl rfl).trans ?_
    refine (ev_goto rfl).trans ?_
    rfl
set_option maxRecDepth 10000 in
theorem sg_246_156 (X : am_X) (I : Nat → Nat → Int32) (J : Nat → Nat → Int64) (x1 : Int32) (x2 : Int32) (x3 : Int32) (x4 : Int32) (x5 : Int32) (x6 : Int32) (x7 : Int32) (x8 : Int32) (x9 : Int32) (x10 : Int32) (x11 : Int32) (x12 : Int32) : am_ev X amP_246 156 [.ref 139, .int x1, .int x2, .int x3, .int x4, .int x5, .int x6, .int x7, .int x8, .int x9, .int x10] [.int x12, .int x11, .ref 150] (am_sh I J) = (if x11 < 0 ∨ 1920 ≤ x11.toNatClampNeg then none else (am_do X 241 [.ref 139, .int x1, .int (4 : Int32)] (am_sh (am_up I 150 x11.toNatClampNeg x12) J)).bind (fun q => am_ev X amP_246 167 [.ref 139, .int x1, .int x2, .int x3, .int x4, .int x5, .int x6, .int x7, .int x8, .int x9, .int x10] (q.1.toList ++ [.int x8, .int (x10 + (2 : Int32)), .ref 150]) q.2)) := by
  refine (ev_iast rfl (by decide) am_K_150).trans (am_itn (fun g1 => ?_))
  refine (ev_aload rfl rfl).trans ?_
  refine (ev_getR rfl (by decide) am_K_139 (by decide) rfl am_R_139_25).trans ?_
  refine (ev_iload rfl rfl).trans ?_
  refine (ev_const0 (v := (2 : Int32)) rfl am_ci_2).trans ?_
  refine (ev_iadd rfl).trans ?_
  refine (ev_iload rfl rfl).trans ?_
  refine (ev_aload rfl rfl).trans ?_
  refine (ev_iload rfl rfl).trans ?_
  refine (ev_const0 (v := (4 : Int32)) rfl am_ci_4).trans ?_
  exact ev_invv (as := [.int (4 : Int32), .int x1]) rfl (by decide) am_K_139 rfl (by simp [Value.category])
set_option maxRecDepth 10000 in
theorem sg_246_167 (X : am_X) (I : Nat → Nat → Int32) (J : Nat → Nat → Int64) (x1 : Int32) (x2 : Int32) (x3 : Int32) (x4 : Int32) (x5 : Int32) (x6 : Int32) (x7 : Int32) (x8 : Int32) (x9 : Int32) (x10 : Int32) (x11 : Int32) (x12 : Int32) (x13 : Int32) : am_ev X amP_246 167 [.ref 139, .int x1, .int x2, .int x3, .int x4, .int x5, .int x6, .int x7, .int x8, .int x9, .int x10] [.int x13, .int x12, .int x11, .ref 150] (am_sh I J) = (if x11 < 0 ∨ 1920 ≤ x11.toNatClampNeg then none else (if (x10 + (3 : Int32)) < 0 ∨ 1920 ≤ (x10 + (3 : Int32)).toNatClampNeg then none else some (none, am_sh (am_up (am_up I 150 x11.toNatClampNeg ((x12 * x13) / (16 : Int32))) 150 (x10 + (3 : Int32)).toNatClampNeg x5) J))) := by
  refine (ev_imul rfl).trans ?_
  refine (ev_const1 (v := (16 : Int32)) rfl am_ci_16).trans ?_
  refine (ev_idivN (by decide) rfl).trans ?_
  refine (ev_iast rfl (by decide) am_K_150).trans (am_itn (fun g1 => ?_))
  refine (ev_aload rfl rfl).trans ?_
  refine (ev_getR rfl (by decide) am_K_139 (by decide) rfl am_R_139_25).trans ?_
  refine (ev_iload rfl rfl).trans ?_
  refine (ev_const0 (v := (3 : Int32)) rfl am_ci_3).trans ?_
  refine (ev_iadd rfl).trans ?_
  refine (ev_iload rfl rfl).trans ?_
  refine (ev_iast rfl (by decide) am_K_150).trans (am_itn (fun g2 => ?_))
  exact ev_vret rfl
-- 247 X12_laysBody
set_option maxRecDepth 10000 in
theorem sg_247_e0 (X : am_X) (I : Nat → Nat → Int32) (J : Nat → Nat → Int64) (x1 : Int32) : am_ev X amP_247 0 [.ref 139, .int x1, .null] [] (am_sh I J) = am_ev X amP_247 2 [.ref 139, .int x1, .int (0 : Int32)] [] (am_sh I J) := by
  refine (ev_const0 (v := (0 : Int32)) rfl am_ci_0).trans ?_
  refine (ev_istore (ls' := [.ref 139, .int x1, .int (0 : Int32)]) rfl (Nat.le_of_ble_eq_true rfl) rfl).trans ?_
  rfl
theorem cl_247 (X : am_X) (I : Nat → Nat → Int32) (J : Nat → Nat → Int64) (x1 : Int32) : am_do X 247 [.ref 139, .int x1] (am_sh I J) = am_ev X amP_247 0 [.ref 139, .int x1, .null] [] (am_sh I J) := am_do_of rfl rfl rfl
set_option maxRecDepth 10000 in
theorem sg_247_2 (X : am_X) (I : Nat → Nat → Int32) (J : Nat → Nat → Int64) (x1 : Int32) (x2 : Int32) : am_ev X amP_247 2 [.ref 139, .int x1, .int x2] [] (am_sh I J) = (if x1 < 0 ∨ 10 ≤ x1.toNatClampNeg then none else (if (I 140 x1.toNatClampNeg) ≤ x2 then some (none, am_sh I J) else (am_do X 246 [.ref 139, .int x1, .int x2] (am_sh I J)).bind (fun q => am_ev X amP_247 12 [.ref 139, .int x1, .int x2] (q.1.toList ++ []) q.2))) := by
  refine (ev_iload rfl rfl).trans ?_
  refine (ev_aload rfl rfl).trans ?_
  refine (ev_getR rfl (by decide) am_K_139 (by decide) rfl am_R_139_3).trans ?_
  refine (ev_iload rfl rfl).trans ?_
  refine (ev_iald rfl (by decide) am_K_140).trans (am_itn (fun g1 => ?_))
  refine (ev_icmp3 rfl).trans (am_ite (fun c2 => ?_) (fun c2 => ?_))
  · exact ev_vret rfl
  · refine (ev_aload rfl rfl).trans ?_
    refine (ev_iload rfl rfl).trans ?_
    refine (ev_iload rfl rfl).trans ?_
    exact ev_invv (as := [.int x2, .int x1]) rfl (by decide) am_K_139 rfl (by simp [Value.category])
set_option maxRecDepth 10000 in
theorem sg_247_12 (X : am_X) (I : Nat → Nat → Int32) (J : Nat → Nat → Int64) (x1 : Int32) (x2 : Int32) : am_ev X amP_247 12 [.ref 139, .int x1, .int x2] [] (am_sh I J) = am_ev X amP_247 2 [.ref 139, .int x1, .int (x2 + (1 : Int32))] [] (am_sh I J) := by
  refine (ev_iincv (v := (1 : Int32)) (ls' := [.ref 139, .int x1, .int (x2 + (1 : Int32))]) rfl am_ci_1 rfl rfl).trans ?_
  refine (ev_goto rfl).trans ?_
  rfl
-- 248 X12_laysAll
set_option maxRecDepth 10000 in
theorem sg_248_e0 (X : am_X) (I : Nat → Nat → Int32) (J : Nat → Nat → Int64) : am_ev X amP_248 0 [.ref 139, .null] [] (am_sh I J) = am_ev X amP_248 2 [.ref 139, .int (0 : Int32)] [] (am_sh I J) := by
  refine (ev_const0 (v := (0 : Int32)) rfl am_ci_0).trans ?_
  refine (ev_istore (ls' := [.ref 139, .int (0 : Int32)]) rfl (Nat.le_of_ble_eq_true rfl) rfl).trans ?_
  rfl
theorem cl_248 (X : am_X) (I : Nat → Nat → Int32) (J : Nat → Nat → Int64) : am_do X 248 [.ref 139] (am_sh I J) = am_ev X amP_248 0 [.ref 139, .null] [] (am_sh I J) := am_do_of rfl rfl rfl
set_option maxRecDepth 10000 in
theorem sg_248_2 (X : am_X) (I : Nat → Nat → Int32) (J : Nat → Nat → Int64) (x1 : Int32) : am_ev X amP_248 2 [.ref 139, .int x1] [] (am_sh I J) = (if (I 139 1) ≤ x1 then some (none, am_sh I J) else (am_do X 247 [.ref 139, .int x1] (am_sh I J)).bind (fun q => am_ev X amP_248 9 [.ref 139, .int x1] (q.1.toList ++ []) q.2)) := by
  refine (ev_iload rfl rfl).trans ?_
  refine (ev_aload rfl rfl).trans ?_
  refine (ev_getI rfl (by decide) am_K_139 (by decide) rfl).trans ?_
  refine (ev_icmp3 rfl).trans (am_ite (fun c1 => ?_) (fun c1 => ?_))
  · exact ev_vret rfl
  · refine (ev_aload rfl rfl).trans ?_
    refine (ev_iload rfl rfl).trans ?_
    exact ev_invv (as := [.int x1]) rfl (by decide) am_K_139 rfl (by simp [Value.category])
set_option maxRecDepth 10000 in
theorem sg_248_9 (X : am_X) (I : Nat → Nat → Int32) (J : Nat → Nat → Int64) (x1 : Int32) : am_ev X amP_248 9 [.ref 139, .int x1] [] (am_sh I J) = am_ev X amP_248 2 [.ref 139, .int (x1 + (1 : Int32))] [] (am_sh I J) := by
  refine (ev_iincv (v := (1 : Int32)) (ls' := [.ref 139, .int (x1 + (1 : Int32))]) rfl am_ci_1 rfl rfl).trans ?_
  refine (ev_goto rfl).trans ?_
  rfl
-- 249 X12_place
set_option maxRecDepth 10000 in
theorem sg_249_e0 (X : am_X) (I : Nat → Nat → Int32) (J : Nat → Nat → Int64) (x1 : Int32) (x2 : Int32) (x3 : Int32) : am_ev X amP_249 0 [.ref 139, .int x1, .int x2, .int x3] [] (am_sh I J) = (if x1 < 0 ∨ 10 ≤ x1.toNatClampNeg then none else (if (I 140 x1.toNatClampNeg) = 0 then none else (if (((4 : Int32) * (((48 : Int32) * x1) + (x2 - x2 / (I 140 x1.toNatClampNeg) * (I 140 x1.toNatClampNeg)))) + x3) < 0 ∨ 1920 ≤ (((4 : Int32) * (((48 : Int32) * x1) + (x2 - x2 / (I 140 x1.toNatClampNeg) * (I 140 x1.toNatClampNeg)))) + x3).toNatClampNeg then none else some (some (.int (I 150 (((4 : Int32) * (((48 : Int32) * x1) + (x2 - x2 / (I 140 x1.toNatClampNeg) * (I 140 x1.toNatClampNeg)))) + x3).toNatClampNeg)), am_sh I J)))) := by
  refine (ev_aload rfl rfl).trans ?_
  refine (ev_getR rfl (by decide) am_K_139 (by decide) rfl am_R_139_25).trans ?_
  refine (ev_const0 (v := (4 : Int32)) rfl am_ci_4).trans ?_
  refine (ev_const1 (v := (48 : Int32)) rfl am_ci_48).trans ?_
  refine (ev_iload rfl rfl).trans ?_
  refine (ev_imul rfl).trans ?_
  refine (ev_iload rfl rfl).trans ?_
  refine (ev_aload rfl rfl).trans ?_
  refine (ev_getR rfl (by decide) am_K_139 (by decide) rfl am_R_139_3).trans ?_
  refine (ev_iload rfl rfl).trans ?_
  refine (ev_iald rfl (by decide) am_K_140).trans (am_itn (fun g1 => ?_))
  refine (ev_irem rfl).trans (am_itn (fun g2 => ?_))
  refine (ev_iadd rfl).trans ?_
  refine (ev_imul rfl).trans ?_
  refine (ev_iload rfl rfl).trans ?_
  refine (ev_iadd rfl).trans ?_
  refine (ev_iald rfl (by decide) am_K_150).trans (am_itn (fun g3 => ?_))
  exact ev_iret rfl
theorem cl_249 (X : am_X) (I : Nat → Nat → Int32) (J : Nat → Nat → Int64) (x1 : Int32) (x2 : Int32) (x3 : Int32) : am_do X 249 [.ref 139, .int x1, .int x2, .int x3] (am_sh I J) = am_ev X amP_249 0 [.ref 139, .int x1, .int x2, .int x3] [] (am_sh I J) := am_do_of rfl rfl rfl
-- 250 X12_farAt
set_option maxRecDepth 10000 in
theorem sg_250_e0 (X : am_X) (I : Nat → Nat → Int32) (J : Nat → Nat → Int64) (x1 : Int32) (x2 : Int32) (x3 : Int32) : am_ev X amP_250 0 [.ref 139, .int x1, .int x2, .int x3, .null, .null, .null, .null, .null] [] (am_sh I J) = (if x1 < 0 ∨ 10 ≤ x1.toNatClampNeg then none else (if (I 140 x1.toNatClampNeg) = 0 then none else (if x2 < 0 ∨ 10 ≤ x2.toNatClampNeg then none else (if (I 140 x2.toNatClampNeg) = 0 then none else (if ((4 : Int32) * (((48 : Int32) * x1) + (x3 - x3 / (I 140 x1.toNatClampNeg) * (I 140 x1.toNatClampNeg)))) < 0 ∨ 1920 ≤ ((4 : Int32) * (((48 : Int32) * x1) + (x3 - x3 / (I 140 x1.toNatClampNeg) * (I 140 x1.toNatClampNeg)))).toNatClampNeg then none else (if ((4 : Int32) * (((48 : Int32) * x2) + (x3 - x3 / (I 140 x2.toNatClampNeg) * (I 140 x2.toNatClampNeg)))) < 0 ∨ 1920 ≤ ((4 : Int32) * (((48 : Int32) * x2) + (x3 - x3 / (I 140 x2.toNatClampNeg) * (I 140 x2.toNatClampNeg)))).toNatClampNeg then none else (if (((4 : Int32) * (((48 : Int32) * x1) + (x3 - x3 / (I 140 x1.toNatClampNeg) * (I 140 x1.toNatClampNeg)))) + (1 : Int32)) < 0 ∨ 1920 ≤ (((4 : Int32) * (((48 : Int32) * x1) + (x3 - x3 / (I 140 x1.toNatClampNeg) * (I 140 x1.toNatClampNeg)))) + (1 : Int32)).toNatClampNeg then none else (if (((4 : Int32) * (((48 : Int32) * x2) + (x3 - x3 / (I 140 x2.toNatClampNeg) * (I 140 x2.toNatClampNeg)))) + (1 : Int32)) < 0 ∨ 1920 ≤ (((4 : Int32) * (((48 : Int32) * x2) + (x3 - x3 / (I 140 x2.toNatClampNeg) * (I 140 x2.toNatClampNeg)))) + (1 : Int32)).toNatClampNeg then none else (if (((4 : Int32) * (((48 : Int32) * x1) + (x3 - x3 / (I 140 x1.toNatClampNeg) * (I 140 x1.toNatClampNeg)))) + (2 : Int32)) < 0 ∨ 1920 ≤ (((4 : Int32) * (((48 : Int32) * x1) + (x3 - x3 / (I 140 x1.toNatClampNeg) * (I 140 x1.toNatClampNeg)))) + (2 : Int32)).toNatClampNeg then none else (if (((4 : Int32) * (((48 : Int32) * x2) + (x3 - x3 / (I 140 x2.toNatClampNeg) * (I 140 x2.toNatClampNeg)))) + (2 : Int32)) < 0 ∨ 1920 ≤ (((4 : Int32) * (((48 : Int32) * x2) + (x3 - x3 / (I 140 x2.toNatClampNeg) * (I 140 x2.toNatClampNeg)))) + (2 : Int32)).toNatClampNeg then none else some (some (.int (((((I 150 ((4 : Int32) * (((48 : Int32) * x1) + (x3 - x3 / (I 140 x1.toNatClampNeg) * (I 140 x1.toNatClampNeg)))).toNatClampNeg) - (I 150 ((4 : Int32) * (((48 : Int32) * x2) + (x3 - x3 / (I 140 x2.toNatClampNeg) * (I 140 x2.toNatClampNeg)))).toNatClampNeg)) * ((I 150 ((4 : Int32) * (((48 : Int32) * x1) + (x3 - x3 / (I 140 x1.toNatClampNeg) * (I 140 x1.toNatClampNeg)))).toNatClampNeg) - (I 150 ((4 : Int32) * (((48 : Int32) * x2) + (x3 - x3 / (I 140 x2.toNatClampNeg) * (I 140 x2.toNatClampNeg)))).toNatClampNeg))) + (((I 150 (((4 : Int32) * (((48 : Int32) * x1) + (x3 - x3 / (I 140 x1.toNatClampNeg) * (I 140 x1.toNatClampNeg)))) + (1 : Int32)).toNatClampNeg) - (I 150 (((4 : Int32) * (((48 : Int32) * x2) + (x3 - x3 / (I 140 x2.toNatClampNeg) * (I 140 x2.toNatClampNeg)))) + (1 : Int32)).toNatClampNeg)) * ((I 150 (((4 : Int32) * (((48 : Int32) * x1) + (x3 - x3 / (I 140 x1.toNatClampNeg) * (I 140 x1.toNatClampNeg)))) + (1 : Int32)).toNatClampNeg) - (I 150 (((4 : Int32) * (((48 : Int32) * x2) + (x3 - x3 / (I 140 x2.toNatClampNeg) * (I 140 x2.toNatClampNeg)))) + (1 : Int32)).toNatClampNeg)))) + (((I 150 (((4 : Int32) * (((48 : Int32) * x1) + (x3 - x3 / (I 140 x1.toNatClampNeg) * (I 140 x1.toNatClampNeg)))) + (2 : Int32)).toNatClampNeg) - (I 150 (((4 : Int32) * (((48 : Int32) * x2) + (x3 - x3 / (I 140 x2.toNatClampNeg) * (I 140 x2.toNatClampNeg)))) + (2 : Int32)).toNatClampNeg)) * ((I 150 (((4 : Int32) * (((48 : Int32) * x1) + (x3 - x3 / (I 140 x1.toNatClampNeg) * (I 140 x1.toNatClampNeg)))) + (2 : Int32)).toNatClampNeg) - (I 150 (((4 : Int32) * (((48 : Int32) * x2) + (x3 - x3 / (I 140 x2.toNatClampNeg) * (I 140 x2.toNatClampNeg)))) + (2 : Int32)).toNatClampNeg))))), am_sh I J))))))))))) := by
  refine (ev_const0 (v := (4 : Int32)) rfl am_ci_4).trans ?_
  refine (ev_const1 (v := (48 : Int32)) rfl am_ci_48).trans ?_
  refine (ev_iload rfl rfl).trans ?_
  refine (ev_imul rfl).trans ?_
  refine (ev_iload rfl rfl).trans ?_
  refine (ev_aload rfl rfl).trans ?_
  refine (ev_getR rfl (by decide) am_K_139 (by decide) rfl am_R_139_3).trans ?_
  refine (ev_iload rfl rfl).trans ?_
  refine (ev_iald rfl (by decide) am_K_140).trans (am_itn (fun g1 => ?_))
  refine (ev_irem rfl).trans (am_itn (fun g2 => ?_))
  refine (ev_iadd rfl).trans ?_
  refine (ev_imul rfl).trans ?_
  refine (ev_istore (ls' := [.ref 139, .int x1, .int x2, .int x3, .int ((4 : Int32) * (((48 : Int32) * x1) + (x3 - x3 / (I 140 x1.toNatClampNeg) * (I 140 x1.toNatClampNeg)))), .null, .null, .null, .null]) rfl (Nat.le_of_ble_eq_true rfl) rfl).trans ?_
  refine (ev_const0 (v := (4 : Int32)) rfl am_ci_4).trans ?_
  refine (ev_const1 (v := (48 : Int32)) rfl am_ci_48).trans ?_
  refine (ev_iload rfl rfl).trans ?_
  refine (ev_imul rfl).trans ?_
  refine (ev_iload rfl rfl).trans ?_
  refine (ev_aload rfl rfl).trans ?_
  refine (ev_getR rfl (by decide) am_K_139 (by decide) rfl am_R_139_3).trans ?_
  refine (ev_iload rfl rfl).trans ?_
  refine (ev_iald rfl (by decide) am_K_140).trans (am_itn (fun g3 => ?_))
  refine (ev_irem rfl).trans (am_itn (fun g4 => ?_))
  refine (ev_iadd rfl).trans ?_
  refine (ev_imul rfl).trans ?_
  refine (ev_istore (ls' := [.ref 139, .int x1, .int x2, .int x3, .int ((4 : Int32) * (((48 : Int32) * x1) + (x3 - x3 / (I 140 x1.toNatClampNeg) * (I 140 x1.toNatClampNeg)))), .int ((4 : Int32) * (((48 : Int32) * x2) + (x3 - x3 / (I 140 x2.toNatClampNeg) * (I 140 x2.toNatClampNeg)))), .null, .null, .null]) rfl (Nat.le_of_ble_eq_true rfl) rfl).trans ?_
  refine (ev_aload rfl rfl).trans ?_
  refine (ev_getR rfl (by decide) am_K_139 (by decide) rfl am_R_139_25).trans ?_
  refine (ev_iload rfl rfl).trans ?_
  refine (ev_iald rfl (by decide) am_K_150).trans (am_itn (fun g5 => ?_))
  refine (ev_aload rfl rfl).trans ?_
  refine (ev_getR rfl (by decide) am_K_139 (by decide) rfl am_R_139_25).trans ?_
  refine (ev_iload rfl rfl).trans ?_
  refine (ev_iald rfl (by decide) am_K_150).trans (am_itn (fun g6 => ?_))
  refine (ev_isub rfl).trans ?_
  refine (ev_istore (ls' := [.ref 139, .int x1, .int x2, .int x3, .int ((4 : Int32) * (((48 : Int32) * x1) + (x3 - x3 / (I 140 x1.toNatClampNeg) * (I 140 x1.toNatClampNeg)))), .int ((4 : Int32) * (((48 : Int32) * x2) + (x3 - x3 / (I 140 x2.toNatClampNeg) * (I 140 x2.toNatClampNeg)))), .int ((I 150 ((4 : Int32) * (((48 : Int32) * x1) + (x3 - x3 / (I 140 x1.toNatClampNeg) * (I 140 x1.toNatClampNeg)))).toNatClampNeg) - (I 150 ((4 : Int32) * (((48 : Int32) * x2) + (x3 - x3 / (I 140 x2.toNatClampNeg) * (I 140 x2.toNatClampNeg)))).toNatClampNeg)), .null, .null]) rfl (Nat.le_of_ble_eq_true rfl) rfl).trans ?_
  refine (ev_aload rfl rfl).trans ?_
  refine (ev_getR rfl (by decide) am_K_139 (by decide) rfl am_R_139_25).trans ?_
  refine (ev_iload rfl rfl).trans ?_
  refine (ev_const0 (v := (1 : Int32)) rfl am_ci_1).trans ?_
  refine (ev_iadd rfl).trans ?_
  refine (ev_iald rfl (by decide) am_K_150).trans (am_itn (fun g7 => ?_))
  refine (ev_aload rfl rfl).trans ?_
  refine (ev_getR rfl (by decide) am_K_139 (by decide) rfl am_R_139_25).trans ?_
  refine (ev_iload rfl rfl).trans ?_
  refine (ev_const0 (v := (1 : Int32)) rfl am_ci_1).trans ?_
  refine (ev_iadd rfl).trans ?_
  refine (ev_iald rfl (by decide) am_K_150).trans (am_itn (fun g8 => ?_))
  refine (ev_isub rfl).trans ?_
  refine (ev_istore (ls' := [.ref 139, .int x1, .int x2, .int x3, .int ((4 : Int32) * (((48 : Int32) * x1) + (x3 - x3 / (I 140 x1.toNatClampNeg) * (I 140 x1.toNatClampNeg)))), .int ((4 : Int32) * (((48 : Int32) * x2) + (x3 - x3 / (I 140 x2.toNatClampNeg) * (I 140 x2.toNatClampNeg)))), .int ((I 150 ((4 : Int32) * (((48 : Int32) * x1) + (x3 - x3 / (I 140 x1.toNatClampNeg) * (I 140 x1.toNatClampNeg)))).toNatClampNeg) - (I 150 ((4 : Int32) * (((48 : Int32) * x2) + (x3 - x3 / (I 140 x2.toNatClampNeg) * (I 140 x2.toNatClampNeg)))).toNatClampNeg)), .int ((I 150 (((4 : Int32) * (((48 : Int32) * x1) + (x3 - x3 / (I 140 x1.toNatClampNeg) * (I 140 x1.toNatClampNeg)))) + (1 : Int32)).toNatClampNeg) - (I 150 (((4 : Int32) * (((48 : Int32) * x2) + (x3 - x3 / (I 140 x2.toNatClampNeg) * (I 140 x2.toNatClampNeg)))) + (1 : Int32)).toNatClampNeg)), .null]) rfl (Nat.le_of_ble_eq_true rfl) rfl).trans ?_
  refine (ev_aload rfl rfl).trans ?_
  refine (ev_getR rfl (by decide) am_K_139 (by decide) rfl am_R_139_25).trans ?_
  refine (ev_iload rfl rfl).trans ?_
  refine (ev_const0 (v := (2 : Int32)) rfl am_ci_2).trans ?_
  refine (ev_iadd rfl).trans ?_
  refine (ev_iald rfl (by decide) am_K_150).trans (am_itn (fun g9 => ?_))
  refine (ev_aload rfl rfl).trans ?_
  refine (ev_getR rfl (by decide) am_K_139 (by decide) rfl am_R_139_25).trans ?_
  refine (ev_iload rfl rfl).trans ?_
  refine (ev_const0 (v := (2 : Int32)) rfl am_ci_2).trans ?_
  refine (ev_iadd rfl).trans ?_
  refine (ev_iald rfl (by decide) am_K_150).trans (am_itn (fun g10 => ?_))
  refine (ev_isub rfl).trans ?_
  refine (ev_istore (ls' := [.ref 139, .int x1, .int x2, .int x3, .int ((4 : Int32) * (((48 : Int32) * x1) + (x3 - x3 / (I 140 x1.toNatClampNeg) * (I 140 x1.toNatClampNeg)))), .int ((4 : Int32) * (((48 : Int32) * x2) + (x3 - x3 / (I 140 x2.toNatClampNeg) * (I 140 x2.toNatClampNeg)))), .int ((I 150 ((4 : Int32) * (((48 : Int32) * x1) + (x3 - x3 / (I 140 x1.toNatClampNeg) * (I 140 x1.toNatClampNeg)))).toNatClampNeg) - (I 150 ((4 : Int32) * (((48 : Int32) * x2) + (x3 - x3 / (I 140 x2.toNatClampNeg) * (I 140 x2.toNatClampNeg)))).toNatClampNeg)), .int ((I 150 (((4 : Int32) * (((48 : Int32) * x1) + (x3 - x3 / (I 140 x1.toNatClampNeg) * (I 140 x1.toNatClampNeg)))) + (1 : Int32)).toNatClampNeg) - (I 150 (((4 : Int32) * (((48 : Int32) * x2) + (x3 - x3 / (I 140 x2.toNatClampNeg) * (I 140 x2.toNatClampNeg)))) + (1 : Int32)).toNatClampNeg)), .int ((I 150 (((4 : Int32) * (((48 : Int32) * x1) + (x3 - x3 / (I 140 x1.toNatClampNeg) * (I 140 x1.toNatClampNeg)))) + (2 : Int32)).toNatClampNeg) - (I 150 (((4 : Int32) * (((48 : Int32) * x2) + (x3 - x3 / (I 140 x2.toNatClampNeg) * (I 140 x2.toNatClampNeg)))) + (2 : Int32)).toNatClampNeg))]) rfl (Nat.le_of_ble_eq_true rfl) rfl).trans ?_
  refine (ev_iload rfl rfl).trans ?_
  refine (ev_iload rfl rfl).trans ?_
  refine (ev_imul rfl).trans ?_
  refine (ev_iload rfl rfl).trans ?_
  refine (ev_iload rfl rfl).trans ?_
  refine (ev_imul rfl).trans ?_
  refine (ev_iadd rfl).trans ?_
  refine (ev_iload rfl rfl).trans ?_
  refine (ev_iload rfl rfl).trans ?_
  refine (ev_imul rfl).trans ?_
  refine (ev_iadd rfl).trans ?_
  exact ev_iret rfl
theorem cl_250 (X : am_X) (I : Nat → Nat → Int32) (J : Nat → Nat → Int64) (x1 : Int32) (x2 : Int32) (x3 : Int32) : am_do X 250 [.ref 139, .int x1, .int x2, .int x3] (am_sh I J) = am_ev X amP_250 0 [.ref 139, .int x1, .int x2, .int x3, .null, .null, .null, .null, .null] [] (am_sh I J) := am_do_of rfl rfl rfl
-- 251 X12_cycleOf
set_option maxRecDepth 10000 in
theorem sg_251_e0 (X : am_X) (I : Nat → Nat → Int32) (J : Nat → Nat → Int64) (x1 : Int32) (x2 : Int32) : am_ev X amP_251 0 [.ref 139, .int x1, .int x2] [] (am_sh I J) = (if x1 < 0 ∨ 10 ≤ x1.toNatClampNeg then none else (if x1 < 0 ∨ 10 ≤ x1.toNatClampNeg then none else (if x2 < 0 ∨ 10 ≤ x2.toNatClampNeg then none else (am_do X 217 [.int (I 140 x1.toNatClampNeg), .int (I 140 x2.toNatClampNeg)] (am_sh I J)).bind (fun q => am_ev X amP_251 13 [.ref 139, .int x1, .int x2] (q.1.toList ++ [.int (I 140 x1.toNatClampNeg)]) q.2)))) := by
  refine (ev_aload rfl rfl).trans ?_
  refine (ev_getR rfl (by decide) am_K_139 (by decide) rfl am_R_139_3).trans ?_
  refine (ev_iload rfl rfl).trans ?_
  refine (ev_iald rfl (by decide) am_K_140).trans (am_itn (fun g1 => ?_))
  refine (ev_aload rfl rfl).trans ?_
  refine (ev_getR rfl (by decide) am_K_139 (by decide) rfl am_R_139_3).trans ?_
  refine (ev_iload rfl rfl).trans ?_
  refine (ev_iald rfl (by decide) am_K_140).trans (am_itn (fun g2 => ?_))
  refine (ev_aload rfl rfl).trans ?_
  refine (ev_getR rfl (by decide) am_K_139 (by decide) rfl am_R_139_3).trans ?_
  refine (ev_iload rfl rfl).trans ?_
  refine (ev_iald rfl (by decide) am_K_140).trans (am_itn (fun g3 => ?_))
  exact ev_invs (as := [.int (I 140 x2.toNatClampNeg), .int (I 140 x1.toNatClampNeg)]) rfl rfl (by simp [Value.category])
theorem cl_251 (X : am_X) (I : Nat → Nat → Int32) (J : Nat → Nat → Int64) (x1 : Int32) (x2 : Int32) : am_do X 251 [.ref 139, .int x1, .int x2] (am_sh I J) = am_ev X amP_251 0 [.ref 139, .int x1, .int x2] [] (am_sh I J) := am_do_of rfl rfl rfl
set_option maxRecDepth 10000 in
theorem sg_251_13 (X : am_X) (I : Nat → Nat → Int32) (J : Nat → Nat → Int64) (x1 : Int32) (x2 : Int32) (x3 : Int32) (x4 : Int32) : am_ev X amP_251 13 [.ref 139, .int x1, .int x2] [.int x4, .int x3] (am_sh I J) = (if x4 = 0 then none else (if x2 < 0 ∨ 10 ≤ x2.toNatClampNeg then none else some (some (.int ((x3 / x4) * (I 140 x2.toNatClampNeg))), am_sh I J))) := by
  refine (ev_idiv rfl).trans (am_itn (fun g1 => ?_))
  refine (ev_aload rfl rfl).trans ?_
  refine (ev_getR rfl (by decide) am_K_139 (by decide) rfl am_R_139_3).trans ?_
  refine (ev_iload rfl rfl).trans ?_
  refine (ev_iald rfl (by decide) am_K_140).trans (am_itn (fun g2 => ?_))
  refine (ev_imul rfl).trans ?_
  exact ev_iret rfl
-- 252 X12_reach
set_option maxRecDepth 10000 in
theorem sg_252_e0 (X : am_X) (I : Nat → Nat → Int32) (J : Nat → Nat → Int64) : am_ev X amP_252 0 [.ref 139] [] (am_sh I J) = some (some (.int ((I 148 0) * (I 148 0))), am_sh I J) := by
  refine (ev_aload rfl rfl).trans ?_
  refine (ev_getR rfl (by decide) am_K_139 (by decide) rfl am_R_139_22).trans ?_
  refine (ev_const0 (v := (0 : Int32)) rfl am_ci_0).trans ?_
  refine (ev_ialdC (jn := 0) rfl (by decide) am_K_148 (by decide) (by decide)).trans ?_
  refine (ev_aload rfl rfl).trans ?_
  refine (ev_getR rfl (by decide) am_K_139 (by decide) rfl am_R_139_22).trans ?_
  refine (ev_const0 (v := (0 : Int32)) rfl am_ci_0).trans ?_
  refine (ev_ialdC (jn := 0) rfl (by decide) am_K_148 (by decide) (by decide)).trans ?_
  refine (ev_imul rfl).trans ?_
  exact ev_iret rfl
theorem cl_252 (X : am_X) (I : Nat → Nat → Int32) (J : Nat → Nat → Int64) : am_do X 252 [.ref 139] (am_sh I J) = am_ev X amP_252 0 [.ref 139] [] (am_sh I J) := am_do_of rfl rfl rfl
-- 253 X12_meet
set_option maxRecDepth 10000 in
theorem sg_253_e0 (X : am_X) (I : Nat → Nat → Int32) (J : Nat → Nat → Int64) (x1 : Int32) (x2 : Int32) (x3 : Int32) : am_ev X amP_253 0 [.ref 139, .int x1, .int x2, .int x3, .null, .null] [] (am_sh I J) = (am_do X 251 [.ref 139, .int x1, .int x2] (am_sh I J)).bind (fun q => am_ev X amP_253 4 [.ref 139, .int x1, .int x2, .int x3, .null, .null] (q.1.toList ++ []) q.2) := by
  refine (ev_aload rfl rfl).trans ?_
  refine (ev_iload rfl rfl).trans ?_
  refine (ev_iload rfl rfl).trans ?_
  exact ev_invv (as := [.int x2, .int x1]) rfl (by decide) am_K_139 rfl (by simp [Value.category])
theorem cl_253 (X : am_X) (I : Nat → Nat → Int32) (J : Nat → Nat → Int64) (x1 : Int32) (x2 : Int32) (x3 : Int32) : am_do X 253 [.ref 139, .int x1, .int x2, .int x3] (am_sh I J) = am_ev X amP_253 0 [.ref 139, .int x1, .int x2, .int x3, .null, .null] [] (am_sh I J) := am_do_of rfl rfl rfl
set_option maxRecDepth 10000 in
theorem sg_253_4 (X : am_X) (I : Nat → Nat → Int32) (J : Nat → Nat → Int64) (x1 : Int32) (x2 : Int32) (x3 : Int32) (w4 : Value) (w5 : Value) (x6 : Int32) (hw4 : w4.category = 1) (hw5 : w5.category = 1) : am_ev X amP_253 4 [.ref 139, .int x1, .int x2, .int x3, w4, w5] [.int x6] (am_sh I J) = am_ev X amP_253 7 [.ref 139, .int x1, .int x2, .int x3, .int x6, .int (0 : Int32)] [] (am_sh I J) := by
  refine (ev_istore (ls' := [.ref 139, .int x1, .int x2, .int x3, .int x6, w5]) rfl (Nat.le_of_ble_eq_true rfl) rfl).trans ?_
  refine (ev_const0 (v := (0 : Int32)) rfl am_ci_0).trans ?_
  refine (ev_istore (ls' := [.ref 139, .int x1, .int x2, .int x3, .int x6, .int (0 : Int32)]) rfl (Nat.le_of_ble_eq_true rfl) rfl).trans ?_
  rfl
set_option maxRecDepth 10000 in
theorem sg_253_7 (X : am_X) (I : Nat → Nat → Int32) (J : Nat → Nat → Int64) (x1 : Int32) (x2 : Int32) (x3 : Int32) (x4 : Int32) (x5 : Int32) : am_ev X amP_253 7 [.ref 139, .int x1, .int x2, .int x3, .int x4, .int x5] [] (am_sh I J) = (if x4 ≤ x5 then some (some (.int (0 : Int32)), am_sh I J) else (am_do X 250 [.ref 139, .int x1, .int x2, .int x5] (am_sh I J)).bind (fun q => am_ev X amP_253 15 [.ref 139, .int x1, .int x2, .int x3, .int x4, .int x5] (q.1.toList ++ []) q.2)) := by
  refine (ev_iload rfl rfl).trans ?_
  refine (ev_iload rfl rfl).trans ?_
  refine (ev_icmp3 rfl).trans (am_ite (fun c1 => ?_) (fun c1 => ?_))
  · refine (ev_const0 (v := (0 : Int32)) rfl am_ci_0).trans ?_
    exact ev_zret rfl (by decide)
  · refine (ev_aload rfl rfl).trans ?_
    refine (ev_iload rfl rfl).trans ?_
    refine (ev_iload rfl rfl).trans ?_
    refine (ev_iload rfl rfl).trans ?_
    exact ev_invv (as := [.int x5, .int x2, .int x1]) rfl (by decide) am_K_139 rfl (by simp [Value.category])
set_option maxRecDepth 10000 in
theorem sg_253_15 (X : am_X) (I : Nat → Nat → Int32) (J : Nat → Nat → Int64) (x1 : Int32) (x2 : Int32) (x3 : Int32) (x4 : Int32) (x5 : Int32) (x6 : Int32) : am_ev X amP_253 15 [.ref 139, .int x1, .int x2, .int x3, .int x4, .int x5] [.int x6] (am_sh I J) = (if x3 < x6 then am_ev X amP_253 7 [.ref 139, .int x1, .int x2, .int x3, .int x4, .int (x5 + (1 : Int32))] [] (am_sh I J) else some (some (.int (1 : Int32)), am_sh I J)) := by
  refine (ev_iload rfl rfl).trans ?_
  refine (ev_icmp4 rfl).trans (am_ite (fun c1 => ?_) (fun c1 => ?_))
  · refine (ev_iincv (v := (1 : Int32)) (ls' := [.ref 139, .int x1, .int x2, .int x3, .int x4, .int (x5 + (1 : Int32))]) rfl am_ci_1 rfl rfl).trans ?_
    refine (ev_goto rfl).trans ?_
    rfl
  · refine (ev_const0 (v := (1 : Int32)) rfl am_ci_1).trans ?_
    exact ev_zret rfl (by decide)
-- 254 X12_areNear
set_option maxRecDepth 10000 in
theorem sg_254_e0 (X : am_X) (I : Nat → Nat → Int32) (J : Nat → Nat → Int64) (x1 : Int32) (x2 : Int32) : am_ev X amP_254 0 [.ref 139, .int x1, .int x2] [] (am_sh I J) = (am_do X 243 [.ref 139, .int x1] (am_sh I J)).bind (fun q => am_ev X amP_254 3 [.ref 139, .int x1, .int x2] (q.1.toList ++ []) q.2) := by
  refine (ev_aload rfl rfl).trans ?_
  refine (ev_iload rfl rfl).trans ?_
  exact ev_invv (as := [.int x1]) rfl (by decide) am_K_139 rfl (by simp [Value.category])
theorem cl_254 (X : am_X) (I : Nat → Nat → Int32) (J : Nat → Nat → Int64) (x1 : Int32) (x2 : Int32) : am_do X 254 [.ref 139, .int x1, .int x2] (am_sh I J) = am_ev X amP_254 0 [.ref 139, .int x1, .int x2] [] (am_sh I J) := am_do_of rfl rfl rfl
set_option maxRecDepth 10000 in
theorem sg_254_3 (X : am_X) (I : Nat → Nat → Int32) (J : Nat → Nat → Int64) (x1 : Int32) (x2 : Int32) (x3 : Int32) : am_ev X amP_254 3 [.ref 139, .int x1, .int x2] [.int x3] (am_sh I J) = (if x3 = 0 then some (some (.int (0 : Int32)), am_sh I J) else (am_do X 243 [.ref 139, .int x2] (am_sh I J)).bind (fun q => am_ev X amP_254 7 [.ref 139, .int x1, .int x2] (q.1.toList ++ []) q.2)) := by
  refine (ev_if0 rfl).trans (am_ite (fun c1 => ?_) (fun c1 => ?_))
  · refine (ev_const0 (v := (0 : Int32)) rfl am_ci_0).trans ?_
    exact ev_zret rfl (by decide)
  · refine (ev_aload rfl rfl).trans ?_
    refine (ev_iload rfl rfl).trans ?_
    exact ev_invv (as := [.int x2]) rfl (by decide) am_K_139 rfl (by simp [Value.category])
set_option maxRecDepth 10000 in
theorem sg_254_7 (X : am_X) (I : Nat → Nat → Int32) (J : Nat → Nat → Int64) (x1 : Int32) (x2 : Int32) (x3 : Int32) : am_ev X amP_254 7 [.ref 139, .int x1, .int x2] [.int x3] (am_sh I J) = (if x3 = 0 then some (some (.int (0 : Int32)), am_sh I J) else (am_do X 252 [.ref 139] (am_sh I J)).bind (fun q => am_ev X amP_254 13 [.ref 139, .int x1, .int x2] (q.1.toList ++ [.int x2, .int x1, .ref 139]) q.2)) := by
  refine (ev_if0 rfl).trans (am_ite (fun c1 => ?_) (fun c1 => ?_))
  · refine (ev_const0 (v := (0 : Int32)) rfl am_ci_0).trans ?_
    exact ev_zret rfl (by decide)
  · refine (ev_aload rfl rfl).trans ?_
    refine (ev_iload rfl rfl).trans ?_
    refine (ev_iload rfl rfl).trans ?_
    refine (ev_aload rfl rfl).trans ?_
    exact ev_invv (as := []) rfl (by decide) am_K_139 rfl (by simp [Value.category])
set_option maxRecDepth 10000 in
theorem sg_254_13 (X : am_X) (I : Nat → Nat → Int32) (J : Nat → Nat → Int64) (x1 : Int32) (x2 : Int32) (x3 : Int32) (x4 : Int32) (x5 : Int32) : am_ev X amP_254 13 [.ref 139, .int x1, .int x2] [.int x5, .int x4, .int x3, .ref 139] (am_sh I J) = (am_do X 253 [.ref 139, .int x3, .int x4, .int x5] (am_sh I J)).bind (fun q => am_ev X amP_254 14 [.ref 139, .int x1, .int x2] (q.1.toList ++ []) q.2) := by
  exact ev_invv (as := [.int x5, .int x4, .int x3]) rfl (by decide) am_K_139 rfl (by simp [Value.category])
set_option maxRecDepth 10000 in
theorem sg_254_14 (X : am_X) (I : Nat → Nat → Int32) (J : Nat → Nat → Int64) (x1 : Int32) (x2 : Int32) (x3 : Int32) : am_ev X amP_254 14 [.ref 139, .int x1, .int x2] [.int x3] (am_sh I J) = (if x3 = 0 then some (some (.int (0 : Int32)), am_sh I J) else some (some (.int (1 : Int32)), am_sh I J)) := by
  refine (ev_if0 rfl).trans (am_ite (fun c1 => ?_) (fun c1 => ?_))
  · refine (ev_const0 (v := (0 : Int32)) rfl am_ci_0).trans ?_
    exact ev_zret rfl (by decide)
  · refine (ev_const0 (v := (1 : Int32)) rfl am_ci_1).trans ?_
    refine (ev_goto rfl).trans ?_
    exact ev_zret rfl (by decide)
-- 255 X12_closestTick
set_option maxRecDepth 10000 in
theorem sg_255_e0 (X : am_X) (I : Nat → Nat → Int32) (J : Nat → Nat → Int64) (x1 : Int32) (x2 : Int32) : am_ev X amP_255 0 [.ref 139, .int x1, .int x2, .null, .null, .null] [] (am_sh I J) = (am_do X 251 [.ref 139, .int x1, .int x2] (am_sh I J)).bind (fun q => am_ev X amP_255 4 [.ref 139, .int x1, .int x2, .null, .null, .null] (q.1.toList ++ []) q.2) := by
  refine (ev_aload rfl rfl).trans ?_
  refine (ev_iload rfl rfl).trans ?_
  refine (ev_iload rfl rfl).trans ?_
  exact ev_invv (as := [.int x2, .int x1]) rfl (by decide) am_K_139 rfl (by simp [Value.category])
theorem cl_255 (X : am_X) (I : Nat → Nat → Int32) (J : Nat → Nat → Int64) (x1 : Int32) (x2 : Int32) : am_do X 255 [.ref 139, .int x1, .int x2] (am_sh I J) = am_ev X amP_255 0 [.ref 139, .int x1, .int x2, .null, .null, .null] [] (am_sh I J) := am_do_of rfl rfl rfl
set_option maxRecDepth 10000 in
theorem sg_255_4 (X : am_X) (I : Nat → Nat → Int32) (J : Nat → Nat → Int64) (x1 : Int32) (x2 : Int32) (w3 : Value) (w4 : Value) (w5 : Value) (x6 : Int32) (hw3 : w3.category = 1) (hw4 : w4.category = 1) (hw5 : w5.category = 1) : am_ev X amP_255 4 [.ref 139, .int x1, .int x2, w3, w4, w5] [.int x6] (am_sh I J) = am_ev X amP_255 9 [.ref 139, .int x1, .int x2, .int x6, .int (0 : Int32), .int (1 : Int32)] [] (am_sh I J) := by
  refine (ev_istore (ls' := [.ref 139, .int x1, .int x2, .int x6, w4, w5]) rfl (Nat.le_of_ble_eq_true rfl) rfl).trans ?_
  refine (ev_const0 (v := (0 : Int32)) rfl am_ci_0).trans ?_
  refine (ev_istore (ls' := [.ref 139, .int x1, .int x2, .int x6, .int (0 : Int32), w5]) rfl (Nat.le_of_ble_eq_true rfl) rfl).trans ?_
  refine (ev_const0 (v := (1 : Int32)) rfl am_ci_1).trans ?_
  refine (ev_istore (ls' := [.ref 139, .int x1, .int x2, .int x6, .int (0 : Int32), .int (1 : Int32)]) rfl (Nat.le_of_ble_eq_true rfl) rfl).trans ?_
  rfl
set_option maxRecDepth 10000 in
theorem sg_255_9 (X : am_X) (I : Nat → Nat → Int32) (J : Nat → Nat → Int64) (x1 : Int32) (x2 : Int32) (x3 : Int32) (x4 : Int32) (x5 : Int32) : am_ev X amP_255 9 [.ref 139, .int x1, .int x2, .int x3, .int x4, .int x5] [] (am_sh I J) = (if x3 ≤ x5 then some (some (.int x4), am_sh I J) else (am_do X 250 [.ref 139, .int x1, .int x2, .int x5] (am_sh I J)).bind (fun q => am_ev X amP_255 17 [.ref 139, .int x1, .int x2, .int x3, .int x4, .int x5] (q.1.toList ++ []) q.2)) := by
  refine (ev_iload rfl rfl).trans ?_
  refine (ev_iload rfl rfl).trans ?_
  refine (ev_icmp3 rfl).trans (am_ite (fun c1 => ?_) (fun c1 => ?_))
  · refine (ev_iload rfl rfl).trans ?_
    exact ev_iret rfl
  · refine (ev_aload rfl rfl).trans ?_
    refine (ev_iload rfl rfl).trans ?_
    refine (ev_iload rfl rfl).trans ?_
    refine (ev_iload rfl rfl).trans ?_
    exact ev_invv (as := [.int x5, .int x2, .int x1]) rfl (by decide) am_K_139 rfl (by simp [Value.category])
set_option maxRecDepth 10000 in
theorem sg_255_17 (X : am_X) (I : Nat → Nat → Int32) (J : Nat → Nat → Int64) (x1 : Int32) (x2 : Int32) (x3 : Int32) (x4 : Int32) (x5 : Int32) (x6 : Int32) : am_ev X amP_255 17 [.ref 139, .int x1, .int x2, .int x3, .int x4, .int x5] [.int x6] (am_sh I J) = (am_do X 250 [.ref 139, .int x1, .int x2, .int x4] (am_sh I J)).bind (fun q => am_ev X amP_255 22 [.ref 139, .int x1, .int x2, .int x3, .int x4, .int x5] (q.1.toList ++ [.int x6]) q.2) := by
  refine (ev_aload rfl rfl).trans ?_
  refine (ev_iload rfl rfl).trans ?_
  refine (ev_iload rfl rfl).trans ?_
  refine (ev_iload rfl rfl).trans ?_
  exact ev_invv (as := [.int x4, .int x2, .int x1]) rfl (by decide) am_K_139 rfl (by simp [Value.category])
set_option maxRecDepth 10000 in
theorem sg_255_22 (X : am_X) (I : Nat → Nat → Int32) (J : Nat → Nat → Int64) (x1 : Int32) (x2 : Int32) (x3 : Int32) (x4 : Int32) (x5 : Int32) (x6 : Int32) (x7 : Int32) : am_ev X amP_255 22 [.ref 139, .int x1, .int x2, .int x3, .int x4, .int x5] [.int x7, .int x6] (am_sh I J) = (if x7 ≤ x6 then am_ev X amP_255 9 [.ref 139, .int x1, .int x2, .int x3, .int x4, .int (x5 + (1 : Int32))] [] (am_sh I J) else am_ev X amP_255 9 [.ref 139, .int x1, .int x2, .int x3, .int x5, .int (x5 + (1 : Int32))] [] (am_sh I J)) := by
  refine (ev_icmp3 rfl).trans (am_ite (fun c1 => ?_) (fun c1 => ?_))
  · refine (ev_iincv (v := (1 : Int32)) (ls' := [.ref 139, .int x1, .int x2, .int x3, .int x4, .int (x5 + (1 : Int32))]) rfl am_ci_1 rfl rfl).trans ?_
    refine (ev_goto rfl).trans ?_
    rfl
  · refine (ev_iload rfl rfl).trans ?_
    refine (ev_istore (ls' := [.ref 139, .int x1, .int x2, .int x3, .int x5, .int x5]) rfl (Nat.le_of_ble_eq_true rfl) rfl).trans ?_
    refine (ev_iincv (v := (1 : Int32)) (ls' := [.ref 139, .int x1, .int x2, .int x3, .int x5, .int (x5 + (1 : Int32))]) rfl am_ci_1 rfl rfl).trans ?_
    refine (ev_goto rfl).trans ?_
    rfl
-- 256 X12_isBody
set_option maxRecDepth 10000 in
theorem sg_256_e0 (X : am_X) (I : Nat → Nat → Int32) (J : Nat → Nat → Int64) (x1 : Int32) : am_ev X amP_256 0 [.ref 139, .int x1] [] (am_sh I J) = (am_do X 214 [.int x1, .int (0 : Int32), .int ((I 139 1) - (1 : Int32))] (am_sh I J)).bind (fun q => am_ev X amP_256 7 [.ref 139, .int x1] (q.1.toList ++ []) q.2) := by
  refine (ev_iload rfl rfl).trans ?_
  refine (ev_const0 (v := (0 : Int32)) rfl am_ci_0).trans ?_
  refine (ev_aload rfl rfl).trans ?_
  refine (ev_getI rfl (by decide) am_K_139 (by decide) rfl).trans ?_
  refine (ev_const0 (v := (1 : Int32)) rfl am_ci_1).trans ?_
  refine (ev_isub rfl).trans ?_
  exact ev_invs (as := [.int ((I 139 1) - (1 : Int32)), .int (0 : Int32), .int x1]) rfl rfl (by simp [Value.category])
theorem cl_256 (X : am_X) (I : Nat → Nat → Int32) (J : Nat → Nat → Int64) (x1 : Int32) : am_do X 256 [.ref 139, .int x1] (am_sh I J) = am_ev X amP_256 0 [.ref 139, .int x1] [] (am_sh I J) := am_do_of rfl rfl rfl
set_option maxRecDepth 10000 in
theorem sg_256_7 (X : am_X) (I : Nat → Nat → Int32) (J : Nat → Nat → Int64) (x1 : Int32) (x2 : Int32) (z0 : x2 = 0 ∨ x2 = 1) : am_ev X amP_256 7 [.ref 139, .int x1] [.int x2] (am_sh I J) = some (some (.int x2), am_sh I J) := by
  exact ev_zret rfl z0
-- 257 X12_areTwo
set_option maxRecDepth 10000 in
theorem sg_257_e0 (X : am_X) (I : Nat → Nat → Int32) (J : Nat → Nat → Int64) (x1 : Int32) (x2 : Int32) : am_ev X amP_257 0 [.ref 139, .int x1, .int x2] [] (am_sh I J) = (am_do X 256 [.ref 139, .int x1] (am_sh I J)).bind (fun q => am_ev X amP_257 3 [.ref 139, .int x1, .int x2] (q.1.toList ++ []) q.2) := by
  refine (ev_aload rfl rfl).trans ?_
  refine (ev_iload rfl rfl).trans ?_
  exact ev_invv (as := [.int x1]) rfl (by decide) am_K_139 rfl (by simp [Value.category])
theorem cl_257 (X : am_X) (I : Nat → Nat → Int32) (J : Nat → Nat → Int64) (x1 : Int32) (x2 : Int32) : am_do X 257 [.ref 139, .int x1, .int x2] (am_sh I J) = am_ev X amP_257 0 [.ref 139, .int x1, .int x2] [] (am_sh I J) := am_do_of rfl rfl rfl
set_option maxRecDepth 10000 in
theorem sg_257_3 (X : am_X) (I : Nat → Nat → Int32) (J : Nat → Nat → Int64) (x1 : Int32) (x2 : Int32) (x3 : Int32) : am_ev X amP_257 3 [.ref 139, .int x1, .int x2] [.int x3] (am_sh I J) = (if x3 = 0 then some (some (.int (0 : Int32)), am_sh I J) else (am_do X 256 [.ref 139, .int x2] (am_sh I J)).bind (fun q => am_ev X amP_257 7 [.ref 139, .int x1, .int x2] (q.1.toList ++ []) q.2)) := by
  refine (ev_if0 rfl).trans (am_ite (fun c1 => ?_) (fun c1 => ?_))
  · refine (ev_const0 (v := (0 : Int32)) rfl am_ci_0).trans ?_
    exact ev_zret rfl (by decide)
  · refine (ev_aload rfl rfl).trans ?_
    refine (ev_iload rfl rfl).trans ?_
    exact ev_invv (as := [.int x2]) rfl (by decide) am_K_139 rfl (by simp [Value.category])
set_option maxRecDepth 10000 in
theorem sg_257_7 (X : am_X) (I : Nat → Nat → Int32) (J : Nat → Nat → Int64) (x1 : Int32) (x2 : Int32) (x3 : Int32) : am_ev X amP_257 7 [.ref 139, .int x1, .int x2] [.int x3] (am_sh I J) = (if x3 = 0 then some (some (.int (0 : Int32)), am_sh I J) else (if x1 = x2 then some (some (.int (0 : Int32)), am_sh I J) else some (some (.int (1 : Int32)), am_sh I J))) := by
  refine (ev_if0 rfl).trans (am_ite (fun c1 => ?_) (fun c1 => ?_))
  · refine (ev_const0 (v := (0 : Int32)) rfl am_ci_0).trans ?_
    exact ev_zret rfl (by decide)
  · refine (ev_iload rfl rfl).trans ?_
    refine (ev_iload rfl rfl).trans ?_
    refine (ev_icmp0 rfl).trans (am_ite (fun c2 => ?_) (fun c2 => ?_))
    · refine (ev_const0 (v := (0 : Int32)) rfl am_ci_0).trans ?_
      exact ev_zret rfl (by decide)
    · refine (ev_const0 (v := (1 : Int32)) rfl am_ci_1).trans ?_
      refine (ev_goto rfl).trans ?_
      exact ev_zret rfl (by decide)
-- 258 X12_isTick
set_option maxRecDepth 10000 in
theorem sg_258_e0 (X : am_X) (I : Nat → Nat → Int32) (J : Nat → Nat → Int64) (x1 : Int32) : am_ev X amP_258 0 [.int x1] [] (am_sh I J) = (am_do X 214 [.int x1, .int (0 : Int32), .int (9999 : Int32)] (am_sh I J)).bind (fun q => am_ev X amP_258 4 [.int x1] (q.1.toList ++ []) q.2) := by
  refine (ev_iload rfl rfl).trans ?_
  refine (ev_const0 (v := (0 : Int32)) rfl am_ci_0).trans ?_
  refine (ev_const2 (v := (9999 : Int32)) rfl am_ci_9999).trans ?_
  exact ev_invs (as := [.int (9999 : Int32), .int (0 : Int32), .int x1]) rfl rfl (by simp [Value.category])
theorem cl_258 (X : am_X) (I : Nat → Nat → Int32) (J : Nat → Nat → Int64) (x1 : Int32) : am_do X 258 [.int x1] (am_sh I J) = am_ev X amP_258 0 [.int x1] [] (am_sh I J) := am_do_of rfl rfl rfl
set_option maxRecDepth 10000 in
theorem sg_258_4 (X : am_X) (I : Nat → Nat → Int32) (J : Nat → Nat → Int64) (x1 : Int32) (x2 : Int32) (z0 : x2 = 0 ∨ x2 = 1) : am_ev X amP_258 4 [.int x1] [.int x2] (am_sh I J) = some (some (.int x2), am_sh I J) := by
  exact ev_zret rfl z0
-- 259 X12_upMany
set_option maxRecDepth 10000 in
theorem sg_259_e0 (X : am_X) (I : Nat → Nat → Int32) (J : Nat → Nat → Int64) : am_ev X amP_259 0 [.ref 139, .null, .null] [] (am_sh I J) = am_ev X amP_259 4 [.ref 139, .int (0 : Int32), .int (0 : Int32)] [] (am_sh I J) := by
  refine (ev_const0 (v := (0 : Int32)) rfl am_ci_0).trans ?_
  refine (ev_istore (ls' := [.ref 139, .int (0 : Int32), .null]) rfl (Nat.le_of_ble_eq_true rfl) rfl).trans ?_
  refine (ev_const0 (v := (0 : Int32)) rfl am_ci_0).trans ?_
  refine (ev_istore (ls' := [.ref 139, .int (0 : Int32), .int (0 : Int32)]) rfl (Nat.le_of_ble_eq_true rfl) rfl).trans ?_
  rfl
theorem cl_259 (X : am_X) (I : Nat → Nat → Int32) (J : Nat → Nat → Int64) : am_do X 259 [.ref 139] (am_sh I J) = am_ev X amP_259 0 [.ref 139, .null, .null] [] (am_sh I J) := am_do_of rfl rfl rfl
set_option maxRecDepth 10000 in
theorem sg_259_4 (X : am_X) (I : Nat → Nat → Int32) (J : Nat → Nat → Int64) (x1 : Int32) (x2 : Int32) : am_ev X amP_259 4 [.ref 139, .int x1, .int x2] [] (am_sh I J) = (if (I 139 1) ≤ x2 then some (some (.int x1), am_sh I J) else (am_do X 241 [.ref 139, .int x2, .int (6 : Int32)] (am_sh I J)).bind (fun q => am_ev X amP_259 13 [.ref 139, .int x1, .int x2] (q.1.toList ++ [.int x1]) q.2)) := by
  refine (ev_iload rfl rfl).trans ?_
  refine (ev_aload rfl rfl).trans ?_
  refine (ev_getI rfl (by decide) am_K_139 (by decide) rfl).trans ?_
  refine (ev_icmp3 rfl).trans (am_ite (fun c1 => ?_) (fun c1 => ?_))
  · refine (ev_iload rfl rfl).trans ?_
    exact ev_iret rfl
  · refine (ev_iload rfl rfl).trans ?_
    refine (ev_aload rfl rfl).trans ?_
    refine (ev_iload rfl rfl).trans ?_
    refine (ev_const1 (v := (6 : Int32)) rfl am_ci_6).trans ?_
    exact ev_invv (as := [.int (6 : Int32), .int x2]) rfl (by decide) am_K_139 rfl (by simp [Value.category])
set_option maxRecDepth 10000 in
theorem sg_259_13 (X : am_X) (I : Nat → Nat → Int32) (J : Nat → Nat → Int64) (x1 : Int32) (x2 : Int32) (x3 : Int32) (x4 : Int32) : am_ev X amP_259 13 [.ref 139, .int x1, .int x2] [.int x4, .int x3] (am_sh I J) = am_ev X amP_259 4 [.ref 139, .int (x3 + x4), .int (x2 + (1 : Int32))] [] (am_sh I J) := by
  refine (ev_iadd rfl).trans ?_
  refine (ev_istore (ls' := [.ref 139, .int (x3 + x4), .int x2]) rfl (Nat.le_of_ble_eq_true rfl) rfl).trans ?_
  refine (ev_iincv (v := (1 : Int32)) (ls' := [.ref 139, .int (x3 + x4), .int (x2 + (1 : Int32))]) rfl am_ci_1 rfl rfl).trans ?_
  refine (ev_goto rfl).trans ?_
  rfl
-- 260 X12_nearMany
set_option maxRecDepth 10000 in
theorem sg_260_e0 (X : am_X) (I : Nat → Nat → Int32) (J : Nat → Nat → Int64) : am_ev X amP_260 0 [.ref 139, .null, .null, .null] [] (am_sh I J) = am_ev X amP_260 4 [.ref 139, .int (0 : Int32), .int (0 : Int32), .null] [] (am_sh I J) := by
  refine (ev_const0 (v := (0 : Int32)) rfl am_ci_0).trans ?_
  refine (ev_istore (ls' := [.ref 139, .int (0 : Int32), .null, .null]) rfl (Nat.le_of_ble_eq_true rfl) rfl).trans ?_
  refine (ev_const0 (v := (0 : Int32)) rfl am_ci_0).trans ?_
  refine (ev_istore (ls' := [.ref 139, .int (0 : Int32), .int (0 : Int32), .null]) rfl (Nat.le_of_ble_eq_true rfl) rfl).trans ?_
  rfl
theorem cl_260 (X : am_X) (I : Nat → Nat → Int32) (J : Nat → Nat → Int64) : am_do X 260 [.ref 139] (am_sh I J) = am_ev X amP_260 0 [.ref 139, .null, .null, .null] [] (am_sh I J) := am_do_of rfl rfl rfl
set_option maxRecDepth 10000 in
theorem sg_260_4 (X : am_X) (I : Nat → Nat → Int32) (J : Nat → Nat → Int64) (x1 : Int32) (x2 : Int32) (w3 : Value) (hw3 : w3.category = 1) : am_ev X amP_260 4 [.ref 139, .int x1, .int x2, w3] [] (am_sh I J) = (if (I 139 1) ≤ x2 then some (some (.int x1), am_sh I J) else am_ev X amP_260 12 [.ref 139, .int x1, .int x2, .int (x2 + (1 : Int32))] [] (am_sh I J)) := by
  refine (ev_iload rfl rfl).trans ?_
  refine (ev_aload rfl rfl).trans ?_
  refine (ev_getI rfl (by decide) am_K_139 (by decide) rfl).trans ?_
  refine (ev_icmp3 rfl).trans (am_ite (fun c1 => ?_) (fun c1 => ?_))
  · refine (ev_iload rfl rfl).trans ?_
    exact ev_iret rfl
  · refine (ev_iload rfl rfl).trans ?_
    refine (ev_const0 (v := (1 : Int32)) rfl am_ci_1).trans ?_
    refine (ev_iadd rfl).trans ?_
    refine (ev_istore (ls' := [.ref 139, .int x1, .int x2, .int (x2 + (1 : Int32))]) rfl (Nat.le_of_ble_eq_true rfl) rfl).trans ?_
    rfl
set_option maxRecDepth 10000 in
theorem sg_260_12 (X : am_X) (I : Nat → Nat → Int32) (J : Nat → Nat → Int64) (x1 : Int32) (x2 : Int32) (x3 : Int32) : am_ev X amP_260 12 [.ref 139, .int x1, .int x2, .int x3] [] (am_sh I J) = (if (I 139 1) ≤ x3 then am_ev X amP_260 4 [.ref 139, .int x1, .int (x2 + (1 : Int32)), .int x3] [] (am_sh I J) else (am_do X 254 [.ref 139, .int x2, .int x3] (am_sh I J)).bind (fun q => am_ev X amP_260 21 [.ref 139, .int x1, .int x2, .int x3] (q.1.toList ++ [.int x1]) q.2)) := by
  refine (ev_iload rfl rfl).trans ?_
  refine (ev_aload rfl rfl).trans ?_
  refine (ev_getI rfl (by decide) am_K_139 (by decide) rfl).trans ?_
  refine (ev_icmp3 rfl).trans (am_ite (fun c1 => ?_) (fun c1 => ?_))
  · refine (ev_iincv (v := (1 : Int32)) (ls' := [.ref 139, .int x1, .int (x2 + (1 : Int32)), .int x3]) rfl am_ci_1 rfl rfl).trans ?_
    refine (ev_goto rfl).trans ?_
    rfl
  · refine (ev_iload rfl rfl).trans ?_
    refine (ev_aload rfl rfl).trans ?_
    refine (ev_iload rfl rfl).trans ?_
    refine (ev_iload rfl rfl).trans ?_
    exact ev_invv (as := [.int x3, .int x2]) rfl (by decide) am_K_139 rfl (by simp [Value.category])
set_option maxRecDepth 10000 in
theorem sg_260_21 (X : am_X) (I : Nat → Nat → Int32) (J : Nat → Nat → Int64) (x1 : Int32) (x2 : Int32) (x3 : Int32) (x4 : Int32) (x5 : Int32) : am_ev X amP_260 21 [.ref 139, .int x1, .int x2, .int x3] [.int x5, .int x4] (am_sh I J) = (if x5 = 0 then am_ev X amP_260 12 [.ref 139, .int (x4 + (0 : Int32)), .int x2, .int (x3 + (1 : Int32))] [] (am_sh I J) else am_ev X amP_260 12 [.ref 139, .int (x4 + (1 : Int32)), .int x2, .int (x3 + (1 : Int32))] [] (am_sh I J)) := by
  refine (ev_if0 rfl).trans (am_ite (fun c1 => ?_) (fun c1 => ?_))
  · refine (ev_const0 (v := (0 : Int32)) rfl am_ci_0).trans ?_
    refine (ev_iadd rfl).trans ?_
    refine (ev_istore (ls' := [.ref 139, .int (x4 + (0 : Int32)), .int x2, .int x3]) rfl (Nat.le_of_ble_eq_true rfl) rfl).trans ?_
    refine (ev_iincv (v := (1 : Int32)) (ls' := [.ref 139, .int (x4 + (0 : Int32)), .int x2, .int (x3 + (1 : Int32))]) rfl am_ci_1 rfl rfl).trans ?_
    refine (ev_goto rfl).trans ?_
    rfl
  · refine (ev_const0 (v := (1 : Int32)) rfl am_ci_1).trans ?_
    refine (ev_goto rfl).trans ?_
    refine (ev_iadd rfl).trans ?_
    refine (ev_istore (ls' := [.ref 139, .int (x4 + (1 : Int32)), .int x2, .int x3]) rfl (Nat.le_of_ble_eq_true rfl) rfl).trans ?_
    refine (ev_iincv (v := (1 : Int32)) (ls' := [.ref 139, .int (x4 + (1 : Int32)), .int x2, .int (x3 + (1 : Int32))]) rfl am_ci_1 rfl rfl).trans ?_
    refine (ev_goto rfl).trans ?_
    rfl
-- 261 X12_sievedBy
set_option maxRecDepth 10000 in
theorem sg_261_e0 (X : am_X) (I : Nat → Nat → Int32) (J : Nat → Nat → Int64) (x1 : Int32) : am_ev X amP_261 0 [.ref 139, .int x1, .null, .null, .null] [] (am_sh I J) = am_ev X amP_261 4 [.ref 139, .int x1, .int (0 : Int32), .int (0 : Int32), .null] [] (am_sh I J) := by
  refine (ev_const0 (v := (0 : Int32)) rfl am_ci_0).trans ?_
  refine (ev_istore (ls' := [.ref 139, .int x1, .int (0 : Int32), .null, .null]) rfl (Nat.le_of_ble_eq_true rfl) rfl).trans ?_
  refine (ev_const0 (v := (0 : Int32)) rfl am_ci_0).trans ?_
  refine (ev_istore (ls' := [.ref 139, .int x1, .int (0 : Int32), .int (0 : Int32), .null]) rfl (Nat.le_of_ble_eq_true rfl) rfl).trans ?_
  rfl
theorem cl_261 (X : am_X) (I : Nat → Nat → Int32) (J : Nat → Nat → Int64) (x1 : Int32) : am_do X 261 [.ref 139, .int x1] (am_sh I J) = am_ev X amP_261 0 [.ref 139, .int x1, .null, .null, .null] [] (am_sh I J) := am_do_of rfl rfl rfl
set_option maxRecDepth 10000 in
theorem sg_261_4 (X : am_X) (I : Nat → Nat → Int32) (J : Nat → Nat → Int64) (x1 : Int32) (x2 : Int32) (x3 : Int32) (w4 : Value) (hw4 : w4.category = 1) : am_ev X amP_261 4 [.ref 139, .int x1, .int x2, .int x3, w4] [] (am_sh I J) = (if (I 139 1) ≤ x3 then some (some (.int x2), am_sh I J) else am_ev X amP_261 12 [.ref 139, .int x1, .int x2, .int x3, .int (x3 + (1 : Int32))] [] (am_sh I J)) := by
  refine (ev_iload rfl rfl).trans ?_
  refine (ev_aload rfl rfl).trans ?_
  refine (ev_getI rfl (by decide) am_K_139 (by decide) rfl).trans ?_
  refine (ev_icmp3 rfl).trans (am_ite (fun c1 => ?_) (fun c1 => ?_))
  · refine (ev_iload rfl rfl).trans ?_
    exact ev_iret rfl
  · refine (ev_iload rfl rfl).trans ?_
    refine (ev_const0 (v := (1 : Int32)) rfl am_ci_1).trans ?_
    refine (ev_iadd rfl).trans ?_
    refine (ev_istore (ls' := [.ref 139, .int x1, .int x2, .int x3, .int (x3 + (1 : Int32))]) rfl (Nat.le_of_ble_eq_true rfl) rfl).trans ?_
    rfl
set_option maxRecDepth 10000 in
theorem sg_261_12 (X : am_X) (I : Nat → Nat → Int32) (J : Nat → Nat → Int64) (x1 : Int32) (x2 : Int32) (x3 : Int32) (x4 : Int32) : am_ev X amP_261 12 [.ref 139, .int x1, .int x2, .int x3, .int x4] [] (am_sh I J) = (if (I 139 1) ≤ x4 then am_ev X amP_261 4 [.ref 139, .int x1, .int x2, .int (x3 + (1 : Int32)), .int x4] [] (am_sh I J) else (am_do X 275 [.ref 139, .int x3, .int x4] (am_sh I J)).bind (fun q => am_ev X amP_261 21 [.ref 139, .int x1, .int x2, .int x3, .int x4] (q.1.toList ++ [.int x2]) q.2)) := by
  refine (ev_iload rfl rfl).trans ?_
  refine (ev_aload rfl rfl).trans ?_
  refine (ev_getI rfl (by decide) am_K_139 (by decide) rfl).trans ?_
  refine (ev_icmp3 rfl).trans (am_ite (fun c1 => ?_) (fun c1 => ?_))
  · refine (ev_iincv (v := (1 : Int32)) (ls' := [.ref 139, .int x1, .int x2, .int (x3 + (1 : Int32)), .int x4]) rfl am_ci_1 rfl rfl).trans ?_
    refine (ev_goto rfl).trans ?_
    rfl
  · refine (ev_iload rfl rfl).trans ?_
    refine (ev_aload rfl rfl).trans ?_
    refine (ev_iload rfl rfl).trans ?_
    refine (ev_iload rfl rfl).trans ?_
    exact ev_invv (as := [.int x4, .int x3]) rfl (by decide) am_K_139 rfl (by simp [Value.category])
set_option maxRecDepth 10000 in
theorem sg_261_21 (X : am_X) (I : Nat → Nat → Int32) (J : Nat → Nat → Int64) (x1 : Int32) (x2 : Int32) (x3 : Int32) (x4 : Int32) (x5 : Int32) (x6 : Int32) : am_ev X amP_261 21 [.ref 139, .int x1, .int x2, .int x3, .int x4] [.int x6, .int x5] (am_sh I J) = (if ¬ x6 = x1 then am_ev X amP_261 12 [.ref 139, .int x1, .int (x5 + (0 : Int32)), .int x3, .int (x4 + (1 : Int32))] [] (am_sh I J) else am_ev X amP_261 12 [.ref 139, .int x1, .int (x5 + (1 : Int32)), .int x3, .int (x4 + (1 : Int32))] [] (am_sh I J)) := by
  refine (ev_iload rfl rfl).trans ?_
  refine (ev_icmp1 rfl).trans (am_ite (fun c1 => ?_) (fun c1 => ?_))
  · refine (ev_const0 (v := (0 : Int32)) rfl am_ci_0).trans ?_
    refine (ev_iadd rfl).trans ?_
    refine (ev_istore (ls' := [.ref 139, .int x1, .int (x5 + (0 : Int32)), .int x3, .int x4]) rfl (Nat.le_of_ble_eq_true rfl) rfl).trans ?_
    refine (ev_iincv (v := (1 : Int32)) (ls' := [.ref 139, .int x1, .int (x5 + (0 : Int32)), .int x3, .int (x4 + (1 : Int32))]) rfl am_ci_1 rfl rfl).trans ?_
    refine (ev_goto rfl).trans ?_
    rfl
  · refine (ev_const0 (v := (1 : Int32)) rfl am_ci_1).trans ?_
    refine (ev_goto rfl).trans ?_
    refine (ev_iadd rfl).trans ?_
    refine (ev_istore (ls' := [.ref 139, .int x1, .int (x5 + (1 : Int32)), .int x3, .int x4]) rfl (Nat.le_of_ble_eq_true rfl) rfl).trans ?_
    refine (ev_iincv (v := (1 : Int32)) (ls' := [.ref 139, .int x1, .int (x5 + (1 : Int32)), .int x3, .int (x4 + (1 : Int32))]) rfl am_ci_1 rfl rfl).trans ?_
    refine (ev_goto rfl).trans ?_
    rfl
