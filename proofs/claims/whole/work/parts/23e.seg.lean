-- 115 X8_takeWord
set_option maxRecDepth 10000 in
theorem sg_115_e0 (X : am_X) (I : Nat → Nat → Int32) (J : Nat → Nat → Int64) (x1 : Int32) : am_ev X amP_115 0 [.ref 3, .int x1, .null] [] (am_sh I J) = (am_do X 114 [.ref 3] (am_sh I J)).bind (fun q => am_ev X amP_115 2 [.ref 3, .int x1, .null] (q.1.toList ++ []) q.2) := by
  refine (ev_aload rfl rfl).trans ?_
  exact ev_invv (as := []) rfl (by decide) am_K_3 rfl (by simp [Value.category])
theorem cl_115 (X : am_X) (I : Nat → Nat → Int32) (J : Nat → Nat → Int64) (x1 : Int32) : am_do X 115 [.ref 3, .int x1] (am_sh I J) = am_ev X amP_115 0 [.ref 3, .int x1, .null] [] (am_sh I J) := am_do_of rfl rfl rfl
set_option maxRecDepth 10000 in
theorem sg_115_2 (X : am_X) (I : Nat → Nat → Int32) (J : Nat → Nat → Int64) (x1 : Int32) (w2 : Value) (hw2 : w2.category = 1) : am_ev X amP_115 2 [.ref 3, .int x1, w2] [] (am_sh I J) = (am_do X 126 [.ref 1, .int (I 3 8)] (am_sh I J)).bind (fun q => am_ev X amP_115 7 [.ref 3, .int x1, w2] (q.1.toList ++ []) q.2) := by
  refine (ev_aload rfl rfl).trans ?_
  refine (ev_getR rfl (by decide) am_K_3 (by decide) rfl am_R_3_7).trans ?_
  refine (ev_aload rfl rfl).trans ?_
  refine (ev_getI rfl (by decide) am_K_3 (by decide) rfl).trans ?_
  exact ev_invv (as := [.int (I 3 8)]) rfl (by decide) am_K_1 rfl (by simp [Value.category])
set_option maxRecDepth 10000 in
theorem sg_115_7 (X : am_X) (I : Nat → Nat → Int32) (J : Nat → Nat → Int64) (x1 : Int32) (w2 : Value) (x3 : Int32) (hw2 : w2.category = 1) : am_ev X amP_115 7 [.ref 3, .int x1, w2] [.int x3] (am_sh I J) = (if ¬ (I 3 9) = 0 then (am_do X 120 [.ref 3, .int (1 : Int32), .int (I 3 8)] (am_sh I J)).bind (fun q => am_ev X amP_115 29 [.ref 3, .int x1, .int x3] (q.1.toList ++ []) q.2) else (if x3 = (I 3 8) then (am_do X 120 [.ref 3, .int (1 : Int32), .int (I 3 8)] (am_sh I J)).bind (fun q => am_ev X amP_115 29 [.ref 3, .int x1, .int x3] (q.1.toList ++ []) q.2) else (am_do X 128 [.ref 1, .int (I 3 8), .int x3] (am_sh I J)).bind (fun q => am_ev X amP_115 21 [.ref 3, .int x1, .int x3] (q.1.toList ++ []) q.2))) := by
  refine (ev_istore (ls' := [.ref 3, .int x1, .int x3]) rfl (Nat.le_of_ble_eq_true rfl) rfl).trans ?_
  refine (ev_aload rfl rfl).trans ?_
  refine (ev_getI rfl (by decide) am_K_3 (by decide) rfl).trans ?_
  refine (ev_if1 rfl).trans (am_ite (fun c1 => ?_) (fun c1 => ?_))
  · refine (ev_aload rfl rfl).trans ?_
    refine (ev_const0 (v := (1 : Int32)) rfl am_ci_1).trans ?_
    refine (ev_aload rfl rfl).trans ?_
    refine (ev_getI rfl (by decide) am_K_3 (by decide) rfl).trans ?_
    exact ev_invv (as := [.int (I 3 8), .int (1 : Int32)]) rfl (by decide) am_K_3 rfl (by simp [Value.category])
  · refine (ev_iload rfl rfl).trans ?_
    refine (ev_aload rfl rfl).trans ?_
    refine (ev_getI rfl (by decide) am_K_3 (by decide) rfl).trans ?_
    refine (ev_icmp0 rfl).trans (am_ite (fun c2 => ?_) (fun c2 => ?_))
    · refine (ev_aload rfl rfl).trans ?_
      refine (ev_const0 (v := (1 : Int32)) rfl am_ci_1).trans ?_
      refine (ev_aload rfl rfl).trans ?_
      refine (ev_getI rfl (by decide) am_K_3 (by decide) rfl).trans ?_
      exact ev_invv (as := [.int (I 3 8), .int (1 : Int32)]) rfl (by decide) am_K_3 rfl (by simp [Value.category])
    · refine (ev_aload rfl rfl).trans ?_
      refine (ev_getR rfl (by decide) am_K_3 (by decide) rfl am_R_3_7).trans ?_
      refine (ev_aload rfl rfl).trans ?_
      refine (ev_getI rfl (by decide) am_K_3 (by decide) rfl).trans ?_
      refine (ev_iload rfl rfl).trans ?_
      exact ev_invv (as := [.int x3, .int (I 3 8)]) rfl (by decide) am_K_1 rfl (by simp [Value.category])
set_option maxRecDepth 10000 in
theorem sg_115_21 (X : am_X) (I : Nat → Nat → Int32) (J : Nat → Nat → Int64) (x1 : Int32) (x2 : Int32) (x3 : Int32) : am_ev X amP_115 21 [.ref 3, .int x1, .int x2] [.int x3] (am_sh I J) = (am_do X 121 [.int x1] (am_sh I J)).bind (fun q => am_ev X amP_115 23 [.ref 3, .int x1, .int x2] (q.1.toList ++ [.int x3]) q.2) := by
  refine (ev_iload rfl rfl).trans ?_
  exact ev_invs (as := [.int x1]) rfl rfl (by simp [Value.category])
set_option maxRecDepth 10000 in
theorem sg_115_23 (X : am_X) (I : Nat → Nat → Int32) (J : Nat → Nat → Int64) (x1 : Int32) (x2 : Int32) (x3 : Int32) (x4 : Int32) : am_ev X amP_115 23 [.ref 3, .int x1, .int x2] [.int x4, .int x3] (am_sh I J) = (if x3 = x4 then (am_do X 119 [.ref 3, .int x2] (am_sh I J)).bind (fun q => am_ev X amP_115 33 [.ref 3, .int x1, .int x2] (q.1.toList ++ []) q.2) else (am_do X 120 [.ref 3, .int (1 : Int32), .int (I 3 8)] (am_sh I J)).bind (fun q => am_ev X amP_115 29 [.ref 3, .int x1, .int x2] (q.1.toList ++ []) q.2)) := by
  refine (ev_icmp0 rfl).trans (am_ite (fun c1 => ?_) (fun c1 => ?_))
  · refine (ev_aload rfl rfl).trans ?_
    refine (ev_iload rfl rfl).trans ?_
    exact ev_invv (as := [.int x2]) rfl (by decide) am_K_3 rfl (by simp [Value.category])
  · refine (ev_aload rfl rfl).trans ?_
    refine (ev_const0 (v := (1 : Int32)) rfl am_ci_1).trans ?_
    refine (ev_aload rfl rfl).trans ?_
    refine (ev_getI rfl (by decide) am_K_3 (by decide) rfl).trans ?_
    exact ev_invv (as := [.int (I 3 8), .int (1 : Int32)]) rfl (by decide) am_K_3 rfl (by simp [Value.category])
set_option maxRecDepth 10000 in
theorem sg_115_29 (X : am_X) (I : Nat → Nat → Int32) (J : Nat → Nat → Int64) (x1 : Int32) (x2 : Int32) (x3 : Int32) (z0 : x3 = 0 ∨ x3 = 1) : am_ev X amP_115 29 [.ref 3, .int x1, .int x2] [.int x3] (am_sh I J) = some (some (.int x3), am_sh I J) := by
  exact ev_zret rfl z0
set_option maxRecDepth 10000 in
theorem sg_115_33 (X : am_X) (I : Nat → Nat → Int32) (J : Nat → Nat → Int64) (x1 : Int32) (x2 : Int32) (x3 : Int32) (z0 : x3 = 0 ∨ x3 = 1) : am_ev X amP_115 33 [.ref 3, .int x1, .int x2] [.int x3] (am_sh I J) = some (some (.int x3), am_sh I J) := by
  exact ev_zret rfl z0
-- 116 X8_takeName
set_option maxRecDepth 10000 in
theorem sg_116_e0 (X : am_X) (I : Nat → Nat → Int32) (J : Nat → Nat → Int64) : am_ev X amP_116 0 [.ref 3, .null, .null, .null] [] (am_sh I J) = (am_do X 114 [.ref 3] (am_sh I J)).bind (fun q => am_ev X amP_116 2 [.ref 3, .null, .null, .null] (q.1.toList ++ []) q.2) := by
  refine (ev_aload rfl rfl).trans ?_
  exact ev_invv (as := []) rfl (by decide) am_K_3 rfl (by simp [Value.category])
theorem cl_116 (X : am_X) (I : Nat → Nat → Int32) (J : Nat → Nat → Int64) : am_do X 116 [.ref 3] (am_sh I J) = am_ev X amP_116 0 [.ref 3, .null, .null, .null] [] (am_sh I J) := am_do_of rfl rfl rfl
set_option maxRecDepth 10000 in
theorem sg_116_2 (X : am_X) (I : Nat → Nat → Int32) (J : Nat → Nat → Int64) (w1 : Value) (w2 : Value) (w3 : Value) (hw1 : w1.category = 1) (hw2 : w2.category = 1) (hw3 : w3.category = 1) : am_ev X amP_116 2 [.ref 3, w1, w2, w3] [] (am_sh I J) = (am_do X 126 [.ref 1, .int (I 3 8)] (am_sh I J)).bind (fun q => am_ev X amP_116 7 [.ref 3, w1, w2, w3] (q.1.toList ++ []) q.2) := by
  refine (ev_aload rfl rfl).trans ?_
  refine (ev_getR rfl (by decide) am_K_3 (by decide) rfl am_R_3_7).trans ?_
  refine (ev_aload rfl rfl).trans ?_
  refine (ev_getI rfl (by decide) am_K_3 (by decide) rfl).trans ?_
  exact ev_invv (as := [.int (I 3 8)]) rfl (by decide) am_K_1 rfl (by simp [Value.category])
set_option maxRecDepth 10000 in
theorem sg_116_7 (X : am_X) (I : Nat → Nat → Int32) (J : Nat → Nat → Int64) (w1 : Value) (w2 : Value) (w3 : Value) (x4 : Int32) (hw1 : w1.category = 1) (hw2 : w2.category = 1) (hw3 : w3.category = 1) : am_ev X amP_116 7 [.ref 3, w1, w2, w3] [.int x4] (am_sh I J) = (if ¬ (I 3 9) = 0 then (am_do X 120 [.ref 3, .int (1 : Int32), .int (I 3 8)] (am_sh I J)).bind (fun q => am_ev X amP_116 20 [.ref 3, .int x4, w2, w3] (q.1.toList ++ []) q.2) else (if ¬ x4 = (I 3 8) then (if (x4 - (I 3 8)) ≤ (6 : Int32) then (am_do X 128 [.ref 1, .int (I 3 8), .int x4] (am_sh I J)).bind (fun q => am_ev X amP_116 41 [.ref 3, .int x4, w2, w3] (q.1.toList ++ []) q.2) else (am_do X 120 [.ref 3, .int (1 : Int32), .int ((I 3 8) + (6 : Int32))] (am_sh I J)).bind (fun q => am_ev X amP_116 34 [.ref 3, .int x4, w2, w3] (q.1.toList ++ []) q.2)) else (am_do X 120 [.ref 3, .int (1 : Int32), .int (I 3 8)] (am_sh I J)).bind (fun q => am_ev X amP_116 20 [.ref 3, .int x4, w2, w3] (q.1.toList ++ []) q.2))) := by
  refine (ev_istore (ls' := [.ref 3, .int x4, w2, w3]) rfl (Nat.le_of_ble_eq_true rfl) rfl).trans ?_
  refine (ev_aload rfl rfl).trans ?_
  refine (ev_getI rfl (by decide) am_K_3 (by decide) rfl).trans ?_
  refine (ev_if1 rfl).trans (am_ite (fun c1 => ?_) (fun c1 => ?_))
  · refine (ev_aload rfl rfl).trans ?_
    refine (ev_const0 (v := (1 : Int32)) rfl am_ci_1).trans ?_
    refine (ev_aload rfl rfl).trans ?_
    refine (ev_getI rfl (by decide) am_K_3 (by decide) rfl).trans ?_
    exact ev_invv (as := [.int (I 3 8), .int (1 : Int32)]) rfl (by decide) am_K_3 rfl (by simp [Value.category])
  · refine (ev_iload rfl rfl).trans ?_
    refine (ev_aload rfl rfl).trans ?_
    refine (ev_getI rfl (by decide) am_K_3 (by decide) rfl).trans ?_
    refine (ev_icmp1 rfl).trans (am_ite (fun c2 => ?_) (fun c2 => ?_))
    · refine (ev_iload rfl rfl).trans ?_
      refine (ev_aload rfl rfl).trans ?_
      refine (ev_getI rfl (by decide) am_K_3 (by decide) rfl).trans ?_
      refine (ev_isub rfl).trans ?_
      refine (ev_const1 (v := (6 : Int32)) rfl am_ci_6).trans ?_
      refine (ev_icmp5 rfl).trans (am_ite (fun c3 => ?_) (fun c3 => ?_))
      · refine (ev_aload rfl rfl).trans ?_
        refine (ev_getR rfl (by decide) am_K_3 (by decide) rfl am_R_3_7).trans ?_
        refine (ev_aload rfl rfl).trans ?_
        refine (ev_getI rfl (by decide) am_K_3 (by decide) rfl).trans ?_
        refine (ev_iload rfl rfl).trans ?_
        exact ev_invv (as := [.int x4, .int (I 3 8)]) rfl (by decide) am_K_1 rfl (by simp [Value.category])
      · refine (ev_aload rfl rfl).trans ?_
        refine (ev_const0 (v := (1 : Int32)) rfl am_ci_1).trans ?_
        refine (ev_aload rfl rfl).trans ?_
        refine (ev_getI rfl (by decide) am_K_3 (by decide) rfl).trans ?_
        refine (ev_const1 (v := (6 : Int32)) rfl am_ci_6).trans ?_
        refine (ev_iadd rfl).trans ?_
        exact ev_invv (as := [.int ((I 3 8) + (6 : Int32)), .int (1 : Int32)]) rfl (by decide) am_K_3 rfl (by simp [Value.category])
    · refine (ev_aload rfl rfl).trans ?_
      refine (ev_const0 (v := (1 : Int32)) rfl am_ci_1).trans ?_
      refine (ev_aload rfl rfl).trans ?_
      refine (ev_getI rfl (by decide) am_K_3 (by decide) rfl).trans ?_
      exact ev_invv (as := [.int (I 3 8), .int (1 : Int32)]) rfl (by decide) am_K_3 rfl (by simp [Value.category])
set_option maxRecDepth 10000 in
theorem sg_116_20 (X : am_X) (I : Nat → Nat → Int32) (J : Nat → Nat → Int64) (x1 : Int32) (w2 : Value) (w3 : Value) (x4 : Int32) (hw2 : w2.category = 1) (hw3 : w3.category = 1) (z0 : x4 = 0 ∨ x4 = 1) : am_ev X amP_116 20 [.ref 3, .int x1, w2, w3] [.int x4] (am_sh I J) = some (some (.int x4), am_sh I J) := by
  exact ev_zret rfl z0
set_option maxRecDepth 10000 in
theorem sg_116_34 (X : am_X) (I : Nat → Nat → Int32) (J : Nat → Nat → Int64) (x1 : Int32) (w2 : Value) (w3 : Value) (x4 : Int32) (hw2 : w2.category = 1) (hw3 : w3.category = 1) (z0 : x4 = 0 ∨ x4 = 1) : am_ev X amP_116 34 [.ref 3, .int x1, w2, w3] [.int x4] (am_sh I J) = some (some (.int x4), am_sh I J) := by
  exact ev_zret rfl z0
set_option maxRecDepth 10000 in
theorem sg_116_41 (X : am_X) (I : Nat → Nat → Int32) (J : Nat → Nat → Int64) (x1 : Int32) (w2 : Value) (w3 : Value) (x4 : Int32) (hw2 : w2.category = 1) (hw3 : w3.category = 1) : am_ev X amP_116 41 [.ref 3, .int x1, w2, w3] [.int x4] (am_sh I J) = am_ev X amP_116 44 [.ref 3, .int x1, .int x4, .int (0 : Int32)] [] (am_sh I J) := by
  refine (ev_istore (ls' := [.ref 3, .int x1, .int x4, w3]) rfl (Nat.le_of_ble_eq_true rfl) rfl).trans ?_
  refine (ev_const0 (v := (0 : Int32)) rfl am_ci_0).trans ?_
  refine (ev_istore (ls' := [.ref 3, .int x1, .int x4, .int (0 : Int32)]) rfl (Nat.le_of_ble_eq_true rfl) rfl).trans ?_
  rfl
set_option maxRecDepth 10000 in
theorem sg_116_44 (X : am_X) (I : Nat → Nat → Int32) (J : Nat → Nat → Int64) (x1 : Int32) (x2 : Int32) (x3 : Int32) : am_ev X amP_116 44 [.ref 3, .int x1, .int x2, .int x3] [] (am_sh I J) = (if (11 : Int32) ≤ x3 then am_ev X amP_116 61 [.ref 3, .int x1, .int x2, .int (0 : Int32)] [] (am_sh I J) else (am_do X 121 [.int x3] (am_sh I J)).bind (fun q => am_ev X amP_116 50 [.ref 3, .int x1, .int x2, .int x3] (q.1.toList ++ [.int x2]) q.2)) := by
  refine (ev_iload rfl rfl).trans ?_
  refine (ev_const1 (v := (11 : Int32)) rfl am_ci_11).trans ?_
  refine (ev_icmp3 rfl).trans (am_ite (fun c1 => ?_) (fun c1 => ?_))
  · refine (ev_const0 (v := (0 : Int32)) rfl am_ci_0).trans ?_
    refine (ev_istore (ls' := [.ref 3, .int x1, .int x2, .int (0 : Int32)]) rfl (Nat.le_of_ble_eq_true rfl) rfl).trans ?_
    rfl
  · refine (ev_iload rfl rfl).trans ?_
    refine (ev_iload rfl rfl).trans ?_
    exact ev_invs (as := [.int x3]) rfl rfl (by simp [Value.category])
set_option maxRecDepth 10000 in
theorem sg_116_50 (X : am_X) (I : Nat → Nat → Int32) (J : Nat → Nat → Int64) (x1 : Int32) (x2 : Int32) (x3 : Int32) (x4 : Int32) (x5 : Int32) : am_ev X amP_116 50 [.ref 3, .int x1, .int x2, .int x3] [.int x5, .int x4] (am_sh I J) = (if ¬ x4 = x5 then am_ev X amP_116 44 [.ref 3, .int x1, .int x2, .int (x3 + (1 : Int32))] [] (am_sh I J) else (am_do X 120 [.ref 3, .int (1 : Int32), .int (I 3 8)] (am_sh I J)).bind (fun q => am_ev X amP_116 56 [.ref 3, .int x1, .int x2, .int x3] (q.1.toList ++ []) q.2)) := by
  refine (ev_icmp1 rfl).trans (am_ite (fun c1 => ?_) (fun c1 => ?_))
  · refine (ev_iincv (v := (1 : Int32)) (ls' := [.ref 3, .int x1, .int x2, .int (x3 + (1 : Int32))]) rfl am_ci_1 rfl rfl).trans ?_
    refine (ev_goto rfl).trans ?_
    rfl
  · refine (ev_aload rfl rfl).trans ?_
    refine (ev_const0 (v := (1 : Int32)) rfl am_ci_1).trans ?_
    refine (ev_aload rfl rfl).trans ?_
    refine (ev_getI rfl (by decide) am_K_3 (by decide) rfl).trans ?_
    exact ev_invv (as := [.int (I 3 8), .int (1 : Int32)]) rfl (by decide) am_K_3 rfl (by simp [Value.category])
set_option maxRecDepth 10000 in
theorem sg_116_56 (X : am_X) (I : Nat → Nat → Int32) (J : Nat → Nat → Int64) (x1 : Int32) (x2 : Int32) (x3 : Int32) (x4 : Int32) (z0 : x4 = 0 ∨ x4 = 1) : am_ev X amP_116 56 [.ref 3, .int x1, .int x2, .int x3] [.int x4] (am_sh I J) = some (some (.int x4), am_sh I J) := by
  exact ev_zret rfl z0
set_option maxRecDepth 10000 in
theorem sg_116_61 (X : am_X) (I : Nat → Nat → Int32) (J : Nat → Nat → Int64) (x1 : Int32) (x2 : Int32) (x3 : Int32) : am_ev X amP_116 61 [.ref 3, .int x1, .int x2, .int x3] [] (am_sh I J) = (if (I 3 4) ≤ x3 then (if (I 3 4) < 0 ∨ 10 ≤ (I 3 4).toNatClampNeg then none else (am_do X 119 [.ref 3, .int x1] (am_sh (am_up I 4 (I 3 4).toNatClampNeg x2) J)).bind (fun q => am_ev X amP_116 88 [.ref 3, .int x1, .int x2, .int x3] (q.1.toList ++ []) q.2)) else (if x3 < 0 ∨ 10 ≤ x3.toNatClampNeg then none else (if ¬ x2 = (I 4 x3.toNatClampNeg) then am_ev X amP_116 61 [.ref 3, .int x1, .int x2, .int (x3 + (1 : Int32))] [] (am_sh I J) else (am_do X 120 [.ref 3, .int (3 : Int32), .int (I 3 8)] (am_sh I J)).bind (fun q => am_ev X amP_116 76 [.ref 3, .int x1, .int x2, .int x3] (q.1.toList ++ []) q.2)))) := by
  refine (ev_iload rfl rfl).trans ?_
  refine (ev_aload rfl rfl).trans ?_
  refine (ev_getI rfl (by decide) am_K_3 (by decide) rfl).trans ?_
  refine (ev_icmp3 rfl).trans (am_ite (fun c1 => ?_) (fun c1 => ?_))
  · refine (ev_aload rfl rfl).trans ?_
    refine (ev_getR rfl (by decide) am_K_3 (by decide) rfl am_R_3_5).trans ?_
    refine (ev_aload rfl rfl).trans ?_
    refine (ev_getI rfl (by decide) am_K_3 (by decide) rfl).trans ?_
    refine (ev_iload rfl rfl).trans ?_
    refine (ev_iast rfl (by decide) am_K_4).trans (am_itn (fun g2 => ?_))
    refine (ev_aload rfl rfl).trans ?_
    refine (ev_iload rfl rfl).trans ?_
    exact ev_invv (as := [.int x1]) rfl (by decide) am_K_3 rfl (by simp [Value.category])
  · refine (ev_iload rfl rfl).trans ?_
    refine (ev_aload rfl rfl).trans ?_
    refine (ev_getR rfl (by decide) am_K_3 (by decide) rfl am_R_3_5).trans ?_
    refine (ev_iload rfl rfl).trans ?_
    refine (ev_iald rfl (by decide) am_K_4).trans (am_itn (fun g2 => ?_))
    refine (ev_icmp1 rfl).trans (am_ite (fun c3 => ?_) (fun c3 => ?_))
    · refine (ev_iincv (v := (1 : Int32)) (ls' := [.ref 3, .int x1, .int x2, .int (x3 + (1 : Int32))]) rfl am_ci_1 rfl rfl).trans ?_
      refine (ev_goto rfl).trans ?_
      rfl
    · refine (ev_aload rfl rfl).trans ?_
      refine (ev_const0 (v := (3 : Int32)) rfl am_ci_3).trans ?_
      refine (ev_aload rfl rfl).trans ?_
      refine (ev_getI rfl (by decide) am_K_3 (by decide) rfl).trans ?_
      exact ev_invv (as := [.int (I 3 8), .int (3 : Int32)]) rfl (by decide) am_K_3 rfl (by simp [Value.category])
set_option maxRecDepth 10000 in
theorem sg_116_76 (X : am_X) (I : Nat → Nat → Int32) (J : Nat → Nat → Int64) (x1 : Int32) (x2 : Int32) (x3 : Int32) (x4 : Int32) (z0 : x4 = 0 ∨ x4 = 1) : am_ev X amP_116 76 [.ref 3, .int x1, .int x2, .int x3] [.int x4] (am_sh I J) = some (some (.int x4), am_sh I J) := by
  exact ev_zret rfl z0
set_option maxRecDepth 10000 in
theorem sg_116_88 (X : am_X) (I : Nat → Nat → Int32) (J : Nat → Nat → Int64) (x1 : Int32) (x2 : Int32) (x3 : Int32) (x4 : Int32) (z0 : x4 = 0 ∨ x4 = 1) : am_ev X amP_116 88 [.ref 3, .int x1, .int x2, .int x3] [.int x4] (am_sh I J) = some (some (.int x4), am_sh I J) := by
  exact ev_zret rfl z0
-- 117 X8_takeNumber
set_option maxRecDepth 10000 in
theorem sg_117_e0 (X : am_X) (I : Nat → Nat → Int32) (J : Nat → Nat → Int64) (x1 : Int32) (x2 : Int32) : am_ev X amP_117 0 [.ref 3, .int x1, .int x2, .null, .null] [] (am_sh I J) = (am_do X 114 [.ref 3] (am_sh I J)).bind (fun q => am_ev X amP_117 2 [.ref 3, .int x1, .int x2, .null, .null] (q.1.toList ++ []) q.2) := by
  refine (ev_aload rfl rfl).trans ?_
  exact ev_invv (as := []) rfl (by decide) am_K_3 rfl (by simp [Value.category])
theorem cl_117 (X : am_X) (I : Nat → Nat → Int32) (J : Nat → Nat → Int64) (x1 : Int32) (x2 : Int32) : am_do X 117 [.ref 3, .int x1, .int x2] (am_sh I J) = am_ev X amP_117 0 [.ref 3, .int x1, .int x2, .null, .null] [] (am_sh I J) := am_do_of rfl rfl rfl
set_option maxRecDepth 10000 in
theorem sg_117_2 (X : am_X) (I : Nat → Nat → Int32) (J : Nat → Nat → Int64) (x1 : Int32) (x2 : Int32) (w3 : Value) (w4 : Value) (hw3 : w3.category = 1) (hw4 : w4.category = 1) : am_ev X amP_117 2 [.ref 3, .int x1, .int x2, w3, w4] [] (am_sh I J) = (am_do X 127 [.ref 1, .int (I 3 8)] (am_sh I J)).bind (fun q => am_ev X amP_117 7 [.ref 3, .int x1, .int x2, w3, w4] (q.1.toList ++ []) q.2) := by
  refine (ev_aload rfl rfl).trans ?_
  refine (ev_getR rfl (by decide) am_K_3 (by decide) rfl am_R_3_7).trans ?_
  refine (ev_aload rfl rfl).trans ?_
  refine (ev_getI rfl (by decide) am_K_3 (by decide) rfl).trans ?_
  exact ev_invv (as := [.int (I 3 8)]) rfl (by decide) am_K_1 rfl (by simp [Value.category])
set_option maxRecDepth 10000 in
theorem sg_117_7 (X : am_X) (I : Nat → Nat → Int32) (J : Nat → Nat → Int64) (x1 : Int32) (x2 : Int32) (w3 : Value) (w4 : Value) (x5 : Int32) (hw3 : w3.category = 1) (hw4 : w4.category = 1) : am_ev X amP_117 7 [.ref 3, .int x1, .int x2, w3, w4] [.int x5] (am_sh I J) = (if ¬ (I 3 9) = 0 then (am_do X 120 [.ref 3, .int (1 : Int32), .int (I 3 8)] (am_sh I J)).bind (fun q => am_ev X amP_117 20 [.ref 3, .int x1, .int x2, .int x5, w4] (q.1.toList ++ []) q.2) else (if ¬ x5 = (I 3 8) then (if (x5 - (I 3 8)) ≤ (3 : Int32) then am_ev X amP_117 41 [.ref 3, .int x1, .int x2, .int x5, .int ((am_up I 3 10 (0 : Int32)) 3 8)] [] (am_sh (am_up I 3 10 (0 : Int32)) J) else (am_do X 120 [.ref 3, .int (1 : Int32), .int ((I 3 8) + (3 : Int32))] (am_sh I J)).bind (fun q => am_ev X amP_117 34 [.ref 3, .int x1, .int x2, .int x5, w4] (q.1.toList ++ []) q.2)) else (am_do X 120 [.ref 3, .int (1 : Int32), .int (I 3 8)] (am_sh I J)).bind (fun q => am_ev X amP_117 20 [.ref 3, .int x1, .int x2, .int x5, w4] (q.1.toList ++ []) q.2))) := by
  refine (ev_istore (ls' := [.ref 3, .int x1, .int x2, .int x5, w4]) rfl (Nat.le_of_ble_eq_true rfl) rfl).trans ?_
  refine (ev_aload rfl rfl).trans ?_
  refine (ev_getI rfl (by decide) am_K_3 (by decide) rfl).trans ?_
  refine (ev_if1 rfl).trans (am_ite (fun c1 => ?_) (fun c1 => ?_))
  · refine (ev_aload rfl rfl).trans ?_
    refine (ev_const0 (v := (1 : Int32)) rfl am_ci_1).trans ?_
    refine (ev_aload rfl rfl).trans ?_
    refine (ev_getI rfl (by decide) am_K_3 (by decide) rfl).trans ?_
    exact ev_invv (as := [.int (I 3 8), .int (1 : Int32)]) rfl (by decide) am_K_3 rfl (by simp [Value.category])
  · refine (ev_iload rfl rfl).trans ?_
    refine (ev_aload rfl rfl).trans ?_
    refine (ev_getI rfl (by decide) am_K_3 (by decide) rfl).trans ?_
    refine (ev_icmp1 rfl).trans (am_ite (fun c2 => ?_) (fun c2 => ?_))
    · refine (ev_iload rfl rfl).trans ?_
      refine (ev_aload rfl rfl).trans ?_
      refine (ev_getI rfl (by decide) am_K_3 (by decide) rfl).trans ?_
      refine (ev_isub rfl).trans ?_
      refine (ev_const0 (v := (3 : Int32)) rfl am_ci_3).trans ?_
      refine (ev_icmp5 rfl).trans (am_ite (fun c3 => ?_) (fun c3 => ?_))
      · refine (ev_aload rfl rfl).trans ?_
        refine (ev_const0 (v := (0 : Int32)) rfl am_ci_0).trans ?_
        refine (ev_putI rfl (by decide) am_K_3 (by decide) rfl).trans ?_
        refine (ev_aload rfl rfl).trans ?_
        refine (ev_getI rfl (by decide) am_K_3 (by decide) rfl).trans ?_
        refine (ev_istore (ls' := [.ref 3, .int x1, .int x2, .int x5, .int ((am_up I 3 10 (0 : Int32)) 3 8)]) rfl (Nat.le_of_ble_eq_true rfl) rfl).trans ?_
        rfl
      · refine (ev_aload rfl rfl).trans ?_
        refine (ev_const0 (v := (1 : Int32)) rfl am_ci_1).trans ?_
        refine (ev_aload rfl rfl).trans ?_
        refine (ev_getI rfl (by decide) am_K_3 (by decide) rfl).trans ?_
        refine (ev_const0 (v := (3 : Int32)) rfl am_ci_3).trans ?_
        refine (ev_iadd rfl).trans ?_
        exact ev_invv (as := [.int ((I 3 8) + (3 : Int32)), .int (1 : Int32)]) rfl (by decide) am_K_3 rfl (by simp [Value.category])
    · refine (ev_aload rfl rfl).trans ?_
      refine (ev_const0 (v := (1 : Int32)) rfl am_ci_1).trans ?_
      refine (ev_aload rfl rfl).trans ?_
      refine (ev_getI rfl (by decide) am_K_3 (by decide) rfl).trans ?_
      exact ev_invv (as := [.int (I 3 8), .int (1 : Int32)]) rfl (by decide) am_K_3 rfl (by simp [Value.category])
set_option maxRecDepth 10000 in
theorem sg_117_20 (X : am_X) (I : Nat → Nat → Int32) (J : Nat → Nat → Int64) (x1 : Int32) (x2 : Int32) (x3 : Int32) (w4 : Value) (x5 : Int32) (hw4 : w4.category = 1) (z0 : x5 = 0 ∨ x5 = 1) : am_ev X amP_117 20 [.ref 3, .int x1, .int x2, .int x3, w4] [.int x5] (am_sh I J) = some (some (.int x5), am_sh I J) := by
  exact ev_zret rfl z0
set_option maxRecDepth 10000 in
theorem sg_117_34 (X : am_X) (I : Nat → Nat → Int32) (J : Nat → Nat → Int64) (x1 : Int32) (x2 : Int32) (x3 : Int32) (w4 : Value) (x5 : Int32) (hw4 : w4.category = 1) (z0 : x5 = 0 ∨ x5 = 1) : am_ev X amP_117 34 [.ref 3, .int x1, .int x2, .int x3, w4] [.int x5] (am_sh I J) = some (some (.int x5), am_sh I J) := by
  exact ev_zret rfl z0
set_option maxRecDepth 10000 in
theorem sg_117_41 (X : am_X) (I : Nat → Nat → Int32) (J : Nat → Nat → Int64) (x1 : Int32) (x2 : Int32) (x3 : Int32) (x4 : Int32) : am_ev X amP_117 41 [.ref 3, .int x1, .int x2, .int x3, .int x4] [] (am_sh I J) = (if x3 ≤ x4 then (if (I 3 10) < x1 then (am_do X 120 [.ref 3, .int (2 : Int32), .int (I 3 8)] (am_sh I J)).bind (fun q => am_ev X amP_117 72 [.ref 3, .int x1, .int x2, .int x3, .int x4] (q.1.toList ++ []) q.2) else (if (I 3 10) ≤ x2 then (am_do X 119 [.ref 3, .int x3] (am_sh I J)).bind (fun q => am_ev X amP_117 76 [.ref 3, .int x1, .int x2, .int x3, .int x4] (q.1.toList ++ []) q.2) else (am_do X 120 [.ref 3, .int (2 : Int32), .int (I 3 8)] (am_sh I J)).bind (fun q => am_ev X amP_117 72 [.ref 3, .int x1, .int x2, .int x3, .int x4] (q.1.toList ++ []) q.2))) else (am_do X 125 [.ref 1, .int x4] (am_sh I J)).bind (fun q => am_ev X amP_117 53 [.ref 3, .int x1, .int x2, .int x3, .int x4] (q.1.toList ++ [.int ((10 : Int32) * (I 3 10)), .ref 3]) q.2)) := by
  refine (ev_iload rfl rfl).trans ?_
  refine (ev_iload rfl rfl).trans ?_
  refine (ev_icmp3 rfl).trans (am_ite (fun c1 => ?_) (fun c1 => ?_))
  · refine (ev_aload rfl rfl).trans ?_
    refine (ev_getI rfl (by decide) am_K_3 (by decide) rfl).trans ?_
    refine (ev_iload rfl rfl).trans ?_
    refine (ev_icmp2 rfl).trans (am_ite (fun c2 => ?_) (fun c2 => ?_))
    · refine (ev_aload rfl rfl).trans ?_
      refine (ev_const0 (v := (2 : Int32)) rfl am_ci_2).trans ?_
      refine (ev_aload rfl rfl).trans ?_
      refine (ev_getI rfl (by decide) am_K_3 (by decide) rfl).trans ?_
      exact ev_invv (as := [.int (I 3 8), .int (2 : Int32)]) rfl (by decide) am_K_3 rfl (by simp [Value.category])
    · refine (ev_aload rfl rfl).trans ?_
      refine (ev_getI rfl (by decide) am_K_3 (by decide) rfl).trans ?_
      refine (ev_iload rfl rfl).trans ?_
      refine (ev_icmp5 rfl).trans (am_ite (fun c3 => ?_) (fun c3 => ?_))
      · refine (ev_aload rfl rfl).trans ?_
        refine (ev_iload rfl rfl).trans ?_
        exact ev_invv (as := [.int x3]) rfl (by decide) am_K_3 rfl (by simp [Value.category])
      · refine (ev_aload rfl rfl).trans ?_
        refine (ev_const0 (v := (2 : Int32)) rfl am_ci_2).trans ?_
        refine (ev_aload rfl rfl).trans ?_
        refine (ev_getI rfl (by decide) am_K_3 (by decide) rfl).trans ?_
        exact ev_invv (as := [.int (I 3 8), .int (2 : Int32)]) rfl (by decide) am_K_3 rfl (by simp [Value.category])
  · refine (ev_aload rfl rfl).trans ?_
    refine (ev_const1 (v := (10 : Int32)) rfl am_ci_10).trans ?_
    refine (ev_aload rfl rfl).trans ?_
    refine (ev_getI rfl (by decide) am_K_3 (by decide) rfl).trans ?_
    refine (ev_imul rfl).trans ?_
    refine (ev_aload rfl rfl).trans ?_
    refine (ev_getR rfl (by decide) am_K_3 (by decide) rfl am_R_3_7).trans ?_
    refine (ev_iload rfl rfl).trans ?_
    exact ev_invv (as := [.int x4]) rfl (by decide) am_K_1 rfl (by simp [Value.category])
set_option maxRecDepth 10000 in
theorem sg_117_53 (X : am_X) (I : Nat → Nat → Int32) (J : Nat → Nat → Int64) (x1 : Int32) (x2 : Int32) (x3 : Int32) (x4 : Int32) (x5 : Int32) (x6 : Int32) : am_ev X amP_117 53 [.ref 3, .int x1, .int x2, .int x3, .int x4] [.int x6, .int x5, .ref 3] (am_sh I J) = am_ev X amP_117 41 [.ref 3, .int x1, .int x2, .int x3, .int (x4 + (1 : Int32))] [] (am_sh (am_up I 3 10 ((x5 + x6) - (48 : Int32))) J) := by
  refine (ev_iadd rfl).trans ?_
  refine (ev_const1 (v := (48 : Int32)) rfl am_ci_48).trans ?_
  refine (ev_isub rfl).trans ?_
  refine (ev_putI rfl (by decide) am_K_3 (by decide) rfl).trans ?_
  refine (ev_iincv (v := (1 : Int32)) (ls' := [.ref 3, .int x1, .int x2, .int x3, .int (x4 + (1 : Int32))]) rfl am_ci_1 rfl rfl).trans ?_
  refine (ev_goto rfl).trans ?_
  rfl
set_option maxRecDepth 10000 in
theorem sg_117_72 (X : am_X) (I : Nat → Nat → Int32) (J : Nat → Nat → Int64) (x1 : Int32) (x2 : Int32) (x3 : Int32) (x4 : Int32) (x5 : Int32) (z0 : x5 = 0 ∨ x5 = 1) : am_ev X amP_117 72 [.ref 3, .int x1, .int x2, .int x3, .int x4] [.int x5] (am_sh I J) = some (some (.int x5), am_sh I J) := by
  exact ev_zret rfl z0
set_option maxRecDepth 10000 in
theorem sg_117_76 (X : am_X) (I : Nat → Nat → Int32) (J : Nat → Nat → Int64) (x1 : Int32) (x2 : Int32) (x3 : Int32) (x4 : Int32) (x5 : Int32) (z0 : x5 = 0 ∨ x5 = 1) : am_ev X amP_117 76 [.ref 3, .int x1, .int x2, .int x3, .int x4] [.int x5] (am_sh I J) = some (some (.int x5), am_sh I J) := by
  exact ev_zret rfl z0
-- 118 X8_takeStop
set_option maxRecDepth 10000 in
theorem sg_118_e0 (X : am_X) (I : Nat → Nat → Int32) (J : Nat → Nat → Int64) : am_ev X amP_118 0 [.ref 3] [] (am_sh I J) = (am_do X 114 [.ref 3] (am_sh I J)).bind (fun q => am_ev X amP_118 2 [.ref 3] (q.1.toList ++ []) q.2) := by
  refine (ev_aload rfl rfl).trans ?_
  exact ev_invv (as := []) rfl (by decide) am_K_3 rfl (by simp [Value.category])
theorem cl_118 (X : am_X) (I : Nat → Nat → Int32) (J : Nat → Nat → Int64) : am_do X 118 [.ref 3] (am_sh I J) = am_ev X amP_118 0 [.ref 3] [] (am_sh I J) := am_do_of rfl rfl rfl
set_option maxRecDepth 10000 in
theorem sg_118_2 (X : am_X) (I : Nat → Nat → Int32) (J : Nat → Nat → Int64) : am_ev X amP_118 2 [.ref 3] [] (am_sh I J) = (am_do X 125 [.ref 1, .int (I 3 8)] (am_sh I J)).bind (fun q => am_ev X amP_118 7 [.ref 3] (q.1.toList ++ []) q.2) := by
  refine (ev_aload rfl rfl).trans ?_
  refine (ev_getR rfl (by decide) am_K_3 (by decide) rfl am_R_3_7).trans ?_
  refine (ev_aload rfl rfl).trans ?_
  refine (ev_getI rfl (by decide) am_K_3 (by decide) rfl).trans ?_
  exact ev_invv (as := [.int (I 3 8)]) rfl (by decide) am_K_1 rfl (by simp [Value.category])
set_option maxRecDepth 10000 in
theorem sg_118_7 (X : am_X) (I : Nat → Nat → Int32) (J : Nat → Nat → Int64) (x1 : Int32) : am_ev X amP_118 7 [.ref 3] [.int x1] (am_sh I J) = (if x1 = (59 : Int32) then some (some (.int (1 : Int32)), am_sh (am_up (am_up I 3 8 ((I 3 8) + (1 : Int32))) 3 9 (0 : Int32)) J) else (am_do X 120 [.ref 3, .int (1 : Int32), .int (I 3 8)] (am_sh I J)).bind (fun q => am_ev X amP_118 14 [.ref 3] (q.1.toList ++ []) q.2)) := by
  refine (ev_const1 (v := (59 : Int32)) rfl am_ci_59).trans ?_
  refine (ev_icmp0 rfl).trans (am_ite (fun c1 => ?_) (fun c1 => ?_))
  · refine (ev_aload rfl rfl).trans ?_
    refine (ev_dupr rfl).trans ?_
    refine (ev_getI rfl (by decide) am_K_3 (by decide) rfl).trans ?_
    refine (ev_const0 (v := (1 : Int32)) rfl am_ci_1).trans ?_
    refine (ev_iadd rfl).trans ?_
    refine (ev_putI rfl (by decide) am_K_3 (by decide) rfl).trans ?_
    refine (ev_aload rfl rfl).trans ?_
    refine (ev_const0 (v := (0 : Int32)) rfl am_ci_0).trans ?_
    refine (ev_putZ rfl (by decide) am_K_3 (by decide) rfl (by decide)).trans ?_
    refine (ev_const0 (v := (1 : Int32)) rfl am_ci_1).trans ?_
    exact ev_zret rfl (by decide)
  · refine (ev_aload rfl rfl).trans ?_
    refine (ev_const0 (v := (1 : Int32)) rfl am_ci_1).trans ?_
    refine (ev_aload rfl rfl).trans ?_
    refine (ev_getI rfl (by decide) am_K_3 (by decide) rfl).trans ?_
    exact ev_invv (as := [.int (I 3 8), .int (1 : Int32)]) rfl (by decide) am_K_3 rfl (by simp [Value.category])
set_option maxRecDepth 10000 in
theorem sg_118_14 (X : am_X) (I : Nat → Nat → Int32) (J : Nat → Nat → Int64) (x1 : Int32) (z0 : x1 = 0 ∨ x1 = 1) : am_ev X amP_118 14 [.ref 3] [.int x1] (am_sh I J) = some (some (.int x1), am_sh I J) := by
  exact ev_zret rfl z0
-- 119 X8_goBehind
set_option maxRecDepth 10000 in
theorem sg_119_e0 (X : am_X) (I : Nat → Nat → Int32) (J : Nat → Nat → Int64) (x1 : Int32) : am_ev X amP_119 0 [.ref 3, .int x1] [] (am_sh I J) = some (some (.int (1 : Int32)), am_sh (am_up (am_up I 3 8 x1) 3 9 (1 : Int32)) J) := by
  refine (ev_aload rfl rfl).trans ?_
  refine (ev_iload rfl rfl).trans ?_
  refine (ev_putI rfl (by decide) am_K_3 (by decide) rfl).trans ?_
  refine (ev_aload rfl rfl).trans ?_
  refine (ev_const0 (v := (1 : Int32)) rfl am_ci_1).trans ?_
  refine (ev_putZ rfl (by decide) am_K_3 (by decide) rfl (by decide)).trans ?_
  refine (ev_const0 (v := (1 : Int32)) rfl am_ci_1).trans ?_
  exact ev_zret rfl (by decide)
theorem cl_119 (X : am_X) (I : Nat → Nat → Int32) (J : Nat → Nat → Int64) (x1 : Int32) : am_do X 119 [.ref 3, .int x1] (am_sh I J) = am_ev X amP_119 0 [.ref 3, .int x1] [] (am_sh I J) := am_do_of rfl rfl rfl
-- 120 X8_fail
set_option maxRecDepth 10000 in
theorem sg_120_e0 (X : am_X) (I : Nat → Nat → Int32) (J : Nat → Nat → Int64) (x1 : Int32) (x2 : Int32) : am_ev X amP_120 0 [.ref 3, .int x1, .int x2] [] (am_sh I J) = some (some (.int (0 : Int32)), am_sh (am_up (am_up I 3 0 x1) 3 1 x2) J) := by
  refine (ev_aload rfl rfl).trans ?_
  refine (ev_iload rfl rfl).trans ?_
  refine (ev_putI rfl (by decide) am_K_3 (by decide) rfl).trans ?_
  refine (ev_aload rfl rfl).trans ?_
  refine (ev_iload rfl rfl).trans ?_
  refine (ev_putI rfl (by decide) am_K_3 (by decide) rfl).trans ?_
  refine (ev_const0 (v := (0 : Int32)) rfl am_ci_0).trans ?_
  exact ev_zret rfl (by decide)
theorem cl_120 (X : am_X) (I : Nat → Nat → Int32) (J : Nat → Nat → Int64) (x1 : Int32) (x2 : Int32) : am_do X 120 [.ref 3, .int x1, .int x2] (am_sh I J) = am_ev X amP_120 0 [.ref 3, .int x1, .int x2] [] (am_sh I J) := am_do_of rfl rfl rfl
-- 123 X9_hasRoomFor
set_option maxRecDepth 10000 in
theorem sg_123_e0 (X : am_X) (I : Nat → Nat → Int32) (J : Nat → Nat → Int64) (x1 : Int32) : am_ev X amP_123 0 [.ref 1, .int x1] [] (am_sh I J) = (if (1600 : Int32) < ((I 1 1) + x1) then some (some (.int (0 : Int32)), am_sh I J) else some (some (.int (1 : Int32)), am_sh I J)) := by
  refine (ev_aload rfl rfl).trans ?_
  refine (ev_getI rfl (by decide) am_K_1 (by decide) rfl).trans ?_
  refine (ev_iload rfl rfl).trans ?_
  refine (ev_iadd rfl).trans ?_
  refine (ev_const2 (v := (1600 : Int32)) rfl am_ci_1600).trans ?_
  refine (ev_icmp4 rfl).trans (am_ite (fun c1 => ?_) (fun c1 => ?_))
  · refine (ev_const0 (v := (0 : Int32)) rfl am_ci_0).trans ?_
    exact ev_zret rfl (by decide)
  · refine (ev_const0 (v := (1 : Int32)) rfl am_ci_1).trans ?_
    refine (ev_goto rfl).trans ?_
    exact ev_zret rfl (by decide)
theorem cl_123 (X : am_X) (I : Nat → Nat → Int32) (J : Nat → Nat → Int64) (x1 : Int32) : am_do X 123 [.ref 1, .int x1] (am_sh I J) = am_ev X amP_123 0 [.ref 1, .int x1] [] (am_sh I J) := am_do_of rfl rfl rfl
-- 124 X9_put
set_option maxRecDepth 10000 in
theorem sg_124_e0 (X : am_X) (I : Nat → Nat → Int32) (J : Nat → Nat → Int64) (x1 : Int32) : am_ev X amP_124 0 [.ref 1, .int x1, .null] [] (am_sh I J) = am_ev X amP_124 2 [.ref 1, .int x1, .int (24 : Int32)] [] (am_sh I J) := by
  refine (ev_const1 (v := (24 : Int32)) rfl am_ci_24).trans ?_
  refine (ev_istore (ls' := [.ref 1, .int x1, .int (24 : Int32)]) rfl (Nat.le_of_ble_eq_true rfl) rfl).trans ?_
  rfl
theorem cl_124 (X : am_X) (I : Nat → Nat → Int32) (J : Nat → Nat → Int64) (x1 : Int32) : am_do X 124 [.ref 1, .int x1] (am_sh I J) = am_ev X amP_124 0 [.ref 1, .int x1, .null] [] (am_sh I J) := am_do_of rfl rfl rfl
set_option maxRecDepth 10000 in
theorem sg_124_2 (X : am_X) (I : Nat → Nat → Int32) (J : Nat → Nat → Int64) (x1 : Int32) (x2 : Int32) : am_ev X amP_124 2 [.ref 1, .int x1, .int x2] [] (am_sh I J) = (if x2 < 0 then some (none, am_sh I J) else (if (1600 : Int32) ≤ (I 1 1) then some (none, am_sh I J) else (if (I 1 1) < 0 ∨ 1600 ≤ (I 1 1).toNatClampNeg then none else am_ev X amP_124 2 [.ref 1, .int x1, .int (x2 + (-8 : Int32))] [] (am_sh (am_up (am_up I 2 (I 1 1).toNatClampNeg ((x1 >>> (x2 &&& 31)) &&& (255 : Int32))) 1 1 (((am_up I 2 (I 1 1).toNatClampNeg ((x1 >>> (x2 &&& 31)) &&& (255 : Int32))) 1 1) + (1 : Int32))) J)))) := by
  refine (ev_iload rfl rfl).trans ?_
  refine (ev_if2 rfl).trans (am_ite (fun c1 => ?_) (fun c1 => ?_))
  · exact ev_vret rfl
  · refine (ev_aload rfl rfl).trans ?_
    refine (ev_getI rfl (by decide) am_K_1 (by decide) rfl).trans ?_
    refine (ev_const2 (v := (1600 : Int32)) rfl am_ci_1600).trans ?_
    refine (ev_icmp3 rfl).trans (am_ite (fun c2 => ?_) (fun c2 => ?_))
    · exact ev_vret rfl
    · refine (ev_aload rfl rfl).trans ?_
      refine (ev_getR rfl (by decide) am_K_1 (by decide) rfl am_R_1_0).trans ?_
      refine (ev_aload rfl rfl).trans ?_
      refine (ev_getI rfl (by decide) am_K_1 (by decide) rfl).trans ?_
      refine (ev_iload rfl rfl).trans ?_
      refine (ev_iload rfl rfl).trans ?_
      refine (ev_ishr rfl).trans ?_
      refine (ev_const2 (v := (255 : Int32)) rfl am_ci_255).trans ?_
      refine (ev_iand rfl).trans ?_
      refine (ev_iast rfl (by decide) am_K_2).trans (am_itn (fun g3 => ?_))
      refine (ev_aload rfl rfl).trans ?_
      refine (ev_dupr rfl).trans ?_
      refine (ev_getI rfl (by decide) am_K_1 (by decide) rfl).trans ?_
      refine (ev_const0 (v := (1 : Int32)) rfl am_ci_1).trans ?_
      refine (ev_iadd rfl).trans ?_
      refine (ev_putI rfl (by decide) am_K_1 (by decide) rfl).trans ?_
      refine (ev_iincv (v := (-8 : Int32)) (ls' := [.ref 1, .int x1, .int (x2 + (-8 : Int32))]) rfl am_ci_m8 rfl rfl).trans ?_
      refine (ev_goto rfl).trans ?_
      rfl
-- 125 X9_byteAt
set_option maxRecDepth 10000 in
theorem sg_125_e0 (X : am_X) (I : Nat → Nat → Int32) (J : Nat → Nat → Int64) (x1 : Int32) : am_ev X amP_125 0 [.ref 1, .int x1] [] (am_sh I J) = (if x1 < 0 then some (some (.int (-1 : Int32)), am_sh I J) else (if (I 1 1) ≤ x1 then some (some (.int (-1 : Int32)), am_sh I J) else (if x1 < 0 ∨ 1600 ≤ x1.toNatClampNeg then none else some (some (.int (I 2 x1.toNatClampNeg)), am_sh I J)))) := by
  refine (ev_iload rfl rfl).trans ?_
  refine (ev_if2 rfl).trans (am_ite (fun c1 => ?_) (fun c1 => ?_))
  · refine (ev_const0 (v := (-1 : Int32)) rfl am_ci_m1).trans ?_
    exact ev_iret rfl
  · refine (ev_iload rfl rfl).trans ?_
    refine (ev_aload rfl rfl).trans ?_
    refine (ev_getI rfl (by decide) am_K_1 (by decide) rfl).trans ?_
    refine (ev_icmp3 rfl).trans (am_ite (fun c2 => ?_) (fun c2 => ?_))
    · refine (ev_const0 (v := (-1 : Int32)) rfl am_ci_m1).trans ?_
      exact ev_iret rfl
    · refine (ev_aload rfl rfl).trans ?_
      refine (ev_getR rfl (by decide) am_K_1 (by decide) rfl am_R_1_0).trans ?_
      refine (ev_iload rfl rfl).trans ?_
      refine (ev_iald rfl (by decide) am_K_2).trans (am_itn (fun g3 => ?_))
      refine (ev_goto rfl).trans ?_
      exact ev_iret rfl
theorem cl_125 (X : am_X) (I : Nat → Nat → Int32) (J : Nat → Nat → Int64) (x1 : Int32) : am_do X 125 [.ref 1, .int x1] (am_sh I J) = am_ev X amP_125 0 [.ref 1, .int x1] [] (am_sh I J) := am_do_of rfl rfl rfl
-- 126 X9_wordEnd
set_option maxRecDepth 10000 in
theorem sg_126_e0 (X : am_X) (I : Nat → Nat → Int32) (J : Nat → Nat → Int64) (x1 : Int32) : am_ev X amP_126 0 [.ref 1, .int x1, .null] [] (am_sh I J) = am_ev X amP_126 2 [.ref 1, .int x1, .int x1] [] (am_sh I J) := by
  refine (ev_iload rfl rfl).trans ?_
  refine (ev_istore (ls' := [.ref 1, .int x1, .int x1]) rfl (Nat.le_of_ble_eq_true rfl) rfl).trans ?_
  rfl
theorem cl_126 (X : am_X) (I : Nat → Nat → Int32) (J : Nat → Nat → Int64) (x1 : Int32) : am_do X 126 [.ref 1, .int x1] (am_sh I J) = am_ev X amP_126 0 [.ref 1, .int x1, .null] [] (am_sh I J) := am_do_of rfl rfl rfl
set_option maxRecDepth 10000 in
theorem sg_126_2 (X : am_X) (I : Nat → Nat → Int32) (J : Nat → Nat → Int64) (x1 : Int32) (x2 : Int32) : am_ev X amP_126 2 [.ref 1, .int x1, .int x2] [] (am_sh I J) = (if (I 1 1) ≤ x2 then some (some (.int x2), am_sh I J) else (am_do X 125 [.ref 1, .int x2] (am_sh I J)).bind (fun q => am_ev X amP_126 9 [.ref 1, .int x1, .int x2] (q.1.toList ++ []) q.2)) := by
  refine (ev_iload rfl rfl).trans ?_
  refine (ev_aload rfl rfl).trans ?_
  refine (ev_getI rfl (by decide) am_K_1 (by decide) rfl).trans ?_
  refine (ev_icmp3 rfl).trans (am_ite (fun c1 => ?_) (fun c1 => ?_))
  · refine (ev_iload rfl rfl).trans ?_
    exact ev_iret rfl
  · refine (ev_aload rfl rfl).trans ?_
    refine (ev_iload rfl rfl).trans ?_
    exact ev_invv (as := [.int x2]) rfl (by decide) am_K_1 rfl (by simp [Value.category])
set_option maxRecDepth 10000 in
theorem sg_126_9 (X : am_X) (I : Nat → Nat → Int32) (J : Nat → Nat → Int64) (x1 : Int32) (x2 : Int32) (x3 : Int32) : am_ev X amP_126 9 [.ref 1, .int x1, .int x2] [.int x3] (am_sh I J) = (if x3 < (97 : Int32) then some (some (.int x2), am_sh I J) else (am_do X 125 [.ref 1, .int x2] (am_sh I J)).bind (fun q => am_ev X amP_126 14 [.ref 1, .int x1, .int x2] (q.1.toList ++ []) q.2)) := by
  refine (ev_const1 (v := (97 : Int32)) rfl am_ci_97).trans ?_
  refine (ev_icmp2 rfl).trans (am_ite (fun c1 => ?_) (fun c1 => ?_))
  · refine (ev_iload rfl rfl).trans ?_
    exact ev_iret rfl
  · refine (ev_aload rfl rfl).trans ?_
    refine (ev_iload rfl rfl).trans ?_
    exact ev_invv (as := [.int x2]) rfl (by decide) am_K_1 rfl (by simp [Value.category])
set_option maxRecDepth 10000 in
theorem sg_126_14 (X : am_X) (I : Nat → Nat → Int32) (J : Nat → Nat → Int64) (x1 : Int32) (x2 : Int32) (x3 : Int32) : am_ev X amP_126 14 [.ref 1, .int x1, .int x2] [.int x3] (am_sh I J) = (if (122 : Int32) < x3 then some (some (.int x2), am_sh I J) else am_ev X amP_126 2 [.ref 1, .int x1, .int (x2 + (1 : Int32))] [] (am_sh I J)) := by
  refine (ev_const1 (v := (122 : Int32)) rfl am_ci_122).trans ?_
  refine (ev_icmp4 rfl).trans (am_ite (fun c1 => ?_) (fun c1 => ?_))
  · refine (ev_iload rfl rfl).trans ?_
    exact ev_iret rfl
  · refine (ev_iincv (v := (1 : Int32)) (ls' := [.ref 1, .int x1, .int (x2 + (1 : Int32))]) rfl am_ci_1 rfl rfl).trans ?_
    refine (ev_goto rfl).trans ?_
    rfl
-- 127 X9_numberEnd
set_option maxRecDepth 10000 in
theorem sg_127_e0 (X : am_X) (I : Nat → Nat → Int32) (J : Nat → Nat → Int64) (x1 : Int32) : am_ev X amP_127 0 [.ref 1, .int x1, .null] [] (am_sh I J) = am_ev X amP_127 2 [.ref 1, .int x1, .int x1] [] (am_sh I J) := by
  refine (ev_iload rfl rfl).trans ?_
  refine (ev_istore (ls' := [.ref 1, .int x1, .int x1]) rfl (Nat.le_of_ble_eq_true rfl) rfl).trans ?_
  rfl
theorem cl_127 (X : am_X) (I : Nat → Nat → Int32) (J : Nat → Nat → Int64) (x1 : Int32) : am_do X 127 [.ref 1, .int x1] (am_sh I J) = am_ev X amP_127 0 [.ref 1, .int x1, .null] [] (am_sh I J) := am_do_of rfl rfl rfl
set_option maxRecDepth 10000 in
theorem sg_127_2 (X : am_X) (I : Nat → Nat → Int32) (J : Nat → Nat → Int64) (x1 : Int32) (x2 : Int32) : am_ev X amP_127 2 [.ref 1, .int x1, .int x2] [] (am_sh I J) = (if (I 1 1) ≤ x2 then some (some (.int x2), am_sh I J) else (am_do X 125 [.ref 1, .int x2] (am_sh I J)).bind (fun q => am_ev X amP_127 9 [.ref 1, .int x1, .int x2] (q.1.toList ++ []) q.2)) := by
  refine (ev_iload rfl rfl).trans ?_
  refine (ev_aload rfl rfl).trans ?_
  refine (ev_getI rfl (by decide) am_K_1 (by decide) rfl).trans ?_
  refine (ev_icmp3 rfl).trans (am_ite (fun c1 => ?_) (fun c1 => ?_))
  · refine (ev_iload rfl rfl).trans ?_
    exact ev_iret rfl
  · refine (ev_aload rfl rfl).trans ?_
    refine (ev_iload rfl rfl).trans ?_
    exact ev_invv (as := [.int x2]) rfl (by decide) am_K_1 rfl (by simp [Value.category])
set_option maxRecDepth 10000 in
theorem sg_127_9 (X : am_X) (I : Nat → Nat → Int32) (J : Nat → Nat → Int64) (x1 : Int32) (x2 : Int32) (x3 : Int32) : am_ev X amP_127 9 [.ref 1, .int x1, .int x2] [.int x3] (am_sh I J) = (if x3 < (48 : Int32) then some (some (.int x2), am_sh I J) else (am_do X 125 [.ref 1, .int x2] (am_sh I J)).bind (fun q => am_ev X amP_127 14 [.ref 1, .int x1, .int x2] (q.1.toList ++ []) q.2)) := by
  refine (ev_const1 (v := (48 : Int32)) rfl am_ci_48).trans ?_
  refine (ev_icmp2 rfl).trans (am_ite (fun c1 => ?_) (fun c1 => ?_))
  · refine (ev_iload rfl rfl).trans ?_
    exact ev_iret rfl
  · refine (ev_aload rfl rfl).trans ?_
    refine (ev_iload rfl rfl).trans ?_
    exact ev_invv (as := [.int x2]) rfl (by decide) am_K_1 rfl (by simp [Value.category])
set_option maxRecDepth 10000 in
theorem sg_127_14 (X : am_X) (I : Nat → Nat → Int32) (J : Nat → Nat → Int64) (x1 : Int32) (x2 : Int32) (x3 : Int32) : am_ev X amP_127 14 [.ref 1, .int x1, .int x2] [.int x3] (am_sh I J) = (if (57 : Int32) < x3 then some (some (.int x2), am_sh I J) else am_ev X amP_127 2 [.ref 1, .int x1, .int (x2 + (1 : Int32))] [] (am_sh I J)) := by
  refine (ev_const1 (v := (57 : Int32)) rfl am_ci_57).trans ?_
  refine (ev_icmp4 rfl).trans (am_ite (fun c1 => ?_) (fun c1 => ?_))
  · refine (ev_iload rfl rfl).trans ?_
    exact ev_iret rfl
  · refine (ev_iincv (v := (1 : Int32)) (ls' := [.ref 1, .int x1, .int (x2 + (1 : Int32))]) rfl am_ci_1 rfl rfl).trans ?_
    refine (ev_goto rfl).trans ?_
    rfl
-- 128 X9_wordCode
set_option maxRecDepth 10000 in
theorem sg_128_e0 (X : am_X) (I : Nat → Nat → Int32) (J : Nat → Nat → Int64) (x1 : Int32) (x2 : Int32) : am_ev X amP_128 0 [.ref 1, .int x1, .int x2, .null, .null] [] (am_sh I J) = (if x2 ≤ x1 then some (some (.int (-1 : Int32)), am_sh I J) else (if (x2 - x1) ≤ (6 : Int32) then am_ev X amP_128 14 [.ref 1, .int x1, .int x2, .int (0 : Int32), .int x1] [] (am_sh I J) else some (some (.int (-1 : Int32)), am_sh I J))) := by
  refine (ev_iload rfl rfl).trans ?_
  refine (ev_iload rfl rfl).trans ?_
  refine (ev_icmp5 rfl).trans (am_ite (fun c1 => ?_) (fun c1 => ?_))
  · refine (ev_const0 (v := (-1 : Int32)) rfl am_ci_m1).trans ?_
    exact ev_iret rfl
  · refine (ev_iload rfl rfl).trans ?_
    refine (ev_iload rfl rfl).trans ?_
    refine (ev_isub rfl).trans ?_
    refine (ev_const1 (v := (6 : Int32)) rfl am_ci_6).trans ?_
    refine (ev_icmp5 rfl).trans (am_ite (fun c2 => ?_) (fun c2 => ?_))
    · refine (ev_const0 (v := (0 : Int32)) rfl am_ci_0).trans ?_
      refine (ev_istore (ls' := [.ref 1, .int x1, .int x2, .int (0 : Int32), .null]) rfl (Nat.le_of_ble_eq_true rfl) rfl).trans ?_
      refine (ev_iload rfl rfl).trans ?_
      refine (ev_istore (ls' := [.ref 1, .int x1, .int x2, .int (0 : Int32), .int x1]) rfl (Nat.le_of_ble_eq_true rfl) rfl).trans ?_
      rfl
    · refine (ev_const0 (v := (-1 : Int32)) rfl am_ci_m1).trans ?_
      exact ev_iret rfl
theorem cl_128 (X : am_X) (I : Nat → Nat → Int32) (J : Nat → Nat → Int64) (x1 : Int32) (x2 : Int32) : am_do X 128 [.ref 1, .int x1, .int x2] (am_sh I J) = am_ev X amP_128 0 [.ref 1, .int x1, .int x2, .null, .null] [] (am_sh I J) := am_do_of rfl rfl rfl
set_option maxRecDepth 10000 in
theorem sg_128_14 (X : am_X) (I : Nat → Nat → Int32) (J : Nat → Nat → Int64) (x1 : Int32) (x2 : Int32) (x3 : Int32) (x4 : Int32) : am_ev X amP_128 14 [.ref 1, .int x1, .int x2, .int x3, .int x4] [] (am_sh I J) = (if x2 ≤ x4 then some (some (.int x3), am_sh I J) else (am_do X 125 [.ref 1, .int x4] (am_sh I J)).bind (fun q => am_ev X amP_128 21 [.ref 1, .int x1, .int x2, .int x3, .int x4] (q.1.toList ++ [.int x3]) q.2)) := by
  refine (ev_iload rfl rfl).trans ?_
  refine (ev_iload rfl rfl).trans ?_
  refine (ev_icmp3 rfl).trans (am_ite (fun c1 => ?_) (fun c1 => ?_))
  · refine (ev_iload rfl rfl).trans ?_
    exact ev_iret rfl
  · refine (ev_iload rfl rfl).trans ?_
    refine (ev_aload rfl rfl).trans ?_
    refine (ev_iload rfl rfl).trans ?_
    exact ev_invv (as := [.int x4]) rfl (by decide) am_K_1 rfl (by simp [Value.category])
set_option maxRecDepth 10000 in
theorem sg_128_21 (X : am_X) (I : Nat → Nat → Int32) (J : Nat → Nat → Int64) (x1 : Int32) (x2 : Int32) (x3 : Int32) (x4 : Int32) (x5 : Int32) (x6 : Int32) : am_ev X amP_128 21 [.ref 1, .int x1, .int x2, .int x3, .int x4] [.int x6, .int x5] (am_sh I J) = (am_do X 129 [.int x6, .int (x4 - x1)] (am_sh I J)).bind (fun q => am_ev X amP_128 25 [.ref 1, .int x1, .int x2, .int x3, .int x4] (q.1.toList ++ [.int x5]) q.2) := by
  refine (ev_iload rfl rfl).trans ?_
  refine (ev_iload rfl rfl).trans ?_
  refine (ev_isub rfl).trans ?_
  exact ev_invs (as := [.int (x4 - x1), .int x6]) rfl rfl (by simp [Value.category])
set_option maxRecDepth 10000 in
theorem sg_128_25 (X : am_X) (I : Nat → Nat → Int32) (J : Nat → Nat → Int64) (x1 : Int32) (x2 : Int32) (x3 : Int32) (x4 : Int32) (x5 : Int32) (x6 : Int32) : am_ev X amP_128 25 [.ref 1, .int x1, .int x2, .int x3, .int x4] [.int x6, .int x5] (am_sh I J) = am_ev X amP_128 14 [.ref 1, .int x1, .int x2, .int (x5 ||| x6), .int (x4 + (1 : Int32))] [] (am_sh I J) := by
  refine (ev_ior rfl).trans ?_
  refine (ev_istore (ls' := [.ref 1, .int x1, .int x2, .int (x5 ||| x6), .int x4]) rfl (Nat.le_of_ble_eq_true rfl) rfl).trans ?_
  refine (ev_iincv (v := (1 : Int32)) (ls' := [.ref 1, .int x1, .int x2, .int (x5 ||| x6), .int (x4 + (1 : Int32))]) rfl am_ci_1 rfl rfl).trans ?_
  refine (ev_goto rfl).trans ?_
  rfl
-- 129 X9_codeOf
set_option maxRecDepth 10000 in
theorem sg_129_e0 (X : am_X) (I : Nat → Nat → Int32) (J : Nat → Nat → Int64) (x1 : Int32) (x2 : Int32) : am_ev X amP_129 0 [.int x1, .int x2] [] (am_sh I J) = some (some (.int (((x1 - (97 : Int32)) + (1 : Int32)) <<< (((5 : Int32) * x2) &&& 31))), am_sh I J) := by
  refine (ev_iload rfl rfl).trans ?_
  refine (ev_const1 (v := (97 : Int32)) rfl am_ci_97).trans ?_
  refine (ev_isub rfl).trans ?_
  refine (ev_const0 (v := (1 : Int32)) rfl am_ci_1).trans ?_
  refine (ev_iadd rfl).trans ?_
  refine (ev_const0 (v := (5 : Int32)) rfl am_ci_5).trans ?_
  refine (ev_iload rfl rfl).trans ?_
  refine (ev_imul rfl).trans ?_
  refine (ev_ishl rfl).trans ?_
  exact ev_iret rfl
theorem cl_129 (X : am_X) (I : Nat → Nat → Int32) (J : Nat → Nat → Int64) (x1 : Int32) (x2 : Int32) : am_do X 129 [.int x1, .int x2] (am_sh I J) = am_ev X amP_129 0 [.int x1, .int x2] [] (am_sh I J) := am_do_of rfl rfl rfl
-- 130 X9_letterOf
set_option maxRecDepth 10000 in
theorem sg_130_e0 (X : am_X) (I : Nat → Nat → Int32) (J : Nat → Nat → Int64) (x1 : Int32) (x2 : Int32) : am_ev X amP_130 0 [.int x1, .int x2] [] (am_sh I J) = some (some (.int ((x1 >>> (((5 : Int32) * x2) &&& 31)) &&& (31 : Int32))), am_sh I J) := by
  refine (ev_iload rfl rfl).trans ?_
  refine (ev_const0 (v := (5 : Int32)) rfl am_ci_5).trans ?_
  refine (ev_iload rfl rfl).trans ?_
  refine (ev_imul rfl).trans ?_
  refine (ev_ishr rfl).trans ?_
  refine (ev_const1 (v := (31 : Int32)) rfl am_ci_31).trans ?_
  refine (ev_iand rfl).trans ?_
  exact ev_iret rfl
theorem cl_130 (X : am_X) (I : Nat → Nat → Int32) (J : Nat → Nat → Int64) (x1 : Int32) (x2 : Int32) : am_do X 130 [.int x1, .int x2] (am_sh I J) = am_ev X amP_130 0 [.int x1, .int x2] [] (am_sh I J) := am_do_of rfl rfl rfl
-- 132 X10_runWithout
set_option maxRecDepth 10000 in
theorem sg_132_e0 (X : am_X) (I : Nat → Nat → Int32) (J : Nat → Nat → Int64) (x1 : Int32) (x2 : Int32) : am_ev X amP_132 0 [.ref 96, .int x1, .int x2] [] (am_sh I J) = (am_do X 102 [.ref 16] (am_sh I J)).bind (fun q => am_ev X amP_132 5 [.ref 96, .int x1, .int x2] (q.1.toList ++ [.ref 89]) q.2) := by
  refine (ev_aload rfl rfl).trans ?_
  refine (ev_getR rfl (by decide) am_K_96 (by decide) rfl am_R_96_2).trans ?_
  refine (ev_aload rfl rfl).trans ?_
  refine (ev_getR rfl (by decide) am_K_96 (by decide) rfl am_R_96_0).trans ?_
  exact ev_invv (as := []) rfl (by decide) am_K_16 rfl (by simp [Value.category])
theorem cl_132 (X : am_X) (I : Nat → Nat → Int32) (J : Nat → Nat → Int64) (x1 : Int32) (x2 : Int32) : am_do X 132 [.ref 96, .int x1, .int x2] (am_sh I J) = am_ev X amP_132 0 [.ref 96, .int x1, .int x2] [] (am_sh I J) := am_do_of rfl rfl rfl
set_option maxRecDepth 10000 in
theorem sg_132_5 (X : am_X) (I : Nat → Nat → Int32) (J : Nat → Nat → Int64) (x1 : Int32) (x2 : Int32) (x3 : Int32) : am_ev X amP_132 5 [.ref 96, .int x1, .int x2] [.int x3, .ref 89] (am_sh I J) = (am_do X 15 [.ref 89, .int (x3 &&& (((1 : Int32) <<< (x1 &&& 31)) ^^^ (-1 : Int32))), .int (I 16 4), .int x2] (am_sh I J)).bind (fun q => am_ev X amP_132 16 [.ref 96, .int x1, .int x2] (q.1.toList ++ []) q.2) := by
  refine (ev_const0 (v := (1 : Int32)) rfl am_ci_1).trans ?_
  refine (ev_iload rfl rfl).trans ?_
  refine (ev_ishl rfl).trans ?_
  refine (ev_const0 (v := (-1 : Int32)) rfl am_ci_m1).trans ?_
  refine (ev_ixor rfl).trans ?_
  refine (ev_iand rfl).trans ?_
  refine (ev_aload rfl rfl).trans ?_
  refine (ev_getR rfl (by decide) am_K_96 (by decide) rfl am_R_96_0).trans ?_
  refine (ev_getI rfl (by decide) am_K_16 (by decide) rfl).trans ?_
  refine (ev_iload rfl rfl).trans ?_
  exact ev_invv (as := [.int x2, .int (I 16 4), .int (x3 &&& (((1 : Int32) <<< (x1 &&& 31)) ^^^ (-1 : Int32)))]) rfl (by decide) am_K_89 rfl (by simp [Value.category])
set_option maxRecDepth 10000 in
theorem sg_132_16 (X : am_X) (I : Nat → Nat → Int32) (J : Nat → Nat → Int64) (x1 : Int32) (x2 : Int32) : am_ev X amP_132 16 [.ref 96, .int x1, .int x2] [] (am_sh I J) = (am_do X 18 [.ref 89, .int (-1 : Int32), .int x2] (am_sh I J)).bind (fun q => am_ev X amP_132 21 [.ref 96, .int x1, .int x2] (q.1.toList ++ []) q.2) := by
  refine (ev_aload rfl rfl).trans ?_
  refine (ev_getR rfl (by decide) am_K_96 (by decide) rfl am_R_96_2).trans ?_
  refine (ev_const0 (v := (-1 : Int32)) rfl am_ci_m1).trans ?_
  refine (ev_iload rfl rfl).trans ?_
  exact ev_invv (as := [.int x2, .int (-1 : Int32)]) rfl (by decide) am_K_89 rfl (by simp [Value.category])
set_option maxRecDepth 10000 in
theorem sg_132_21 (X : am_X) (I : Nat → Nat → Int32) (J : Nat → Nat → Int64) (x1 : Int32) (x2 : Int32) (x3 : Int32) : am_ev X amP_132 21 [.ref 96, .int x1, .int x2] [.int x3] (am_sh I J) = some (none, am_sh I J) := by
  refine (ev_popi rfl).trans ?_
  exact ev_vret rfl
-- 133 X10_countSafePhases
set_option maxRecDepth 10000 in
theorem sg_133_e0 (X : am_X) (I : Nat → Nat → Int32) (J : Nat → Nat → Int64) (x1 : Int32) (x2 : Int32) : am_ev X amP_133 0 [.ref 96, .int x1, .int x2, .null, .null, .null, .null, .null] [] (am_sh I J) = (am_do X 132 [.ref 96, .int x1, .int x2] (am_sh I J)).bind (fun q => am_ev X amP_133 4 [.ref 96, .int x1, .int x2, .null, .null, .null, .null, .null] (q.1.toList ++ []) q.2) := by
  refine (ev_aload rfl rfl).trans ?_
  refine (ev_iload rfl rfl).trans ?_
  refine (ev_iload rfl rfl).trans ?_
  exact ev_invv (as := [.int x2, .int x1]) rfl (by decide) am_K_96 rfl (by simp [Value.category])
theorem cl_133 (X : am_X) (I : Nat → Nat → Int32) (J : Nat → Nat → Int64) (x1 : Int32) (x2 : Int32) : am_do X 133 [.ref 96, .int x1, .int x2] (am_sh I J) = am_ev X amP_133 0 [.ref 96, .int x1, .int x2, .null, .null, .null, .null, .null] [] (am_sh I J) := am_do_of rfl rfl rfl
set_option maxRecDepth 10000 in
theorem sg_133_4 (X : am_X) (I : Nat → Nat → Int32) (J : Nat → Nat → Int64) (x1 : Int32) (x2 : Int32) (w3 : Value) (w4 : Value) (w5 : Value) (w6 : Value) (w7 : Value) (hw3 : w3.category = 1) (hw4 : w4.category = 1) (hw5 : w5.category = 1) (hw6 : w6.category = 1) (hw7 : w7.category = 1) : am_ev X amP_133 4 [.ref 96, .int x1, .int x2, w3, w4, w5, w6, w7] [] (am_sh I J) = (if x1 < 0 ∨ 10 ≤ x1.toNatClampNeg then none else am_ev X amP_133 14 [.ref 96, .int x1, .int x2, .ref (am_bd (x1.toNatClampNeg)), .long (Int64.ofNat 0), .null, .int (0 : Int32), w7] [] (am_sh I J)) := by
  refine (ev_aload rfl rfl).trans ?_
  refine (ev_getR rfl (by decide) am_K_96 (by decide) rfl am_R_96_0).trans ?_
  refine (ev_getR rfl (by decide) am_K_16 (by decide) rfl am_R_16_0).trans ?_
  refine (ev_iload rfl rfl).trans ?_
  refine (ev_aald rfl (by decide) (Or.inl am_K_17) (f := am_bd) (fun k hk => am_R17 hk)).trans (am_itn (fun g1 => ?_))
  refine (ev_astore (ls' := [.ref 96, .int x1, .int x2, .ref (am_bd (x1.toNatClampNeg)), w4, w5, w6, w7]) rfl (Nat.le_of_ble_eq_true rfl) rfl).trans ?_
  refine (ev_lconst rfl).trans ?_
  refine (ev_lstore (ls' := [.ref 96, .int x1, .int x2, .ref (am_bd (x1.toNatClampNeg)), .long (Int64.ofNat 0), .null, w6, w7]) rfl (Nat.le_of_ble_eq_true rfl) rfl).trans ?_
  refine (ev_const0 (v := (0 : Int32)) rfl am_ci_0).trans ?_
  refine (ev_istore (ls' := [.ref 96, .int x1, .int x2, .ref (am_bd (x1.toNatClampNeg)), .long (Int64.ofNat 0), .null, .int (0 : Int32), w7]) rfl (Nat.le_of_ble_eq_true rfl) rfl).trans ?_
  rfl
set_option maxRecDepth 10000 in
theorem sg_133_14 (X : am_X) (I : Nat → Nat → Int32) (J : Nat → Nat → Int64) (x1 : Int32) (x2 : Int32) (b3 : Nat) (x4 : Int64) (w5 : Value) (x6 : Int32) (w7 : Value) (hb3 : b3 < 11) (hw5 : w5.category = 1) (hw7 : w7.category = 1) : am_ev X amP_133 14 [.ref 96, .int x1, .int x2, .ref (am_bd b3), .long (x4), w5, .int x6, w7] [] (am_sh I J) = (if (I 16 2) ≤ x6 then (am_do X 349 [.long (x4)] (am_sh I J)).bind (fun q => am_ev X amP_133 60 [.ref 96, .int x1, .int x2, .ref (am_bd b3), .long (x4), w5, .int x6, w7] (q.1.toList ++ [.int (I (am_bd b3) 1)]) q.2) else (if x6 < 0 ∨ 10 ≤ x6.toNatClampNeg then none else (if x6 < 0 ∨ 10 ≤ x6.toNatClampNeg then none else (if (I 91 x6.toNatClampNeg) ≤ 0 then am_ev X amP_133 14 [.ref 96, .int x1, .int x2, .ref (am_bd b3), .long (x4), w5, .int (x6 + (1 : Int32)), .ref (am_bd (x6.toNatClampNeg))] [] (am_sh I J) else (am_do X 38 [.ref (am_bd b3), .ref (am_bd (x6.toNatClampNeg)), .int (I 16 4)] (am_sh I J)).bind (fun q => am_ev X amP_133 37 [.ref 96, .int x1, .int x2, .ref (am_bd b3), .long (x4), w5, .int x6, .ref (am_bd (x6.toNatClampNeg))] (q.1.toList ++ []) q.2))))) := by
  refine (ev_iload rfl rfl).trans ?_
  refine (ev_aload rfl rfl).trans ?_
  refine (ev_getR rfl (by decide) am_K_96 (by decide) rfl am_R_96_0).trans ?_
  refine (ev_getI rfl (by decide) am_K_16 (by decide) rfl).trans ?_
  refine (ev_icmp3 rfl).trans (am_ite (fun c1 => ?_) (fun c1 => ?_))
  · refine (ev_aload rfl rfl).trans ?_
    refine (ev_getI rfl (by have := am_bd_lt hb3; omega) (am_Kbd hb3) (by decide) rfl).trans ?_
    refine (ev_lload rfl rfl).trans ?_
    exact ev_invs (as := [.long (x4)]) rfl rfl (by simp [Value.category])
  · refine (ev_aload rfl rfl).trans ?_
    refine (ev_getR rfl (by decide) am_K_96 (by decide) rfl am_R_96_0).trans ?_
    refine (ev_getR rfl (by decide) am_K_16 (by decide) rfl am_R_16_0).trans ?_
    refine (ev_iload rfl rfl).trans ?_
    refine (ev_aald rfl (by decide) (Or.inl am_K_17) (f := am_bd) (fun k hk => am_R17 hk)).trans (am_itn (fun g2 => ?_))
    refine (ev_astore (ls' := [.ref 96, .int x1, .int x2, .ref (am_bd b3), .long (x4), w5, .int x6, .ref (am_bd (x6.toNatClampNeg))]) rfl (Nat.le_of_ble_eq_true rfl) rfl).trans ?_
    refine (ev_aload rfl rfl).trans ?_
    refine (ev_getR rfl (by decide) am_K_96 (by decide) rfl am_R_96_2).trans ?_
    refine (ev_getR rfl (by decide) am_K_89 (by decide) rfl am_R_89_3).trans ?_
    refine (ev_iload rfl rfl).trans ?_
    refine (ev_iald rfl (by decide) am_K_91).trans (am_itn (fun g3 => ?_))
    refine (ev_if5 rfl).trans (am_ite (fun c4 => ?_) (fun c4 => ?_))
    · refine (ev_iincv (v := (1 : Int32)) (ls' := [.ref 96, .int x1, .int x2, .ref (am_bd b3), .long (x4), w5, .int (x6 + (1 : Int32)), .ref (am_bd (x6.toNatClampNeg))]) rfl am_ci_1 rfl (by simp [am_st, hw5])).trans ?_
      refine (ev_goto rfl).trans ?_
      rfl
    · refine (ev_aload rfl rfl).trans ?_
      refine (ev_aload rfl rfl).trans ?_
      refine (ev_aload rfl rfl).trans ?_
      refine (ev_getR rfl (by decide) am_K_96 (by decide) rfl am_R_96_0).trans ?_
      refine (ev_getI rfl (by decide) am_K_16 (by decide) rfl).trans ?_
      exact ev_invv (as := [.int (I 16 4), .ref (am_bd (x6.toNatClampNeg))]) rfl (by have := am_bd_lt hb3; omega) (am_Kbd hb3) rfl (by simp [Value.category])
set_option maxRecDepth 10000 in
theorem sg_133_37 (X : am_X) (I : Nat → Nat → Int32) (J : Nat → Nat → Int64) (x1 : Int32) (x2 : Int32) (b3 : Nat) (x4 : Int64) (w5 : Value) (x6 : Int32) (b7 : Nat) (x8 : Int32) (hb3 : b3 < 11) (hw5 : w5.category = 1) (hb7 : b7 < 11) : am_ev X amP_133 37 [.ref 96, .int x1, .int x2, .ref (am_bd b3), .long (x4), w5, .int x6, .ref (am_bd b7)] [.int x8] (am_sh I J) = (if ¬ x8 = 0 then am_ev X amP_133 14 [.ref 96, .int x1, .int x2, .ref (am_bd b3), .long (x4), w5, .int (x6 + (1 : Int32)), .ref (am_bd b7)] [] (am_sh I J) else (am_do X 134 [.ref 96, .ref (am_bd b3), .ref (am_bd b7)] (am_sh I J)).bind (fun q => am_ev X amP_133 42 [.ref 96, .int x1, .int x2, .ref (am_bd b3), .long (x4), w5, .int x6, .ref (am_bd b7)] (q.1.toList ++ []) q.2)) := by
  refine (ev_if1 rfl).trans (am_ite (fun c1 => ?_) (fun c1 => ?_))
  · refine (ev_iincv (v := (1 : Int32)) (ls' := [.ref 96, .int x1, .int x2, .ref (am_bd b3), .long (x4), w5, .int (x6 + (1 : Int32)), .ref (am_bd b7)]) rfl am_ci_1 rfl (by simp [am_st, hw5])).trans ?_
    refine (ev_goto rfl).trans ?_
    rfl
  · refine (ev_aload rfl rfl).trans ?_
    refine (ev_aload rfl rfl).trans ?_
    refine (ev_aload rfl rfl).trans ?_
    exact ev_invv (as := [.ref (am_bd b7), .ref (am_bd b3)]) rfl (by decide) am_K_96 rfl (by simp [Value.category])
set_option maxRecDepth 10000 in
theorem sg_133_42 (X : am_X) (I : Nat → Nat → Int32) (J : Nat → Nat → Int64) (x1 : Int32) (x2 : Int32) (b3 : Nat) (x4 : Int64) (w5 : Value) (x6 : Int32) (b7 : Nat) (hb3 : b3 < 11) (hw5 : w5.category = 1) (hb7 : b7 < 11) : am_ev X amP_133 42 [.ref 96, .int x1, .int x2, .ref (am_bd b3), .long (x4), w5, .int x6, .ref (am_bd b7)] [] (am_sh I J) = (if x6 < 0 ∨ 10 ≤ x6.toNatClampNeg then none else (am_do X 135 [.ref 96, .ref (am_bd b3), .ref (am_bd b7), .int (I 91 x6.toNatClampNeg)] (am_sh I J)).bind (fun q => am_ev X amP_133 52 [.ref 96, .int x1, .int x2, .ref (am_bd b3), .long (x4), w5, .int x6, .ref (am_bd b7)] (q.1.toList ++ [.long (x4)]) q.2)) := by
  refine (ev_lload rfl rfl).trans ?_
  refine (ev_aload rfl rfl).trans ?_
  refine (ev_aload rfl rfl).trans ?_
  refine (ev_aload rfl rfl).trans ?_
  refine (ev_aload rfl rfl).trans ?_
  refine (ev_getR rfl (by decide) am_K_96 (by decide) rfl am_R_96_2).trans ?_
  refine (ev_getR rfl (by decide) am_K_89 (by decide) rfl am_R_89_3).trans ?_
  refine (ev_iload rfl rfl).trans ?_
  refine (ev_iald rfl (by decide) am_K_91).trans (am_itn (fun g1 => ?_))
  exact ev_invv (as := [.int (I 91 x6.toNatClampNeg), .ref (am_bd b7), .ref (am_bd b3)]) rfl (by decide) am_K_96 rfl (by simp [Value.category])
set_option maxRecDepth 10000 in
theorem sg_133_52 (X : am_X) (I : Nat → Nat → Int32) (J : Nat → Nat → Int64) (x1 : Int32) (x2 : Int32) (b3 : Nat) (x4 : Int64) (w5 : Value) (x6 : Int32) (b7 : Nat) (x8 : Int64) (x9 : Int64) (hb3 : b3 < 11) (hw5 : w5.category = 1) (hb7 : b7 < 11) : am_ev X amP_133 52 [.ref 96, .int x1, .int x2, .ref (am_bd b3), .long (x4), w5, .int x6, .ref (am_bd b7)] [.long (x9), .long (x8)] (am_sh I J) = am_ev X amP_133 14 [.ref 96, .int x1, .int x2, .ref (am_bd b3), .long (x8 ||| x9), .null, .int (x6 + (1 : Int32)), .ref (am_bd b7)] [] (am_sh I J) := by
  refine (ev_lor rfl).trans ?_
  refine (ev_lstore (ls' := [.ref 96, .int x1, .int x2, .ref (am_bd b3), .long (x8 ||| x9), .null, .int x6, .ref (am_bd b7)]) rfl (Nat.le_of_ble_eq_true rfl) rfl).trans ?_
  refine (ev_iincv (v := (1 : Int32)) (ls' := [.ref 96, .int x1, .int x2, .ref (am_bd b3), .long (x8 ||| x9), .null, .int (x6 + (1 : Int32)), .ref (am_bd b7)]) rfl am_ci_1 rfl rfl).trans ?_
  refine (ev_goto rfl).trans ?_
  rfl
set_option maxRecDepth 10000 in
theorem sg_133_60 (X : am_X) (I : Nat → Nat → Int32) (J : Nat → Nat → Int64) (x1 : Int32) (x2 : Int32) (b3 : Nat) (x4 : Int64) (w5 : Value) (x6 : Int32) (w7 : Value) (x8 : Int32) (x9 : Int32) (hb3 : b3 < 11) (hw5 : w5.category = 1) (hw7 : w7.category = 1) : am_ev X amP_133 60 [.ref 96, .int x1, .int x2, .ref (am_bd b3), .long (x4), w5, .int x6, w7] [.int x9, .int x8] (am_sh I J) = some (some (.int (x8 - x9)), am_sh I J) := by
  refine (ev_isub rfl).trans ?_
  exact ev_iret rfl
-- 134 X10_fillHits
set_option maxRecDepth 10000 in
theorem sg_134_e0 (X : am_X) (I : Nat → Nat → Int32) (J : Nat → Nat → Int64) (b1 : Nat) (b2 : Nat) (hb1 : b1 < 11) (hb2 : b2 < 11) : am_ev X amP_134 0 [.ref 96, .ref (am_bd b1), .ref (am_bd b2), .null, .null] [] (am_sh I J) = am_ev X amP_134 2 [.ref 96, .ref (am_bd b1), .ref (am_bd b2), .int (0 : Int32), .null] [] (am_sh I J) := by
  refine (ev_const0 (v := (0 : Int32)) rfl am_ci_0).trans ?_
  refine (ev_istore (ls' := [.ref 96, .ref (am_bd b1), .ref (am_bd b2), .int (0 : Int32), .null]) rfl (Nat.le_of_ble_eq_true rfl) rfl).trans ?_
  rfl
theorem cl_134 (X : am_X) (I : Nat → Nat → Int32) (J : Nat → Nat → Int64) (b1 : Nat) (b2 : Nat) : am_do X 134 [.ref 96, .ref (am_bd b1), .ref (am_bd b2)] (am_sh I J) = am_ev X amP_134 0 [.ref 96, .ref (am_bd b1), .ref (am_bd b2), .null, .null] [] (am_sh I J) := am_do_of rfl rfl rfl
set_option maxRecDepth 10000 in
theorem sg_134_2 (X : am_X) (I : Nat → Nat → Int32) (J : Nat → Nat → Int64) (b1 : Nat) (b2 : Nat) (x3 : Int32) (w4 : Value) (hb1 : b1 < 11) (hb2 : b2 < 11) (hw4 : w4.category = 1) : am_ev X amP_134 2 [.ref 96, .ref (am_bd b1), .ref (am_bd b2), .int x3, w4] [] (am_sh I J) = (if (I (am_bd b2) 1) ≤ x3 then some (none, am_sh I J) else (if x3 < 0 ∨ 48 ≤ x3.toNatClampNeg then none else am_ev X amP_134 13 [.ref 96, .ref (am_bd b1), .ref (am_bd b2), .int x3, .int (0 : Int32)] [] (am_sh I (am_up J 105 x3.toNatClampNeg (Int64.ofNat 0))))) := by
  refine (ev_iload rfl rfl).trans ?_
  refine (ev_aload rfl rfl).trans ?_
  refine (ev_getI rfl (by have := am_bd_lt hb2; omega) (am_Kbd hb2) (by decide) rfl).trans ?_
  refine (ev_icmp3 rfl).trans (am_ite (fun c1 => ?_) (fun c1 => ?_))
  · exact ev_vret rfl
  · refine (ev_aload rfl rfl).trans ?_
    refine (ev_getR rfl (by decide) am_K_96 (by decide) rfl am_R_96_11).trans ?_
    refine (ev_iload rfl rfl).trans ?_
    refine (ev_lconst rfl).trans ?_
    refine (ev_last rfl (by decide) am_K_105).trans (am_itn (fun g2 => ?_))
    refine (ev_const0 (v := (0 : Int32)) rfl am_ci_0).trans ?_
    refine (ev_istore (ls' := [.ref 96, .ref (am_bd b1), .ref (am_bd b2), .int x3, .int (0 : Int32)]) rfl (Nat.le_of_ble_eq_true rfl) rfl).trans ?_
    rfl
set_option maxRecDepth 10000 in
theorem sg_134_13 (X : am_X) (I : Nat → Nat → Int32) (J : Nat → Nat → Int64) (b1 : Nat) (b2 : Nat) (x3 : Int32) (x4 : Int32) (hb1 : b1 < 11) (hb2 : b2 < 11) : am_ev X amP_134 13 [.ref 96, .ref (am_bd b1), .ref (am_bd b2), .int x3, .int x4] [] (am_sh I J) = (if (I (am_bd b1) 1) ≤ x4 then am_ev X amP_134 2 [.ref 96, .ref (am_bd b1), .ref (am_bd b2), .int (x3 + (1 : Int32)), .int x4] [] (am_sh I J) else (am_do X 36 [.ref (am_bd b1), .int (I 16 4), .int x4, .ref (am_bd b2), .int x3] (am_sh I J)).bind (fun q => am_ev X amP_134 25 [.ref 96, .ref (am_bd b1), .ref (am_bd b2), .int x3, .int x4] (q.1.toList ++ []) q.2)) := by
  refine (ev_iload rfl rfl).trans ?_
  refine (ev_aload rfl rfl).trans ?_
  refine (ev_getI rfl (by have := am_bd_lt hb1; omega) (am_Kbd hb1) (by decide) rfl).trans ?_
  refine (ev_icmp3 rfl).trans (am_ite (fun c1 => ?_) (fun c1 => ?_))
  · refine (ev_iincv (v := (1 : Int32)) (ls' := [.ref 96, .ref (am_bd b1), .ref (am_bd b2), .int (x3 + (1 : Int32)), .int x4]) rfl am_ci_1 rfl rfl).trans ?_
    refine (ev_goto rfl).trans ?_
    rfl
  · refine (ev_aload rfl rfl).trans ?_
    refine (ev_aload rfl rfl).trans ?_
    refine (ev_getR rfl (by decide) am_K_96 (by decide) rfl am_R_96_0).trans ?_
    refine (ev_getI rfl (by decide) am_K_16 (by decide) rfl).trans ?_
    refine (ev_iload rfl rfl).trans ?_
    refine (ev_aload rfl rfl).trans ?_
    refine (ev_iload rfl rfl).trans ?_
    exact ev_invv (as := [.int x3, .ref (am_bd b2), .int x4, .int (I 16 4)]) rfl (by have := am_bd_lt hb1; omega) (am_Kbd hb1) rfl (by simp [Value.category])
set_option maxRecDepth 10000 in
theorem sg_134_25 (X : am_X) (I : Nat → Nat → Int32) (J : Nat → Nat → Int64) (b1 : Nat) (b2 : Nat) (x3 : Int32) (x4 : Int32) (x5 : Int32) (hb1 : b1 < 11) (hb2 : b2 < 11) : am_ev X amP_134 25 [.ref 96, .ref (am_bd b1), .ref (am_bd b2), .int x3, .int x4] [.int x5] (am_sh I J) = (if x5 = 0 then am_ev X amP_134 13 [.ref 96, .ref (am_bd b1), .ref (am_bd b2), .int x3, .int (x4 + (1 : Int32))] [] (am_sh I J) else (if x3 < 0 ∨ 48 ≤ x3.toNatClampNeg then none else (if x3 < 0 ∨ 48 ≤ x3.toNatClampNeg then none else am_ev X amP_134 13 [.ref 96, .ref (am_bd b1), .ref (am_bd b2), .int x3, .int (x4 + (1 : Int32))] [] (am_sh I (am_up J 105 x3.toNatClampNeg ((J 105 x3.toNatClampNeg) ||| ((Int64.ofNat 1) <<< (Int32.toInt64 x4 &&& 63)))))))) := by
  refine (ev_if0 rfl).trans (am_ite (fun c1 => ?_) (fun c1 => ?_))
  · refine (ev_iincv (v := (1 : Int32)) (ls' := [.ref 96, .ref (am_bd b1), .ref (am_bd b2), .int x3, .int (x4 + (1 : Int32))]) rfl am_ci_1 rfl rfl).trans ?_
    refine (ev_goto rfl).trans ?_
    rfl
  · refine (ev_aload rfl rfl).trans ?_
    refine (ev_getR rfl (by decide) am_K_96 (by decide) rfl am_R_96_11).trans ?_
    refine (ev_iload rfl rfl).trans ?_
    refine (ev_dup2 rfl).trans ?_
    refine (ev_lald rfl (by decide) am_K_105).trans (am_itn (fun g2 => ?_))
    refine (ev_lconst rfl).trans ?_
    refine (ev_iload rfl rfl).trans ?_
    refine (ev_lshl rfl).trans ?_
    refine (ev_lor rfl).trans ?_
    refine (ev_last rfl (by decide) am_K_105).trans (am_itn (fun g3 => ?_))
    refine (ev_iincv (v := (1 : Int32)) (ls' := [.ref 96, .ref (am_bd b1), .ref (am_bd b2), .int x3, .int (x4 + (1 : Int32))]) rfl am_ci_1 rfl rfl).trans ?_
    refine (ev_goto rfl).trans ?_
    rfl
-- 135 X10_crashingPhases
set_option maxRecDepth 10000 in
theorem sg_135_e0 (X : am_X) (I : Nat → Nat → Int32) (J : Nat → Nat → Int64) (b1 : Nat) (b2 : Nat) (x3 : Int32) (hb1 : b1 < 11) (hb2 : b2 < 11) : am_ev X amP_135 0 [.ref 96, .ref (am_bd b1), .ref (am_bd b2), .int x3, .null, .null, .null, .null, .null] [] (am_sh I J) = (am_do X 30 [.ref (am_bd b2), .int (I 16 5)] (am_sh I J)).bind (fun q => am_ev X amP_135 7 [.ref 96, .ref (am_bd b1), .ref (am_bd b2), .int x3, .long (Int64.ofNat 0), .null, .null, .null, .null] (q.1.toList ++ []) q.2) := by
  refine (ev_lconst rfl).trans ?_
  refine (ev_lstore (ls' := [.ref 96, .ref (am_bd b1), .ref (am_bd b2), .int x3, .long (Int64.ofNat 0), .null, .null, .null, .null]) rfl (Nat.le_of_ble_eq_true rfl) rfl).trans ?_
  refine (ev_aload rfl rfl).trans ?_
  refine (ev_aload rfl rfl).trans ?_
  refine (ev_getR rfl (by decide) am_K_96 (by decide) rfl am_R_96_0).trans ?_
  refine (ev_getI rfl (by decide) am_K_16 (by decide) rfl).trans ?_
  exact ev_invv (as := [.int (I 16 5)]) rfl (by have := am_bd_lt hb2; omega) (am_Kbd hb2) rfl (by simp [Value.category])
theorem cl_135 (X : am_X) (I : Nat → Nat → Int32) (J : Nat → Nat → Int64) (b1 : Nat) (b2 : Nat) (x3 : Int32) : am_do X 135 [.ref 96, .ref (am_bd b1), .ref (am_bd b2), .int x3] (am_sh I J) = am_ev X amP_135 0 [.ref 96, .ref (am_bd b1), .ref (am_bd b2), .int x3, .null, .null, .null, .null, .null] [] (am_sh I J) := am_do_of rfl rfl rfl
set_option maxRecDepth 10000 in
theorem sg_135_7 (X : am_X) (I : Nat → Nat → Int32) (J : Nat → Nat → Int64) (b1 : Nat) (b2 : Nat) (x3 : Int32) (x4 : Int64) (w5 : Value) (w6 : Value) (w7 : Value) (w8 : Value) (x9 : Int32) (hb1 : b1 < 11) (hb2 : b2 < 11) (hw5 : w5.category = 1) (hw6 : w6.category = 1) (hw7 : w7.category = 1) (hw8 : w8.category = 1) : am_ev X amP_135 7 [.ref 96, .ref (am_bd b1), .ref (am_bd b2), .int x3, .long (x4), w5, w6, w7, w8] [.int x9] (am_sh I J) = (if (I (am_bd b1) 1) = 0 then none else am_ev X amP_135 17 [.ref 96, .ref (am_bd b1), .ref (am_bd b2), .int x3, .long (x4), w5, .int x9, .int ((I 16 5) - (I 16 5) / (I (am_bd b1) 1) * (I (am_bd b1) 1)), .int (0 : Int32)] [] (am_sh I J)) := by
  refine (ev_istore (ls' := [.ref 96, .ref (am_bd b1), .ref (am_bd b2), .int x3, .long (x4), w5, .int x9, w7, w8]) rfl (Nat.le_of_ble_eq_true rfl) (by simp [am_st, am_st2, hw5])).trans ?_
  refine (ev_aload rfl rfl).trans ?_
  refine (ev_getR rfl (by decide) am_K_96 (by decide) rfl am_R_96_0).trans ?_
  refine (ev_getI rfl (by decide) am_K_16 (by decide) rfl).trans ?_
  refine (ev_aload rfl rfl).trans ?_
  refine (ev_getI rfl (by have := am_bd_lt hb1; omega) (am_Kbd hb1) (by decide) rfl).trans ?_
  refine (ev_irem rfl).trans (am_itn (fun g1 => ?_))
  refine (ev_istore (ls' := [.ref 96, .ref (am_bd b1), .ref (am_bd b2), .int x3, .long (x4), w5, .int x9, .int ((I 16 5) - (I 16 5) / (I (am_bd b1) 1) * (I (am_bd b1) 1)), w8]) rfl (Nat.le_of_ble_eq_true rfl) rfl).trans ?_
  refine (ev_const0 (v := (0 : Int32)) rfl am_ci_0).trans ?_
  refine (ev_istore (ls' := [.ref 96, .ref (am_bd b1), .ref (am_bd b2), .int x3, .long (x4), w5, .int x9, .int ((I 16 5) - (I 16 5) / (I (am_bd b1) 1) * (I (am_bd b1) 1)), .int (0 : Int32)]) rfl (Nat.le_of_ble_eq_true rfl) rfl).trans ?_
  rfl
set_option maxRecDepth 10000 in
theorem sg_135_17 (X : am_X) (I : Nat → Nat → Int32) (J : Nat → Nat → Int64) (b1 : Nat) (b2 : Nat) (x3 : Int32) (x4 : Int64) (w5 : Value) (x6 : Int32) (x7 : Int32) (x8 : Int32) (hb1 : b1 < 11) (hb2 : b2 < 11) (hw5 : w5.category = 1) : am_ev X amP_135 17 [.ref 96, .ref (am_bd b1), .ref (am_bd b2), .int x3, .long (x4), w5, .int x6, .int x7, .int x8] [] (am_sh I J) = (if x3 ≤ x8 then some (some (.long (x4 &&& (((Int64.ofNat 1) <<< (Int32.toInt64 (I (am_bd b1) 1) &&& 63)) - (Int64.ofNat 1)))), am_sh I J) else (if x6 < 0 ∨ 48 ≤ x6.toNatClampNeg then none else (if x6 < 0 ∨ 48 ≤ x6.toNatClampNeg then none else (if (I (am_bd b2) 1) ≤ (x6 + (1 : Int32)) then (if (I (am_bd b1) 1) ≤ (x7 + (1 : Int32)) then am_ev X amP_135 17 [.ref 96, .ref (am_bd b1), .ref (am_bd b2), .int x3, .long (x4 ||| (((((J 105 x6.toNatClampNeg)).toUInt64 >>> ((x7).toInt64.toUInt64 &&& Int64.toUInt64 63)).toInt64) ||| ((J 105 x6.toNatClampNeg) <<< (Int32.toInt64 ((I (am_bd b1) 1) - x7) &&& 63)))), .null, .int (0 : Int32), .int (0 : Int32), .int (x8 + (1 : Int32))] [] (am_sh I J) else am_ev X amP_135 17 [.ref 96, .ref (am_bd b1), .ref (am_bd b2), .int x3, .long (x4 ||| (((((J 105 x6.toNatClampNeg)).toUInt64 >>> ((x7).toInt64.toUInt64 &&& Int64.toUInt64 63)).toInt64) ||| ((J 105 x6.toNatClampNeg) <<< (Int32.toInt64 ((I (am_bd b1) 1) - x7) &&& 63)))), .null, .int (0 : Int32), .int (x7 + (1 : Int32)), .int (x8 + (1 : Int32))] [] (am_sh I J)) else (if (I (am_bd b1) 1) ≤ (x7 + (1 : Int32)) then am_ev X amP_135 17 [.ref 96, .ref (am_bd b1), .ref (am_bd b2), .int x3, .long (x4 ||| (((((J 105 x6.toNatClampNeg)).toUInt64 >>> ((x7).toInt64.toUInt64 &&& Int64.toUInt64 63)).toInt64) ||| ((J 105 x6.toNatClampNeg) <<< (Int32.toInt64 ((I (am_bd b1) 1) - x7) &&& 63)))), .null, .int (x6 + (1 : Int32)), .int (0 : Int32), .int (x8 + (1 : Int32))] [] (am_sh I J) else am_ev X amP_135 17 [.ref 96, .ref (am_bd b1), .ref (am_bd b2), .int x3, .long (x4 ||| (((((J 105 x6.toNatClampNeg)).toUInt64 >>> ((x7).toInt64.toUInt64 &&& Int64.toUInt64 63)).toInt64) ||| ((J 105 x6.toNatClampNeg) <<< (Int32.toInt64 ((I (am_bd b1) 1) - x7) &&& 63)))), .null, .int (x6 + (1 : Int32)), .int (x7 + (1 : Int32)), .int (x8 + (1 : Int32))] [] (am_sh I J)))))) := by
  refine (ev_iload rfl rfl).trans ?_
  refine (ev_iload rfl rfl).trans ?_
  refine (ev_icmp3 rfl).trans (am_ite (fun c1 => ?_) (fun c1 => ?_))
  · refine (ev_lload rfl rfl).trans ?_
    refine (ev_lconst rfl).trans ?_
    refine (ev_aload rfl rfl).trans ?_
    refine (ev_getI rfl (by have := am_bd_lt hb1; omega) (am_Kbd hb1) (by decide) rfl).trans ?_
    refine (ev_lshl rfl).trans ?_
    refine (ev_lconst rfl).trans ?_
    refine (ev_lsub rfl).trans ?_
    refine (ev_land rfl).trans ?_
    exact ev_lret rfl
  · refine (ev_lload rfl rfl).trans ?_
    refine (ev_aload rfl rfl).trans ?_
    refine (ev_getR rfl (by decide) am_K_96 (by decide) rfl am_R_96_11).trans ?_
    refine (ev_iload rfl rfl).trans ?_
    refine (ev_lald rfl (by decide) am_K_105).trans (am_itn (fun g2 => ?_))
    refine (ev_iload rfl rfl).trans ?_
    refine (ev_lushr rfl).trans ?_
    refine (ev_aload rfl rfl).trans ?_
    refine (ev_getR rfl (by decide) am_K_96 (by decide) rfl am_R_96_11).trans ?_
    refine (ev_iload rfl rfl).trans ?_
    refine (ev_lald rfl (by decide) am_K_105).trans (am_itn (fun g3 => ?_))
    refine (ev_aload rfl rfl).trans ?_
    refine (ev_getI rfl (by have := am_bd_lt hb1; omega) (am_Kbd hb1) (by decide) rfl).trans ?_
    refine (ev_iload rfl rfl).trans ?_
    refine (ev_isub rfl).trans ?_
    refine (ev_lshl rfl).trans ?_
    refine (ev_lor rfl).trans ?_
    refine (ev_lor rfl).trans ?_
    refine (ev_lstore (ls' := [.ref 96, .ref (am_bd b1), .ref (am_bd b2), .int x3, .long (x4 ||| (((((J 105 x6.toNatClampNeg)).toUInt64 >>> ((x7).toInt64.toUInt64 &&& Int64.toUInt64 63)).toInt64) ||| ((J 105 x6.toNatClampNeg) <<< (Int32.toInt64 ((I (am_bd b1) 1) - x7) &&& 63)))), .null, .int x6, .int x7, .int x8]) rfl (Nat.le_of_ble_eq_true rfl) rfl).trans ?_
    refine (ev_iload rfl rfl).trans ?_
    refine (ev_const0 (v := (1 : Int32)) rfl am_ci_1).trans ?_
    refine (ev_iadd rfl).trans ?_
    refine (ev_aload rfl rfl).trans ?_
    refine (ev_getI rfl (by have := am_bd_lt hb2; omega) (am_Kbd hb2) (by decide) rfl).trans ?_
    refine (ev_icmp3 rfl).trans (am_ite (fun c4 => ?_) (fun c4 => ?_))
    · refine (ev_const0 (v := (0 : Int32)) rfl am_ci_0).trans ?_
      refine (ev_istore (ls' := [.ref 96, .ref (am_bd b1), .ref (am_bd b2), .int x3, .long (x4 ||| (((((J 105 x6.toNatClampNeg)).toUInt64 >>> ((x7).toInt64.toUInt64 &&& Int64.toUInt64 63)).toInt64) ||| ((J 105 x6.toNatClampNeg) <<< (Int32.toInt64 ((I (am_bd b1) 1) - x7) &&& 63)))), .null, .int (0 : Int32), .int x7, .int x8]) rfl (Nat.le_of_ble_eq_true rfl) rfl).trans ?_
      refine (ev_iload rfl rfl).trans ?_
      refine (ev_const0 (v := (1 : Int32)) rfl am_ci_1).trans ?_
      refine (ev_iadd rfl).trans ?_
      refine (ev_aload rfl rfl).trans ?_
      refine (ev_getI rfl (by have := am_bd_lt hb1; omega) (am_Kbd hb1) (by decide) rfl).trans ?_
      refine (ev_icmp3 rfl).trans (am_ite (fun c5 => ?_) (fun c5 => ?_))
      · refine (ev_const0 (v := (0 : Int32)) rfl am_ci_0).trans ?_
        refine (ev_istore (ls' := [.ref 96, .ref (am_bd b1), .ref (am_bd b2), .int x3, .long (x4 ||| (((((J 105 x6.toNatClampNeg)).toUInt64 >>> ((x7).toInt64.toUInt64 &&& Int64.toUInt64 63)).toInt64) ||| ((J 105 x6.toNatClampNeg) <<< (Int32.toInt64 ((I (am_bd b1) 1) - x7) &&& 63)))), .null, .int (0 : Int32), .int (0 : Int32), .int x8]) rfl (Nat.le_of_ble_eq_true rfl) rfl).trans ?_
        refine (ev_iincv (v := (1 : Int32)) (ls' := [.ref 96, .ref (am_bd b1), .ref (am_bd b2), .int x3, .long (x4 ||| (((((J 105 x6.toNatClampNeg)).toUInt64 >>> ((x7).toInt64.toUInt64 &&& Int64.toUInt64 63)).toInt64) ||| ((J 105 x6.toNatClampNeg) <<< (Int32.toInt64 ((I (am_bd b1) 1) - x7) &&& 63)))), .null, .int (0 : Int32), .int (0 : Int32), .int (x8 + (1 : Int32))]) rfl am_ci_1 rfl rfl).trans ?_
        refine (ev_goto rfl).trans ?_
        rfl
      · refine (ev_iload rfl rfl).trans ?_
        refine (ev_const0 (v := (1 : Int32)) rfl am_ci_1).trans ?_
        refine (ev_iadd rfl).trans ?_
        refine (ev_goto rfl).trans ?_
        refine (ev_istore (ls' := [.ref 96, .ref (am_bd b1), .ref (am_bd b2), .int x3, .long (x4 ||| (((((J 105 x6.toNatClampNeg)).toUInt64 >>> ((x7).toInt64.toUInt64 &&& Int64.toUInt64 63)).toInt64) ||| ((J 105 x6.toNatClampNeg) <<< (Int32.toInt64 ((I (am_bd b1) 1) - x7) &&& 63)))), .null, .int (0 : Int32), .int (x7 + (1 : Int32)), .int x8]) rfl (Nat.le_of_ble_eq_true rfl) rfl).trans ?_
        refine (ev_iincv (v := (1 : Int32)) (ls' := [.ref 96, .ref (am_bd b1), .ref (am_bd b2), .int x3, .long (x4 ||| (((((J 105 x6.toNatClampNeg)).toUInt64 >>> ((x7).toInt64.toUInt64 &&& Int64.toUInt64 63)).toInt64) ||| ((J 105 x6.toNatClampNeg) <<< (Int32.toInt64 ((I (am_bd b1) 1) - x7) &&& 63)))), .null, .int (0 : Int32), .int (x7 + (1 : Int32)), .int (x8 + (1 : Int32))]) rfl am_ci_1 rfl rfl).trans ?_
        refine (ev_goto rfl).trans ?_
        rfl
    · refine (ev_iload rfl rfl).trans ?_
      refine (ev_const0 (v := (1 : Int32)) rfl am_ci_1).trans ?_
      refine (ev_iadd rfl).trans ?_
      refine (ev_goto rfl).trans ?_
      refine (ev_istore (ls' := [.ref 96, .ref (am_bd b1), .ref (am_bd b2), .int x3, .long (x4 ||| (((((J 105 x6.toNatClampNeg)).toUInt64 >>> ((x7).toInt64.toUInt64 &&& Int64.toUInt64 63)).toInt64) ||| ((J 105 x6.toNatClampNeg) <<< (Int32.toInt64 ((I (am_bd b1) 1) - x7) &&& 63)))), .null, .int (x6 + (1 : Int32)), .int x7, .int x8]) rfl (Nat.le_of_ble_eq_true rfl) rfl).trans ?_
      refine (ev_iload rfl rfl).trans ?_
      refine (ev_const0 (v := (1 : Int32)) rfl am_ci_1).trans ?_
      refine (ev_iadd rfl).trans ?_
      refine (ev_aload rfl rfl).trans ?_
      refine (ev_getI rfl (by have := am_bd_lt hb1; omega) (am_Kbd hb1) (by decide) rfl).trans ?_
      refine (ev_icmp3 rfl).trans (am_ite (fun c5 => ?_) (fun c5 => ?_))
      · refine (ev_const0 (v := (0 : Int32)) rfl am_ci_0).trans ?_
        refine (ev_istore (ls' := [.ref 96, .ref (am_bd b1), .ref (am_bd b2), .int x3, .long (x4 ||| (((((J 105 x6.toNatClampNeg)).toUInt64 >>> ((x7).toInt64.toUInt64 &&& Int64.toUInt64 63)).toInt64) ||| ((J 105 x6.toNatClampNeg) <<< (Int32.toInt64 ((I (am_bd b1) 1) - x7) &&& 63)))), .null, .int (x6 + (1 : Int32)), .int (0 : Int32), .int x8]) rfl (Nat.le_of_ble_eq_true rfl) rfl).trans ?_
        refine (ev_iincv (v := (1 : Int32)) (ls' := [.ref 96, .ref (am_bd b1), .ref (am_bd b2), .int x3, .long (x4 ||| (((((J 105 x6.toNatClampNeg)).toUInt64 >>> ((x7).toInt64.toUInt64 &&& Int64.toUInt64 63)).toInt64) ||| ((J 105 x6.toNatClampNeg) <<< (Int32.toInt64 ((I (am_bd b1) 1) - x7) &&& 63)))), .null, .int (x6 + (1 : Int32)), .int (0 : Int32), .int (x8 + (1 : Int32))]) rfl am_ci_1 rfl rfl).trans ?_
        refine (ev_goto rfl).trans ?_
        rfl
      · refine (ev_iload rfl rfl).trans ?_
        refine (ev_const0 (v := (1 : Int32)) rfl am_ci_1).trans ?_
        refine (ev_iadd rfl).trans ?_
        refine (ev_goto rfl).trans ?_
        refine (ev_istore (ls' := [.ref 96, .ref (am_bd b1), .ref (am_bd b2), .int x3, .long (x4 ||| (((((J 105 x6.toNatClampNeg)).toUInt64 >>> ((x7).toInt64.toUInt64 &&& Int64.toUInt64 63)).toInt64) ||| ((J 105 x6.toNatClampNeg) <<< (Int32.toInt64 ((I (am_bd b1) 1) - x7) &&& 63)))), .null, .int (x6 + (1 : Int32)), .int (x7 + (1 : Int32)), .int x8]) rfl (Nat.le_of_ble_eq_true rfl) rfl).trans ?_
        refine (ev_iincv (v := (1 : Int32)) (ls' := [.ref 96, .ref (am_bd b1), .ref (am_bd b2), .int x3, .long (x4 ||| (((((J 105 x6.toNatClampNeg)).toUInt64 >>> ((x7).toInt64.toUInt64 &&& Int64.toUInt64 63)).toInt64) ||| ((J 105 x6.toNatClampNeg) <<< (Int32.toInt64 ((I (am_bd b1) 1) - x7) &&& 63)))), .null, .int (x6 + (1 : Int32)), .int (x7 + (1 : Int32)), .int (x8 + (1 : Int32))]) rfl am_ci_1 rfl rfl).trans ?_
        refine (ev_goto rfl).trans ?_
        rfl
-- 136 X10_isSafe
set_option maxRecDepth 10000 in
theorem sg_136_e0 (X : am_X) (I : Nat → Nat → Int32) (J : Nat → Nat → Int64) : am_ev X amP_136 0 [.ref 96, .null, .null] [] (am_sh I J) = am_ev X amP_136 2 [.ref 96, .int (0 : Int32), .null] [] (am_sh I J) := by
  refine (ev_const0 (v := (0 : Int32)) rfl am_ci_0).trans ?_
  refine (ev_istore (ls' := [.ref 96, .int (0 : Int32), .null]) rfl (Nat.le_of_ble_eq_true rfl) rfl).trans ?_
  rfl
theorem cl_136 (X : am_X) (I : Nat → Nat → Int32) (J : Nat → Nat → Int64) : am_do X 136 [.ref 96] (am_sh I J) = am_ev X amP_136 0 [.ref 96, .null, .null] [] (am_sh I J) := am_do_of rfl rfl rfl
set_option maxRecDepth 10000 in
theorem sg_136_2 (X : am_X) (I : Nat → Nat → Int32) (J : Nat → Nat → Int64) (x1 : Int32) (w2 : Value) (hw2 : w2.category = 1) : am_ev X amP_136 2 [.ref 96, .int x1, w2] [] (am_sh I J) = (if (I 16 2) < x1 then some (some (.int (1 : Int32)), am_sh I J) else (if ¬ x1 = 0 then (am_do X 99 [.ref 16, .int (x1 - (1 : Int32))] (am_sh I J)).bind (fun q => am_ev X amP_136 20 [.ref 96, .int x1, .int (x1 - (1 : Int32))] (q.1.toList ++ []) q.2) else (am_do X 99 [.ref 16, .int (I 96 9)] (am_sh I J)).bind (fun q => am_ev X amP_136 20 [.ref 96, .int x1, .int (I 96 9)] (q.1.toList ++ []) q.2))) := by
  refine (ev_iload rfl rfl).trans ?_
  refine (ev_aload rfl rfl).trans ?_
  refine (ev_getR rfl (by decide) am_K_96 (by decide) rfl am_R_96_0).trans ?_
  refine (ev_getI rfl (by decide) am_K_16 (by decide) rfl).trans ?_
  refine (ev_icmp4 rfl).trans (am_ite (fun c1 => ?_) (fun c1 => ?_))
  · refine (ev_const0 (v := (1 : Int32)) rfl am_ci_1).trans ?_
    exact ev_zret rfl (by decide)
  · refine (ev_iload rfl rfl).trans ?_
    refine (ev_if1 rfl).trans (am_ite (fun c2 => ?_) (fun c2 => ?_))
    · refine (ev_iload rfl rfl).trans ?_
      refine (ev_const0 (v := (1 : Int32)) rfl am_ci_1).trans ?_
      refine (ev_isub rfl).trans ?_
      refine (ev_istore (ls' := [.ref 96, .int x1, .int (x1 - (1 : Int32))]) rfl (Nat.le_of_ble_eq_true rfl) rfl).trans ?_
      refine (ev_aload rfl rfl).trans ?_
      refine (ev_getR rfl (by decide) am_K_96 (by decide) rfl am_R_96_0).trans ?_
      refine (ev_iload rfl rfl).trans ?_
      exact ev_invv (as := [.int (x1 - (1 : Int32))]) rfl (by decide) am_K_16 rfl (by simp [Value.category])
    · refine (ev_aload rfl rfl).trans ?_
      refine (ev_getI rfl (by decide) am_K_96 (by decide) rfl).trans ?_
      refine (ev_goto rfl).trans ?_
      refine (ev_istore (ls' := [.ref 96, .int x1, .int (I 96 9)]) rfl (Nat.le_of_ble_eq_true rfl) rfl).trans ?_
      refine (ev_aload rfl rfl).trans ?_
      refine (ev_getR rfl (by decide) am_K_96 (by decide) rfl am_R_96_0).trans ?_
      refine (ev_iload rfl rfl).trans ?_
      exact ev_invv (as := [.int (I 96 9)]) rfl (by decide) am_K_16 rfl (by simp [Value.category])
set_option maxRecDepth 10000 in
theorem sg_136_20 (X : am_X) (I : Nat → Nat → Int32) (J : Nat → Nat → Int64) (x1 : Int32) (x2 : Int32) (x3 : Int32) : am_ev X amP_136 20 [.ref 96, .int x1, .int x2] [.int x3] (am_sh I J) = (if x3 = 0 then am_ev X amP_136 2 [.ref 96, .int (x1 + (1 : Int32)), .int x2] [] (am_sh I J) else (if x2 < 0 ∨ 10 ≤ x2.toNatClampNeg then none else (if x2 < 0 ∨ 10 ≤ x2.toNatClampNeg then none else (am_do X 137 [.ref 96, .ref (am_bd (x2.toNatClampNeg)), .int (I 91 x2.toNatClampNeg)] (am_sh I J)).bind (fun q => am_ev X amP_136 33 [.ref 96, .int x1, .int x2] (q.1.toList ++ []) q.2)))) := by
  refine (ev_if0 rfl).trans (am_ite (fun c1 => ?_) (fun c1 => ?_))
  · refine (ev_iincv (v := (1 : Int32)) (ls' := [.ref 96, .int (x1 + (1 : Int32)), .int x2]) rfl am_ci_1 rfl rfl).trans ?_
    refine (ev_goto rfl).trans ?_
    rfl
  · refine (ev_aload rfl rfl).trans ?_
    refine (ev_aload rfl rfl).trans ?_
    refine (ev_getR rfl (by decide) am_K_96 (by decide) rfl am_R_96_0).trans ?_
    refine (ev_getR rfl (by decide) am_K_16 (by decide) rfl am_R_16_0).trans ?_
    refine (ev_iload rfl rfl).trans ?_
    refine (ev_aald rfl (by decide) (Or.inl am_K_17) (f := am_bd) (fun k hk => am_R17 hk)).trans (am_itn (fun g2 => ?_))
    refine (ev_aload rfl rfl).trans ?_
    refine (ev_getR rfl (by decide) am_K_96 (by decide) rfl am_R_96_2).trans ?_
    refine (ev_getR rfl (by decide) am_K_89 (by decide) rfl am_R_89_3).trans ?_
    refine (ev_iload rfl rfl).trans ?_
    refine (ev_iald rfl (by decide) am_K_91).trans (am_itn (fun g3 => ?_))
    exact ev_invv (as := [.int (I 91 x2.toNatClampNeg), .ref (am_bd (x2.toNatClampNeg))]) rfl (by decide) am_K_96 rfl (by simp [Value.category])
set_option maxRecDepth 10000 in
theorem sg_136_33 (X : am_X) (I : Nat → Nat → Int32) (J : Nat → Nat → Int64) (x1 : Int32) (x2 : Int32) (x3 : Int32) : am_ev X amP_136 33 [.ref 96, .int x1, .int x2] [.int x3] (am_sh I J) = (if x3 = 0 then am_ev X amP_136 2 [.ref 96, .int (x1 + (1 : Int32)), .int x2] [] (am_sh I J) else some (some (.int (0 : Int32)), am_sh (am_up I 96 9 x2) J)) := by
  refine (ev_if0 rfl).trans (am_ite (fun c1 => ?_) (fun c1 => ?_))
  · refine (ev_iincv (v := (1 : Int32)) (ls' := [.ref 96, .int (x1 + (1 : Int32)), .int x2]) rfl am_ci_1 rfl rfl).trans ?_
    refine (ev_goto rfl).trans ?_
    rfl
  · refine (ev_aload rfl rfl).trans ?_
    refine (ev_iload rfl rfl).trans ?_
    refine (ev_putI rfl (by decide) am_K_96 (by decide) rfl).trans ?_
    refine (ev_const0 (v := (0 : Int32)) rfl am_ci_0).trans ?_
    exact ev_zret rfl (by decide)
-- 137 X10_crashesWith
set_option maxRecDepth 10000 in
theorem sg_137_e0 (X : am_X) (I : Nat → Nat → Int32) (J : Nat → Nat → Int64) (b1 : Nat) (x2 : Int32) (hb1 : b1 < 11) : am_ev X amP_137 0 [.ref 96, .ref (am_bd b1), .int x2, .null, .null, .null, .null] [] (am_sh I J) = (am_do X 38 [.ref 97, .ref (am_bd b1), .int (I 16 4)] (am_sh I J)).bind (fun q => am_ev X amP_137 7 [.ref 96, .ref (am_bd b1), .int x2, .null, .null, .null, .null] (q.1.toList ++ []) q.2) := by
  refine (ev_aload rfl rfl).trans ?_
  refine (ev_getR rfl (by decide) am_K_96 (by decide) rfl am_R_96_3).trans ?_
  refine (ev_aload rfl rfl).trans ?_
  refine (ev_aload rfl rfl).trans ?_
  refine (ev_getR rfl (by decide) am_K_96 (by decide) rfl am_R_96_0).trans ?_
  refine (ev_getI rfl (by decide) am_K_16 (by decide) rfl).trans ?_
  exact ev_invv (as := [.int (I 16 4), .ref (am_bd b1)]) rfl (by decide) am_K_97 rfl (by simp [Value.category])
theorem cl_137 (X : am_X) (I : Nat → Nat → Int32) (J : Nat → Nat → Int64) (b1 : Nat) (x2 : Int32) : am_do X 137 [.ref 96, .ref (am_bd b1), .int x2] (am_sh I J) = am_ev X amP_137 0 [.ref 96, .ref (am_bd b1), .int x2, .null, .null, .null, .null] [] (am_sh I J) := am_do_of rfl rfl rfl
set_option maxRecDepth 10000 in
theorem sg_137_7 (X : am_X) (I : Nat → Nat → Int32) (J : Nat → Nat → Int64) (b1 : Nat) (x2 : Int32) (w3 : Value) (w4 : Value) (w5 : Value) (w6 : Value) (x7 : Int32) (hb1 : b1 < 11) (hw3 : w3.category = 1) (hw4 : w4.category = 1) (hw5 : w5.category = 1) (hw6 : w6.category = 1) : am_ev X amP_137 7 [.ref 96, .ref (am_bd b1), .int x2, w3, w4, w5, w6] [.int x7] (am_sh I J) = (if x7 = 0 then (am_do X 40 [.ref 97, .ref (am_bd b1)] (am_sh I J)).bind (fun q => am_ev X amP_137 15 [.ref 96, .ref (am_bd b1), .int x2, w3, w4, w5, w6] (q.1.toList ++ [.int x2]) q.2) else (am_do X 30 [.ref 97, .int (I 16 5)] (am_sh I J)).bind (fun q => am_ev X amP_137 23 [.ref 96, .ref (am_bd b1), .int x2, .int (0 : Int32), w4, w5, w6] (q.1.toList ++ []) q.2)) := by
  refine (ev_if0 rfl).trans (am_ite (fun c1 => ?_) (fun c1 => ?_))
  · refine (ev_iload rfl rfl).trans ?_
    refine (ev_aload rfl rfl).trans ?_
    refine (ev_getR rfl (by decide) am_K_96 (by decide) rfl am_R_96_3).trans ?_
    refine (ev_aload rfl rfl).trans ?_
    exact ev_invv (as := [.ref (am_bd b1)]) rfl (by decide) am_K_97 rfl (by simp [Value.category])
  · refine (ev_const0 (v := (0 : Int32)) rfl am_ci_0).trans ?_
    refine (ev_goto rfl).trans ?_
    refine (ev_istore (ls' := [.ref 96, .ref (am_bd b1), .int x2, .int (0 : Int32), w4, w5, w6]) rfl (Nat.le_of_ble_eq_true rfl) rfl).trans ?_
    refine (ev_aload rfl rfl).trans ?_
    refine (ev_getR rfl (by decide) am_K_96 (by decide) rfl am_R_96_3).trans ?_
    refine (ev_aload rfl rfl).trans ?_
    refine (ev_getR rfl (by decide) am_K_96 (by decide) rfl am_R_96_0).trans ?_
    refine (ev_getI rfl (by decide) am_K_16 (by decide) rfl).trans ?_
    exact ev_invv (as := [.int (I 16 5)]) rfl (by decide) am_K_97 rfl (by simp [Value.category])
set_option maxRecDepth 10000 in
theorem sg_137_15 (X : am_X) (I : Nat → Nat → Int32) (J : Nat → Nat → Int64) (b1 : Nat) (x2 : Int32) (w3 : Value) (w4 : Value) (w5 : Value) (w6 : Value) (x7 : Int32) (x8 : Int32) (hb1 : b1 < 11) (hw3 : w3.category = 1) (hw4 : w4.category = 1) (hw5 : w5.category = 1) (hw6 : w6.category = 1) : am_ev X amP_137 15 [.ref 96, .ref (am_bd b1), .int x2, w3, w4, w5, w6] [.int x8, .int x7] (am_sh I J) = (am_do X 353 [.int x7, .int x8] (am_sh I J)).bind (fun q => am_ev X amP_137 16 [.ref 96, .ref (am_bd b1), .int x2, w3, w4, w5, w6] (q.1.toList ++ []) q.2) := by
  exact ev_invs (as := [.int x8, .int x7]) rfl rfl (by simp [Value.category])
set_option maxRecDepth 10000 in
theorem sg_137_16 (X : am_X) (I : Nat → Nat → Int32) (J : Nat → Nat → Int64) (b1 : Nat) (x2 : Int32) (w3 : Value) (w4 : Value) (w5 : Value) (w6 : Value) (x7 : Int32) (hb1 : b1 < 11) (hw3 : w3.category = 1) (hw4 : w4.category = 1) (hw5 : w5.category = 1) (hw6 : w6.category = 1) : am_ev X amP_137 16 [.ref 96, .ref (am_bd b1), .int x2, w3, w4, w5, w6] [.int x7] (am_sh I J) = (am_do X 30 [.ref 97, .int (I 16 5)] (am_sh I J)).bind (fun q => am_ev X amP_137 23 [.ref 96, .ref (am_bd b1), .int x2, .int x7, w4, w5, w6] (q.1.toList ++ []) q.2) := by
  refine (ev_istore (ls' := [.ref 96, .ref (am_bd b1), .int x2, .int x7, w4, w5, w6]) rfl (Nat.le_of_ble_eq_true rfl) rfl).trans ?_
  refine (ev_aload rfl rfl).trans ?_
  refine (ev_getR rfl (by decide) am_K_96 (by decide) rfl am_R_96_3).trans ?_
  refine (ev_aload rfl rfl).trans ?_
  refine (ev_getR rfl (by decide) am_K_96 (by decide) rfl am_R_96_0).trans ?_
  refine (ev_getI rfl (by decide) am_K_16 (by decide) rfl).trans ?_
  exact ev_invv (as := [.int (I 16 5)]) rfl (by decide) am_K_97 rfl (by simp [Value.category])
set_option maxRecDepth 10000 in
theorem sg_137_23 (X : am_X) (I : Nat → Nat → Int32) (J : Nat → Nat → Int64) (b1 : Nat) (x2 : Int32) (x3 : Int32) (w4 : Value) (w5 : Value) (w6 : Value) (x7 : Int32) (hb1 : b1 < 11) (hw4 : w4.category = 1) (hw5 : w5.category = 1) (hw6 : w6.category = 1) : am_ev X amP_137 23 [.ref 96, .ref (am_bd b1), .int x2, .int x3, w4, w5, w6] [.int x7] (am_sh I J) = (am_do X 30 [.ref (am_bd b1), .int (I 16 5)] (am_sh I J)).bind (fun q => am_ev X amP_137 29 [.ref 96, .ref (am_bd b1), .int x2, .int x3, .int x7, w5, w6] (q.1.toList ++ []) q.2) := by
  refine (ev_istore (ls' := [.ref 96, .ref (am_bd b1), .int x2, .int x3, .int x7, w5, w6]) rfl (Nat.le_of_ble_eq_true rfl) rfl).trans ?_
  refine (ev_aload rfl rfl).trans ?_
  refine (ev_aload rfl rfl).trans ?_
  refine (ev_getR rfl (by decide) am_K_96 (by decide) rfl am_R_96_0).trans ?_
  refine (ev_getI rfl (by decide) am_K_16 (by decide) rfl).trans ?_
  exact ev_invv (as := [.int (I 16 5)]) rfl (by have := am_bd_lt hb1; omega) (am_Kbd hb1) rfl (by simp [Value.category])
set_option maxRecDepth 10000 in
theorem sg_137_29 (X : am_X) (I : Nat → Nat → Int32) (J : Nat → Nat → Int64) (b1 : Nat) (x2 : Int32) (x3 : Int32) (x4 : Int32) (w5 : Value) (w6 : Value) (x7 : Int32) (hb1 : b1 < 11) (hw5 : w5.category = 1) (hw6 : w6.category = 1) : am_ev X amP_137 29 [.ref 96, .ref (am_bd b1), .int x2, .int x3, .int x4, w5, w6] [.int x7] (am_sh I J) = am_ev X amP_137 32 [.ref 96, .ref (am_bd b1), .int x2, .int x3, .int x4, .int x7, .int (0 : Int32)] [] (am_sh I J) := by
  refine (ev_istore (ls' := [.ref 96, .ref (am_bd b1), .int x2, .int x3, .int x4, .int x7, w6]) rfl (Nat.le_of_ble_eq_true rfl) rfl).trans ?_
  refine (ev_const0 (v := (0 : Int32)) rfl am_ci_0).trans ?_
  refine (ev_istore (ls' := [.ref 96, .ref (am_bd b1), .int x2, .int x3, .int x4, .int x7, .int (0 : Int32)]) rfl (Nat.le_of_ble_eq_true rfl) rfl).trans ?_
  rfl
set_option maxRecDepth 10000 in
theorem sg_137_32 (X : am_X) (I : Nat → Nat → Int32) (J : Nat → Nat → Int64) (b1 : Nat) (x2 : Int32) (x3 : Int32) (x4 : Int32) (x5 : Int32) (x6 : Int32) (hb1 : b1 < 11) : am_ev X amP_137 32 [.ref 96, .ref (am_bd b1), .int x2, .int x3, .int x4, .int x5, .int x6] [] (am_sh I J) = (if x3 ≤ x6 then some (some (.int (0 : Int32)), am_sh I J) else (am_do X 36 [.ref 97, .int (I 16 4), .int x4, .ref (am_bd b1), .int x5] (am_sh I J)).bind (fun q => am_ev X amP_137 44 [.ref 96, .ref (am_bd b1), .int x2, .int x3, .int x4, .int x5, .int x6] (q.1.toList ++ []) q.2)) := by
  refine (ev_iload rfl rfl).trans ?_
  refine (ev_iload rfl rfl).trans ?_
  refine (ev_icmp3 rfl).trans (am_ite (fun c1 => ?_) (fun c1 => ?_))
  · refine (ev_const0 (v := (0 : Int32)) rfl am_ci_0).trans ?_
    exact ev_zret rfl (by decide)
  · refine (ev_aload rfl rfl).trans ?_
    refine (ev_getR rfl (by decide) am_K_96 (by decide) rfl am_R_96_3).trans ?_
    refine (ev_aload rfl rfl).trans ?_
    refine (ev_getR rfl (by decide) am_K_96 (by decide) rfl am_R_96_0).trans ?_
    refine (ev_getI rfl (by decide) am_K_16 (by decide) rfl).trans ?_
    refine (ev_iload rfl rfl).trans ?_
    refine (ev_aload rfl rfl).trans ?_
    refine (ev_iload rfl rfl).trans ?_
    exact ev_invv (as := [.int x5, .ref (am_bd b1), .int x4, .int (I 16 4)]) rfl (by decide) am_K_97 rfl (by simp [Value.category])
set_option maxRecDepth 10000 in
theorem sg_137_44 (X : am_X) (I : Nat → Nat → Int32) (J : Nat → Nat → Int64) (b1 : Nat) (x2 : Int32) (x3 : Int32) (x4 : Int32) (x5 : Int32) (x6 : Int32) (x7 : Int32) (hb1 : b1 < 11) : am_ev X amP_137 44 [.ref 96, .ref (am_bd b1), .int x2, .int x3, .int x4, .int x5, .int x6] [.int x7] (am_sh I J) = (if x7 = 0 then (if (I 97 1) ≤ (x4 + (1 : Int32)) then (if (I (am_bd b1) 1) ≤ (x5 + (1 : Int32)) then am_ev X amP_137 32 [.ref 96, .ref (am_bd b1), .int x2, .int x3, .int (0 : Int32), .int (0 : Int32), .int (x6 + (1 : Int32))] [] (am_sh I J) else am_ev X amP_137 32 [.ref 96, .ref (am_bd b1), .int x2, .int x3, .int (0 : Int32), .int (x5 + (1 : Int32)), .int (x6 + (1 : Int32))] [] (am_sh I J)) else (if (I (am_bd b1) 1) ≤ (x5 + (1 : Int32)) then am_ev X amP_137 32 [.ref 96, .ref (am_bd b1), .int x2, .int x3, .int (x4 + (1 : Int32)), .int (0 : Int32), .int (x6 + (1 : Int32))] [] (am_sh I J) else am_ev X amP_137 32 [.ref 96, .ref (am_bd b1), .int x2, .int x3, .int (x4 + (1 : Int32)), .int (x5 + (1 : Int32)), .int (x6 + (1 : Int32))] [] (am_sh I J))) else some (some (.int (1 : Int32)), am_sh I J)) := by
  refine (ev_if0 rfl).trans (am_ite (fun c1 => ?_) (fun c1 => ?_))
  · refine (ev_iload rfl rfl).trans ?_
    refine (ev_const0 (v := (1 : Int32)) rfl am_ci_1).trans ?_
    refine (ev_iadd rfl).trans ?_
    refine (ev_aload rfl rfl).trans ?_
    refine (ev_getR rfl (by decide) am_K_96 (by decide) rfl am_R_96_3).trans ?_
    refine (ev_getI rfl (by decide) am_K_97 (by decide) rfl).trans ?_
    refine (ev_icmp3 rfl).trans (am_ite (fun c2 => ?_) (fun c2 => ?_))
    · refine (ev_const0 (v := (0 : Int32)) rfl am_ci_0).trans ?_
      refine (ev_istore (ls' := [.ref 96, .ref (am_bd b1), .int x2, .int x3, .int (0 : Int32), .int x5, .int x6]) rfl (Nat.le_of_ble_eq_true rfl) rfl).trans ?_
      refine (ev_iload rfl rfl).trans ?_
      refine (ev_const0 (v := (1 : Int32)) rfl am_ci_1).trans ?_
      refine (ev_iadd rfl).trans ?_
      refine (ev_aload rfl rfl).trans ?_
      refine (ev_getI rfl (by have := am_bd_lt hb1; omega) (am_Kbd hb1) (by decide) rfl).trans ?_
      refine (ev_icmp3 rfl).trans (am_ite (fun c3 => ?_) (fun c3 => ?_))
      · refine (ev_const0 (v := (0 : Int32)) rfl am_ci_0).trans ?_
        refine (ev_istore (ls' := [.ref 96, .ref (am_bd b1), .int x2, .int x3, .int (0 : Int32), .int (0 : Int32), .int x6]) rfl (Nat.le_of_ble_eq_true rfl) rfl).trans ?_
        refine (ev_iincv (v := (1 : Int32)) (ls' := [.ref 96, .ref (am_bd b1), .int x2, .int x3, .int (0 : Int32), .int (0 : Int32), .int (x6 + (1 : Int32))]) rfl am_ci_1 rfl rfl).trans ?_
        refine (ev_goto rfl).trans ?_
        rfl
      · refine (ev_iload rfl rfl).trans ?_
        refine (ev_const0 (v := (1 : Int32)) rfl am_ci_1).trans ?_
        refine (ev_iadd rfl).trans ?_
        refine (ev_goto rfl).trans ?_
        refine (ev_istore (ls' := [.ref 96, .ref (am_bd b1), .int x2, .int x3, .int (0 : Int32), .int (x5 + (1 : Int32)), .int x6]) rfl (Nat.le_of_ble_eq_true rfl) rfl).trans ?_
        refine (ev_iincv (v := (1 : Int32)) (ls' := [.ref 96, .ref (am_bd b1), .int x2, .int x3, .int (0 : Int32), .int (x5 + (1 : Int32)), .int (x6 + (1 : Int32))]) rfl am_ci_1 rfl rfl).trans ?_
        refine (ev_goto rfl).trans ?_
        rfl
    · refine (ev_iload rfl rfl).trans ?_
      refine (ev_const0 (v := (1 : Int32)) rfl am_ci_1).trans ?_
      refine (ev_iadd rfl).trans ?_
      refine (ev_goto rfl).trans ?_
      refine (ev_istore (ls' := [.ref 96, .ref (am_bd b1), .int x2, .int x3, .int (x4 + (1 : Int32)), .int x5, .int x6]) rfl (Nat.le_of_ble_eq_true rfl) rfl).trans ?_
      refine (ev_iload rfl rfl).trans ?_
      refine (ev_const0 (v := (1 : Int32)) rfl am_ci_1).trans ?_
      refine (ev_iadd rfl).trans ?_
      refine (ev_aload rfl rfl).trans ?_
      refine (ev_getI rfl (by have := am_bd_lt hb1; omega) (am_Kbd hb1) (by decide) rfl).trans ?_
      refine (ev_icmp3 rfl).trans (am_ite (fun c3 => ?_) (fun c3 => ?_))
      · refine (ev_const0 (v := (0 : Int32)) rfl am_ci_0).trans ?_
        refine (ev_istore (ls' := [.ref 96, .ref (am_bd b1), .int x2, .int x3, .int (x4 + (1 : Int32)), .int (0 : Int32), .int x6]) rfl (Nat.le_of_ble_eq_true rfl) rfl).trans ?_
        refine (ev_iincv (v := (1 : Int32)) (ls' := [.ref 96, .ref (am_bd b1), .int x2, .int x3, .int (x4 + (1 : Int32)), .int (0 : Int32), .int (x6 + (1 : Int32))]) rfl am_ci_1 rfl rfl).trans ?_
        refine (ev_goto rfl).trans ?_
        rfl
      · refine (ev_iload rfl rfl).trans ?_
        refine (ev_const0 (v := (1 : Int32)) rfl am_ci_1).trans ?_
        refine (ev_iadd rfl).trans ?_
        refine (ev_goto rfl).trans ?_
        refine (ev_istore (ls' := [.ref 96, .ref (am_bd b1), .int x2, .int x3, .int (x4 + (1 : Int32)), .int (x5 + (1 : Int32)), .int x6]) rfl (Nat.le_of_ble_eq_true rfl) rfl).trans ?_
        refine (ev_iincv (v := (1 : Int32)) (ls' := [.ref 96, .ref (am_bd b1), .int x2, .int x3, .int (x4 + (1 : Int32)), .int (x5 + (1 : Int32)), .int (x6 + (1 : Int32))]) rfl am_ci_1 rfl rfl).trans ?_
        refine (ev_goto rfl).trans ?_
        rfl
  · refine (ev_const0 (v := (1 : Int32)) rfl am_ci_1).trans ?_
    exact ev_zret rfl (by decide)
-- 138 X10_countNearBehind
set_option maxRecDepth 10000 in
theorem sg_138_e0 (X : am_X) (I : Nat → Nat → Int32) (J : Nat → Nat → Int64) (x1 : Int32) (x2 : Int32) (x3 : Int32) : am_ev X amP_138 0 [.ref 96, .int x1, .int x2, .int x3, .null, .null] [] (am_sh I J) = (if x1 < 0 ∨ 10 ≤ x1.toNatClampNeg then none else (am_do X 139 [.ref 96, .ref (am_bd (x1.toNatClampNeg)), .int x2, .int x3] (am_sh I J)).bind (fun q => am_ev X amP_138 9 [.ref 96, .int x1, .int x2, .int x3, .null, .null] (q.1.toList ++ []) q.2)) := by
  refine (ev_aload rfl rfl).trans ?_
  refine (ev_aload rfl rfl).trans ?_
  refine (ev_getR rfl (by decide) am_K_96 (by decide) rfl am_R_96_0).trans ?_
  refine (ev_getR rfl (by decide) am_K_16 (by decide) rfl am_R_16_0).trans ?_
  refine (ev_iload rfl rfl).trans ?_
  refine (ev_aald rfl (by decide) (Or.inl am_K_17) (f := am_bd) (fun k hk => am_R17 hk)).trans (am_itn (fun g1 => ?_))
  refine (ev_iload rfl rfl).trans ?_
  refine (ev_iload rfl rfl).trans ?_
  exact ev_invv (as := [.int x3, .int x2, .ref (am_bd (x1.toNatClampNeg))]) rfl (by decide) am_K_96 rfl (by simp [Value.category])
theorem cl_138 (X : am_X) (I : Nat → Nat → Int32) (J : Nat → Nat → Int64) (x1 : Int32) (x2 : Int32) (x3 : Int32) : am_do X 138 [.ref 96, .int x1, .int x2, .int x3] (am_sh I J) = am_ev X amP_138 0 [.ref 96, .int x1, .int x2, .int x3, .null, .null] [] (am_sh I J) := am_do_of rfl rfl rfl
set_option maxRecDepth 10000 in
theorem sg_138_9 (X : am_X) (I : Nat → Nat → Int32) (J : Nat → Nat → Int64) (x1 : Int32) (x2 : Int32) (x3 : Int32) (w4 : Value) (w5 : Value) (x6 : Int32) (hw4 : w4.category = 1) (hw5 : w5.category = 1) : am_ev X amP_138 9 [.ref 96, .int x1, .int x2, .int x3, w4, w5] [.int x6] (am_sh I J) = (if ¬ x6 = 0 then (am_do X 31 [.ref 97] (am_sh I J)).bind (fun q => am_ev X amP_138 15 [.ref 96, .int x1, .int x2, .int x3, w4, w5] (q.1.toList ++ []) q.2) else some (some (.int (-1 : Int32)), am_sh I J)) := by
  refine (ev_if1 rfl).trans (am_ite (fun c1 => ?_) (fun c1 => ?_))
  · refine (ev_aload rfl rfl).trans ?_
    refine (ev_getR rfl (by decide) am_K_96 (by decide) rfl am_R_96_3).trans ?_
    exact ev_invv (as := []) rfl (by decide) am_K_97 rfl (by simp [Value.category])
  · refine (ev_const0 (v := (-1 : Int32)) rfl am_ci_m1).trans ?_
    exact ev_iret rfl
set_option maxRecDepth 10000 in
theorem sg_138_15 (X : am_X) (I : Nat → Nat → Int32) (J : Nat → Nat → Int64) (x1 : Int32) (x2 : Int32) (x3 : Int32) (w4 : Value) (w5 : Value) (hw4 : w4.category = 1) (hw5 : w5.category = 1) : am_ev X amP_138 15 [.ref 96, .int x1, .int x2, .int x3, w4, w5] [] (am_sh I J) = am_ev X amP_138 19 [.ref 96, .int x1, .int x2, .int x3, .int (0 : Int32), .int (0 : Int32)] [] (am_sh I J) := by
  refine (ev_const0 (v := (0 : Int32)) rfl am_ci_0).trans ?_
  refine (ev_istore (ls' := [.ref 96, .int x1, .int x2, .int x3, .int (0 : Int32), w5]) rfl (Nat.le_of_ble_eq_true rfl) rfl).trans ?_
  refine (ev_const0 (v := (0 : Int32)) rfl am_ci_0).trans ?_
  refine (ev_istore (ls' := [.ref 96, .int x1, .int x2, .int x3, .int (0 : Int32), .int (0 : Int32)]) rfl (Nat.le_of_ble_eq_true rfl) rfl).trans ?_
  rfl
set_option maxRecDepth 10000 in
theorem sg_138_19 (X : am_X) (I : Nat → Nat → Int32) (J : Nat → Nat → Int64) (x1 : Int32) (x2 : Int32) (x3 : Int32) (x4 : Int32) (x5 : Int32) : am_ev X amP_138 19 [.ref 96, .int x1, .int x2, .int x3, .int x4, .int x5] [] (am_sh I J) = (if (I 16 2) ≤ x5 then some (some (.int x4), am_sh I J) else (am_do X 140 [.ref 96, .int x1, .int x5, .int (48 : Int32)] (am_sh I J)).bind (fun q => am_ev X amP_138 30 [.ref 96, .int x1, .int x2, .int x3, .int x4, .int x5] (q.1.toList ++ [.int x4]) q.2)) := by
  refine (ev_iload rfl rfl).trans ?_
  refine (ev_aload rfl rfl).trans ?_
  refine (ev_getR rfl (by decide) am_K_96 (by decide) rfl am_R_96_0).trans ?_
  refine (ev_getI rfl (by decide) am_K_16 (by decide) rfl).trans ?_
  refine (ev_icmp3 rfl).trans (am_ite (fun c1 => ?_) (fun c1 => ?_))
  · refine (ev_iload rfl rfl).trans ?_
    exact ev_iret rfl
  · refine (ev_iload rfl rfl).trans ?_
    refine (ev_aload rfl rfl).trans ?_
    refine (ev_iload rfl rfl).trans ?_
    refine (ev_iload rfl rfl).trans ?_
    refine (ev_const1 (v := (48 : Int32)) rfl am_ci_48).trans ?_
    exact ev_invv (as := [.int (48 : Int32), .int x5, .int x1]) rfl (by decide) am_K_96 rfl (by simp [Value.category])
set_option maxRecDepth 10000 in
theorem sg_138_30 (X : am_X) (I : Nat → Nat → Int32) (J : Nat → Nat → Int64) (x1 : Int32) (x2 : Int32) (x3 : Int32) (x4 : Int32) (x5 : Int32) (x6 : Int32) (x7 : Int32) : am_ev X amP_138 30 [.ref 96, .int x1, .int x2, .int x3, .int x4, .int x5] [.int x7, .int x6] (am_sh I J) = (if x7 = 0 then am_ev X amP_138 19 [.ref 96, .int x1, .int x2, .int x3, .int (x6 + (0 : Int32)), .int (x5 + (1 : Int32))] [] (am_sh I J) else am_ev X amP_138 19 [.ref 96, .int x1, .int x2, .int x3, .int (x6 + (1 : Int32)), .int (x5 + (1 : Int32))] [] (am_sh I J)) := by
  refine (ev_if0 rfl).trans (am_ite (fun c1 => ?_) (fun c1 => ?_))
  · refine (ev_const0 (v := (0 : Int32)) rfl am_ci_0).trans ?_
    refine (ev_iadd rfl).trans ?_
    refine (ev_istore (ls' := [.ref 96, .int x1, .int x2, .int x3, .int (x6 + (0 : Int32)), .int x5]) rfl (Nat.le_of_ble_eq_true rfl) rfl).trans ?_
    refine (ev_iincv (v := (1 : Int32)) (ls' := [.ref 96, .int x1, .int x2, .int x3, .int (x6 + (0 : Int32)), .int (x5 + (1 : Int32))]) rfl am_ci_1 rfl rfl).trans ?_
    refine (ev_goto rfl).trans ?_
    rfl
  · refine (ev_const0 (v := (1 : Int32)) rfl am_ci_1).trans ?_
    refine (ev_goto rfl).trans ?_
    refine (ev_iadd rfl).trans ?_
    refine (ev_istore (ls' := [.ref 96, .int x1, .int x2, .int x3, .int (x6 + (1 : Int32)), .int x5]) rfl (Nat.le_of_ble_eq_true rfl) rfl).trans ?_
    refine (ev_iincv (v := (1 : Int32)) (ls' := [.ref 96, .int x1, .int x2, .int x3, .int (x6 + (1 : Int32)), .int (x5 + (1 : Int32))]) rfl am_ci_1 rfl rfl).trans ?_
    refine (ev_goto rfl).trans ?_
    rfl
-- 139 X10_tryOn
set_option maxRecDepth 10000 in
theorem sg_139_e0 (X : am_X) (I : Nat → Nat → Int32) (J : Nat → Nat → Int64) (b1 : Nat) (x2 : Int32) (x3 : Int32) (hb1 : b1 < 11) : am_ev X amP_139 0 [.ref 96, .ref (am_bd b1), .int x2, .int x3] [] (am_sh I J) = (am_do X 29 [.ref 97, .ref (am_bd b1)] (am_sh I J)).bind (fun q => am_ev X amP_139 4 [.ref 96, .ref (am_bd b1), .int x2, .int x3] (q.1.toList ++ []) q.2) := by
  refine (ev_aload rfl rfl).trans ?_
  refine (ev_getR rfl (by decide) am_K_96 (by decide) rfl am_R_96_3).trans ?_
  refine (ev_aload rfl rfl).trans ?_
  exact ev_invv (as := [.ref (am_bd b1)]) rfl (by decide) am_K_97 rfl (by simp [Value.category])
theorem cl_139 (X : am_X) (I : Nat → Nat → Int32) (J : Nat → Nat → Int64) (b1 : Nat) (x2 : Int32) (x3 : Int32) : am_do X 139 [.ref 96, .ref (am_bd b1), .int x2, .int x3] (am_sh I J) = am_ev X amP_139 0 [.ref 96, .ref (am_bd b1), .int x2, .int x3] [] (am_sh I J) := am_do_of rfl rfl rfl
set_option maxRecDepth 10000 in
theorem sg_139_4 (X : am_X) (I : Nat → Nat → Int32) (J : Nat → Nat → Int64) (b1 : Nat) (x2 : Int32) (x3 : Int32) (hb1 : b1 < 11) : am_ev X amP_139 4 [.ref 96, .ref (am_bd b1), .int x2, .int x3] [] (am_sh I J) = (am_do X 46 [.ref 97, .int x2, .int x3] (am_sh I J)).bind (fun q => am_ev X amP_139 9 [.ref 96, .ref (am_bd b1), .int x2, .int x3] (q.1.toList ++ []) q.2) := by
  refine (ev_aload rfl rfl).trans ?_
  refine (ev_getR rfl (by decide) am_K_96 (by decide) rfl am_R_96_3).trans ?_
  refine (ev_iload rfl rfl).trans ?_
  refine (ev_iload rfl rfl).trans ?_
  exact ev_invv (as := [.int x3, .int x2]) rfl (by decide) am_K_97 rfl (by simp [Value.category])
set_option maxRecDepth 10000 in
theorem sg_139_9 (X : am_X) (I : Nat → Nat → Int32) (J : Nat → Nat → Int64) (b1 : Nat) (x2 : Int32) (x3 : Int32) (x4 : Int32) (hb1 : b1 < 11) : am_ev X amP_139 9 [.ref 96, .ref (am_bd b1), .int x2, .int x3] [.int x4] (am_sh I J) = (if ¬ x4 = 0 then (am_do X 47 [.ref 97, .int x2, .int x3] (am_sh I J)).bind (fun q => am_ev X amP_139 17 [.ref 96, .ref (am_bd b1), .int x2, .int x3] (q.1.toList ++ []) q.2) else some (some (.int (0 : Int32)), am_sh I J)) := by
  refine (ev_if1 rfl).trans (am_ite (fun c1 => ?_) (fun c1 => ?_))
  · refine (ev_aload rfl rfl).trans ?_
    refine (ev_getR rfl (by decide) am_K_96 (by decide) rfl am_R_96_3).trans ?_
    refine (ev_iload rfl rfl).trans ?_
    refine (ev_iload rfl rfl).trans ?_
    exact ev_invv (as := [.int x3, .int x2]) rfl (by decide) am_K_97 rfl (by simp [Value.category])
  · refine (ev_const0 (v := (0 : Int32)) rfl am_ci_0).trans ?_
    exact ev_zret rfl (by decide)
set_option maxRecDepth 10000 in
theorem sg_139_17 (X : am_X) (I : Nat → Nat → Int32) (J : Nat → Nat → Int64) (b1 : Nat) (x2 : Int32) (x3 : Int32) (hb1 : b1 < 11) : am_ev X amP_139 17 [.ref 96, .ref (am_bd b1), .int x2, .int x3] [] (am_sh I J) = some (some (.int (1 : Int32)), am_sh I J) := by
  refine (ev_const0 (v := (1 : Int32)) rfl am_ci_1).trans ?_
  exact ev_zret rfl (by decide)
-- 140 X10_isInTheWay
set_option maxRecDepth 10000 in
theorem sg_140_e0 (X : am_X) (I : Nat → Nat → Int32) (J : Nat → Nat → Int64) (x1 : Int32) (x2 : Int32) (x3 : Int32) : am_ev X amP_140 0 [.ref 96, .int x1, .int x2, .int x3, .null] [] (am_sh I J) = (if x2 = x1 then some (some (.int (0 : Int32)), am_sh I J) else (am_do X 101 [.ref 16, .int x2] (am_sh I J)).bind (fun q => am_ev X amP_140 7 [.ref 96, .int x1, .int x2, .int x3, .null] (q.1.toList ++ []) q.2)) := by
  refine (ev_iload rfl rfl).trans ?_
  refine (ev_iload rfl rfl).trans ?_
  refine (ev_icmp0 rfl).trans (am_ite (fun c1 => ?_) (fun c1 => ?_))
  · refine (ev_const0 (v := (0 : Int32)) rfl am_ci_0).trans ?_
    exact ev_zret rfl (by decide)
  · refine (ev_aload rfl rfl).trans ?_
    refine (ev_getR rfl (by decide) am_K_96 (by decide) rfl am_R_96_0).trans ?_
    refine (ev_iload rfl rfl).trans ?_
    exact ev_invv (as := [.int x2]) rfl (by decide) am_K_16 rfl (by simp [Value.category])
theorem cl_140 (X : am_X) (I : Nat → Nat → Int32) (J : Nat → Nat → Int64) (x1 : Int32) (x2 : Int32) (x3 : Int32) : am_do X 140 [.ref 96, .int x1, .int x2, .int x3] (am_sh I J) = am_ev X amP_140 0 [.ref 96, .int x1, .int x2, .int x3, .null] [] (am_sh I J) := am_do_of rfl rfl rfl
set_option maxRecDepth 10000 in
theorem sg_140_7 (X : am_X) (I : Nat → Nat → Int32) (J : Nat → Nat → Int64) (x1 : Int32) (x2 : Int32) (x3 : Int32) (w4 : Value) (x5 : Int32) (hw4 : w4.category = 1) : am_ev X amP_140 7 [.ref 96, .int x1, .int x2, .int x3, w4] [.int x5] (am_sh I J) = (if ¬ x5 = 0 then (if x2 < 0 ∨ 10 ≤ x2.toNatClampNeg then none else (if x2 < 0 ∨ 10 ≤ x2.toNatClampNeg then none else (am_do X 41 [.ref 97, .int (I 16 3), .ref (am_bd (x2.toNatClampNeg)), .int (I 104 x2.toNatClampNeg), .int x3] (am_sh I J)).bind (fun q => am_ev X amP_140 26 [.ref 96, .int x1, .int x2, .int x3, w4] (q.1.toList ++ []) q.2))) else some (some (.int (0 : Int32)), am_sh I J)) := by
  refine (ev_if1 rfl).trans (am_ite (fun c1 => ?_) (fun c1 => ?_))
  · refine (ev_aload rfl rfl).trans ?_
    refine (ev_getR rfl (by decide) am_K_96 (by decide) rfl am_R_96_3).trans ?_
    refine (ev_aload rfl rfl).trans ?_
    refine (ev_getR rfl (by decide) am_K_96 (by decide) rfl am_R_96_0).trans ?_
    refine (ev_getI rfl (by decide) am_K_16 (by decide) rfl).trans ?_
    refine (ev_aload rfl rfl).trans ?_
    refine (ev_getR rfl (by decide) am_K_96 (by decide) rfl am_R_96_0).trans ?_
    refine (ev_getR rfl (by decide) am_K_16 (by decide) rfl am_R_16_0).trans ?_
    refine (ev_iload rfl rfl).trans ?_
    refine (ev_aald rfl (by decide) (Or.inl am_K_17) (f := am_bd) (fun k hk => am_R17 hk)).trans (am_itn (fun g2 => ?_))
    refine (ev_aload rfl rfl).trans ?_
    refine (ev_getR rfl (by decide) am_K_96 (by decide) rfl am_R_96_10).trans ?_
    refine (ev_iload rfl rfl).trans ?_
    refine (ev_iald rfl (by decide) am_K_104).trans (am_itn (fun g3 => ?_))
    refine (ev_iload rfl rfl).trans ?_
    exact ev_invv (as := [.int x3, .int (I 104 x2.toNatClampNeg), .ref (am_bd (x2.toNatClampNeg)), .int (I 16 3)]) rfl (by decide) am_K_97 rfl (by simp [Value.category])
  · refine (ev_const0 (v := (0 : Int32)) rfl am_ci_0).trans ?_
    exact ev_zret rfl (by decide)
set_option maxRecDepth 10000 in
theorem sg_140_26 (X : am_X) (I : Nat → Nat → Int32) (J : Nat → Nat → Int64) (x1 : Int32) (x2 : Int32) (x3 : Int32) (w4 : Value) (x5 : Int32) (hw4 : w4.category = 1) : am_ev X amP_140 26 [.ref 96, .int x1, .int x2, .int x3, w4] [.int x5] (am_sh I J) = (if ¬ x5 = (-1 : Int32) then (if x2 < 0 ∨ 10 ≤ x2.toNatClampNeg then none else (if x5 = (-1 : Int32) then some (some (.int (0 : Int32)), am_sh (am_up I 104 x2.toNatClampNeg x5) J) else some (some (.int (1 : Int32)), am_sh (am_up I 104 x2.toNatClampNeg x5) J))) else (if x2 < 0 ∨ 10 ≤ x2.toNatClampNeg then none else (if x2 < 0 ∨ 10 ≤ x2.toNatClampNeg then none else (if x5 = (-1 : Int32) then some (some (.int (0 : Int32)), am_sh (am_up I 104 x2.toNatClampNeg (I 104 x2.toNatClampNeg)) J) else some (some (.int (1 : Int32)), am_sh (am_up I 104 x2.toNatClampNeg (I 104 x2.toNatClampNeg)) J))))) := by
  refine (ev_istore (ls' := [.ref 96, .int x1, .int x2, .int x3, .int x5]) rfl (Nat.le_of_ble_eq_true rfl) rfl).trans ?_
  refine (ev_aload rfl rfl).trans ?_
  refine (ev_getR rfl (by decide) am_K_96 (by decide) rfl am_R_96_10).trans ?_
  refine (ev_iload rfl rfl).trans ?_
  refine (ev_iload rfl rfl).trans ?_
  refine (ev_const0 (v := (-1 : Int32)) rfl am_ci_m1).trans ?_
  refine (ev_icmp1 rfl).trans (am_ite (fun c1 => ?_) (fun c1 => ?_))
  · refine (ev_iload rfl rfl).trans ?_
    refine (ev_iast rfl (by decide) am_K_104).trans (am_itn (fun g2 => ?_))
    refine (ev_iload rfl rfl).trans ?_
    refine (ev_const0 (v := (-1 : Int32)) rfl am_ci_m1).trans ?_
    refine (ev_icmp0 rfl).trans (am_ite (fun c3 => ?_) (fun c3 => ?_))
    · refine (ev_const0 (v := (0 : Int32)) rfl am_ci_0).trans ?_
      exact ev_zret rfl (by decide)
    · refine (ev_const0 (v := (1 : Int32)) rfl am_ci_1).trans ?_
      refine (ev_goto rfl).trans ?_
      exact ev_zret rfl (by decide)
  · refine (ev_aload rfl rfl).trans ?_
    refine (ev_getR rfl (by decide) am_K_96 (by decide) rfl am_R_96_10).trans ?_
    refine (ev_iload rfl rfl).trans ?_
    refine (ev_iald rfl (by decide) am_K_104).trans (am_itn (fun g2 => ?_))
    refine (ev_goto rfl).trans ?_
    refine (ev_iast rfl (by decide) am_K_104).trans (am_itn (fun g3 => ?_))
    refine (ev_iload rfl rfl).trans ?_
    refine (ev_const0 (v := (-1 : Int32)) rfl am_ci_m1).trans ?_
    refine (ev_icmp0 rfl).trans (am_ite (fun c4 => ?_) (fun c4 => ?_))
    · refine (ev_const0 (v := (0 : Int32)) rfl am_ci_0).trans ?_
      exact ev_zret rfl (by decide)
    · refine (ev_const0 (v := (1 : Int32)) rfl am_ci_1).trans ?_
      refine (ev_goto rfl).trans ?_
      exact ev_zret rfl (by decide)
-- 141 X10_isClear
set_option maxRecDepth 10000 in
theorem sg_141_e0 (X : am_X) (I : Nat → Nat → Int32) (J : Nat → Nat → Int64) (x1 : Int32) : am_ev X amP_141 0 [.ref 96, .int x1, .null, .null] [] (am_sh I J) = am_ev X amP_141 2 [.ref 96, .int x1, .int (0 : Int32), .null] [] (am_sh I J) := by
  refine (ev_const0 (v := (0 : Int32)) rfl am_ci_0).trans ?_
  refine (ev_istore (ls' := [.ref 96, .int x1, .int (0 : Int32), .null]) rfl (Nat.le_of_ble_eq_true rfl) rfl).trans ?_
  rfl
theorem cl_141 (X : am_X) (I : Nat → Nat → Int32) (J : Nat → Nat → Int64) (x1 : Int32) : am_do X 141 [.ref 96, .int x1] (am_sh I J) = am_ev X amP_141 0 [.ref 96, .int x1, .null, .null] [] (am_sh I J) := am_do_of rfl rfl rfl
set_option maxRecDepth 10000 in
theorem sg_141_2 (X : am_X) (I : Nat → Nat → Int32) (J : Nat → Nat → Int64) (x1 : Int32) (x2 : Int32) (w3 : Value) (hw3 : w3.category = 1) : am_ev X amP_141 2 [.ref 96, .int x1, .int x2, w3] [] (am_sh I J) = (if (2 : Int32) ≤ x2 then some (some (.int (1 : Int32)), am_sh I J) else am_ev X amP_141 7 [.ref 96, .int x1, .int x2, .int (0 : Int32)] [] (am_sh I J)) := by
  refine (ev_iload rfl rfl).trans ?_
  refine (ev_const0 (v := (2 : Int32)) rfl am_ci_2).trans ?_
  refine (ev_icmp3 rfl).trans (am_ite (fun c1 => ?_) (fun c1 => ?_))
  · refine (ev_const0 (v := (1 : Int32)) rfl am_ci_1).trans ?_
    exact ev_zret rfl (by decide)
  · refine (ev_const0 (v := (0 : Int32)) rfl am_ci_0).trans ?_
    refine (ev_istore (ls' := [.ref 96, .int x1, .int x2, .int (0 : Int32)]) rfl (Nat.le_of_ble_eq_true rfl) rfl).trans ?_
    rfl
set_option maxRecDepth 10000 in
theorem sg_141_7 (X : am_X) (I : Nat → Nat → Int32) (J : Nat → Nat → Int64) (x1 : Int32) (x2 : Int32) (x3 : Int32) : am_ev X amP_141 7 [.ref 96, .int x1, .int x2, .int x3] [] (am_sh I J) = (if (I 16 2) ≤ x3 then am_ev X amP_141 2 [.ref 96, .int x1, .int (x2 + (1 : Int32)), .int x3] [] (am_sh I J) else (if ¬ x2 = 0 then (am_do X 140 [.ref 96, .int x1, .int x3, .int (48 : Int32)] (am_sh I J)).bind (fun q => am_ev X amP_141 21 [.ref 96, .int x1, .int x2, .int x3] (q.1.toList ++ []) q.2) else (am_do X 140 [.ref 96, .int x1, .int x3, .int (1 : Int32)] (am_sh I J)).bind (fun q => am_ev X amP_141 21 [.ref 96, .int x1, .int x2, .int x3] (q.1.toList ++ []) q.2))) := by
  refine (ev_iload rfl rfl).trans ?_
  refine (ev_aload rfl rfl).trans ?_
  refine (ev_getR rfl (by decide) am_K_96 (by decide) rfl am_R_96_0).trans ?_
  refine (ev_getI rfl (by decide) am_K_16 (by decide) rfl).trans ?_
  refine (ev_icmp3 rfl).trans (am_ite (fun c1 => ?_) (fun c1 => ?_))
  · refine (ev_iincv (v := (1 : Int32)) (ls' := [.ref 96, .int x1, .int (x2 + (1 : Int32)), .int x3]) rfl am_ci_1 rfl rfl).trans ?_
    refine (ev_goto rfl).trans ?_
    rfl
  · refine (ev_aload rfl rfl).trans ?_
    refine (ev_iload rfl rfl).trans ?_
    refine (ev_iload rfl rfl).trans ?_
    refine (ev_iload rfl rfl).trans ?_
    refine (ev_if1 rfl).trans (am_ite (fun c2 => ?_) (fun c2 => ?_))
    · refine (ev_const1 (v := (48 : Int32)) rfl am_ci_48).trans ?_
      exact ev_invv (as := [.int (48 : Int32), .int x3, .int x1]) rfl (by decide) am_K_96 rfl (by simp [Value.category])
    · refine (ev_const0 (v := (1 : Int32)) rfl am_ci_1).trans ?_
      refine (ev_goto rfl).trans ?_
      exact ev_invv (as := [.int (1 : Int32), .int x3, .int x1]) rfl (by decide) am_K_96 rfl (by simp [Value.category])
set_option maxRecDepth 10000 in
theorem sg_141_21 (X : am_X) (I : Nat → Nat → Int32) (J : Nat → Nat → Int64) (x1 : Int32) (x2 : Int32) (x3 : Int32) (x4 : Int32) : am_ev X amP_141 21 [.ref 96, .int x1, .int x2, .int x3] [.int x4] (am_sh I J) = (if x4 = 0 then am_ev X amP_141 7 [.ref 96, .int x1, .int x2, .int (x3 + (1 : Int32))] [] (am_sh I J) else some (some (.int (0 : Int32)), am_sh I J)) := by
  refine (ev_if0 rfl).trans (am_ite (fun c1 => ?_) (fun c1 => ?_))
  · refine (ev_iincv (v := (1 : Int32)) (ls' := [.ref 96, .int x1, .int x2, .int (x3 + (1 : Int32))]) rfl am_ci_1 rfl rfl).trans ?_
    refine (ev_goto rfl).trans ?_
    rfl
  · refine (ev_const0 (v := (0 : Int32)) rfl am_ci_0).trans ?_
    exact ev_zret rfl (by decide)
-- 142 X10_findSaving
set_option maxRecDepth 10000 in
theorem sg_142_e0 (X : am_X) (I : Nat → Nat → Int32) (J : Nat → Nat → Int64) (x1 : Int32) : am_ev X amP_142 0 [.ref 96, .int x1, .null] [] (am_sh I J) = (am_do X 146 [.ref 96, .int (0 : Int32), .int x1] (am_sh I J)).bind (fun q => am_ev X amP_142 4 [.ref 96, .int x1, .null] (q.1.toList ++ []) q.2) := by
  refine (ev_aload rfl rfl).trans ?_
  refine (ev_const0 (v := (0 : Int32)) rfl am_ci_0).trans ?_
  refine (ev_iload rfl rfl).trans ?_
  exact ev_invv (as := [.int x1, .int (0 : Int32)]) rfl (by decide) am_K_96 rfl (by simp [Value.category])
theorem cl_142 (X : am_X) (I : Nat → Nat → Int32) (J : Nat → Nat → Int64) (x1 : Int32) : am_do X 142 [.ref 96, .int x1] (am_sh I J) = am_ev X amP_142 0 [.ref 96, .int x1, .null] [] (am_sh I J) := am_do_of rfl rfl rfl
set_option maxRecDepth 10000 in
theorem sg_142_4 (X : am_X) (I : Nat → Nat → Int32) (J : Nat → Nat → Int64) (x1 : Int32) (w2 : Value) (x3 : Int32) (hw2 : w2.category = 1) (z0 : (I 96 5) = 0 ∨ (I 96 5) = 1) : am_ev X amP_142 4 [.ref 96, .int x1, w2] [.int x3] (am_sh I J) = (if x3 = 0 then some (some (.int (I 96 5)), am_sh I J) else (am_do X 102 [.ref 16] (am_sh I J)).bind (fun q => am_ev X amP_142 10 [.ref 96, .int x1, w2] (q.1.toList ++ [.ref 89]) q.2)) := by
  refine (ev_if0 rfl).trans (am_ite (fun c1 => ?_) (fun c1 => ?_))
  · refine (ev_aload rfl rfl).trans ?_
    refine (ev_getI rfl (by decide) am_K_96 (by decide) rfl).trans ?_
    exact ev_zret rfl z0
  · refine (ev_aload rfl rfl).trans ?_
    refine (ev_getR rfl (by decide) am_K_96 (by decide) rfl am_R_96_2).trans ?_
    refine (ev_aload rfl rfl).trans ?_
    refine (ev_getR rfl (by decide) am_K_96 (by decide) rfl am_R_96_0).trans ?_
    exact ev_invv (as := []) rfl (by decide) am_K_16 rfl (by simp [Value.category])
set_option maxRecDepth 10000 in
theorem sg_142_10 (X : am_X) (I : Nat → Nat → Int32) (J : Nat → Nat → Int64) (x1 : Int32) (w2 : Value) (x3 : Int32) (hw2 : w2.category = 1) : am_ev X amP_142 10 [.ref 96, .int x1, w2] [.int x3, .ref 89] (am_sh I J) = (am_do X 15 [.ref 89, .int x3, .int (I 16 4), .int (400 : Int32)] (am_sh I J)).bind (fun q => am_ev X amP_142 15 [.ref 96, .int x1, w2] (q.1.toList ++ []) q.2) := by
  refine (ev_aload rfl rfl).trans ?_
  refine (ev_getR rfl (by decide) am_K_96 (by decide) rfl am_R_96_0).trans ?_
  refine (ev_getI rfl (by decide) am_K_16 (by decide) rfl).trans ?_
  refine (ev_const2 (v := (400 : Int32)) rfl am_ci_400).trans ?_
  exact ev_invv (as := [.int (400 : Int32), .int (I 16 4), .int x3]) rfl (by decide) am_K_89 rfl (by simp [Value.category])
set_option maxRecDepth 10000 in
theorem sg_142_15 (X : am_X) (I : Nat → Nat → Int32) (J : Nat → Nat → Int64) (x1 : Int32) (w2 : Value) (hw2 : w2.category = 1) : am_ev X amP_142 15 [.ref 96, .int x1, w2] [] (am_sh I J) = (am_do X 18 [.ref 89, .int x1, .int (400 : Int32)] (am_sh I J)).bind (fun q => am_ev X amP_142 20 [.ref 96, .int x1, w2] (q.1.toList ++ []) q.2) := by
  refine (ev_aload rfl rfl).trans ?_
  refine (ev_getR rfl (by decide) am_K_96 (by decide) rfl am_R_96_2).trans ?_
  refine (ev_iload rfl rfl).trans ?_
  refine (ev_const2 (v := (400 : Int32)) rfl am_ci_400).trans ?_
  exact ev_invv (as := [.int (400 : Int32), .int x1]) rfl (by decide) am_K_89 rfl (by simp [Value.category])
set_option maxRecDepth 10000 in
theorem sg_142_20 (X : am_X) (I : Nat → Nat → Int32) (J : Nat → Nat → Int64) (x1 : Int32) (w2 : Value) (x3 : Int32) (hw2 : w2.category = 1) : am_ev X amP_142 20 [.ref 96, .int x1, w2] [.int x3] (am_sh I J) = (if x3 = (-1 : Int32) then (am_do X 132 [.ref 96, .int x1, .int (400 : Int32)] (am_sh I J)).bind (fun q => am_ev X amP_142 30 [.ref 96, .int x1, .int (0 : Int32)] (q.1.toList ++ []) q.2) else (am_do X 132 [.ref 96, .int x1, .int (400 : Int32)] (am_sh I J)).bind (fun q => am_ev X amP_142 30 [.ref 96, .int x1, .int (1 : Int32)] (q.1.toList ++ []) q.2)) := by
  refine (ev_const0 (v := (-1 : Int32)) rfl am_ci_m1).trans ?_
  refine (ev_icmp0 rfl).trans (am_ite (fun c1 => ?_) (fun c1 => ?_))
  · refine (ev_const0 (v := (0 : Int32)) rfl am_ci_0).trans ?_
    refine (ev_istore (ls' := [.ref 96, .int x1, .int (0 : Int32)]) rfl (Nat.le_of_ble_eq_true rfl) rfl).trans ?_
    refine (ev_aload rfl rfl).trans ?_
    refine (ev_iload rfl rfl).trans ?_
    refine (ev_const2 (v := (400 : Int32)) rfl am_ci_400).trans ?_
    exact ev_invv (as := [.int (400 : Int32), .int x1]) rfl (by decide) am_K_96 rfl (by simp [Value.category])
  · refine (ev_const0 (v := (1 : Int32)) rfl am_ci_1).trans ?_
    refine (ev_goto rfl).trans ?_
    refine (ev_istore (ls' := [.ref 96, .int x1, .int (1 : Int32)]) rfl (Nat.le_of_ble_eq_true rfl) rfl).trans ?_
    refine (ev_aload rfl rfl).trans ?_
    refine (ev_iload rfl rfl).trans ?_
    refine (ev_const2 (v := (400 : Int32)) rfl am_ci_400).trans ?_
    exact ev_invv (as := [.int (400 : Int32), .int x1]) rfl (by decide) am_K_96 rfl (by simp [Value.category])
set_option maxRecDepth 10000 in
theorem sg_142_30 (X : am_X) (I : Nat → Nat → Int32) (J : Nat → Nat → Int64) (x1 : Int32) (x2 : Int32) (z0 : ((am_up I 96 5 (0 : Int32)) 96 5) = 0 ∨ ((am_up I 96 5 (0 : Int32)) 96 5) = 1) : am_ev X amP_142 30 [.ref 96, .int x1, .int x2] [] (am_sh I J) = (if x2 = 0 then some (some (.int ((am_up I 96 5 (0 : Int32)) 96 5)), am_sh (am_up I 96 5 (0 : Int32)) J) else (am_do X 148 [.ref 96, .int ((1 : Int32) <<< (x1 &&& 31)), .int (0 : Int32)] (am_sh I J)).bind (fun q => am_ev X amP_142 39 [.ref 96, .int x1, .int x2] (q.1.toList ++ [.ref 96]) q.2)) := by
  refine (ev_aload rfl rfl).trans ?_
  refine (ev_iload rfl rfl).trans ?_
  refine (ev_if0 rfl).trans (am_ite (fun c1 => ?_) (fun c1 => ?_))
  · refine (ev_const0 (v := (0 : Int32)) rfl am_ci_0).trans ?_
    refine (ev_putZ rfl (by decide) am_K_96 (by decide) rfl (by decide)).trans ?_
    refine (ev_aload rfl rfl).trans ?_
    refine (ev_getI rfl (by decide) am_K_96 (by decide) rfl).trans ?_
    exact ev_zret rfl z0
  · refine (ev_aload rfl rfl).trans ?_
    refine (ev_const0 (v := (1 : Int32)) rfl am_ci_1).trans ?_
    refine (ev_iload rfl rfl).trans ?_
    refine (ev_ishl rfl).trans ?_
    refine (ev_const0 (v := (0 : Int32)) rfl am_ci_0).trans ?_
    exact ev_invv (as := [.int (0 : Int32), .int ((1 : Int32) <<< (x1 &&& 31))]) rfl (by decide) am_K_96 rfl (by simp [Value.category])
set_option maxRecDepth 10000 in
theorem sg_142_39 (X : am_X) (I : Nat → Nat → Int32) (J : Nat → Nat → Int64) (x1 : Int32) (x2 : Int32) (x3 : Int32) (z0 : ((am_up I 96 5 (0 : Int32)) 96 5) = 0 ∨ ((am_up I 96 5 (0 : Int32)) 96 5) = 1) (z1 : ((am_up I 96 5 (1 : Int32)) 96 5) = 0 ∨ ((am_up I 96 5 (1 : Int32)) 96 5) = 1) : am_ev X amP_142 39 [.ref 96, .int x1, .int x2] [.int x3, .ref 96] (am_sh I J) = (if x3 = 0 then some (some (.int ((am_up I 96 5 (0 : Int32)) 96 5)), am_sh (am_up I 96 5 (0 : Int32)) J) else some (some (.int ((am_up I 96 5 (1 : Int32)) 96 5)), am_sh (am_up I 96 5 (1 : Int32)) J)) := by
  refine (ev_if0 rfl).trans (am_ite (fun c1 => ?_) (fun c1 => ?_))
  · refine (ev_const0 (v := (0 : Int32)) rfl am_ci_0).trans ?_
    refine (ev_putZ rfl (by decide) am_K_96 (by decide) rfl (by decide)).trans ?_
    refine (ev_aload rfl rfl).trans ?_
    refine (ev_getI rfl (by decide) am_K_96 (by decide) rfl).trans ?_
    exact ev_zret rfl z0
  · refine (ev_const0 (v := (1 : Int32)) rfl am_ci_1).trans ?_
    refine (ev_goto rfl).trans ?_
    refine (ev_putZ rfl (by decide) am_K_96 (by decide) rfl (by decide)).trans ?_
    refine (ev_aload rfl rfl).trans ?_
    refine (ev_getI rfl (by decide) am_K_96 (by decide) rfl).trans ?_
    exact ev_zret rfl z1
-- 143 X10_findClearing
set_option maxRecDepth 10000 in
theorem sg_143_e0 (X : am_X) (I : Nat → Nat → Int32) (J : Nat → Nat → Int64) (x1 : Int32) : am_ev X amP_143 0 [.ref 96, .int x1] [] (am_sh I J) = (am_do X 146 [.ref 96, .int (1 : Int32), .int x1] (am_sh I J)).bind (fun q => am_ev X amP_143 4 [.ref 96, .int x1] (q.1.toList ++ []) q.2) := by
  refine (ev_aload rfl rfl).trans ?_
  refine (ev_const0 (v := (1 : Int32)) rfl am_ci_1).trans ?_
  refine (ev_iload rfl rfl).trans ?_
  exact ev_invv (as := [.int x1, .int (1 : Int32)]) rfl (by decide) am_K_96 rfl (by simp [Value.category])
theorem cl_143 (X : am_X) (I : Nat → Nat → Int32) (J : Nat → Nat → Int64) (x1 : Int32) : am_do X 143 [.ref 96, .int x1] (am_sh I J) = am_ev X amP_143 0 [.ref 96, .int x1] [] (am_sh I J) := am_do_of rfl rfl rfl
set_option maxRecDepth 10000 in
theorem sg_143_4 (X : am_X) (I : Nat → Nat → Int32) (J : Nat → Nat → Int64) (x1 : Int32) (x2 : Int32) (z0 : (I 96 5) = 0 ∨ (I 96 5) = 1) : am_ev X amP_143 4 [.ref 96, .int x1] [.int x2] (am_sh I J) = (if x2 = 0 then some (some (.int (I 96 5)), am_sh I J) else (am_do X 58 [.ref 83, .int x1] (am_sh I J)).bind (fun q => am_ev X amP_143 10 [.ref 96, .int x1] (q.1.toList ++ [.ref 96]) q.2)) := by
  refine (ev_if0 rfl).trans (am_ite (fun c1 => ?_) (fun c1 => ?_))
  · refine (ev_aload rfl rfl).trans ?_
    refine (ev_getI rfl (by decide) am_K_96 (by decide) rfl).trans ?_
    exact ev_zret rfl z0
  · refine (ev_aload rfl rfl).trans ?_
    refine (ev_aload rfl rfl).trans ?_
    refine (ev_getR rfl (by decide) am_K_96 (by decide) rfl am_R_96_1).trans ?_
    refine (ev_iload rfl rfl).trans ?_
    exact ev_invv (as := [.int x1]) rfl (by decide) am_K_83 rfl (by simp [Value.category])
set_option maxRecDepth 10000 in
theorem sg_143_10 (X : am_X) (I : Nat → Nat → Int32) (J : Nat → Nat → Int64) (x1 : Int32) (x2 : Int32) (z0 : ((am_up I 96 5 (0 : Int32)) 96 5) = 0 ∨ ((am_up I 96 5 (0 : Int32)) 96 5) = 1) : am_ev X amP_143 10 [.ref 96, .int x1] [.int x2, .ref 96] (am_sh I J) = (if x2 = 0 then some (some (.int ((am_up I 96 5 (0 : Int32)) 96 5)), am_sh (am_up I 96 5 (0 : Int32)) J) else (am_do X 148 [.ref 96, .int ((1 : Int32) <<< (x1 &&& 31)), .int (1 : Int32)] (am_sh I J)).bind (fun q => am_ev X amP_143 17 [.ref 96, .int x1] (q.1.toList ++ [.ref 96]) q.2)) := by
  refine (ev_if0 rfl).trans (am_ite (fun c1 => ?_) (fun c1 => ?_))
  · refine (ev_const0 (v := (0 : Int32)) rfl am_ci_0).trans ?_
    refine (ev_putZ rfl (by decide) am_K_96 (by decide) rfl (by decide)).trans ?_
    refine (ev_aload rfl rfl).trans ?_
    refine (ev_getI rfl (by decide) am_K_96 (by decide) rfl).trans ?_
    exact ev_zret rfl z0
  · refine (ev_aload rfl rfl).trans ?_
    refine (ev_const0 (v := (1 : Int32)) rfl am_ci_1).trans ?_
    refine (ev_iload rfl rfl).trans ?_
    refine (ev_ishl rfl).trans ?_
    refine (ev_const0 (v := (1 : Int32)) rfl am_ci_1).trans ?_
    exact ev_invv (as := [.int (1 : Int32), .int ((1 : Int32) <<< (x1 &&& 31))]) rfl (by decide) am_K_96 rfl (by simp [Value.category])
set_option maxRecDepth 10000 in
theorem sg_143_17 (X : am_X) (I : Nat → Nat → Int32) (J : Nat → Nat → Int64) (x1 : Int32) (x2 : Int32) (z0 : ((am_up I 96 5 (0 : Int32)) 96 5) = 0 ∨ ((am_up I 96 5 (0 : Int32)) 96 5) = 1) (z1 : ((am_up I 96 5 (1 : Int32)) 96 5) = 0 ∨ ((am_up I 96 5 (1 : Int32)) 96 5) = 1) : am_ev X amP_143 17 [.ref 96, .int x1] [.int x2, .ref 96] (am_sh I J) = (if x2 = 0 then some (some (.int ((am_up I 96 5 (0 : Int32)) 96 5)), am_sh (am_up I 96 5 (0 : Int32)) J) else some (some (.int ((am_up I 96 5 (1 : Int32)) 96 5)), am_sh (am_up I 96 5 (1 : Int32)) J)) := by
  refine (ev_if0 rfl).trans (am_ite (fun c1 => ?_) (fun c1 => ?_))
  · refine (ev_const0 (v := (0 : Int32)) rfl am_ci_0).trans ?_
    refine (ev_putZ rfl (by decide) am_K_96 (by decide) rfl (by decide)).trans ?_
    refine (ev_aload rfl rfl).trans ?_
    refine (ev_getI rfl (by decide) am_K_96 (by decide) rfl).trans ?_
    exact ev_zret rfl z0
  · refine (ev_const0 (v := (1 : Int32)) rfl am_ci_1).trans ?_
    refine (ev_goto rfl).trans ?_
    refine (ev_putZ rfl (by decide) am_K_96 (by decide) rfl (by decide)).trans ?_
    refine (ev_aload rfl rfl).trans ?_
    refine (ev_getI rfl (by decide) am_K_96 (by decide) rfl).trans ?_
    exact ev_zret rfl z1
-- 144 X10_findClearingAll
set_option maxRecDepth 10000 in
theorem sg_144_e0 (X : am_X) (I : Nat → Nat → Int32) (J : Nat → Nat → Int64) : am_ev X amP_144 0 [.ref 96] [] (am_sh I J) = (am_do X 146 [.ref 96, .int (2 : Int32), .int (-1 : Int32)] (am_sh I J)).bind (fun q => am_ev X amP_144 4 [.ref 96] (q.1.toList ++ []) q.2) := by
  refine (ev_aload rfl rfl).trans ?_
  refine (ev_const0 (v := (2 : Int32)) rfl am_ci_2).trans ?_
  refine (ev_const0 (v := (-1 : Int32)) rfl am_ci_m1).trans ?_
  exact ev_invv (as := [.int (-1 : Int32), .int (2 : Int32)]) rfl (by decide) am_K_96 rfl (by simp [Value.category])
theorem cl_144 (X : am_X) (I : Nat → Nat → Int32) (J : Nat → Nat → Int64) : am_do X 144 [.ref 96] (am_sh I J) = am_ev X amP_144 0 [.ref 96] [] (am_sh I J) := am_do_of rfl rfl rfl
set_option maxRecDepth 10000 in
theorem sg_144_4 (X : am_X) (I : Nat → Nat → Int32) (J : Nat → Nat → Int64) (x1 : Int32) (z0 : (I 96 5) = 0 ∨ (I 96 5) = 1) : am_ev X amP_144 4 [.ref 96] [.int x1] (am_sh I J) = (if x1 = 0 then some (some (.int (I 96 5)), am_sh I J) else (am_do X 147 [.ref 96] (am_sh I J)).bind (fun q => am_ev X amP_144 9 [.ref 96] (q.1.toList ++ [.ref 96, .ref 96]) q.2)) := by
  refine (ev_if0 rfl).trans (am_ite (fun c1 => ?_) (fun c1 => ?_))
  · refine (ev_aload rfl rfl).trans ?_
    refine (ev_getI rfl (by decide) am_K_96 (by decide) rfl).trans ?_
    exact ev_zret rfl z0
  · refine (ev_aload rfl rfl).trans ?_
    refine (ev_aload rfl rfl).trans ?_
    refine (ev_aload rfl rfl).trans ?_
    exact ev_invv (as := []) rfl (by decide) am_K_96 rfl (by simp [Value.category])
set_option maxRecDepth 10000 in
theorem sg_144_9 (X : am_X) (I : Nat → Nat → Int32) (J : Nat → Nat → Int64) (x1 : Int32) : am_ev X amP_144 9 [.ref 96] [.int x1, .ref 96, .ref 96] (am_sh I J) = (am_do X 148 [.ref 96, .int x1, .int (1 : Int32)] (am_sh I J)).bind (fun q => am_ev X amP_144 11 [.ref 96] (q.1.toList ++ [.ref 96]) q.2) := by
  refine (ev_const0 (v := (1 : Int32)) rfl am_ci_1).trans ?_
  exact ev_invv (as := [.int (1 : Int32), .int x1]) rfl (by decide) am_K_96 rfl (by simp [Value.category])
set_option maxRecDepth 10000 in
theorem sg_144_11 (X : am_X) (I : Nat → Nat → Int32) (J : Nat → Nat → Int64) (x1 : Int32) (z0 : x1 = 0 ∨ x1 = 1) (z1 : ((am_up I 96 5 x1) 96 5) = 0 ∨ ((am_up I 96 5 x1) 96 5) = 1) : am_ev X amP_144 11 [.ref 96] [.int x1, .ref 96] (am_sh I J) = some (some (.int ((am_up I 96 5 x1) 96 5)), am_sh (am_up I 96 5 x1) J) := by
  refine (ev_putZ rfl (by decide) am_K_96 (by decide) rfl z0).trans ?_
  refine (ev_aload rfl rfl).trans ?_
  refine (ev_getI rfl (by decide) am_K_96 (by decide) rfl).trans ?_
  exact ev_zret rfl z1
-- 145 X10_findClearingTwo
set_option maxRecDepth 10000 in
theorem sg_145_e0 (X : am_X) (I : Nat → Nat → Int32) (J : Nat → Nat → Int64) (x1 : Int32) : am_ev X amP_145 0 [.ref 96, .int x1] [] (am_sh I J) = (am_do X 146 [.ref 96, .int (3 : Int32), .int x1] (am_sh I J)).bind (fun q => am_ev X amP_145 4 [.ref 96, .int x1] (q.1.toList ++ []) q.2) := by
  refine (ev_aload rfl rfl).trans ?_
  refine (ev_const0 (v := (3 : Int32)) rfl am_ci_3).trans ?_
  refine (ev_iload rfl rfl).trans ?_
  exact ev_invv (as := [.int x1, .int (3 : Int32)]) rfl (by decide) am_K_96 rfl (by simp [Value.category])
theorem cl_145 (X : am_X) (I : Nat → Nat → Int32) (J : Nat → Nat → Int64) (x1 : Int32) : am_do X 145 [.ref 96, .int x1] (am_sh I J) = am_ev X amP_145 0 [.ref 96, .int x1] [] (am_sh I J) := am_do_of rfl rfl rfl
set_option maxRecDepth 10000 in
theorem sg_145_4 (X : am_X) (I : Nat → Nat → Int32) (J : Nat → Nat → Int64) (x1 : Int32) (x2 : Int32) (z0 : (I 96 5) = 0 ∨ (I 96 5) = 1) : am_ev X amP_145 4 [.ref 96, .int x1] [.int x2] (am_sh I J) = (if x2 = 0 then some (some (.int (I 96 5)), am_sh I J) else (am_do X 58 [.ref 83, .int x1] (am_sh I J)).bind (fun q => am_ev X amP_145 10 [.ref 96, .int x1] (q.1.toList ++ [.ref 96]) q.2)) := by
  refine (ev_if0 rfl).trans (am_ite (fun c1 => ?_) (fun c1 => ?_))
  · refine (ev_aload rfl rfl).trans ?_
    refine (ev_getI rfl (by decide) am_K_96 (by decide) rfl).trans ?_
    exact ev_zret rfl z0
  · refine (ev_aload rfl rfl).trans ?_
    refine (ev_aload rfl rfl).trans ?_
    refine (ev_getR rfl (by decide) am_K_96 (by decide) rfl am_R_96_1).trans ?_
    refine (ev_iload rfl rfl).trans ?_
    exact ev_invv (as := [.int x1]) rfl (by decide) am_K_83 rfl (by simp [Value.category])
set_option maxRecDepth 10000 in
theorem sg_145_10 (X : am_X) (I : Nat → Nat → Int32) (J : Nat → Nat → Int64) (x1 : Int32) (x2 : Int32) (z0 : ((am_up I 96 5 (0 : Int32)) 96 5) = 0 ∨ ((am_up I 96 5 (0 : Int32)) 96 5) = 1) : am_ev X amP_145 10 [.ref 96, .int x1] [.int x2, .ref 96] (am_sh I J) = (if x2 = 0 then some (some (.int ((am_up I 96 5 (0 : Int32)) 96 5)), am_sh (am_up I 96 5 (0 : Int32)) J) else (am_do X 151 [.ref 96, .int x1] (am_sh I J)).bind (fun q => am_ev X amP_145 14 [.ref 96, .int x1] (q.1.toList ++ [.ref 96]) q.2)) := by
  refine (ev_if0 rfl).trans (am_ite (fun c1 => ?_) (fun c1 => ?_))
  · refine (ev_const0 (v := (0 : Int32)) rfl am_ci_0).trans ?_
    refine (ev_putZ rfl (by decide) am_K_96 (by decide) rfl (by decide)).trans ?_
    refine (ev_aload rfl rfl).trans ?_
    refine (ev_getI rfl (by decide) am_K_96 (by decide) rfl).trans ?_
    exact ev_zret rfl z0
  · refine (ev_aload rfl rfl).trans ?_
    refine (ev_iload rfl rfl).trans ?_
    exact ev_invv (as := [.int x1]) rfl (by decide) am_K_96 rfl (by simp [Value.category])
set_option maxRecDepth 10000 in
theorem sg_145_14 (X : am_X) (I : Nat → Nat → Int32) (J : Nat → Nat → Int64) (x1 : Int32) (x2 : Int32) (z0 : ((am_up I 96 5 (0 : Int32)) 96 5) = 0 ∨ ((am_up I 96 5 (0 : Int32)) 96 5) = 1) (z1 : ((am_up I 96 5 (1 : Int32)) 96 5) = 0 ∨ ((am_up I 96 5 (1 : Int32)) 96 5) = 1) : am_ev X amP_145 14 [.ref 96, .int x1] [.int x2, .ref 96] (am_sh I J) = (if x2 = 0 then some (some (.int ((am_up I 96 5 (0 : Int32)) 96 5)), am_sh (am_up I 96 5 (0 : Int32)) J) else some (some (.int ((am_up I 96 5 (1 : Int32)) 96 5)), am_sh (am_up I 96 5 (1 : Int32)) J)) := by
  refine (ev_if0 rfl).trans (am_ite (fun c1 => ?_) (fun c1 => ?_))
  · refine (ev_const0 (v := (0 : Int32)) rfl am_ci_0).trans ?_
    refine (ev_putZ rfl (by decide) am_K_96 (by decide) rfl (by decide)).trans ?_
    refine (ev_aload rfl rfl).trans ?_
    refine (ev_getI rfl (by decide) am_K_96 (by decide) rfl).trans ?_
    exact ev_zret rfl z0
  · refine (ev_const0 (v := (1 : Int32)) rfl am_ci_1).trans ?_
    refine (ev_goto rfl).trans ?_
    refine (ev_putZ rfl (by decide) am_K_96 (by decide) rfl (by decide)).trans ?_
    refine (ev_aload rfl rfl).trans ?_
    refine (ev_getI rfl (by decide) am_K_96 (by decide) rfl).trans ?_
    exact ev_zret rfl z1
-- 146 X10_isNew
set_option maxRecDepth 10000 in
theorem sg_146_e0 (X : am_X) (I : Nat → Nat → Int32) (J : Nat → Nat → Int64) (x1 : Int32) (x2 : Int32) : am_ev X amP_146 0 [.ref 96, .int x1, .int x2, .null] [] (am_sh I J) = (if ¬ x1 = (I 96 6) then some (some (.int (1 : Int32)), am_sh (am_up (am_up (am_up I 96 6 x1) 96 7 x2) 96 8 ((am_up (am_up I 96 6 x1) 96 7 x2) 16 8)) J) else (if ¬ x2 = (I 96 7) then some (some (.int (1 : Int32)), am_sh (am_up (am_up (am_up I 96 6 x1) 96 7 x2) 96 8 ((am_up (am_up I 96 6 x1) 96 7 x2) 16 8)) J) else (if ¬ (I 16 8) = (I 96 8) then some (some (.int (1 : Int32)), am_sh (am_up (am_up (am_up I 96 6 x1) 96 7 x2) 96 8 ((am_up (am_up I 96 6 x1) 96 7 x2) 16 8)) J) else some (some (.int (0 : Int32)), am_sh (am_up (am_up (am_up I 96 6 x1) 96 7 x2) 96 8 ((am_up (am_up I 96 6 x1) 96 7 x2) 16 8)) J)))) := by
  refine (ev_iload rfl rfl).trans ?_
  refine (ev_aload rfl rfl).trans ?_
  refine (ev_getI rfl (by decide) am_K_96 (by decide) rfl).trans ?_
  refine (ev_icmp1 rfl).trans (am_ite (fun c1 => ?_) (fun c1 => ?_))
  · refine (ev_const0 (v := (0 : Int32)) rfl am_ci_0).trans ?_
    refine (ev_istore (ls' := [.ref 96, .int x1, .int x2, .int (0 : Int32)]) rfl (Nat.le_of_ble_eq_true rfl) rfl).trans ?_
    refine (ev_aload rfl rfl).trans ?_
    refine (ev_iload rfl rfl).trans ?_
    refine (ev_putI rfl (by decide) am_K_96 (by decide) rfl).trans ?_
    refine (ev_aload rfl rfl).trans ?_
    refine (ev_iload rfl rfl).trans ?_
    refine (ev_putI rfl (by decide) am_K_96 (by decide) rfl).trans ?_
    refine (ev_aload rfl rfl).trans ?_
    refine (ev_aload rfl rfl).trans ?_
    refine (ev_getR rfl (by decide) am_K_96 (by decide) rfl am_R_96_0).trans ?_
    refine (ev_getI rfl (by decide) am_K_16 (by decide) rfl).trans ?_
    refine (ev_putI rfl (by decide) am_K_96 (by decide) rfl).trans ?_
    refine (ev_iload rfl rfl).trans ?_
    refine ((ev_if1 rfl).trans (if_neg (by decide))).trans ?_
    refine (ev_const0 (v := (1 : Int32)) rfl am_ci_1).trans ?_
    refine (ev_goto rfl).trans ?_
    exact ev_zret rfl (by decide)
  · refine (ev_iload rfl rfl).trans ?_
    refine (ev_aload rfl rfl).trans ?_
    refine (ev_getI rfl (by decide) am_K_96 (by decide) rfl).trans ?_
    refine (ev_icmp1 rfl).trans (am_ite (fun c2 => ?_) (fun c2 => ?_))
    · refine (ev_const0 (v := (0 : Int32)) rfl am_ci_0).trans ?_
      refine (ev_istore (ls' := [.ref 96, .int x1, .int x2, .int (0 : Int32)]) rfl (Nat.le_of_ble_eq_true rfl) rfl).trans ?_
      refine (ev_aload rfl rfl).trans ?_
      refine (ev_iload rfl rfl).trans ?_
      refine (ev_putI rfl (by decide) am_K_96 (by decide) rfl).trans ?_
      refine (ev_aload rfl rfl).trans ?_
      refine (ev_iload rfl rfl).trans ?_
      refine (ev_putI rfl (by decide) am_K_96 (by decide) rfl).trans ?_
      refine (ev_aload rfl rfl).trans ?_
      refine (ev_aload rfl rfl).trans ?_
      refine (ev_getR rfl (by decide) am_K_96 (by decide) rfl am_R_96_0).trans ?_
      refine (ev_getI rfl (by decide) am_K_16 (by decide) rfl).trans ?_
      refine (ev_putI rfl (by decide) am_K_96 (by decide) rfl).trans ?_
      refine (ev_iload rfl rfl).trans ?_
      refine ((ev_if1 rfl).trans (if_neg (by decide))).trans ?_
      refine (ev_const0 (v := (1 : Int32)) rfl am_ci_1).trans ?_
      refine (ev_goto rfl).trans ?_
      exact ev_zret rfl (by decide)
    · refine (ev_aload rfl rfl).trans ?_
      refine (ev_getR rfl (by decide) am_K_96 (by decide) rfl am_R_96_0).trans ?_
      refine (ev_getI rfl (by decide) am_K_16 (by decide) rfl).trans ?_
      refine (ev_aload rfl rfl).trans ?_
      refine (ev_getI rfl (by decide) am_K_96 (by decide) rfl).trans ?_
      refine (ev_icmp1 rfl).trans (am_ite (fun c3 => ?_) (fun c3 => ?_))
      · refine (ev_const0 (v := (0 : Int32)) rfl am_ci_0).trans ?_
        refine (ev_istore (ls' := [.ref 96, .int x1, .int x2, .int (0 : Int32)]) rfl (Nat.le_of_ble_eq_true rfl) rfl).trans ?_
        refine (ev_aload rfl rfl).trans ?_
        refine (ev_iload rfl rfl).trans ?_
        refine (ev_putI rfl (by decide) am_K_96 (by decide) rfl).trans ?_
        refine (ev_aload rfl rfl).trans ?_
        refine (ev_iload rfl rfl).trans ?_
        refine (ev_putI rfl (by decide) am_K_96 (by decide) rfl).trans ?_
        refine (ev_aload rfl rfl).trans ?_
        refine (ev_aload rfl rfl).trans ?_
        refine (ev_getR rfl (by decide) am_K_96 (by decide) rfl am_R_96_0).trans ?_
        refine (ev_getI rfl (by decide) am_K_16 (by decide) rfl).trans ?_
        refine (ev_putI rfl (by decide) am_K_96 (by decide) rfl).trans ?_
        refine (ev_iload rfl rfl).trans ?_
        refine ((ev_if1 rfl).trans (if_neg (by decide))).trans ?_
        refine (ev_const0 (v := (1 : Int32)) rfl am_ci_1).trans ?_
        refine (ev_goto rfl).trans ?_
        exact ev_zret rfl (by decide)
      · refine (ev_const0 (v := (1 : Int32)) rfl am_ci_1).trans ?_
        refine (ev_goto rfl).trans ?_
        refine (ev_istore (ls' := [.ref 96, .int x1, .int x2, .int (1 : Int32)]) rfl (Nat.le_of_ble_eq_true rfl) rfl).trans ?_
        refine (ev_aload rfl rfl).trans ?_
        refine (ev_iload rfl rfl).trans ?_
        refine (ev_putI rfl (by decide) am_K_96 (by decide) rfl).trans ?_
        refine (ev_aload rfl rfl).trans ?_
        refine (ev_iload rfl rfl).trans ?_
        refine (ev_putI rfl (by decide) am_K_96 (by decide) rfl).trans ?_
        refine (ev_aload rfl rfl).trans ?_
        refine (ev_aload rfl rfl).trans ?_
        refine (ev_getR rfl (by decide) am_K_96 (by decide) rfl am_R_96_0).trans ?_
        refine (ev_getI rfl (by decide) am_K_16 (by decide) rfl).trans ?_
        refine (ev_putI rfl (by decide) am_K_96 (by decide) rfl).trans ?_
        refine (ev_iload rfl rfl).trans ?_
        refine ((ev_if1 rfl).trans (if_pos (by decide))).trans ?_
        refine (ev_const0 (v := (0 : Int32)) rfl am_ci_0).trans ?_
        exact ev_zret rfl (by decide)
theorem cl_146 (X : am_X) (I : Nat → Nat → Int32) (J : Nat → Nat → Int64) (x1 : Int32) (x2 : Int32) : am_do X 146 [.ref 96, .int x1, .int x2] (am_sh I J) = am_ev X amP_146 0 [.ref 96, .int x1, .int x2, .null] [] (am_sh I J) := am_do_of rfl rfl rfl
-- 147 X10_bodiesOfEveryNearPair
set_option maxRecDepth 10000 in
theorem sg_147_e0 (X : am_X) (I : Nat → Nat → Int32) (J : Nat → Nat → Int64) : am_ev X amP_147 0 [.ref 96, .null, .null, .null] [] (am_sh I J) = am_ev X amP_147 4 [.ref 96, .int (0 : Int32), .int (0 : Int32), .null] [] (am_sh I J) := by
  refine (ev_const0 (v := (0 : Int32)) rfl am_ci_0).trans ?_
  refine (ev_istore (ls' := [.ref 96, .int (0 : Int32), .null, .null]) rfl (Nat.le_of_ble_eq_true rfl) rfl).trans ?_
  refine (ev_const0 (v := (0 : Int32)) rfl am_ci_0).trans ?_
  refine (ev_istore (ls' := [.ref 96, .int (0 : Int32), .int (0 : Int32), .null]) rfl (Nat.le_of_ble_eq_true rfl) rfl).trans ?_
  rfl
theorem cl_147 (X : am_X) (I : Nat → Nat → Int32) (J : Nat → Nat → Int64) : am_do X 147 [.ref 96] (am_sh I J) = am_ev X amP_147 0 [.ref 96, .null, .null, .null] [] (am_sh I J) := am_do_of rfl rfl rfl
set_option maxRecDepth 10000 in
theorem sg_147_4 (X : am_X) (I : Nat → Nat → Int32) (J : Nat → Nat → Int64) (x1 : Int32) (x2 : Int32) (w3 : Value) (hw3 : w3.category = 1) : am_ev X amP_147 4 [.ref 96, .int x1, .int x2, w3] [] (am_sh I J) = (if (I 16 2) ≤ x2 then am_ev X amP_147 30 [.ref 96, .int x1, .int (0 : Int32), .int (0 : Int32)] [] (am_sh I J) else (am_do X 101 [.ref 16, .int x2] (am_sh I J)).bind (fun q => am_ev X amP_147 14 [.ref 96, .int x1, .int x2, w3] (q.1.toList ++ [.int x1]) q.2)) := by
  refine (ev_iload rfl rfl).trans ?_
  refine (ev_aload rfl rfl).trans ?_
  refine (ev_getR rfl (by decide) am_K_96 (by decide) rfl am_R_96_0).trans ?_
  refine (ev_getI rfl (by decide) am_K_16 (by decide) rfl).trans ?_
  refine (ev_icmp3 rfl).trans (am_ite (fun c1 => ?_) (fun c1 => ?_))
  · refine (ev_const0 (v := (0 : Int32)) rfl am_ci_0).trans ?_
    refine (ev_istore (ls' := [.ref 96, .int x1, .int (0 : Int32), w3]) rfl (Nat.le_of_ble_eq_true rfl) rfl).trans ?_
    refine (ev_const0 (v := (0 : Int32)) rfl am_ci_0).trans ?_
    refine (ev_istore (ls' := [.ref 96, .int x1, .int (0 : Int32), .int (0 : Int32)]) rfl (Nat.le_of_ble_eq_true rfl) rfl).trans ?_
    rfl
  · refine (ev_iload rfl rfl).trans ?_
    refine (ev_aload rfl rfl).trans ?_
    refine (ev_getR rfl (by decide) am_K_96 (by decide) rfl am_R_96_0).trans ?_
    refine (ev_iload rfl rfl).trans ?_
    exact ev_invv (as := [.int x2]) rfl (by decide) am_K_16 rfl (by simp [Value.category])
set_option maxRecDepth 10000 in
theorem sg_147_14 (X : am_X) (I : Nat → Nat → Int32) (J : Nat → Nat → Int64) (x1 : Int32) (x2 : Int32) (w3 : Value) (x4 : Int32) (x5 : Int32) (hw3 : w3.category = 1) : am_ev X amP_147 14 [.ref 96, .int x1, .int x2, w3] [.int x5, .int x4] (am_sh I J) = (if x5 = 0 then am_ev X amP_147 4 [.ref 96, .int (x4 + (0 : Int32)), .int (x2 + (1 : Int32)), w3] [] (am_sh I J) else (am_do X 58 [.ref 83, .int x2] (am_sh I J)).bind (fun q => am_ev X amP_147 19 [.ref 96, .int x1, .int x2, w3] (q.1.toList ++ [.int x4]) q.2)) := by
  refine (ev_if0 rfl).trans (am_ite (fun c1 => ?_) (fun c1 => ?_))
  · refine (ev_const0 (v := (0 : Int32)) rfl am_ci_0).trans ?_
    refine (ev_iadd rfl).trans ?_
    refine (ev_istore (ls' := [.ref 96, .int (x4 + (0 : Int32)), .int x2, w3]) rfl (Nat.le_of_ble_eq_true rfl) rfl).trans ?_
    refine (ev_iincv (v := (1 : Int32)) (ls' := [.ref 96, .int (x4 + (0 : Int32)), .int (x2 + (1 : Int32)), w3]) rfl am_ci_1 rfl rfl).trans ?_
    refine (ev_goto rfl).trans ?_
    rfl
  · refine (ev_aload rfl rfl).trans ?_
    refine (ev_getR rfl (by decide) am_K_96 (by decide) rfl am_R_96_1).trans ?_
    refine (ev_iload rfl rfl).trans ?_
    exact ev_invv (as := [.int x2]) rfl (by decide) am_K_83 rfl (by simp [Value.category])
set_option maxRecDepth 10000 in
theorem sg_147_19 (X : am_X) (I : Nat → Nat → Int32) (J : Nat → Nat → Int64) (x1 : Int32) (x2 : Int32) (w3 : Value) (x4 : Int32) (x5 : Int32) (hw3 : w3.category = 1) : am_ev X amP_147 19 [.ref 96, .int x1, .int x2, w3] [.int x5, .int x4] (am_sh I J) = (am_do X 348 [.int x5] (am_sh I J)).bind (fun q => am_ev X amP_147 20 [.ref 96, .int x1, .int x2, w3] (q.1.toList ++ [.int x4]) q.2) := by
  exact ev_invs (as := [.int x5]) rfl rfl (by simp [Value.category])
set_option maxRecDepth 10000 in
theorem sg_147_20 (X : am_X) (I : Nat → Nat → Int32) (J : Nat → Nat → Int64) (x1 : Int32) (x2 : Int32) (w3 : Value) (x4 : Int32) (x5 : Int32) (hw3 : w3.category = 1) : am_ev X amP_147 20 [.ref 96, .int x1, .int x2, w3] [.int x5, .int x4] (am_sh I J) = am_ev X amP_147 4 [.ref 96, .int (x4 + x5), .int (x2 + (1 : Int32)), w3] [] (am_sh I J) := by
  refine (ev_goto rfl).trans ?_
  refine (ev_iadd rfl).trans ?_
  refine (ev_istore (ls' := [.ref 96, .int (x4 + x5), .int x2, w3]) rfl (Nat.le_of_ble_eq_true rfl) rfl).trans ?_
  refine (ev_iincv (v := (1 : Int32)) (ls' := [.ref 96, .int (x4 + x5), .int (x2 + (1 : Int32)), w3]) rfl am_ci_1 rfl rfl).trans ?_
  refine (ev_goto rfl).trans ?_
  rfl
set_option maxRecDepth 10000 in
theorem sg_147_30 (X : am_X) (I : Nat → Nat → Int32) (J : Nat → Nat → Int64) (x1 : Int32) (x2 : Int32) (x3 : Int32) : am_ev X amP_147 30 [.ref 96, .int x1, .int x2, .int x3] [] (am_sh I J) = (if (I 16 2) ≤ x3 then some (some (.int x2), am_sh I J) else (if x1 ≤ 0 then some (some (.int x2), am_sh I J) else (am_do X 101 [.ref 16, .int x3] (am_sh I J)).bind (fun q => am_ev X amP_147 41 [.ref 96, .int x1, .int x2, .int x3] (q.1.toList ++ []) q.2))) := by
  refine (ev_iload rfl rfl).trans ?_
  refine (ev_aload rfl rfl).trans ?_
  refine (ev_getR rfl (by decide) am_K_96 (by decide) rfl am_R_96_0).trans ?_
  refine (ev_getI rfl (by decide) am_K_16 (by decide) rfl).trans ?_
  refine (ev_icmp3 rfl).trans (am_ite (fun c1 => ?_) (fun c1 => ?_))
  · refine (ev_iload rfl rfl).trans ?_
    exact ev_iret rfl
  · refine (ev_iload rfl rfl).trans ?_
    refine (ev_if5 rfl).trans (am_ite (fun c2 => ?_) (fun c2 => ?_))
    · refine (ev_iload rfl rfl).trans ?_
      exact ev_iret rfl
    · refine (ev_aload rfl rfl).trans ?_
      refine (ev_getR rfl (by decide) am_K_96 (by decide) rfl am_R_96_0).trans ?_
      refine (ev_iload rfl rfl).trans ?_
      exact ev_invv (as := [.int x3]) rfl (by decide) am_K_16 rfl (by simp [Value.category])
set_option maxRecDepth 10000 in
theorem sg_147_41 (X : am_X) (I : Nat → Nat → Int32) (J : Nat → Nat → Int64) (x1 : Int32) (x2 : Int32) (x3 : Int32) (x4 : Int32) : am_ev X amP_147 41 [.ref 96, .int x1, .int x2, .int x3] [.int x4] (am_sh I J) = (if x4 = 0 then am_ev X amP_147 30 [.ref 96, .int x1, .int x2, .int (x3 + (1 : Int32))] [] (am_sh I J) else (am_do X 58 [.ref 83, .int x3] (am_sh I J)).bind (fun q => am_ev X amP_147 47 [.ref 96, .int x1, .int x2, .int x3] (q.1.toList ++ [.int (2 : Int32)]) q.2)) := by
  refine (ev_if0 rfl).trans (am_ite (fun c1 => ?_) (fun c1 => ?_))
  · refine (ev_iincv (v := (1 : Int32)) (ls' := [.ref 96, .int x1, .int x2, .int (x3 + (1 : Int32))]) rfl am_ci_1 rfl rfl).trans ?_
    refine (ev_goto rfl).trans ?_
    rfl
  · refine (ev_const0 (v := (2 : Int32)) rfl am_ci_2).trans ?_
    refine (ev_aload rfl rfl).trans ?_
    refine (ev_getR rfl (by decide) am_K_96 (by decide) rfl am_R_96_1).trans ?_
    refine (ev_iload rfl rfl).trans ?_
    exact ev_invv (as := [.int x3]) rfl (by decide) am_K_83 rfl (by simp [Value.category])
set_option maxRecDepth 10000 in
theorem sg_147_47 (X : am_X) (I : Nat → Nat → Int32) (J : Nat → Nat → Int64) (x1 : Int32) (x2 : Int32) (x3 : Int32) (x4 : Int32) (x5 : Int32) : am_ev X amP_147 47 [.ref 96, .int x1, .int x2, .int x3] [.int x5, .int x4] (am_sh I J) = (am_do X 348 [.int x5] (am_sh I J)).bind (fun q => am_ev X amP_147 48 [.ref 96, .int x1, .int x2, .int x3] (q.1.toList ++ [.int x4]) q.2) := by
  exact ev_invs (as := [.int x5]) rfl rfl (by simp [Value.category])
set_option maxRecDepth 10000 in
theorem sg_147_48 (X : am_X) (I : Nat → Nat → Int32) (J : Nat → Nat → Int64) (x1 : Int32) (x2 : Int32) (x3 : Int32) (x4 : Int32) (x5 : Int32) : am_ev X amP_147 48 [.ref 96, .int x1, .int x2, .int x3] [.int x5, .int x4] (am_sh I J) = (if ¬ (x4 * x5) = x1 then am_ev X amP_147 30 [.ref 96, .int x1, .int x2, .int (x3 + (1 : Int32))] [] (am_sh I J) else am_ev X amP_147 30 [.ref 96, .int x1, .int (x2 ||| ((1 : Int32) <<< (x3 &&& 31))), .int (x3 + (1 : Int32))] [] (am_sh I J)) := by
  refine (ev_imul rfl).trans ?_
  refine (ev_iload rfl rfl).trans ?_
  refine (ev_icmp1 rfl).trans (am_ite (fun c1 => ?_) (fun c1 => ?_))
  · refine (ev_iincv (v := (1 : Int32)) (ls' := [.ref 96, .int x1, .int x2, .int (x3 + (1 : Int32))]) rfl am_ci_1 rfl rfl).trans ?_
    refine (ev_goto rfl).trans ?_
    rfl
  · refine (ev_iload rfl rfl).trans ?_
    refine (ev_const0 (v := (1 : Int32)) rfl am_ci_1).trans ?_
    refine (ev_iload rfl rfl).trans ?_
    refine (ev_ishl rfl).trans ?_
    refine (ev_ior rfl).trans ?_
    refine (ev_istore (ls' := [.ref 96, .int x1, .int (x2 ||| ((1 : Int32) <<< (x3 &&& 31))), .int x3]) rfl (Nat.le_of_ble_eq_true rfl) rfl).trans ?_
    refine (ev_iincv (v := (1 : Int32)) (ls' := [.ref 96, .int x1, .int (x2 ||| ((1 : Int32) <<< (x3 &&& 31))), .int (x3 + (1 : Int32))]) rfl am_ci_1 rfl rfl).trans ?_
    refine (ev_goto rfl).trans ?_
    rfl
