-- 60 X3_leastOfGroup
set_option maxRecDepth 10000 in
theorem sg_60_e0 (X : am_X) (I : Nat → Nat → Int32) (J : Nat → Nat → Int64) (x1 : Int32) : am_ev X amP_60 0 [.ref 83, .int x1, .null, .null, .null, .null] [] (am_sh I J) = am_ev X amP_60 6 [.ref 83, .int x1, .int ((1 : Int32) <<< (x1 &&& 31)), .int (0 : Int32), .null, .null] [] (am_sh I J) := by
  refine (ev_const0 (v := (1 : Int32)) rfl am_ci_1).trans ?_
  refine (ev_iload rfl rfl).trans ?_
  refine (ev_ishl rfl).trans ?_
  refine (ev_istore (ls' := [.ref 83, .int x1, .int ((1 : Int32) <<< (x1 &&& 31)), .null, .null, .null]) rfl (Nat.le_of_ble_eq_true rfl) rfl).trans ?_
  refine (ev_const0 (v := (0 : Int32)) rfl am_ci_0).trans ?_
  refine (ev_istore (ls' := [.ref 83, .int x1, .int ((1 : Int32) <<< (x1 &&& 31)), .int (0 : Int32), .null, .null]) rfl (Nat.le_of_ble_eq_true rfl) rfl).trans ?_
  rfl
theorem cl_60 (X : am_X) (I : Nat → Nat → Int32) (J : Nat → Nat → Int64) (x1 : Int32) : am_do X 60 [.ref 83, .int x1] (am_sh I J) = am_ev X amP_60 0 [.ref 83, .int x1, .null, .null, .null, .null] [] (am_sh I J) := am_do_of rfl rfl rfl
set_option maxRecDepth 10000 in
theorem sg_60_6 (X : am_X) (I : Nat → Nat → Int32) (J : Nat → Nat → Int64) (x1 : Int32) (x2 : Int32) (x3 : Int32) (w4 : Value) (w5 : Value) (hw4 : w4.category = 1) (hw5 : w5.category = 1) : am_ev X amP_60 6 [.ref 83, .int x1, .int x2, .int x3, w4, w5] [] (am_sh I J) = (if (10 : Int32) ≤ x3 then am_ev X amP_60 45 [.ref 83, .int x1, .int x2, .int (0 : Int32), w4, w5] [] (am_sh I J) else am_ev X amP_60 13 [.ref 83, .int x1, .int x2, .int x3, .int x2, .int (0 : Int32)] [] (am_sh I J)) := by
  refine (ev_iload rfl rfl).trans ?_
  refine (ev_const1 (v := (10 : Int32)) rfl am_ci_10).trans ?_
  refine (ev_icmp3 rfl).trans (am_ite (fun c1 => ?_) (fun c1 => ?_))
  · refine (ev_const0 (v := (0 : Int32)) rfl am_ci_0).trans ?_
    refine (ev_istore (ls' := [.ref 83, .int x1, .int x2, .int (0 : Int32), w4, w5]) rfl (Nat.le_of_ble_eq_true rfl) rfl).trans ?_
    rfl
  · refine (ev_iload rfl rfl).trans ?_
    refine (ev_istore (ls' := [.ref 83, .int x1, .int x2, .int x3, .int x2, w5]) rfl (Nat.le_of_ble_eq_true rfl) rfl).trans ?_
    refine (ev_const0 (v := (0 : Int32)) rfl am_ci_0).trans ?_
    refine (ev_istore (ls' := [.ref 83, .int x1, .int x2, .int x3, .int x2, .int (0 : Int32)]) rfl (Nat.le_of_ble_eq_true rfl) rfl).trans ?_
    rfl
set_option maxRecDepth 10000 in
theorem sg_60_13 (X : am_X) (I : Nat → Nat → Int32) (J : Nat → Nat → Int64) (x1 : Int32) (x2 : Int32) (x3 : Int32) (x4 : Int32) (x5 : Int32) : am_ev X amP_60 13 [.ref 83, .int x1, .int x2, .int x3, .int x4, .int x5] [] (am_sh I J) = (if (I 16 2) ≤ x5 then (if ¬ x4 = x2 then am_ev X amP_60 6 [.ref 83, .int x1, .int x4, .int (x3 + (1 : Int32)), .int x4, .int x5] [] (am_sh I J) else am_ev X amP_60 45 [.ref 83, .int x1, .int x2, .int (0 : Int32), .int x4, .int x5] [] (am_sh I J)) else (if ¬ ((x2 >>> (x5 &&& 31)) &&& (1 : Int32)) = (1 : Int32) then am_ev X amP_60 13 [.ref 83, .int x1, .int x2, .int x3, .int (x4 ||| (0 : Int32)), .int (x5 + (1 : Int32))] [] (am_sh I J) else (am_do X 58 [.ref 83, .int x5] (am_sh I J)).bind (fun q => am_ev X amP_60 29 [.ref 83, .int x1, .int x2, .int x3, .int x4, .int x5] (q.1.toList ++ [.int x4]) q.2))) := by
  refine (ev_iload rfl rfl).trans ?_
  refine (ev_aload rfl rfl).trans ?_
  refine (ev_getR rfl (by decide) am_K_83 (by decide) rfl am_R_83_0).trans ?_
  refine (ev_getI rfl (by decide) am_K_16 (by decide) rfl).trans ?_
  refine (ev_icmp3 rfl).trans (am_ite (fun c1 => ?_) (fun c1 => ?_))
  · refine (ev_iload rfl rfl).trans ?_
    refine (ev_iload rfl rfl).trans ?_
    refine (ev_icmp1 rfl).trans (am_ite (fun c2 => ?_) (fun c2 => ?_))
    · refine (ev_iload rfl rfl).trans ?_
      refine (ev_istore (ls' := [.ref 83, .int x1, .int x4, .int x3, .int x4, .int x5]) rfl (Nat.le_of_ble_eq_true rfl) rfl).trans ?_
      refine (ev_iincv (v := (1 : Int32)) (ls' := [.ref 83, .int x1, .int x4, .int (x3 + (1 : Int32)), .int x4, .int x5]) rfl am_ci_1 rfl rfl).trans ?_
      refine (ev_goto rfl).trans ?_
      rfl
    · refine (ev_goto rfl).trans ?_
      refine (ev_const0 (v := (0 : Int32)) rfl am_ci_0).trans ?_
      refine (ev_istore (ls' := [.ref 83, .int x1, .int x2, .int (0 : Int32), .int x4, .int x5]) rfl (Nat.le_of_ble_eq_true rfl) rfl).trans ?_
      rfl
  · refine (ev_iload rfl rfl).trans ?_
    refine (ev_iload rfl rfl).trans ?_
    refine (ev_iload rfl rfl).trans ?_
    refine (ev_ishr rfl).trans ?_
    refine (ev_const0 (v := (1 : Int32)) rfl am_ci_1).trans ?_
    refine (ev_iand rfl).trans ?_
    refine (ev_const0 (v := (1 : Int32)) rfl am_ci_1).trans ?_
    refine (ev_icmp1 rfl).trans (am_ite (fun c2 => ?_) (fun c2 => ?_))
    · refine (ev_const0 (v := (0 : Int32)) rfl am_ci_0).trans ?_
      refine (ev_ior rfl).trans ?_
      refine (ev_istore (ls' := [.ref 83, .int x1, .int x2, .int x3, .int (x4 ||| (0 : Int32)), .int x5]) rfl (Nat.le_of_ble_eq_true rfl) rfl).trans ?_
      refine (ev_iincv (v := (1 : Int32)) (ls' := [.ref 83, .int x1, .int x2, .int x3, .int (x4 ||| (0 : Int32)), .int (x5 + (1 : Int32))]) rfl am_ci_1 rfl rfl).trans ?_
      refine (ev_goto rfl).trans ?_
      rfl
    · refine (ev_aload rfl rfl).trans ?_
      refine (ev_iload rfl rfl).trans ?_
      exact ev_invv (as := [.int x5]) rfl (by decide) am_K_83 rfl (by simp [Value.category])
set_option maxRecDepth 10000 in
theorem sg_60_29 (X : am_X) (I : Nat → Nat → Int32) (J : Nat → Nat → Int64) (x1 : Int32) (x2 : Int32) (x3 : Int32) (x4 : Int32) (x5 : Int32) (x6 : Int32) (x7 : Int32) : am_ev X amP_60 29 [.ref 83, .int x1, .int x2, .int x3, .int x4, .int x5] [.int x7, .int x6] (am_sh I J) = am_ev X amP_60 13 [.ref 83, .int x1, .int x2, .int x3, .int (x6 ||| x7), .int (x5 + (1 : Int32))] [] (am_sh I J) := by
  refine (ev_goto rfl).trans ?_
  refine (ev_ior rfl).trans ?_
  refine (ev_istore (ls' := [.ref 83, .int x1, .int x2, .int x3, .int (x6 ||| x7), .int x5]) rfl (Nat.le_of_ble_eq_true rfl) rfl).trans ?_
  refine (ev_iincv (v := (1 : Int32)) (ls' := [.ref 83, .int x1, .int x2, .int x3, .int (x6 ||| x7), .int (x5 + (1 : Int32))]) rfl am_ci_1 rfl rfl).trans ?_
  refine (ev_goto rfl).trans ?_
  rfl
set_option maxRecDepth 10000 in
theorem sg_60_45 (X : am_X) (I : Nat → Nat → Int32) (J : Nat → Nat → Int64) (x1 : Int32) (x2 : Int32) (x3 : Int32) (w4 : Value) (w5 : Value) (hw4 : w4.category = 1) (hw5 : w5.category = 1) : am_ev X amP_60 45 [.ref 83, .int x1, .int x2, .int x3, w4, w5] [] (am_sh I J) = (if x1 ≤ x3 then some (some (.int x3), am_sh I J) else (if ¬ ((x2 >>> (x3 &&& 31)) &&& (1 : Int32)) = 0 then some (some (.int x3), am_sh I J) else am_ev X amP_60 45 [.ref 83, .int x1, .int x2, .int (x3 + (1 : Int32)), w4, w5] [] (am_sh I J))) := by
  refine (ev_iload rfl rfl).trans ?_
  refine (ev_iload rfl rfl).trans ?_
  refine (ev_icmp3 rfl).trans (am_ite (fun c1 => ?_) (fun c1 => ?_))
  · refine (ev_iload rfl rfl).trans ?_
    exact ev_iret rfl
  · refine (ev_iload rfl rfl).trans ?_
    refine (ev_iload rfl rfl).trans ?_
    refine (ev_ishr rfl).trans ?_
    refine (ev_const0 (v := (1 : Int32)) rfl am_ci_1).trans ?_
    refine (ev_iand rfl).trans ?_
    refine (ev_if1 rfl).trans (am_ite (fun c2 => ?_) (fun c2 => ?_))
    · refine (ev_iload rfl rfl).trans ?_
      exact ev_iret rfl
    · refine (ev_iincv (v := (1 : Int32)) (ls' := [.ref 83, .int x1, .int x2, .int (x3 + (1 : Int32)), w4, w5]) rfl am_ci_1 rfl rfl).trans ?_
      refine (ev_goto rfl).trans ?_
      rfl
-- 61 X3_countGroups
set_option maxRecDepth 10000 in
theorem sg_61_e0 (X : am_X) (I : Nat → Nat → Int32) (J : Nat → Nat → Int64) : am_ev X amP_61 0 [.ref 83, .null, .null] [] (am_sh I J) = am_ev X amP_61 4 [.ref 83, .int (0 : Int32), .int (0 : Int32)] [] (am_sh I J) := by
  refine (ev_const0 (v := (0 : Int32)) rfl am_ci_0).trans ?_
  refine (ev_istore (ls' := [.ref 83, .int (0 : Int32), .null]) rfl (Nat.le_of_ble_eq_true rfl) rfl).trans ?_
  refine (ev_const0 (v := (0 : Int32)) rfl am_ci_0).trans ?_
  refine (ev_istore (ls' := [.ref 83, .int (0 : Int32), .int (0 : Int32)]) rfl (Nat.le_of_ble_eq_true rfl) rfl).trans ?_
  rfl
theorem cl_61 (X : am_X) (I : Nat → Nat → Int32) (J : Nat → Nat → Int64) : am_do X 61 [.ref 83] (am_sh I J) = am_ev X amP_61 0 [.ref 83, .null, .null] [] (am_sh I J) := am_do_of rfl rfl rfl
set_option maxRecDepth 10000 in
theorem sg_61_4 (X : am_X) (I : Nat → Nat → Int32) (J : Nat → Nat → Int64) (x1 : Int32) (x2 : Int32) : am_ev X amP_61 4 [.ref 83, .int x1, .int x2] [] (am_sh I J) = (if (I 16 2) ≤ x2 then some (some (.int x1), am_sh I J) else (am_do X 101 [.ref 16, .int x2] (am_sh I J)).bind (fun q => am_ev X amP_61 14 [.ref 83, .int x1, .int x2] (q.1.toList ++ [.int x1]) q.2)) := by
  refine (ev_iload rfl rfl).trans ?_
  refine (ev_aload rfl rfl).trans ?_
  refine (ev_getR rfl (by decide) am_K_83 (by decide) rfl am_R_83_0).trans ?_
  refine (ev_getI rfl (by decide) am_K_16 (by decide) rfl).trans ?_
  refine (ev_icmp3 rfl).trans (am_ite (fun c1 => ?_) (fun c1 => ?_))
  · refine (ev_iload rfl rfl).trans ?_
    exact ev_iret rfl
  · refine (ev_iload rfl rfl).trans ?_
    refine (ev_aload rfl rfl).trans ?_
    refine (ev_getR rfl (by decide) am_K_83 (by decide) rfl am_R_83_0).trans ?_
    refine (ev_iload rfl rfl).trans ?_
    exact ev_invv (as := [.int x2]) rfl (by decide) am_K_16 rfl (by simp [Value.category])
set_option maxRecDepth 10000 in
theorem sg_61_14 (X : am_X) (I : Nat → Nat → Int32) (J : Nat → Nat → Int64) (x1 : Int32) (x2 : Int32) (x3 : Int32) (x4 : Int32) : am_ev X amP_61 14 [.ref 83, .int x1, .int x2] [.int x4, .int x3] (am_sh I J) = (if x4 = 0 then am_ev X amP_61 4 [.ref 83, .int (x3 + (0 : Int32)), .int (x2 + (1 : Int32))] [] (am_sh I J) else (am_do X 60 [.ref 83, .int x2] (am_sh I J)).bind (fun q => am_ev X amP_61 18 [.ref 83, .int x1, .int x2] (q.1.toList ++ [.int x3]) q.2)) := by
  refine (ev_if0 rfl).trans (am_ite (fun c1 => ?_) (fun c1 => ?_))
  · refine (ev_const0 (v := (0 : Int32)) rfl am_ci_0).trans ?_
    refine (ev_iadd rfl).trans ?_
    refine (ev_istore (ls' := [.ref 83, .int (x3 + (0 : Int32)), .int x2]) rfl (Nat.le_of_ble_eq_true rfl) rfl).trans ?_
    refine (ev_iincv (v := (1 : Int32)) (ls' := [.ref 83, .int (x3 + (0 : Int32)), .int (x2 + (1 : Int32))]) rfl am_ci_1 rfl rfl).trans ?_
    refine (ev_goto rfl).trans ?_
    rfl
  · refine (ev_aload rfl rfl).trans ?_
    refine (ev_iload rfl rfl).trans ?_
    exact ev_invv (as := [.int x2]) rfl (by decide) am_K_83 rfl (by simp [Value.category])
set_option maxRecDepth 10000 in
theorem sg_61_18 (X : am_X) (I : Nat → Nat → Int32) (J : Nat → Nat → Int64) (x1 : Int32) (x2 : Int32) (x3 : Int32) (x4 : Int32) : am_ev X amP_61 18 [.ref 83, .int x1, .int x2] [.int x4, .int x3] (am_sh I J) = (if ¬ x4 = x2 then am_ev X amP_61 4 [.ref 83, .int (x3 + (0 : Int32)), .int (x2 + (1 : Int32))] [] (am_sh I J) else am_ev X amP_61 4 [.ref 83, .int (x3 + (1 : Int32)), .int (x2 + (1 : Int32))] [] (am_sh I J)) := by
  refine (ev_iload rfl rfl).trans ?_
  refine (ev_icmp1 rfl).trans (am_ite (fun c1 => ?_) (fun c1 => ?_))
  · refine (ev_const0 (v := (0 : Int32)) rfl am_ci_0).trans ?_
    refine (ev_iadd rfl).trans ?_
    refine (ev_istore (ls' := [.ref 83, .int (x3 + (0 : Int32)), .int x2]) rfl (Nat.le_of_ble_eq_true rfl) rfl).trans ?_
    refine (ev_iincv (v := (1 : Int32)) (ls' := [.ref 83, .int (x3 + (0 : Int32)), .int (x2 + (1 : Int32))]) rfl am_ci_1 rfl rfl).trans ?_
    refine (ev_goto rfl).trans ?_
    rfl
  · refine (ev_const0 (v := (1 : Int32)) rfl am_ci_1).trans ?_
    refine (ev_goto rfl).trans ?_
    refine (ev_iadd rfl).trans ?_
    refine (ev_istore (ls' := [.ref 83, .int (x3 + (1 : Int32)), .int x2]) rfl (Nat.le_of_ble_eq_true rfl) rfl).trans ?_
    refine (ev_iincv (v := (1 : Int32)) (ls' := [.ref 83, .int (x3 + (1 : Int32)), .int (x2 + (1 : Int32))]) rfl am_ci_1 rfl rfl).trans ?_
    refine (ev_goto rfl).trans ?_
    rfl
-- 62 X3_pairOfRank
set_option maxRecDepth 10000 in
theorem sg_62_e0 (X : am_X) (I : Nat → Nat → Int32) (J : Nat → Nat → Int64) (x1 : Int32) : am_ev X amP_62 0 [.ref 83, .int x1, .null, .null] [] (am_sh I J) = am_ev X amP_62 2 [.ref 83, .int x1, .int (0 : Int32), .null] [] (am_sh I J) := by
  refine (ev_const0 (v := (0 : Int32)) rfl am_ci_0).trans ?_
  refine (ev_istore (ls' := [.ref 83, .int x1, .int (0 : Int32), .null]) rfl (Nat.le_of_ble_eq_true rfl) rfl).trans ?_
  rfl
theorem cl_62 (X : am_X) (I : Nat → Nat → Int32) (J : Nat → Nat → Int64) (x1 : Int32) : am_do X 62 [.ref 83, .int x1] (am_sh I J) = am_ev X amP_62 0 [.ref 83, .int x1, .null, .null] [] (am_sh I J) := am_do_of rfl rfl rfl
set_option maxRecDepth 10000 in
theorem sg_62_2 (X : am_X) (I : Nat → Nat → Int32) (J : Nat → Nat → Int64) (x1 : Int32) (x2 : Int32) (w3 : Value) (hw3 : w3.category = 1) : am_ev X amP_62 2 [.ref 83, .int x1, .int x2, w3] [] (am_sh I J) = (if (I 16 2) ≤ x2 then some (some (.int (-1 : Int32)), am_sh I J) else am_ev X amP_62 11 [.ref 83, .int x1, .int x2, .int (x2 + (1 : Int32))] [] (am_sh I J)) := by
  refine (ev_iload rfl rfl).trans ?_
  refine (ev_aload rfl rfl).trans ?_
  refine (ev_getR rfl (by decide) am_K_83 (by decide) rfl am_R_83_0).trans ?_
  refine (ev_getI rfl (by decide) am_K_16 (by decide) rfl).trans ?_
  refine (ev_icmp3 rfl).trans (am_ite (fun c1 => ?_) (fun c1 => ?_))
  · refine (ev_const0 (v := (-1 : Int32)) rfl am_ci_m1).trans ?_
    exact ev_iret rfl
  · refine (ev_iload rfl rfl).trans ?_
    refine (ev_const0 (v := (1 : Int32)) rfl am_ci_1).trans ?_
    refine (ev_iadd rfl).trans ?_
    refine (ev_istore (ls' := [.ref 83, .int x1, .int x2, .int (x2 + (1 : Int32))]) rfl (Nat.le_of_ble_eq_true rfl) rfl).trans ?_
    rfl
set_option maxRecDepth 10000 in
theorem sg_62_11 (X : am_X) (I : Nat → Nat → Int32) (J : Nat → Nat → Int64) (x1 : Int32) (x2 : Int32) (x3 : Int32) : am_ev X amP_62 11 [.ref 83, .int x1, .int x2, .int x3] [] (am_sh I J) = (if (I 16 2) ≤ x3 then am_ev X amP_62 2 [.ref 83, .int x1, .int (x2 + (1 : Int32)), .int x3] [] (am_sh I J) else (am_do X 56 [.ref 83, .int x2, .int x3] (am_sh I J)).bind (fun q => am_ev X amP_62 20 [.ref 83, .int x1, .int x2, .int x3] (q.1.toList ++ []) q.2)) := by
  refine (ev_iload rfl rfl).trans ?_
  refine (ev_aload rfl rfl).trans ?_
  refine (ev_getR rfl (by decide) am_K_83 (by decide) rfl am_R_83_0).trans ?_
  refine (ev_getI rfl (by decide) am_K_16 (by decide) rfl).trans ?_
  refine (ev_icmp3 rfl).trans (am_ite (fun c1 => ?_) (fun c1 => ?_))
  · refine (ev_iincv (v := (1 : Int32)) (ls' := [.ref 83, .int x1, .int (x2 + (1 : Int32)), .int x3]) rfl am_ci_1 rfl rfl).trans ?_
    refine (ev_goto rfl).trans ?_
    rfl
  · refine (ev_aload rfl rfl).trans ?_
    refine (ev_iload rfl rfl).trans ?_
    refine (ev_iload rfl rfl).trans ?_
    exact ev_invv (as := [.int x3, .int x2]) rfl (by decide) am_K_83 rfl (by simp [Value.category])
set_option maxRecDepth 10000 in
theorem sg_62_20 (X : am_X) (I : Nat → Nat → Int32) (J : Nat → Nat → Int64) (x1 : Int32) (x2 : Int32) (x3 : Int32) (x4 : Int32) : am_ev X amP_62 20 [.ref 83, .int x1, .int x2, .int x3] [.int x4] (am_sh I J) = (if x4 = 0 then am_ev X amP_62 11 [.ref 83, .int x1, .int x2, .int (x3 + (1 : Int32))] [] (am_sh I J) else (am_do X 51 [.int x2, .int x3] (am_sh I J)).bind (fun q => am_ev X amP_62 25 [.ref 83, .int x1, .int x2, .int x3] (q.1.toList ++ [.ref 83]) q.2)) := by
  refine (ev_if0 rfl).trans (am_ite (fun c1 => ?_) (fun c1 => ?_))
  · refine (ev_iincv (v := (1 : Int32)) (ls' := [.ref 83, .int x1, .int x2, .int (x3 + (1 : Int32))]) rfl am_ci_1 rfl rfl).trans ?_
    refine (ev_goto rfl).trans ?_
    rfl
  · refine (ev_aload rfl rfl).trans ?_
    refine (ev_iload rfl rfl).trans ?_
    refine (ev_iload rfl rfl).trans ?_
    exact ev_invs (as := [.int x3, .int x2]) rfl rfl (by simp [Value.category])
set_option maxRecDepth 10000 in
theorem sg_62_25 (X : am_X) (I : Nat → Nat → Int32) (J : Nat → Nat → Int64) (x1 : Int32) (x2 : Int32) (x3 : Int32) (x4 : Int32) : am_ev X amP_62 25 [.ref 83, .int x1, .int x2, .int x3] [.int x4, .ref 83] (am_sh I J) = (am_do X 63 [.ref 83, .int x4] (am_sh I J)).bind (fun q => am_ev X amP_62 26 [.ref 83, .int x1, .int x2, .int x3] (q.1.toList ++ []) q.2) := by
  exact ev_invv (as := [.int x4]) rfl (by decide) am_K_83 rfl (by simp [Value.category])
set_option maxRecDepth 10000 in
theorem sg_62_26 (X : am_X) (I : Nat → Nat → Int32) (J : Nat → Nat → Int64) (x1 : Int32) (x2 : Int32) (x3 : Int32) (x4 : Int32) : am_ev X amP_62 26 [.ref 83, .int x1, .int x2, .int x3] [.int x4] (am_sh I J) = (if ¬ x4 = x1 then am_ev X amP_62 11 [.ref 83, .int x1, .int x2, .int (x3 + (1 : Int32))] [] (am_sh I J) else (am_do X 51 [.int x2, .int x3] (am_sh I J)).bind (fun q => am_ev X amP_62 31 [.ref 83, .int x1, .int x2, .int x3] (q.1.toList ++ []) q.2)) := by
  refine (ev_iload rfl rfl).trans ?_
  refine (ev_icmp1 rfl).trans (am_ite (fun c1 => ?_) (fun c1 => ?_))
  · refine (ev_iincv (v := (1 : Int32)) (ls' := [.ref 83, .int x1, .int x2, .int (x3 + (1 : Int32))]) rfl am_ci_1 rfl rfl).trans ?_
    refine (ev_goto rfl).trans ?_
    rfl
  · refine (ev_iload rfl rfl).trans ?_
    refine (ev_iload rfl rfl).trans ?_
    exact ev_invs (as := [.int x3, .int x2]) rfl rfl (by simp [Value.category])
set_option maxRecDepth 10000 in
theorem sg_62_31 (X : am_X) (I : Nat → Nat → Int32) (J : Nat → Nat → Int64) (x1 : Int32) (x2 : Int32) (x3 : Int32) (x4 : Int32) : am_ev X amP_62 31 [.ref 83, .int x1, .int x2, .int x3] [.int x4] (am_sh I J) = some (some (.int x4), am_sh I J) := by
  exact ev_iret rfl
-- 63 X3_countAheadOf
set_option maxRecDepth 10000 in
theorem sg_63_e0 (X : am_X) (I : Nat → Nat → Int32) (J : Nat → Nat → Int64) (x1 : Int32) : am_ev X amP_63 0 [.ref 83, .int x1, .null, .null, .null] [] (am_sh I J) = am_ev X amP_63 4 [.ref 83, .int x1, .int (0 : Int32), .int (0 : Int32), .null] [] (am_sh I J) := by
  refine (ev_const0 (v := (0 : Int32)) rfl am_ci_0).trans ?_
  refine (ev_istore (ls' := [.ref 83, .int x1, .int (0 : Int32), .null, .null]) rfl (Nat.le_of_ble_eq_true rfl) rfl).trans ?_
  refine (ev_const0 (v := (0 : Int32)) rfl am_ci_0).trans ?_
  refine (ev_istore (ls' := [.ref 83, .int x1, .int (0 : Int32), .int (0 : Int32), .null]) rfl (Nat.le_of_ble_eq_true rfl) rfl).trans ?_
  rfl
theorem cl_63 (X : am_X) (I : Nat → Nat → Int32) (J : Nat → Nat → Int64) (x1 : Int32) : am_do X 63 [.ref 83, .int x1] (am_sh I J) = am_ev X amP_63 0 [.ref 83, .int x1, .null, .null, .null] [] (am_sh I J) := am_do_of rfl rfl rfl
set_option maxRecDepth 10000 in
theorem sg_63_4 (X : am_X) (I : Nat → Nat → Int32) (J : Nat → Nat → Int64) (x1 : Int32) (x2 : Int32) (x3 : Int32) (w4 : Value) (hw4 : w4.category = 1) : am_ev X amP_63 4 [.ref 83, .int x1, .int x2, .int x3, w4] [] (am_sh I J) = (if (I 16 2) ≤ x3 then some (some (.int x2), am_sh I J) else am_ev X amP_63 13 [.ref 83, .int x1, .int x2, .int x3, .int (x3 + (1 : Int32))] [] (am_sh I J)) := by
  refine (ev_iload rfl rfl).trans ?_
  refine (ev_aload rfl rfl).trans ?_
  refine (ev_getR rfl (by decide) am_K_83 (by decide) rfl am_R_83_0).trans ?_
  refine (ev_getI rfl (by decide) am_K_16 (by decide) rfl).trans ?_
  refine (ev_icmp3 rfl).trans (am_ite (fun c1 => ?_) (fun c1 => ?_))
  · refine (ev_iload rfl rfl).trans ?_
    exact ev_iret rfl
  · refine (ev_iload rfl rfl).trans ?_
    refine (ev_const0 (v := (1 : Int32)) rfl am_ci_1).trans ?_
    refine (ev_iadd rfl).trans ?_
    refine (ev_istore (ls' := [.ref 83, .int x1, .int x2, .int x3, .int (x3 + (1 : Int32))]) rfl (Nat.le_of_ble_eq_true rfl) rfl).trans ?_
    rfl
set_option maxRecDepth 10000 in
theorem sg_63_13 (X : am_X) (I : Nat → Nat → Int32) (J : Nat → Nat → Int64) (x1 : Int32) (x2 : Int32) (x3 : Int32) (x4 : Int32) : am_ev X amP_63 13 [.ref 83, .int x1, .int x2, .int x3, .int x4] [] (am_sh I J) = (if (I 16 2) ≤ x4 then am_ev X amP_63 4 [.ref 83, .int x1, .int x2, .int (x3 + (1 : Int32)), .int x4] [] (am_sh I J) else (am_do X 56 [.ref 83, .int x3, .int x4] (am_sh I J)).bind (fun q => am_ev X amP_63 23 [.ref 83, .int x1, .int x2, .int x3, .int x4] (q.1.toList ++ [.int x2]) q.2)) := by
  refine (ev_iload rfl rfl).trans ?_
  refine (ev_aload rfl rfl).trans ?_
  refine (ev_getR rfl (by decide) am_K_83 (by decide) rfl am_R_83_0).trans ?_
  refine (ev_getI rfl (by decide) am_K_16 (by decide) rfl).trans ?_
  refine (ev_icmp3 rfl).trans (am_ite (fun c1 => ?_) (fun c1 => ?_))
  · refine (ev_iincv (v := (1 : Int32)) (ls' := [.ref 83, .int x1, .int x2, .int (x3 + (1 : Int32)), .int x4]) rfl am_ci_1 rfl rfl).trans ?_
    refine (ev_goto rfl).trans ?_
    rfl
  · refine (ev_iload rfl rfl).trans ?_
    refine (ev_aload rfl rfl).trans ?_
    refine (ev_iload rfl rfl).trans ?_
    refine (ev_iload rfl rfl).trans ?_
    exact ev_invv (as := [.int x4, .int x3]) rfl (by decide) am_K_83 rfl (by simp [Value.category])
set_option maxRecDepth 10000 in
theorem sg_63_23 (X : am_X) (I : Nat → Nat → Int32) (J : Nat → Nat → Int64) (x1 : Int32) (x2 : Int32) (x3 : Int32) (x4 : Int32) (x5 : Int32) (x6 : Int32) : am_ev X amP_63 23 [.ref 83, .int x1, .int x2, .int x3, .int x4] [.int x6, .int x5] (am_sh I J) = (if x6 = 0 then am_ev X amP_63 13 [.ref 83, .int x1, .int (x5 + (0 : Int32)), .int x3, .int (x4 + (1 : Int32))] [] (am_sh I J) else (am_do X 51 [.int x3, .int x4] (am_sh I J)).bind (fun q => am_ev X amP_63 28 [.ref 83, .int x1, .int x2, .int x3, .int x4] (q.1.toList ++ [.ref 83, .int x5]) q.2)) := by
  refine (ev_if0 rfl).trans (am_ite (fun c1 => ?_) (fun c1 => ?_))
  · refine (ev_const0 (v := (0 : Int32)) rfl am_ci_0).trans ?_
    refine (ev_iadd rfl).trans ?_
    refine (ev_istore (ls' := [.ref 83, .int x1, .int (x5 + (0 : Int32)), .int x3, .int x4]) rfl (Nat.le_of_ble_eq_true rfl) rfl).trans ?_
    refine (ev_iincv (v := (1 : Int32)) (ls' := [.ref 83, .int x1, .int (x5 + (0 : Int32)), .int x3, .int (x4 + (1 : Int32))]) rfl am_ci_1 rfl rfl).trans ?_
    refine (ev_goto rfl).trans ?_
    rfl
  · refine (ev_aload rfl rfl).trans ?_
    refine (ev_iload rfl rfl).trans ?_
    refine (ev_iload rfl rfl).trans ?_
    exact ev_invs (as := [.int x4, .int x3]) rfl rfl (by simp [Value.category])
set_option maxRecDepth 10000 in
theorem sg_63_28 (X : am_X) (I : Nat → Nat → Int32) (J : Nat → Nat → Int64) (x1 : Int32) (x2 : Int32) (x3 : Int32) (x4 : Int32) (x5 : Int32) (x6 : Int32) : am_ev X amP_63 28 [.ref 83, .int x1, .int x2, .int x3, .int x4] [.int x6, .ref 83, .int x5] (am_sh I J) = (am_do X 64 [.ref 83, .int x6, .int x1] (am_sh I J)).bind (fun q => am_ev X amP_63 30 [.ref 83, .int x1, .int x2, .int x3, .int x4] (q.1.toList ++ [.int x5]) q.2) := by
  refine (ev_iload rfl rfl).trans ?_
  exact ev_invv (as := [.int x1, .int x6]) rfl (by decide) am_K_83 rfl (by simp [Value.category])
set_option maxRecDepth 10000 in
theorem sg_63_30 (X : am_X) (I : Nat → Nat → Int32) (J : Nat → Nat → Int64) (x1 : Int32) (x2 : Int32) (x3 : Int32) (x4 : Int32) (x5 : Int32) (x6 : Int32) : am_ev X amP_63 30 [.ref 83, .int x1, .int x2, .int x3, .int x4] [.int x6, .int x5] (am_sh I J) = (if x6 = 0 then am_ev X amP_63 13 [.ref 83, .int x1, .int (x5 + (0 : Int32)), .int x3, .int (x4 + (1 : Int32))] [] (am_sh I J) else am_ev X amP_63 13 [.ref 83, .int x1, .int (x5 + (1 : Int32)), .int x3, .int (x4 + (1 : Int32))] [] (am_sh I J)) := by
  refine (ev_if0 rfl).trans (am_ite (fun c1 => ?_) (fun c1 => ?_))
  · refine (ev_const0 (v := (0 : Int32)) rfl am_ci_0).trans ?_
    refine (ev_iadd rfl).trans ?_
    refine (ev_istore (ls' := [.ref 83, .int x1, .int (x5 + (0 : Int32)), .int x3, .int x4]) rfl (Nat.le_of_ble_eq_true rfl) rfl).trans ?_
    refine (ev_iincv (v := (1 : Int32)) (ls' := [.ref 83, .int x1, .int (x5 + (0 : Int32)), .int x3, .int (x4 + (1 : Int32))]) rfl am_ci_1 rfl rfl).trans ?_
    refine (ev_goto rfl).trans ?_
    rfl
  · refine (ev_const0 (v := (1 : Int32)) rfl am_ci_1).trans ?_
    refine (ev_goto rfl).trans ?_
    refine (ev_iadd rfl).trans ?_
    refine (ev_istore (ls' := [.ref 83, .int x1, .int (x5 + (1 : Int32)), .int x3, .int x4]) rfl (Nat.le_of_ble_eq_true rfl) rfl).trans ?_
    refine (ev_iincv (v := (1 : Int32)) (ls' := [.ref 83, .int x1, .int (x5 + (1 : Int32)), .int x3, .int (x4 + (1 : Int32))]) rfl am_ci_1 rfl rfl).trans ?_
    refine (ev_goto rfl).trans ?_
    rfl
-- 64 X3_isAhead
set_option maxRecDepth 10000 in
theorem sg_64_e0 (X : am_X) (I : Nat → Nat → Int32) (J : Nat → Nat → Int64) (x1 : Int32) (x2 : Int32) : am_ev X amP_64 0 [.ref 83, .int x1, .int x2] [] (am_sh I J) = (if x1 < 0 ∨ 100 ≤ x1.toNatClampNeg then none else (if x2 < 0 ∨ 100 ≤ x2.toNatClampNeg then none else (if (I 84 x1.toNatClampNeg) = (I 84 x2.toNatClampNeg) then (if x1 < 0 ∨ 100 ≤ x1.toNatClampNeg then none else (if x2 < 0 ∨ 100 ≤ x2.toNatClampNeg then none else (if (I 85 x1.toNatClampNeg) = (I 85 x2.toNatClampNeg) then (if x2 ≤ x1 then some (some (.int (0 : Int32)), am_sh I J) else some (some (.int (1 : Int32)), am_sh I J)) else (if x1 < 0 ∨ 100 ≤ x1.toNatClampNeg then none else (if x2 < 0 ∨ 100 ≤ x2.toNatClampNeg then none else (if (I 85 x2.toNatClampNeg) ≤ (I 85 x1.toNatClampNeg) then some (some (.int (0 : Int32)), am_sh I J) else some (some (.int (1 : Int32)), am_sh I J))))))) else (if x1 < 0 ∨ 100 ≤ x1.toNatClampNeg then none else (if x2 < 0 ∨ 100 ≤ x2.toNatClampNeg then none else (if (I 84 x2.toNatClampNeg) ≤ (I 84 x1.toNatClampNeg) then some (some (.int (0 : Int32)), am_sh I J) else some (some (.int (1 : Int32)), am_sh I J))))))) := by
  refine (ev_aload rfl rfl).trans ?_
  refine (ev_getR rfl (by decide) am_K_83 (by decide) rfl am_R_83_1).trans ?_
  refine (ev_iload rfl rfl).trans ?_
  refine (ev_iald rfl (by decide) am_K_84).trans (am_itn (fun g1 => ?_))
  refine (ev_aload rfl rfl).trans ?_
  refine (ev_getR rfl (by decide) am_K_83 (by decide) rfl am_R_83_1).trans ?_
  refine (ev_iload rfl rfl).trans ?_
  refine (ev_iald rfl (by decide) am_K_84).trans (am_itn (fun g2 => ?_))
  refine (ev_icmp0 rfl).trans (am_ite (fun c3 => ?_) (fun c3 => ?_))
  · refine (ev_aload rfl rfl).trans ?_
    refine (ev_getR rfl (by decide) am_K_83 (by decide) rfl am_R_83_2).trans ?_
    refine (ev_iload rfl rfl).trans ?_
    refine (ev_iald rfl (by decide) am_K_85).trans (am_itn (fun g4 => ?_))
    refine (ev_aload rfl rfl).trans ?_
    refine (ev_getR rfl (by decide) am_K_83 (by decide) rfl am_R_83_2).trans ?_
    refine (ev_iload rfl rfl).trans ?_
    refine (ev_iald rfl (by decide) am_K_85).trans (am_itn (fun g5 => ?_))
    refine (ev_icmp0 rfl).trans (am_ite (fun c6 => ?_) (fun c6 => ?_))
    · refine (ev_iload rfl rfl).trans ?_
      refine (ev_iload rfl rfl).trans ?_
      refine (ev_icmp3 rfl).trans (am_ite (fun c7 => ?_) (fun c7 => ?_))
      · refine (ev_const0 (v := (0 : Int32)) rfl am_ci_0).trans ?_
        exact ev_zret rfl (by decide)
      · refine (ev_const0 (v := (1 : Int32)) rfl am_ci_1).trans ?_
        refine (ev_goto rfl).trans ?_
        exact ev_zret rfl (by decide)
    · refine (ev_aload rfl rfl).trans ?_
      refine (ev_getR rfl (by decide) am_K_83 (by decide) rfl am_R_83_2).trans ?_
      refine (ev_iload rfl rfl).trans ?_
      refine (ev_iald rfl (by decide) am_K_85).trans (am_itn (fun g7 => ?_))
      refine (ev_aload rfl rfl).trans ?_
      refine (ev_getR rfl (by decide) am_K_83 (by decide) rfl am_R_83_2).trans ?_
      refine (ev_iload rfl rfl).trans ?_
      refine (ev_iald rfl (by decide) am_K_85).trans (am_itn (fun g8 => ?_))
      refine (ev_icmp3 rfl).trans (am_ite (fun c9 => ?_) (fun c9 => ?_))
      · refine (ev_const0 (v := (0 : Int32)) rfl am_ci_0).trans ?_
        exact ev_zret rfl (by decide)
      · refine (ev_const0 (v := (1 : Int32)) rfl am_ci_1).trans ?_
        refine (ev_goto rfl).trans ?_
        exact ev_zret rfl (by decide)
  · refine (ev_aload rfl rfl).trans ?_
    refine (ev_getR rfl (by decide) am_K_83 (by decide) rfl am_R_83_1).trans ?_
    refine (ev_iload rfl rfl).trans ?_
    refine (ev_iald rfl (by decide) am_K_84).trans (am_itn (fun g4 => ?_))
    refine (ev_aload rfl rfl).trans ?_
    refine (ev_getR rfl (by decide) am_K_83 (by decide) rfl am_R_83_1).trans ?_
    refine (ev_iload rfl rfl).trans ?_
    refine (ev_iald rfl (by decide) am_K_84).trans (am_itn (fun g5 => ?_))
    refine (ev_icmp3 rfl).trans (am_ite (fun c6 => ?_) (fun c6 => ?_))
    · refine (ev_const0 (v := (0 : Int32)) rfl am_ci_0).trans ?_
      exact ev_zret rfl (by decide)
    · refine (ev_const0 (v := (1 : Int32)) rfl am_ci_1).trans ?_
      refine (ev_goto rfl).trans ?_
      exact ev_zret rfl (by decide)
theorem cl_64 (X : am_X) (I : Nat → Nat → Int32) (J : Nat → Nat → Int64) (x1 : Int32) (x2 : Int32) : am_do X 64 [.ref 83, .int x1, .int x2] (am_sh I J) = am_ev X amP_64 0 [.ref 83, .int x1, .int x2] [] (am_sh I J) := am_do_of rfl rfl rfl
-- 65 X3_countPasses
set_option maxRecDepth 10000 in
theorem sg_65_e0 (X : am_X) (I : Nat → Nat → Int32) (J : Nat → Nat → Int64) (x1 : Int32) (x2 : Int32) (x3 : Int32) : am_ev X amP_65 0 [.ref 83, .int x1, .int x2, .int x3, .null, .null, .null, .null, .null, .null, .null, .null, .null] [] (am_sh I J) = (if x1 < 0 ∨ 10 ≤ x1.toNatClampNeg then none else (if x2 < 0 ∨ 10 ≤ x2.toNatClampNeg then none else (am_do X 40 [.ref (am_bd (x1.toNatClampNeg)), .ref (am_bd (x2.toNatClampNeg))] (am_sh I J)).bind (fun q => am_ev X amP_65 15 [.ref 83, .int x1, .int x2, .int x3, .ref (am_bd (x1.toNatClampNeg)), .ref (am_bd (x2.toNatClampNeg)), .null, .null, .null, .null, .null, .null, .null] (q.1.toList ++ []) q.2))) := by
  refine (ev_aload rfl rfl).trans ?_
  refine (ev_getR rfl (by decide) am_K_83 (by decide) rfl am_R_83_0).trans ?_
  refine (ev_getR rfl (by decide) am_K_16 (by decide) rfl am_R_16_0).trans ?_
  refine (ev_iload rfl rfl).trans ?_
  refine (ev_aald rfl (by decide) (Or.inl am_K_17) (f := am_bd) (fun k hk => am_R17 hk)).trans (am_itn (fun g1 => ?_))
  refine (ev_astore (ls' := [.ref 83, .int x1, .int x2, .int x3, .ref (am_bd (x1.toNatClampNeg)), .null, .null, .null, .null, .null, .null, .null, .null]) rfl (Nat.le_of_ble_eq_true rfl) rfl).trans ?_
  refine (ev_aload rfl rfl).trans ?_
  refine (ev_getR rfl (by decide) am_K_83 (by decide) rfl am_R_83_0).trans ?_
  refine (ev_getR rfl (by decide) am_K_16 (by decide) rfl am_R_16_0).trans ?_
  refine (ev_iload rfl rfl).trans ?_
  refine (ev_aald rfl (by decide) (Or.inl am_K_17) (f := am_bd) (fun k hk => am_R17 hk)).trans (am_itn (fun g2 => ?_))
  refine (ev_astore (ls' := [.ref 83, .int x1, .int x2, .int x3, .ref (am_bd (x1.toNatClampNeg)), .ref (am_bd (x2.toNatClampNeg)), .null, .null, .null, .null, .null, .null, .null]) rfl (Nat.le_of_ble_eq_true rfl) rfl).trans ?_
  refine (ev_aload rfl rfl).trans ?_
  refine (ev_aload rfl rfl).trans ?_
  exact ev_invv (as := [.ref (am_bd (x2.toNatClampNeg))]) rfl (by have := am_bd_lt (by omega : (x1.toNatClampNeg) < 11); omega) (am_Kbd (by omega : (x1.toNatClampNeg) < 11)) rfl (by simp [Value.category])
theorem cl_65 (X : am_X) (I : Nat → Nat → Int32) (J : Nat → Nat → Int64) (x1 : Int32) (x2 : Int32) (x3 : Int32) : am_do X 65 [.ref 83, .int x1, .int x2, .int x3] (am_sh I J) = am_ev X amP_65 0 [.ref 83, .int x1, .int x2, .int x3, .null, .null, .null, .null, .null, .null, .null, .null, .null] [] (am_sh I J) := am_do_of rfl rfl rfl
set_option maxRecDepth 10000 in
theorem sg_65_15 (X : am_X) (I : Nat → Nat → Int32) (J : Nat → Nat → Int64) (x1 : Int32) (x2 : Int32) (x3 : Int32) (b4 : Nat) (b5 : Nat) (w6 : Value) (w7 : Value) (w8 : Value) (w9 : Value) (w10 : Value) (w11 : Value) (w12 : Value) (x13 : Int32) (hb4 : b4 < 11) (hb5 : b5 < 11) (hw6 : w6.category = 1) (hw7 : w7.category = 1) (hw8 : w8.category = 1) (hw9 : w9.category = 1) (hw10 : w10.category = 1) (hw11 : w11.category = 1) (hw12 : w12.category = 1) : am_ev X amP_65 15 [.ref 83, .int x1, .int x2, .int x3, .ref (am_bd b4), .ref (am_bd b5), w6, w7, w8, w9, w10, w11, w12] [.int x13] (am_sh I J) = am_ev X amP_65 30 [.ref 83, .int x1, .int x2, .int x3, .ref (am_bd b4), .ref (am_bd b5), .int x13, .int ((I 16 3) * (I 16 3)), .int (0 : Int32), .int (0 : Int32), .int (0 : Int32), w11, w12] [] (am_sh I J) := by
  refine (ev_istore (ls' := [.ref 83, .int x1, .int x2, .int x3, .ref (am_bd b4), .ref (am_bd b5), .int x13, w7, w8, w9, w10, w11, w12]) rfl (Nat.le_of_ble_eq_true rfl) rfl).trans ?_
  refine (ev_aload rfl rfl).trans ?_
  refine (ev_getR rfl (by decide) am_K_83 (by decide) rfl am_R_83_0).trans ?_
  refine (ev_getI rfl (by decide) am_K_16 (by decide) rfl).trans ?_
  refine (ev_aload rfl rfl).trans ?_
  refine (ev_getR rfl (by decide) am_K_83 (by decide) rfl am_R_83_0).trans ?_
  refine (ev_getI rfl (by decide) am_K_16 (by decide) rfl).trans ?_
  refine (ev_imul rfl).trans ?_
  refine (ev_istore (ls' := [.ref 83, .int x1, .int x2, .int x3, .ref (am_bd b4), .ref (am_bd b5), .int x13, .int ((I 16 3) * (I 16 3)), w8, w9, w10, w11, w12]) rfl (Nat.le_of_ble_eq_true rfl) rfl).trans ?_
  refine (ev_const0 (v := (0 : Int32)) rfl am_ci_0).trans ?_
  refine (ev_istore (ls' := [.ref 83, .int x1, .int x2, .int x3, .ref (am_bd b4), .ref (am_bd b5), .int x13, .int ((I 16 3) * (I 16 3)), .int (0 : Int32), w9, w10, w11, w12]) rfl (Nat.le_of_ble_eq_true rfl) rfl).trans ?_
  refine (ev_const0 (v := (0 : Int32)) rfl am_ci_0).trans ?_
  refine (ev_istore (ls' := [.ref 83, .int x1, .int x2, .int x3, .ref (am_bd b4), .ref (am_bd b5), .int x13, .int ((I 16 3) * (I 16 3)), .int (0 : Int32), .int (0 : Int32), w10, w11, w12]) rfl (Nat.le_of_ble_eq_true rfl) rfl).trans ?_
  refine (ev_const0 (v := (0 : Int32)) rfl am_ci_0).trans ?_
  refine (ev_istore (ls' := [.ref 83, .int x1, .int x2, .int x3, .ref (am_bd b4), .ref (am_bd b5), .int x13, .int ((I 16 3) * (I 16 3)), .int (0 : Int32), .int (0 : Int32), .int (0 : Int32), w11, w12]) rfl (Nat.le_of_ble_eq_true rfl) rfl).trans ?_
  rfl
set_option maxRecDepth 10000 in
theorem sg_65_30 (X : am_X) (I : Nat → Nat → Int32) (J : Nat → Nat → Int64) (x1 : Int32) (x2 : Int32) (x3 : Int32) (b4 : Nat) (b5 : Nat) (x6 : Int32) (x7 : Int32) (x8 : Int32) (x9 : Int32) (x10 : Int32) (w11 : Value) (w12 : Value) (hb4 : b4 < 11) (hb5 : b5 < 11) (hw11 : w11.category = 1) (hw12 : w12.category = 1) : am_ev X amP_65 30 [.ref 83, .int x1, .int x2, .int x3, .ref (am_bd b4), .ref (am_bd b5), .int x6, .int x7, .int x8, .int x9, .int x10, w11, w12] [] (am_sh I J) = (if x6 ≤ x10 then some (some (.int x8), am_sh I J) else (am_do X 30 [.ref (am_bd b4), .int x10] (am_sh I J)).bind (fun q => am_ev X amP_65 37 [.ref 83, .int x1, .int x2, .int x3, .ref (am_bd b4), .ref (am_bd b5), .int x6, .int x7, .int x8, .int x9, .int x10, w11, w12] (q.1.toList ++ [.ref (am_bd b4)]) q.2)) := by
  refine (ev_iload rfl rfl).trans ?_
  refine (ev_iload rfl rfl).trans ?_
  refine (ev_icmp3 rfl).trans (am_ite (fun c1 => ?_) (fun c1 => ?_))
  · refine (ev_iload rfl rfl).trans ?_
    exact ev_iret rfl
  · refine (ev_aload rfl rfl).trans ?_
    refine (ev_aload rfl rfl).trans ?_
    refine (ev_iload rfl rfl).trans ?_
    exact ev_invv (as := [.int x10]) rfl (by have := am_bd_lt hb4; omega) (am_Kbd hb4) rfl (by simp [Value.category])
set_option maxRecDepth 10000 in
theorem sg_65_37 (X : am_X) (I : Nat → Nat → Int32) (J : Nat → Nat → Int64) (x1 : Int32) (x2 : Int32) (x3 : Int32) (b4 : Nat) (b5 : Nat) (x6 : Int32) (x7 : Int32) (x8 : Int32) (x9 : Int32) (x10 : Int32) (w11 : Value) (w12 : Value) (b13 : Nat) (x14 : Int32) (hb4 : b4 < 11) (hb5 : b5 < 11) (hw11 : w11.category = 1) (hw12 : w12.category = 1) (hb13 : b13 < 11) : am_ev X amP_65 37 [.ref 83, .int x1, .int x2, .int x3, .ref (am_bd b4), .ref (am_bd b5), .int x6, .int x7, .int x8, .int x9, .int x10, w11, w12] [.int x14, .ref (am_bd b13)] (am_sh I J) = (am_do X 30 [.ref (am_bd b5), .int x10] (am_sh I J)).bind (fun q => am_ev X amP_65 41 [.ref 83, .int x1, .int x2, .int x3, .ref (am_bd b4), .ref (am_bd b5), .int x6, .int x7, .int x8, .int x9, .int x10, w11, w12] (q.1.toList ++ [.ref (am_bd b5), .int x14, .ref (am_bd b13)]) q.2) := by
  refine (ev_aload rfl rfl).trans ?_
  refine (ev_aload rfl rfl).trans ?_
  refine (ev_iload rfl rfl).trans ?_
  exact ev_invv (as := [.int x10]) rfl (by have := am_bd_lt hb5; omega) (am_Kbd hb5) rfl (by simp [Value.category])
set_option maxRecDepth 10000 in
theorem sg_65_41 (X : am_X) (I : Nat → Nat → Int32) (J : Nat → Nat → Int64) (x1 : Int32) (x2 : Int32) (x3 : Int32) (b4 : Nat) (b5 : Nat) (x6 : Int32) (x7 : Int32) (x8 : Int32) (x9 : Int32) (x10 : Int32) (w11 : Value) (w12 : Value) (b13 : Nat) (x14 : Int32) (b15 : Nat) (x16 : Int32) (hb4 : b4 < 11) (hb5 : b5 < 11) (hw11 : w11.category = 1) (hw12 : w12.category = 1) (hb13 : b13 < 11) (hb15 : b15 < 11) : am_ev X amP_65 41 [.ref 83, .int x1, .int x2, .int x3, .ref (am_bd b4), .ref (am_bd b5), .int x6, .int x7, .int x8, .int x9, .int x10, w11, w12] [.int x16, .ref (am_bd b15), .int x14, .ref (am_bd b13)] (am_sh I J) = (am_do X 35 [.ref (am_bd b13), .int x14, .ref (am_bd b15), .int x16] (am_sh I J)).bind (fun q => am_ev X amP_65 42 [.ref 83, .int x1, .int x2, .int x3, .ref (am_bd b4), .ref (am_bd b5), .int x6, .int x7, .int x8, .int x9, .int x10, w11, w12] (q.1.toList ++ []) q.2) := by
  exact ev_invv (as := [.int x16, .ref (am_bd b15), .int x14]) rfl (by have := am_bd_lt hb13; omega) (am_Kbd hb13) rfl (by simp [Value.category])
set_option maxRecDepth 10000 in
theorem sg_65_42 (X : am_X) (I : Nat → Nat → Int32) (J : Nat → Nat → Int64) (x1 : Int32) (x2 : Int32) (x3 : Int32) (b4 : Nat) (b5 : Nat) (x6 : Int32) (x7 : Int32) (x8 : Int32) (x9 : Int32) (x10 : Int32) (w11 : Value) (w12 : Value) (x13 : Int32) (hb4 : b4 < 11) (hb5 : b5 < 11) (hw11 : w11.category = 1) (hw12 : w12.category = 1) : am_ev X amP_65 42 [.ref 83, .int x1, .int x2, .int x3, .ref (am_bd b4), .ref (am_bd b5), .int x6, .int x7, .int x8, .int x9, .int x10, w11, w12] [.int x13] (am_sh I J) = (if x7 < x13 then am_ev X amP_65 30 [.ref 83, .int x1, .int x2, .int x3, .ref (am_bd b4), .ref (am_bd b5), .int x6, .int x7, .int (x8 + (0 : Int32)), .int (0 : Int32), .int (x10 + (1 : Int32)), .int x13, .int (0 : Int32)] [] (am_sh I J) else (if ¬ x9 = 0 then (if ¬ ((x8 + (0 : Int32)) - (1 : Int32)) = x3 then am_ev X amP_65 30 [.ref 83, .int x1, .int x2, .int x3, .ref (am_bd b4), .ref (am_bd b5), .int x6, .int x7, .int (x8 + (0 : Int32)), .int (1 : Int32), .int (x10 + (1 : Int32)), .int x13, .int (1 : Int32)] [] (am_sh I J) else (if ¬ x9 = 0 then (am_do X 66 [.ref 83, .int x10, .int x13, .int (0 : Int32)] (am_sh I J)).bind (fun q => am_ev X amP_65 76 [.ref 83, .int x1, .int x2, .int x3, .ref (am_bd b4), .ref (am_bd b5), .int x6, .int x7, .int (x8 + (0 : Int32)), .int x9, .int x10, .int x13, .int (1 : Int32)] (q.1.toList ++ []) q.2) else (am_do X 66 [.ref 83, .int x10, .int x13, .int (1 : Int32)] (am_sh I J)).bind (fun q => am_ev X amP_65 76 [.ref 83, .int x1, .int x2, .int x3, .ref (am_bd b4), .ref (am_bd b5), .int x6, .int x7, .int (x8 + (0 : Int32)), .int x9, .int x10, .int x13, .int (1 : Int32)] (q.1.toList ++ []) q.2))) else (if ¬ ((x8 + (1 : Int32)) - (1 : Int32)) = x3 then am_ev X amP_65 30 [.ref 83, .int x1, .int x2, .int x3, .ref (am_bd b4), .ref (am_bd b5), .int x6, .int x7, .int (x8 + (1 : Int32)), .int (1 : Int32), .int (x10 + (1 : Int32)), .int x13, .int (1 : Int32)] [] (am_sh I J) else (if ¬ x9 = 0 then (am_do X 66 [.ref 83, .int x10, .int x13, .int (0 : Int32)] (am_sh I J)).bind (fun q => am_ev X amP_65 76 [.ref 83, .int x1, .int x2, .int x3, .ref (am_bd b4), .ref (am_bd b5), .int x6, .int x7, .int (x8 + (1 : Int32)), .int x9, .int x10, .int x13, .int (1 : Int32)] (q.1.toList ++ []) q.2) else (am_do X 66 [.ref 83, .int x10, .int x13, .int (1 : Int32)] (am_sh I J)).bind (fun q => am_ev X amP_65 76 [.ref 83, .int x1, .int x2, .int x3, .ref (am_bd b4), .ref (am_bd b5), .int x6, .int x7, .int (x8 + (1 : Int32)), .int x9, .int x10, .int x13, .int (1 : Int32)] (q.1.toList ++ []) q.2))))) := by
  refine (ev_istore (ls' := [.ref 83, .int x1, .int x2, .int x3, .ref (am_bd b4), .ref (am_bd b5), .int x6, .int x7, .int x8, .int x9, .int x10, .int x13, w12]) rfl (Nat.le_of_ble_eq_true rfl) rfl).trans ?_
  refine (ev_iload rfl rfl).trans ?_
  refine (ev_iload rfl rfl).trans ?_
  refine (ev_icmp4 rfl).trans (am_ite (fun c1 => ?_) (fun c1 => ?_))
  · refine (ev_const0 (v := (0 : Int32)) rfl am_ci_0).trans ?_
    refine (ev_istore (ls' := [.ref 83, .int x1, .int x2, .int x3, .ref (am_bd b4), .ref (am_bd b5), .int x6, .int x7, .int x8, .int x9, .int x10, .int x13, .int (0 : Int32)]) rfl (Nat.le_of_ble_eq_true rfl) rfl).trans ?_
    refine (ev_iload rfl rfl).trans ?_
    refine (ev_iload rfl rfl).trans ?_
    refine ((ev_if0 rfl).trans (if_pos (by decide))).trans ?_
    refine (ev_const0 (v := (0 : Int32)) rfl am_ci_0).trans ?_
    refine (ev_iadd rfl).trans ?_
    refine (ev_istore (ls' := [.ref 83, .int x1, .int x2, .int x3, .ref (am_bd b4), .ref (am_bd b5), .int x6, .int x7, .int (x8 + (0 : Int32)), .int x9, .int x10, .int x13, .int (0 : Int32)]) rfl (Nat.le_of_ble_eq_true rfl) rfl).trans ?_
    refine (ev_iload rfl rfl).trans ?_
    refine ((ev_if0 rfl).trans (if_pos (by decide))).trans ?_
    refine (ev_iload rfl rfl).trans ?_
    refine (ev_istore (ls' := [.ref 83, .int x1, .int x2, .int x3, .ref (am_bd b4), .ref (am_bd b5), .int x6, .int x7, .int (x8 + (0 : Int32)), .int (0 : Int32), .int x10, .int x13, .int (0 : Int32)]) rfl (Nat.le_of_ble_eq_true rfl) rfl).trans ?_
    refine (ev_iincv (v := (1 : Int32)) (ls' := [.ref 83, .int x1, .int x2, .int x3, .ref (am_bd b4), .ref (am_bd b5), .int x6, .int x7, .int (x8 + (0 : Int32)), .int (0 : Int32), .int (x10 + (1 : Int32)), .int x13, .int (0 : Int32)]) rfl am_ci_1 rfl rfl).trans ?_
    refine (ev_goto rfl).trans ?_
    rfl
  · refine (ev_const0 (v := (1 : Int32)) rfl am_ci_1).trans ?_
    refine (ev_goto rfl).trans ?_
    refine (ev_istore (ls' := [.ref 83, .int x1, .int x2, .int x3, .ref (am_bd b4), .ref (am_bd b5), .int x6, .int x7, .int x8, .int x9, .int x10, .int x13, .int (1 : Int32)]) rfl (Nat.le_of_ble_eq_true rfl) rfl).trans ?_
    refine (ev_iload rfl rfl).trans ?_
    refine (ev_iload rfl rfl).trans ?_
    refine ((ev_if0 rfl).trans (if_neg (by decide))).trans ?_
    refine (ev_iload rfl rfl).trans ?_
    refine (ev_if1 rfl).trans (am_ite (fun c2 => ?_) (fun c2 => ?_))
    · refine (ev_const0 (v := (0 : Int32)) rfl am_ci_0).trans ?_
      refine (ev_iadd rfl).trans ?_
      refine (ev_istore (ls' := [.ref 83, .int x1, .int x2, .int x3, .ref (am_bd b4), .ref (am_bd b5), .int x6, .int x7, .int (x8 + (0 : Int32)), .int x9, .int x10, .int x13, .int (1 : Int32)]) rfl (Nat.le_of_ble_eq_true rfl) rfl).trans ?_
      refine (ev_iload rfl rfl).trans ?_
      refine ((ev_if0 rfl).trans (if_neg (by decide))).trans ?_
      refine (ev_iload rfl rfl).trans ?_
      refine (ev_const0 (v := (1 : Int32)) rfl am_ci_1).trans ?_
      refine (ev_isub rfl).trans ?_
      refine (ev_iload rfl rfl).trans ?_
      refine (ev_icmp1 rfl).trans (am_ite (fun c3 => ?_) (fun c3 => ?_))
      · refine (ev_iload rfl rfl).trans ?_
        refine (ev_istore (ls' := [.ref 83, .int x1, .int x2, .int x3, .ref (am_bd b4), .ref (am_bd b5), .int x6, .int x7, .int (x8 + (0 : Int32)), .int (1 : Int32), .int x10, .int x13, .int (1 : Int32)]) rfl (Nat.le_of_ble_eq_true rfl) rfl).trans ?_
        refine (ev_iincv (v := (1 : Int32)) (ls' := [.ref 83, .int x1, .int x2, .int x3, .ref (am_bd b4), .ref (am_bd b5), .int x6, .int x7, .int (x8 + (0 : Int32)), .int (1 : Int32), .int (x10 + (1 : Int32)), .int x13, .int (1 : Int32)]) rfl am_ci_1 rfl rfl).trans ?_
        refine (ev_goto rfl).trans ?_
        rfl
      · refine (ev_aload rfl rfl).trans ?_
        refine (ev_iload rfl rfl).trans ?_
        refine (ev_iload rfl rfl).trans ?_
        refine (ev_iload rfl rfl).trans ?_
        refine (ev_if1 rfl).trans (am_ite (fun c4 => ?_) (fun c4 => ?_))
        · refine (ev_const0 (v := (0 : Int32)) rfl am_ci_0).trans ?_
          exact ev_invv (as := [.int (0 : Int32), .int x13, .int x10]) rfl (by decide) am_K_83 rfl (by simp [Value.category])
        · refine (ev_const0 (v := (1 : Int32)) rfl am_ci_1).trans ?_
          refine (ev_goto rfl).trans ?_
          exact ev_invv (as := [.int (1 : Int32), .int x13, .int x10]) rfl (by decide) am_K_83 rfl (by simp [Value.category])
    · refine (ev_const0 (v := (1 : Int32)) rfl am_ci_1).trans ?_
      refine (ev_goto rfl).trans ?_
      refine (ev_iadd rfl).trans ?_
      refine (ev_istore (ls' := [.ref 83, .int x1, .int x2, .int x3, .ref (am_bd b4), .ref (am_bd b5), .int x6, .int x7, .int (x8 + (1 : Int32)), .int x9, .int x10, .int x13, .int (1 : Int32)]) rfl (Nat.le_of_ble_eq_true rfl) rfl).trans ?_
      refine (ev_iload rfl rfl).trans ?_
      refine ((ev_if0 rfl).trans (if_neg (by decide))).trans ?_
      refine (ev_iload rfl rfl).trans ?_
      refine (ev_const0 (v := (1 : Int32)) rfl am_ci_1).trans ?_
      refine (ev_isub rfl).trans ?_
      refine (ev_iload rfl rfl).trans ?_
      refine (ev_icmp1 rfl).trans (am_ite (fun c3 => ?_) (fun c3 => ?_))
      · refine (ev_iload rfl rfl).trans ?_
        refine (ev_istore (ls' := [.ref 83, .int x1, .int x2, .int x3, .ref (am_bd b4), .ref (am_bd b5), .int x6, .int x7, .int (x8 + (1 : Int32)), .int (1 : Int32), .int x10, .int x13, .int (1 : Int32)]) rfl (Nat.le_of_ble_eq_true rfl) rfl).trans ?_
        refine (ev_iincv (v := (1 : Int32)) (ls' := [.ref 83, .int x1, .int x2, .int x3, .ref (am_bd b4), .ref (am_bd b5), .int x6, .int x7, .int (x8 + (1 : Int32)), .int (1 : Int32), .int (x10 + (1 : Int32)), .int x13, .int (1 : Int32)]) rfl am_ci_1 rfl rfl).trans ?_
        refine (ev_goto rfl).trans ?_
        rfl
      · refine (ev_aload rfl rfl).trans ?_
        refine (ev_iload rfl rfl).trans ?_
        refine (ev_iload rfl rfl).trans ?_
        refine (ev_iload rfl rfl).trans ?_
        refine (ev_if1 rfl).trans (am_ite (fun c4 => ?_) (fun c4 => ?_))
        · refine (ev_const0 (v := (0 : Int32)) rfl am_ci_0).trans ?_
          exact ev_invv (as := [.int (0 : Int32), .int x13, .int x10]) rfl (by decide) am_K_83 rfl (by simp [Value.category])
        · refine (ev_const0 (v := (1 : Int32)) rfl am_ci_1).trans ?_
          refine (ev_goto rfl).trans ?_
          exact ev_invv (as := [.int (1 : Int32), .int x13, .int x10]) rfl (by decide) am_K_83 rfl (by simp [Value.category])
set_option maxRecDepth 10000 in
theorem sg_65_76 (X : am_X) (I : Nat → Nat → Int32) (J : Nat → Nat → Int64) (x1 : Int32) (x2 : Int32) (x3 : Int32) (b4 : Nat) (b5 : Nat) (x6 : Int32) (x7 : Int32) (x8 : Int32) (x9 : Int32) (x10 : Int32) (x11 : Int32) (x12 : Int32) (hb4 : b4 < 11) (hb5 : b5 < 11) : am_ev X amP_65 76 [.ref 83, .int x1, .int x2, .int x3, .ref (am_bd b4), .ref (am_bd b5), .int x6, .int x7, .int x8, .int x9, .int x10, .int x11, .int x12] [] (am_sh I J) = am_ev X amP_65 30 [.ref 83, .int x1, .int x2, .int x3, .ref (am_bd b4), .ref (am_bd b5), .int x6, .int x7, .int x8, .int x12, .int (x10 + (1 : Int32)), .int x11, .int x12] [] (am_sh I J) := by
  refine (ev_iload rfl rfl).trans ?_
  refine (ev_istore (ls' := [.ref 83, .int x1, .int x2, .int x3, .ref (am_bd b4), .ref (am_bd b5), .int x6, .int x7, .int x8, .int x12, .int x10, .int x11, .int x12]) rfl (Nat.le_of_ble_eq_true rfl) rfl).trans ?_
  refine (ev_iincv (v := (1 : Int32)) (ls' := [.ref 83, .int x1, .int x2, .int x3, .ref (am_bd b4), .ref (am_bd b5), .int x6, .int x7, .int x8, .int x12, .int (x10 + (1 : Int32)), .int x11, .int x12]) rfl am_ci_1 rfl rfl).trans ?_
  refine (ev_goto rfl).trans ?_
  rfl
-- 66 X3_notePass
set_option maxRecDepth 10000 in
theorem sg_66_e0 (X : am_X) (I : Nat → Nat → Int32) (J : Nat → Nat → Int64) (x1 : Int32) (x2 : Int32) (x3 : Int32) : am_ev X amP_66 0 [.ref 83, .int x1, .int x2, .int x3] [] (am_sh I J) = (if x3 = 0 then (if ¬ x3 = 0 then some (none, am_sh (am_up (am_up (am_up I 87 1 ((I 87 1) + (1 : Int32))) 87 2 x1) 87 3 x2) J) else (if ((am_up I 87 1 ((I 87 1) + (1 : Int32))) 87 3) ≤ x2 then some (none, am_sh (am_up I 87 1 ((I 87 1) + (1 : Int32))) J) else some (none, am_sh (am_up (am_up (am_up I 87 1 ((I 87 1) + (1 : Int32))) 87 2 x1) 87 3 x2) J))) else (if ¬ x3 = 0 then some (none, am_sh (am_up (am_up (am_up (am_up (am_up I 87 0 x1) 87 1 (0 : Int32)) 87 1 (((am_up (am_up I 87 0 x1) 87 1 (0 : Int32)) 87 1) + (1 : Int32))) 87 2 x1) 87 3 x2) J) else (if ((am_up (am_up (am_up I 87 0 x1) 87 1 (0 : Int32)) 87 1 (((am_up (am_up I 87 0 x1) 87 1 (0 : Int32)) 87 1) + (1 : Int32))) 87 3) ≤ x2 then some (none, am_sh (am_up (am_up (am_up I 87 0 x1) 87 1 (0 : Int32)) 87 1 (((am_up (am_up I 87 0 x1) 87 1 (0 : Int32)) 87 1) + (1 : Int32))) J) else some (none, am_sh (am_up (am_up (am_up (am_up (am_up I 87 0 x1) 87 1 (0 : Int32)) 87 1 (((am_up (am_up I 87 0 x1) 87 1 (0 : Int32)) 87 1) + (1 : Int32))) 87 2 x1) 87 3 x2) J)))) := by
  refine (ev_iload rfl rfl).trans ?_
  refine (ev_if0 rfl).trans (am_ite (fun c1 => ?_) (fun c1 => ?_))
  · refine (ev_aload rfl rfl).trans ?_
    refine (ev_getR rfl (by decide) am_K_83 (by decide) rfl am_R_83_4).trans ?_
    refine (ev_const0 (v := (1 : Int32)) rfl am_ci_1).trans ?_
    refine (ev_dup2 rfl).trans ?_
    refine (ev_ialdC (jn := 1) rfl (by decide) am_K_87 (by decide) (by decide)).trans ?_
    refine (ev_const0 (v := (1 : Int32)) rfl am_ci_1).trans ?_
    refine (ev_iadd rfl).trans ?_
    refine (ev_iastC (jn := 1) rfl (by decide) am_K_87 (by decide) (by decide)).trans ?_
    refine (ev_iload rfl rfl).trans ?_
    refine (ev_if1 rfl).trans (am_ite (fun c2 => ?_) (fun c2 => ?_))
    · refine (ev_aload rfl rfl).trans ?_
      refine (ev_getR rfl (by decide) am_K_83 (by decide) rfl am_R_83_4).trans ?_
      refine (ev_const0 (v := (2 : Int32)) rfl am_ci_2).trans ?_
      refine (ev_iload rfl rfl).trans ?_
      refine (ev_iastC (jn := 2) rfl (by decide) am_K_87 (by decide) (by decide)).trans ?_
      refine (ev_aload rfl rfl).trans ?_
      refine (ev_getR rfl (by decide) am_K_83 (by decide) rfl am_R_83_4).trans ?_
      refine (ev_const0 (v := (3 : Int32)) rfl am_ci_3).trans ?_
      refine (ev_iload rfl rfl).trans ?_
      refine (ev_iastC (jn := 3) rfl (by decide) am_K_87 (by decide) (by decide)).trans ?_
      exact ev_vret rfl
    · refine (ev_iload rfl rfl).trans ?_
      refine (ev_aload rfl rfl).trans ?_
      refine (ev_getR rfl (by decide) am_K_83 (by decide) rfl am_R_83_4).trans ?_
      refine (ev_const0 (v := (3 : Int32)) rfl am_ci_3).trans ?_
      refine (ev_ialdC (jn := 3) rfl (by decide) am_K_87 (by decide) (by decide)).trans ?_
      refine (ev_icmp3 rfl).trans (am_ite (fun c3 => ?_) (fun c3 => ?_))
      · exact ev_vret rfl
      · refine (ev_aload rfl rfl).trans ?_
        refine (ev_getR rfl (by decide) am_K_83 (by decide) rfl am_R_83_4).trans ?_
        refine (ev_const0 (v := (2 : Int32)) rfl am_ci_2).trans ?_
        refine (ev_iload rfl rfl).trans ?_
        refine (ev_iastC (jn := 2) rfl (by decide) am_K_87 (by decide) (by decide)).trans ?_
        refine (ev_aload rfl rfl).trans ?_
        refine (ev_getR rfl (by decide) am_K_83 (by decide) rfl am_R_83_4).trans ?_
        refine (ev_const0 (v := (3 : Int32)) rfl am_ci_3).trans ?_
        refine (ev_iload rfl rfl).trans ?_
        refine (ev_iastC (jn := 3) rfl (by decide) am_K_87 (by decide) (by decide)).trans ?_
        exact ev_vret rfl
  · refine (ev_aload rfl rfl).trans ?_
    refine (ev_getR rfl (by decide) am_K_83 (by decide) rfl am_R_83_4).trans ?_
    refine (ev_const0 (v := (0 : Int32)) rfl am_ci_0).trans ?_
    refine (ev_iload rfl rfl).trans ?_
    refine (ev_iastC (jn := 0) rfl (by decide) am_K_87 (by decide) (by decide)).trans ?_
    refine (ev_aload rfl rfl).trans ?_
    refine (ev_getR rfl (by decide) am_K_83 (by decide) rfl am_R_83_4).trans ?_
    refine (ev_const0 (v := (1 : Int32)) rfl am_ci_1).trans ?_
    refine (ev_const0 (v := (0 : Int32)) rfl am_ci_0).trans ?_
    refine (ev_iastC (jn := 1) rfl (by decide) am_K_87 (by decide) (by decide)).trans ?_
    refine (ev_aload rfl rfl).trans ?_
    refine (ev_getR rfl (by decide) am_K_83 (by decide) rfl am_R_83_4).trans ?_
    refine (ev_const0 (v := (1 : Int32)) rfl am_ci_1).trans ?_
    refine (ev_dup2 rfl).trans ?_
    refine (ev_ialdC (jn := 1) rfl (by decide) am_K_87 (by decide) (by decide)).trans ?_
    refine (ev_const0 (v := (1 : Int32)) rfl am_ci_1).trans ?_
    refine (ev_iadd rfl).trans ?_
    refine (ev_iastC (jn := 1) rfl (by decide) am_K_87 (by decide) (by decide)).trans ?_
    refine (ev_iload rfl rfl).trans ?_
    refine (ev_if1 rfl).trans (am_ite (fun c2 => ?_) (fun c2 => ?_))
    · refine (ev_aload rfl rfl).trans ?_
      refine (ev_getR rfl (by decide) am_K_83 (by decide) rfl am_R_83_4).trans ?_
      refine (ev_const0 (v := (2 : Int32)) rfl am_ci_2).trans ?_
      refine (ev_iload rfl rfl).trans ?_
      refine (ev_iastC (jn := 2) rfl (by decide) am_K_87 (by decide) (by decide)).trans ?_
      refine (ev_aload rfl rfl).trans ?_
      refine (ev_getR rfl (by decide) am_K_83 (by decide) rfl am_R_83_4).trans ?_
      refine (ev_const0 (v := (3 : Int32)) rfl am_ci_3).trans ?_
      refine (ev_iload rfl rfl).trans ?_
      refine (ev_iastC (jn := 3) rfl (by decide) am_K_87 (by decide) (by decide)).trans ?_
      exact ev_vret rfl
    · refine (ev_iload rfl rfl).trans ?_
      refine (ev_aload rfl rfl).trans ?_
      refine (ev_getR rfl (by decide) am_K_83 (by decide) rfl am_R_83_4).trans ?_
      refine (ev_const0 (v := (3 : Int32)) rfl am_ci_3).trans ?_
      refine (ev_ialdC (jn := 3) rfl (by decide) am_K_87 (by decide) (by decide)).trans ?_
      refine (ev_icmp3 rfl).trans (am_ite (fun c3 => ?_) (fun c3 => ?_))
      · exact ev_vret rfl
      · refine (ev_aload rfl rfl).trans ?_
        refine (ev_getR rfl (by decide) am_K_83 (by decide) rfl am_R_83_4).trans ?_
        refine (ev_const0 (v := (2 : Int32)) rfl am_ci_2).trans ?_
        refine (ev_iload rfl rfl).trans ?_
        refine (ev_iastC (jn := 2) rfl (by decide) am_K_87 (by decide) (by decide)).trans ?_
        refine (ev_aload rfl rfl).trans ?_
        refine (ev_getR rfl (by decide) am_K_83 (by decide) rfl am_R_83_4).trans ?_
        refine (ev_const0 (v := (3 : Int32)) rfl am_ci_3).trans ?_
        refine (ev_iload rfl rfl).trans ?_
        refine (ev_iastC (jn := 3) rfl (by decide) am_K_87 (by decide) (by decide)).trans ?_
        exact ev_vret rfl
theorem cl_66 (X : am_X) (I : Nat → Nat → Int32) (J : Nat → Nat → Int64) (x1 : Int32) (x2 : Int32) (x3 : Int32) : am_do X 66 [.ref 83, .int x1, .int x2, .int x3] (am_sh I J) = am_ev X amP_66 0 [.ref 83, .int x1, .int x2, .int x3] [] (am_sh I J) := am_do_of rfl rfl rfl
-- 67 X3_countNearRows
set_option maxRecDepth 10000 in
theorem sg_67_e0 (X : am_X) (I : Nat → Nat → Int32) (J : Nat → Nat → Int64) (x1 : Int32) (x2 : Int32) (x3 : Int32) : am_ev X amP_67 0 [.ref 83, .int x1, .int x2, .int x3, .null, .null] [] (am_sh I J) = (if x1 < 0 ∨ 10 ≤ x1.toNatClampNeg then none else (if x2 < 0 ∨ 10 ≤ x2.toNatClampNeg then none else (am_do X 38 [.ref (am_bd (x1.toNatClampNeg)), .ref (am_bd (x2.toNatClampNeg)), .int (I 16 3)] (am_sh I J)).bind (fun q => am_ev X amP_67 18 [.ref 83, .int x1, .int x2, .int x3, .ref (am_bd (x1.toNatClampNeg)), .ref (am_bd (x2.toNatClampNeg))] (q.1.toList ++ []) q.2))) := by
  refine (ev_aload rfl rfl).trans ?_
  refine (ev_getR rfl (by decide) am_K_83 (by decide) rfl am_R_83_0).trans ?_
  refine (ev_getR rfl (by decide) am_K_16 (by decide) rfl am_R_16_0).trans ?_
  refine (ev_iload rfl rfl).trans ?_
  refine (ev_aald rfl (by decide) (Or.inl am_K_17) (f := am_bd) (fun k hk => am_R17 hk)).trans (am_itn (fun g1 => ?_))
  refine (ev_astore (ls' := [.ref 83, .int x1, .int x2, .int x3, .ref (am_bd (x1.toNatClampNeg)), .null]) rfl (Nat.le_of_ble_eq_true rfl) rfl).trans ?_
  refine (ev_aload rfl rfl).trans ?_
  refine (ev_getR rfl (by decide) am_K_83 (by decide) rfl am_R_83_0).trans ?_
  refine (ev_getR rfl (by decide) am_K_16 (by decide) rfl am_R_16_0).trans ?_
  refine (ev_iload rfl rfl).trans ?_
  refine (ev_aald rfl (by decide) (Or.inl am_K_17) (f := am_bd) (fun k hk => am_R17 hk)).trans (am_itn (fun g2 => ?_))
  refine (ev_astore (ls' := [.ref 83, .int x1, .int x2, .int x3, .ref (am_bd (x1.toNatClampNeg)), .ref (am_bd (x2.toNatClampNeg))]) rfl (Nat.le_of_ble_eq_true rfl) rfl).trans ?_
  refine (ev_aload rfl rfl).trans ?_
  refine (ev_aload rfl rfl).trans ?_
  refine (ev_aload rfl rfl).trans ?_
  refine (ev_getR rfl (by decide) am_K_83 (by decide) rfl am_R_83_0).trans ?_
  refine (ev_getI rfl (by decide) am_K_16 (by decide) rfl).trans ?_
  exact ev_invv (as := [.int (I 16 3), .ref (am_bd (x2.toNatClampNeg))]) rfl (by have := am_bd_lt (by omega : (x1.toNatClampNeg) < 11); omega) (am_Kbd (by omega : (x1.toNatClampNeg) < 11)) rfl (by simp [Value.category])
theorem cl_67 (X : am_X) (I : Nat → Nat → Int32) (J : Nat → Nat → Int64) (x1 : Int32) (x2 : Int32) (x3 : Int32) : am_do X 67 [.ref 83, .int x1, .int x2, .int x3] (am_sh I J) = am_ev X amP_67 0 [.ref 83, .int x1, .int x2, .int x3, .null, .null] [] (am_sh I J) := am_do_of rfl rfl rfl
set_option maxRecDepth 10000 in
theorem sg_67_18 (X : am_X) (I : Nat → Nat → Int32) (J : Nat → Nat → Int64) (x1 : Int32) (x2 : Int32) (x3 : Int32) (b4 : Nat) (b5 : Nat) (x6 : Int32) (hb4 : b4 < 11) (hb5 : b5 < 11) : am_ev X amP_67 18 [.ref 83, .int x1, .int x2, .int x3, .ref (am_bd b4), .ref (am_bd b5)] [.int x6] (am_sh I J) = (if x6 = 0 then (am_do X 70 [.ref 83, .ref (am_bd b4), .ref (am_bd b5)] (am_sh I J)).bind (fun q => am_ev X amP_67 28 [.ref 83, .int x1, .int x2, .int x3, .ref (am_bd b4), .ref (am_bd b5)] (q.1.toList ++ [.ref (am_bd b5), .ref (am_bd b4), .ref 83]) q.2) else some (some (.int (0 : Int32)), am_sh I J)) := by
  refine (ev_if0 rfl).trans (am_ite (fun c1 => ?_) (fun c1 => ?_))
  · refine (ev_aload rfl rfl).trans ?_
    refine (ev_aload rfl rfl).trans ?_
    refine (ev_aload rfl rfl).trans ?_
    refine (ev_aload rfl rfl).trans ?_
    refine (ev_aload rfl rfl).trans ?_
    refine (ev_aload rfl rfl).trans ?_
    exact ev_invv (as := [.ref (am_bd b5), .ref (am_bd b4)]) rfl (by decide) am_K_83 rfl (by simp [Value.category])
  · refine (ev_const0 (v := (0 : Int32)) rfl am_ci_0).trans ?_
    refine (ev_goto rfl).trans ?_
    exact ev_iret rfl
set_option maxRecDepth 10000 in
theorem sg_67_28 (X : am_X) (I : Nat → Nat → Int32) (J : Nat → Nat → Int64) (x1 : Int32) (x2 : Int32) (x3 : Int32) (b4 : Nat) (b5 : Nat) (b6 : Nat) (b7 : Nat) (x8 : Int32) (hb4 : b4 < 11) (hb5 : b5 < 11) (hb6 : b6 < 11) (hb7 : b7 < 11) : am_ev X amP_67 28 [.ref 83, .int x1, .int x2, .int x3, .ref (am_bd b4), .ref (am_bd b5)] [.int x8, .ref (am_bd b7), .ref (am_bd b6), .ref 83] (am_sh I J) = (am_do X 69 [.ref 83, .ref (am_bd b6), .ref (am_bd b7), .int x8, .int x3] (am_sh I J)).bind (fun q => am_ev X amP_67 30 [.ref 83, .int x1, .int x2, .int x3, .ref (am_bd b4), .ref (am_bd b5)] (q.1.toList ++ []) q.2) := by
  refine (ev_iload rfl rfl).trans ?_
  exact ev_invv (as := [.int x3, .int x8, .ref (am_bd b7), .ref (am_bd b6)]) rfl (by decide) am_K_83 rfl (by simp [Value.category])
set_option maxRecDepth 10000 in
theorem sg_67_30 (X : am_X) (I : Nat → Nat → Int32) (J : Nat → Nat → Int64) (x1 : Int32) (x2 : Int32) (x3 : Int32) (b4 : Nat) (b5 : Nat) (x6 : Int32) (hb4 : b4 < 11) (hb5 : b5 < 11) : am_ev X amP_67 30 [.ref 83, .int x1, .int x2, .int x3, .ref (am_bd b4), .ref (am_bd b5)] [.int x6] (am_sh I J) = some (some (.int x6), am_sh I J) := by
  exact ev_iret rfl
-- 68 X3_leastUnsureness
set_option maxRecDepth 10000 in
theorem sg_68_e0 (X : am_X) (I : Nat → Nat → Int32) (J : Nat → Nat → Int64) (x1 : Int32) (x2 : Int32) : am_ev X amP_68 0 [.ref 83, .int x1, .int x2, .null, .null, .null, .null] [] (am_sh I J) = (if x1 < 0 ∨ 10 ≤ x1.toNatClampNeg then none else (if x2 < 0 ∨ 10 ≤ x2.toNatClampNeg then none else (am_do X 70 [.ref 83, .ref (am_bd (x1.toNatClampNeg)), .ref (am_bd (x2.toNatClampNeg))] (am_sh I J)).bind (fun q => am_ev X amP_68 16 [.ref 83, .int x1, .int x2, .ref (am_bd (x1.toNatClampNeg)), .ref (am_bd (x2.toNatClampNeg)), .null, .null] (q.1.toList ++ []) q.2))) := by
  refine (ev_aload rfl rfl).trans ?_
  refine (ev_getR rfl (by decide) am_K_83 (by decide) rfl am_R_83_0).trans ?_
  refine (ev_getR rfl (by decide) am_K_16 (by decide) rfl am_R_16_0).trans ?_
  refine (ev_iload rfl rfl).trans ?_
  refine (ev_aald rfl (by decide) (Or.inl am_K_17) (f := am_bd) (fun k hk => am_R17 hk)).trans (am_itn (fun g1 => ?_))
  refine (ev_astore (ls' := [.ref 83, .int x1, .int x2, .ref (am_bd (x1.toNatClampNeg)), .null, .null, .null]) rfl (Nat.le_of_ble_eq_true rfl) rfl).trans ?_
  refine (ev_aload rfl rfl).trans ?_
  refine (ev_getR rfl (by decide) am_K_83 (by decide) rfl am_R_83_0).trans ?_
  refine (ev_getR rfl (by decide) am_K_16 (by decide) rfl am_R_16_0).trans ?_
  refine (ev_iload rfl rfl).trans ?_
  refine (ev_aald rfl (by decide) (Or.inl am_K_17) (f := am_bd) (fun k hk => am_R17 hk)).trans (am_itn (fun g2 => ?_))
  refine (ev_astore (ls' := [.ref 83, .int x1, .int x2, .ref (am_bd (x1.toNatClampNeg)), .ref (am_bd (x2.toNatClampNeg)), .null, .null]) rfl (Nat.le_of_ble_eq_true rfl) rfl).trans ?_
  refine (ev_aload rfl rfl).trans ?_
  refine (ev_aload rfl rfl).trans ?_
  refine (ev_aload rfl rfl).trans ?_
  exact ev_invv (as := [.ref (am_bd (x2.toNatClampNeg)), .ref (am_bd (x1.toNatClampNeg))]) rfl (by decide) am_K_83 rfl (by simp [Value.category])
theorem cl_68 (X : am_X) (I : Nat → Nat → Int32) (J : Nat → Nat → Int64) (x1 : Int32) (x2 : Int32) : am_do X 68 [.ref 83, .int x1, .int x2] (am_sh I J) = am_ev X amP_68 0 [.ref 83, .int x1, .int x2, .null, .null, .null, .null] [] (am_sh I J) := am_do_of rfl rfl rfl
set_option maxRecDepth 10000 in
theorem sg_68_16 (X : am_X) (I : Nat → Nat → Int32) (J : Nat → Nat → Int64) (x1 : Int32) (x2 : Int32) (b3 : Nat) (b4 : Nat) (w5 : Value) (w6 : Value) (x7 : Int32) (hb3 : b3 < 11) (hb4 : b4 < 11) (hw5 : w5.category = 1) (hw6 : w6.category = 1) : am_ev X amP_68 16 [.ref 83, .int x1, .int x2, .ref (am_bd b3), .ref (am_bd b4), w5, w6] [.int x7] (am_sh I J) = am_ev X amP_68 19 [.ref 83, .int x1, .int x2, .ref (am_bd b3), .ref (am_bd b4), .int x7, .int (0 : Int32)] [] (am_sh I J) := by
  refine (ev_istore (ls' := [.ref 83, .int x1, .int x2, .ref (am_bd b3), .ref (am_bd b4), .int x7, w6]) rfl (Nat.le_of_ble_eq_true rfl) rfl).trans ?_
  refine (ev_const0 (v := (0 : Int32)) rfl am_ci_0).trans ?_
  refine (ev_istore (ls' := [.ref 83, .int x1, .int x2, .ref (am_bd b3), .ref (am_bd b4), .int x7, .int (0 : Int32)]) rfl (Nat.le_of_ble_eq_true rfl) rfl).trans ?_
  rfl
set_option maxRecDepth 10000 in
theorem sg_68_19 (X : am_X) (I : Nat → Nat → Int32) (J : Nat → Nat → Int64) (x1 : Int32) (x2 : Int32) (b3 : Nat) (b4 : Nat) (x5 : Int32) (x6 : Int32) (hb3 : b3 < 11) (hb4 : b4 < 11) : am_ev X amP_68 19 [.ref 83, .int x1, .int x2, .ref (am_bd b3), .ref (am_bd b4), .int x5, .int x6] [] (am_sh I J) = (if (5 : Int32) < x6 then some (some (.int (-1 : Int32)), am_sh I J) else (am_do X 69 [.ref 83, .ref (am_bd b3), .ref (am_bd b4), .int x5, .int x6] (am_sh I J)).bind (fun q => am_ev X amP_68 28 [.ref 83, .int x1, .int x2, .ref (am_bd b3), .ref (am_bd b4), .int x5, .int x6] (q.1.toList ++ []) q.2)) := by
  refine (ev_iload rfl rfl).trans ?_
  refine (ev_const0 (v := (5 : Int32)) rfl am_ci_5).trans ?_
  refine (ev_icmp4 rfl).trans (am_ite (fun c1 => ?_) (fun c1 => ?_))
  · refine (ev_const0 (v := (-1 : Int32)) rfl am_ci_m1).trans ?_
    exact ev_iret rfl
  · refine (ev_aload rfl rfl).trans ?_
    refine (ev_aload rfl rfl).trans ?_
    refine (ev_aload rfl rfl).trans ?_
    refine (ev_iload rfl rfl).trans ?_
    refine (ev_iload rfl rfl).trans ?_
    exact ev_invv (as := [.int x6, .int x5, .ref (am_bd b4), .ref (am_bd b3)]) rfl (by decide) am_K_83 rfl (by simp [Value.category])
set_option maxRecDepth 10000 in
theorem sg_68_28 (X : am_X) (I : Nat → Nat → Int32) (J : Nat → Nat → Int64) (x1 : Int32) (x2 : Int32) (b3 : Nat) (b4 : Nat) (x5 : Int32) (x6 : Int32) (x7 : Int32) (hb3 : b3 < 11) (hb4 : b4 < 11) : am_ev X amP_68 28 [.ref 83, .int x1, .int x2, .ref (am_bd b3), .ref (am_bd b4), .int x5, .int x6] [.int x7] (am_sh I J) = (if x7 ≤ 0 then am_ev X amP_68 19 [.ref 83, .int x1, .int x2, .ref (am_bd b3), .ref (am_bd b4), .int x5, .int (x6 + (1 : Int32))] [] (am_sh I J) else some (some (.int x6), am_sh I J)) := by
  refine (ev_if5 rfl).trans (am_ite (fun c1 => ?_) (fun c1 => ?_))
  · refine (ev_iincv (v := (1 : Int32)) (ls' := [.ref 83, .int x1, .int x2, .ref (am_bd b3), .ref (am_bd b4), .int x5, .int (x6 + (1 : Int32))]) rfl am_ci_1 rfl rfl).trans ?_
    refine (ev_goto rfl).trans ?_
    rfl
  · refine (ev_iload rfl rfl).trans ?_
    exact ev_iret rfl
-- 69 X3_countRows
set_option maxRecDepth 10000 in
theorem sg_69_e0 (X : am_X) (I : Nat → Nat → Int32) (J : Nat → Nat → Int64) (b1 : Nat) (b2 : Nat) (x3 : Int32) (x4 : Int32) (hb1 : b1 < 11) (hb2 : b2 < 11) : am_ev X amP_69 0 [.ref 83, .ref (am_bd b1), .ref (am_bd b2), .int x3, .int x4, .null, .null, .null] [] (am_sh I J) = am_ev X amP_69 16 [.ref 83, .ref (am_bd b1), .ref (am_bd b2), .int x3, .int x4, .int ((I (am_bd b1 + 1) 3) - (I (am_bd b2 + 1) 3)), .int (0 : Int32), .int ((-2 : Int32) * x4)] [] (am_sh I J) := by
  refine (ev_aload rfl rfl).trans ?_
  refine (ev_getR rfl (by have := am_bd_lt hb1; omega) (am_Kbd hb1) (by decide) rfl (am_Rb2 hb1)).trans ?_
  refine (ev_const0 (v := (3 : Int32)) rfl am_ci_3).trans ?_
  refine (ev_ialdC (jn := 3) rfl (by have := am_bd_lt hb1; omega) (am_Kbn hb1) (by decide) (by decide)).trans ?_
  refine (ev_aload rfl rfl).trans ?_
  refine (ev_getR rfl (by have := am_bd_lt hb2; omega) (am_Kbd hb2) (by decide) rfl (am_Rb2 hb2)).trans ?_
  refine (ev_const0 (v := (3 : Int32)) rfl am_ci_3).trans ?_
  refine (ev_ialdC (jn := 3) rfl (by have := am_bd_lt hb2; omega) (am_Kbn hb2) (by decide) (by decide)).trans ?_
  refine (ev_isub rfl).trans ?_
  refine (ev_istore (ls' := [.ref 83, .ref (am_bd b1), .ref (am_bd b2), .int x3, .int x4, .int ((I (am_bd b1 + 1) 3) - (I (am_bd b2 + 1) 3)), .null, .null]) rfl (Nat.le_of_ble_eq_true rfl) rfl).trans ?_
  refine (ev_const0 (v := (0 : Int32)) rfl am_ci_0).trans ?_
  refine (ev_istore (ls' := [.ref 83, .ref (am_bd b1), .ref (am_bd b2), .int x3, .int x4, .int ((I (am_bd b1 + 1) 3) - (I (am_bd b2 + 1) 3)), .int (0 : Int32), .null]) rfl (Nat.le_of_ble_eq_true rfl) rfl).trans ?_
  refine (ev_const1 (v := (-2 : Int32)) rfl am_ci_m2).trans ?_
  refine (ev_iload rfl rfl).trans ?_
  refine (ev_imul rfl).trans ?_
  refine (ev_istore (ls' := [.ref 83, .ref (am_bd b1), .ref (am_bd b2), .int x3, .int x4, .int ((I (am_bd b1 + 1) 3) - (I (am_bd b2 + 1) 3)), .int (0 : Int32), .int ((-2 : Int32) * x4)]) rfl (Nat.le_of_ble_eq_true rfl) rfl).trans ?_
  rfl
theorem cl_69 (X : am_X) (I : Nat → Nat → Int32) (J : Nat → Nat → Int64) (b1 : Nat) (b2 : Nat) (x3 : Int32) (x4 : Int32) : am_do X 69 [.ref 83, .ref (am_bd b1), .ref (am_bd b2), .int x3, .int x4] (am_sh I J) = am_ev X amP_69 0 [.ref 83, .ref (am_bd b1), .ref (am_bd b2), .int x3, .int x4, .null, .null, .null] [] (am_sh I J) := am_do_of rfl rfl rfl
set_option maxRecDepth 10000 in
theorem sg_69_16 (X : am_X) (I : Nat → Nat → Int32) (J : Nat → Nat → Int64) (b1 : Nat) (b2 : Nat) (x3 : Int32) (x4 : Int32) (x5 : Int32) (x6 : Int32) (x7 : Int32) (hb1 : b1 < 11) (hb2 : b2 < 11) : am_ev X amP_69 16 [.ref 83, .ref (am_bd b1), .ref (am_bd b2), .int x3, .int x4, .int x5, .int x6, .int x7] [] (am_sh I J) = (if ((2 : Int32) * x4) < x7 then some (some (.int x6), am_sh I J) else (am_do X 350 [.int (x5 + x7), .int x3] (am_sh I J)).bind (fun q => am_ev X amP_69 28 [.ref 83, .ref (am_bd b1), .ref (am_bd b2), .int x3, .int x4, .int x5, .int x6, .int x7] (q.1.toList ++ [.ref 86]) q.2)) := by
  refine (ev_iload rfl rfl).trans ?_
  refine (ev_const0 (v := (2 : Int32)) rfl am_ci_2).trans ?_
  refine (ev_iload rfl rfl).trans ?_
  refine (ev_imul rfl).trans ?_
  refine (ev_icmp4 rfl).trans (am_ite (fun c1 => ?_) (fun c1 => ?_))
  · refine (ev_iload rfl rfl).trans ?_
    exact ev_iret rfl
  · refine (ev_aload rfl rfl).trans ?_
    refine (ev_getR rfl (by decide) am_K_83 (by decide) rfl am_R_83_3).trans ?_
    refine (ev_iload rfl rfl).trans ?_
    refine (ev_iload rfl rfl).trans ?_
    refine (ev_iadd rfl).trans ?_
    refine (ev_iload rfl rfl).trans ?_
    exact ev_invs (as := [.int x3, .int (x5 + x7)]) rfl rfl (by simp [Value.category])
set_option maxRecDepth 10000 in
theorem sg_69_28 (X : am_X) (I : Nat → Nat → Int32) (J : Nat → Nat → Int64) (b1 : Nat) (b2 : Nat) (x3 : Int32) (x4 : Int32) (x5 : Int32) (x6 : Int32) (x7 : Int32) (x8 : Int32) (hb1 : b1 < 11) (hb2 : b2 < 11) : am_ev X amP_69 28 [.ref 83, .ref (am_bd b1), .ref (am_bd b2), .int x3, .int x4, .int x5, .int x6, .int x7] [.int x8, .ref 86] (am_sh I J) = (if x8 < 0 ∨ 48 ≤ x8.toNatClampNeg then none else (if (I 86 x8.toNatClampNeg) = 0 then am_ev X amP_69 16 [.ref 83, .ref (am_bd b1), .ref (am_bd b2), .int x3, .int x4, .int x5, .int x6, .int (x7 + (1 : Int32))] [] (am_sh I J) else (am_do X 351 [.int x7] (am_sh I J)).bind (fun q => am_ev X amP_69 38 [.ref 83, .ref (am_bd b1), .ref (am_bd b2), .int x3, .int x4, .int x5, .int x6, .int x7] (q.1.toList ++ [.int (((2 : Int32) * x4) + (1 : Int32)), .int x6]) q.2))) := by
  refine (ev_zald rfl (by decide) am_K_86).trans (am_itn (fun g1 => ?_))
  refine (ev_if0 rfl).trans (am_ite (fun c2 => ?_) (fun c2 => ?_))
  · refine (ev_iincv (v := (1 : Int32)) (ls' := [.ref 83, .ref (am_bd b1), .ref (am_bd b2), .int x3, .int x4, .int x5, .int x6, .int (x7 + (1 : Int32))]) rfl am_ci_1 rfl rfl).trans ?_
    refine (ev_goto rfl).trans ?_
    rfl
  · refine (ev_iload rfl rfl).trans ?_
    refine (ev_const0 (v := (2 : Int32)) rfl am_ci_2).trans ?_
    refine (ev_iload rfl rfl).trans ?_
    refine (ev_imul rfl).trans ?_
    refine (ev_const0 (v := (1 : Int32)) rfl am_ci_1).trans ?_
    refine (ev_iadd rfl).trans ?_
    refine (ev_iload rfl rfl).trans ?_
    exact ev_invs (as := [.int x7]) rfl rfl (by simp [Value.category])
set_option maxRecDepth 10000 in
theorem sg_69_38 (X : am_X) (I : Nat → Nat → Int32) (J : Nat → Nat → Int64) (b1 : Nat) (b2 : Nat) (x3 : Int32) (x4 : Int32) (x5 : Int32) (x6 : Int32) (x7 : Int32) (x8 : Int32) (x9 : Int32) (x10 : Int32) (hb1 : b1 < 11) (hb2 : b2 < 11) : am_ev X amP_69 38 [.ref 83, .ref (am_bd b1), .ref (am_bd b2), .int x3, .int x4, .int x5, .int x6, .int x7] [.int x10, .int x9, .int x8] (am_sh I J) = am_ev X amP_69 16 [.ref 83, .ref (am_bd b1), .ref (am_bd b2), .int x3, .int x4, .int x5, .int (x8 + (x9 - x10)), .int (x7 + (1 : Int32))] [] (am_sh I J) := by
  refine (ev_isub rfl).trans ?_
  refine (ev_iadd rfl).trans ?_
  refine (ev_istore (ls' := [.ref 83, .ref (am_bd b1), .ref (am_bd b2), .int x3, .int x4, .int x5, .int (x8 + (x9 - x10)), .int x7]) rfl (Nat.le_of_ble_eq_true rfl) rfl).trans ?_
  refine (ev_iincv (v := (1 : Int32)) (ls' := [.ref 83, .ref (am_bd b1), .ref (am_bd b2), .int x3, .int x4, .int x5, .int (x8 + (x9 - x10)), .int (x7 + (1 : Int32))]) rfl am_ci_1 rfl rfl).trans ?_
  refine (ev_goto rfl).trans ?_
  rfl
-- 70 X3_fillOffsets
set_option maxRecDepth 10000 in
theorem sg_70_e0 (X : am_X) (I : Nat → Nat → Int32) (J : Nat → Nat → Int64) (b1 : Nat) (b2 : Nat) (hb1 : b1 < 11) (hb2 : b2 < 11) : am_ev X amP_70 0 [.ref 83, .ref (am_bd b1), .ref (am_bd b2), .null, .null, .null, .null] [] (am_sh I J) = (am_do X 39 [.ref (am_bd b1), .ref (am_bd b2)] (am_sh I J)).bind (fun q => am_ev X amP_70 3 [.ref 83, .ref (am_bd b1), .ref (am_bd b2), .null, .null, .null, .null] (q.1.toList ++ []) q.2) := by
  refine (ev_aload rfl rfl).trans ?_
  refine (ev_aload rfl rfl).trans ?_
  exact ev_invv (as := [.ref (am_bd b2)]) rfl (by have := am_bd_lt hb1; omega) (am_Kbd hb1) rfl (by simp [Value.category])
theorem cl_70 (X : am_X) (I : Nat → Nat → Int32) (J : Nat → Nat → Int64) (b1 : Nat) (b2 : Nat) : am_do X 70 [.ref 83, .ref (am_bd b1), .ref (am_bd b2)] (am_sh I J) = am_ev X amP_70 0 [.ref 83, .ref (am_bd b1), .ref (am_bd b2), .null, .null, .null, .null] [] (am_sh I J) := am_do_of rfl rfl rfl
set_option maxRecDepth 10000 in
theorem sg_70_3 (X : am_X) (I : Nat → Nat → Int32) (J : Nat → Nat → Int64) (b1 : Nat) (b2 : Nat) (w3 : Value) (w4 : Value) (w5 : Value) (w6 : Value) (x7 : Int32) (hb1 : b1 < 11) (hb2 : b2 < 11) (hw3 : w3.category = 1) (hw4 : w4.category = 1) (hw5 : w5.category = 1) (hw6 : w6.category = 1) : am_ev X amP_70 3 [.ref 83, .ref (am_bd b1), .ref (am_bd b2), w3, w4, w5, w6] [.int x7] (am_sh I J) = am_ev X amP_70 6 [.ref 83, .ref (am_bd b1), .ref (am_bd b2), .int x7, .int (0 : Int32), w5, w6] [] (am_sh I J) := by
  refine (ev_istore (ls' := [.ref 83, .ref (am_bd b1), .ref (am_bd b2), .int x7, w4, w5, w6]) rfl (Nat.le_of_ble_eq_true rfl) rfl).trans ?_
  refine (ev_const0 (v := (0 : Int32)) rfl am_ci_0).trans ?_
  refine (ev_istore (ls' := [.ref 83, .ref (am_bd b1), .ref (am_bd b2), .int x7, .int (0 : Int32), w5, w6]) rfl (Nat.le_of_ble_eq_true rfl) rfl).trans ?_
  rfl
set_option maxRecDepth 10000 in
theorem sg_70_6 (X : am_X) (I : Nat → Nat → Int32) (J : Nat → Nat → Int64) (b1 : Nat) (b2 : Nat) (x3 : Int32) (x4 : Int32) (w5 : Value) (w6 : Value) (hb1 : b1 < 11) (hb2 : b2 < 11) (hw5 : w5.category = 1) (hw6 : w6.category = 1) : am_ev X amP_70 6 [.ref 83, .ref (am_bd b1), .ref (am_bd b2), .int x3, .int x4, w5, w6] [] (am_sh I J) = (if (48 : Int32) ≤ x4 then am_ev X amP_70 18 [.ref 83, .ref (am_bd b1), .ref (am_bd b2), .int x3, .int (0 : Int32), w5, w6] [] (am_sh I J) else (if x4 < 0 ∨ 48 ≤ x4.toNatClampNeg then none else am_ev X amP_70 6 [.ref 83, .ref (am_bd b1), .ref (am_bd b2), .int x3, .int (x4 + (1 : Int32)), w5, w6] [] (am_sh (am_up I 86 x4.toNatClampNeg (0 : Int32)) J))) := by
  refine (ev_iload rfl rfl).trans ?_
  refine (ev_const1 (v := (48 : Int32)) rfl am_ci_48).trans ?_
  refine (ev_icmp3 rfl).trans (am_ite (fun c1 => ?_) (fun c1 => ?_))
  · refine (ev_const0 (v := (0 : Int32)) rfl am_ci_0).trans ?_
    refine (ev_istore (ls' := [.ref 83, .ref (am_bd b1), .ref (am_bd b2), .int x3, .int (0 : Int32), w5, w6]) rfl (Nat.le_of_ble_eq_true rfl) rfl).trans ?_
    rfl
  · refine (ev_aload rfl rfl).trans ?_
    refine (ev_getR rfl (by decide) am_K_83 (by decide) rfl am_R_83_3).trans ?_
    refine (ev_iload rfl rfl).trans ?_
    refine (ev_const0 (v := (0 : Int32)) rfl am_ci_0).trans ?_
    refine (ev_zast rfl (by decide) am_K_86 (by decide)).trans (am_itn (fun g2 => ?_))
    refine (ev_iincv (v := (1 : Int32)) (ls' := [.ref 83, .ref (am_bd b1), .ref (am_bd b2), .int x3, .int (x4 + (1 : Int32)), w5, w6]) rfl am_ci_1 rfl rfl).trans ?_
    refine (ev_goto rfl).trans ?_
    rfl
set_option maxRecDepth 10000 in
theorem sg_70_18 (X : am_X) (I : Nat → Nat → Int32) (J : Nat → Nat → Int64) (b1 : Nat) (b2 : Nat) (x3 : Int32) (x4 : Int32) (w5 : Value) (w6 : Value) (hb1 : b1 < 11) (hb2 : b2 < 11) (hw5 : w5.category = 1) (hw6 : w6.category = 1) : am_ev X amP_70 18 [.ref 83, .ref (am_bd b1), .ref (am_bd b2), .int x3, .int x4, w5, w6] [] (am_sh I J) = (if (I (am_bd b1) 1) ≤ x4 then some (some (.int x3), am_sh I J) else (if x3 = 0 then none else am_ev X amP_70 28 [.ref 83, .ref (am_bd b1), .ref (am_bd b2), .int x3, .int x4, .int (x4 - x4 / x3 * x3), .int (0 : Int32)] [] (am_sh I J))) := by
  refine (ev_iload rfl rfl).trans ?_
  refine (ev_aload rfl rfl).trans ?_
  refine (ev_getI rfl (by have := am_bd_lt hb1; omega) (am_Kbd hb1) (by decide) rfl).trans ?_
  refine (ev_icmp3 rfl).trans (am_ite (fun c1 => ?_) (fun c1 => ?_))
  · refine (ev_iload rfl rfl).trans ?_
    exact ev_iret rfl
  · refine (ev_iload rfl rfl).trans ?_
    refine (ev_iload rfl rfl).trans ?_
    refine (ev_irem rfl).trans (am_itn (fun g2 => ?_))
    refine (ev_istore (ls' := [.ref 83, .ref (am_bd b1), .ref (am_bd b2), .int x3, .int x4, .int (x4 - x4 / x3 * x3), w6]) rfl (Nat.le_of_ble_eq_true rfl) rfl).trans ?_
    refine (ev_const0 (v := (0 : Int32)) rfl am_ci_0).trans ?_
    refine (ev_istore (ls' := [.ref 83, .ref (am_bd b1), .ref (am_bd b2), .int x3, .int x4, .int (x4 - x4 / x3 * x3), .int (0 : Int32)]) rfl (Nat.le_of_ble_eq_true rfl) rfl).trans ?_
    rfl
set_option maxRecDepth 10000 in
theorem sg_70_28 (X : am_X) (I : Nat → Nat → Int32) (J : Nat → Nat → Int64) (b1 : Nat) (b2 : Nat) (x3 : Int32) (x4 : Int32) (x5 : Int32) (x6 : Int32) (hb1 : b1 < 11) (hb2 : b2 < 11) : am_ev X amP_70 28 [.ref 83, .ref (am_bd b1), .ref (am_bd b2), .int x3, .int x4, .int x5, .int x6] [] (am_sh I J) = (if (I (am_bd b2) 1) ≤ x6 then am_ev X amP_70 18 [.ref 83, .ref (am_bd b1), .ref (am_bd b2), .int x3, .int (x4 + (1 : Int32)), .int x5, .int x6] [] (am_sh I J) else (am_do X 36 [.ref (am_bd b1), .int (I 16 3), .int x4, .ref (am_bd b2), .int x6] (am_sh I J)).bind (fun q => am_ev X amP_70 40 [.ref 83, .ref (am_bd b1), .ref (am_bd b2), .int x3, .int x4, .int x5, .int x6] (q.1.toList ++ []) q.2)) := by
  refine (ev_iload rfl rfl).trans ?_
  refine (ev_aload rfl rfl).trans ?_
  refine (ev_getI rfl (by have := am_bd_lt hb2; omega) (am_Kbd hb2) (by decide) rfl).trans ?_
  refine (ev_icmp3 rfl).trans (am_ite (fun c1 => ?_) (fun c1 => ?_))
  · refine (ev_iincv (v := (1 : Int32)) (ls' := [.ref 83, .ref (am_bd b1), .ref (am_bd b2), .int x3, .int (x4 + (1 : Int32)), .int x5, .int x6]) rfl am_ci_1 rfl rfl).trans ?_
    refine (ev_goto rfl).trans ?_
    rfl
  · refine (ev_aload rfl rfl).trans ?_
    refine (ev_aload rfl rfl).trans ?_
    refine (ev_getR rfl (by decide) am_K_83 (by decide) rfl am_R_83_0).trans ?_
    refine (ev_getI rfl (by decide) am_K_16 (by decide) rfl).trans ?_
    refine (ev_iload rfl rfl).trans ?_
    refine (ev_aload rfl rfl).trans ?_
    refine (ev_iload rfl rfl).trans ?_
    exact ev_invv (as := [.int x6, .ref (am_bd b2), .int x4, .int (I 16 3)]) rfl (by have := am_bd_lt hb1; omega) (am_Kbd hb1) rfl (by simp [Value.category])
set_option maxRecDepth 10000 in
theorem sg_70_40 (X : am_X) (I : Nat → Nat → Int32) (J : Nat → Nat → Int64) (b1 : Nat) (b2 : Nat) (x3 : Int32) (x4 : Int32) (x5 : Int32) (x6 : Int32) (x7 : Int32) (hb1 : b1 < 11) (hb2 : b2 < 11) : am_ev X amP_70 40 [.ref 83, .ref (am_bd b1), .ref (am_bd b2), .int x3, .int x4, .int x5, .int x6] [.int x7] (am_sh I J) = (if x7 = 0 then (if x5 ≤ 0 then am_ev X amP_70 28 [.ref 83, .ref (am_bd b1), .ref (am_bd b2), .int x3, .int x4, .int (x3 - (1 : Int32)), .int (x6 + (1 : Int32))] [] (am_sh I J) else am_ev X amP_70 28 [.ref 83, .ref (am_bd b1), .ref (am_bd b2), .int x3, .int x4, .int (x5 - (1 : Int32)), .int (x6 + (1 : Int32))] [] (am_sh I J)) else (if x5 < 0 ∨ 48 ≤ x5.toNatClampNeg then none else (if x5 ≤ 0 then am_ev X amP_70 28 [.ref 83, .ref (am_bd b1), .ref (am_bd b2), .int x3, .int x4, .int (x3 - (1 : Int32)), .int (x6 + (1 : Int32))] [] (am_sh (am_up I 86 x5.toNatClampNeg (1 : Int32)) J) else am_ev X amP_70 28 [.ref 83, .ref (am_bd b1), .ref (am_bd b2), .int x3, .int x4, .int (x5 - (1 : Int32)), .int (x6 + (1 : Int32))] [] (am_sh (am_up I 86 x5.toNatClampNeg (1 : Int32)) J)))) := by
  refine (ev_if0 rfl).trans (am_ite (fun c1 => ?_) (fun c1 => ?_))
  · refine (ev_iload rfl rfl).trans ?_
    refine (ev_if5 rfl).trans (am_ite (fun c2 => ?_) (fun c2 => ?_))
    · refine (ev_iload rfl rfl).trans ?_
      refine (ev_const0 (v := (1 : Int32)) rfl am_ci_1).trans ?_
      refine (ev_isub rfl).trans ?_
      refine (ev_istore (ls' := [.ref 83, .ref (am_bd b1), .ref (am_bd b2), .int x3, .int x4, .int (x3 - (1 : Int32)), .int x6]) rfl (Nat.le_of_ble_eq_true rfl) rfl).trans ?_
      refine (ev_iincv (v := (1 : Int32)) (ls' := [.ref 83, .ref (am_bd b1), .ref (am_bd b2), .int x3, .int x4, .int (x3 - (1 : Int32)), .int (x6 + (1 : Int32))]) rfl am_ci_1 rfl rfl).trans ?_
      refine (ev_goto rfl).trans ?_
      rfl
    · refine (ev_iload rfl rfl).trans ?_
      refine (ev_const0 (v := (1 : Int32)) rfl am_ci_1).trans ?_
      refine (ev_isub rfl).trans ?_
      refine (ev_goto rfl).trans ?_
      refine (ev_istore (ls' := [.ref 83, .ref (am_bd b1), .ref (am_bd b2), .int x3, .int x4, .int (x5 - (1 : Int32)), .int x6]) rfl (Nat.le_of_ble_eq_true rfl) rfl).trans ?_
      refine (ev_iincv (v := (1 : Int32)) (ls' := [.ref 83, .ref (am_bd b1), .ref (am_bd b2), .int x3, .int x4, .int (x5 - (1 : Int32)), .int (x6 + (1 : Int32))]) rfl am_ci_1 rfl rfl).trans ?_
      refine (ev_goto rfl).trans ?_
      rfl
  · refine (ev_aload rfl rfl).trans ?_
    refine (ev_getR rfl (by decide) am_K_83 (by decide) rfl am_R_83_3).trans ?_
    refine (ev_iload rfl rfl).trans ?_
    refine (ev_const0 (v := (1 : Int32)) rfl am_ci_1).trans ?_
    refine (ev_zast rfl (by decide) am_K_86 (by decide)).trans (am_itn (fun g2 => ?_))
    refine (ev_iload rfl rfl).trans ?_
    refine (ev_if5 rfl).trans (am_ite (fun c3 => ?_) (fun c3 => ?_))
    · refine (ev_iload rfl rfl).trans ?_
      refine (ev_const0 (v := (1 : Int32)) rfl am_ci_1).trans ?_
      refine (ev_isub rfl).trans ?_
      refine (ev_istore (ls' := [.ref 83, .ref (am_bd b1), .ref (am_bd b2), .int x3, .int x4, .int (x3 - (1 : Int32)), .int x6]) rfl (Nat.le_of_ble_eq_true rfl) rfl).trans ?_
      refine (ev_iincv (v := (1 : Int32)) (ls' := [.ref 83, .ref (am_bd b1), .ref (am_bd b2), .int x3, .int x4, .int (x3 - (1 : Int32)), .int (x6 + (1 : Int32))]) rfl am_ci_1 rfl rfl).trans ?_
      refine (ev_goto rfl).trans ?_
      rfl
    · refine (ev_iload rfl rfl).trans ?_
      refine (ev_const0 (v := (1 : Int32)) rfl am_ci_1).trans ?_
      refine (ev_isub rfl).trans ?_
      refine (ev_goto rfl).trans ?_
      refine (ev_istore (ls' := [.ref 83, .ref (am_bd b1), .ref (am_bd b2), .int x3, .int x4, .int (x5 - (1 : Int32)), .int x6]) rfl (Nat.le_of_ble_eq_true rfl) rfl).trans ?_
      refine (ev_iincv (v := (1 : Int32)) (ls' := [.ref 83, .ref (am_bd b1), .ref (am_bd b2), .int x3, .int x4, .int (x5 - (1 : Int32)), .int (x6 + (1 : Int32))]) rfl am_ci_1 rfl rfl).trans ?_
      refine (ev_goto rfl).trans ?_
      rfl
-- 71 X3_findWatched
set_option maxRecDepth 10000 in
theorem sg_71_e0 (X : am_X) (I : Nat → Nat → Int32) (J : Nat → Nat → Int64) (x1 : Int32) : am_ev X amP_71 0 [.ref 83, .int x1, .null, .null, .null] [] (am_sh I J) = am_ev X amP_71 7 [.ref 83, .int x1, .int (0 : Int32), .null, .null] [] (am_sh (am_up I 88 2 (-1 : Int32)) J) := by
  refine (ev_aload rfl rfl).trans ?_
  refine (ev_getR rfl (by decide) am_K_83 (by decide) rfl am_R_83_5).trans ?_
  refine (ev_const0 (v := (2 : Int32)) rfl am_ci_2).trans ?_
  refine (ev_const0 (v := (-1 : Int32)) rfl am_ci_m1).trans ?_
  refine (ev_iastC (jn := 2) rfl (by decide) am_K_88 (by decide) (by decide)).trans ?_
  refine (ev_const0 (v := (0 : Int32)) rfl am_ci_0).trans ?_
  refine (ev_istore (ls' := [.ref 83, .int x1, .int (0 : Int32), .null, .null]) rfl (Nat.le_of_ble_eq_true rfl) rfl).trans ?_
  rfl
theorem cl_71 (X : am_X) (I : Nat → Nat → Int32) (J : Nat → Nat → Int64) (x1 : Int32) : am_do X 71 [.ref 83, .int x1] (am_sh I J) = am_ev X amP_71 0 [.ref 83, .int x1, .null, .null, .null] [] (am_sh I J) := am_do_of rfl rfl rfl
set_option maxRecDepth 10000 in
theorem sg_71_7 (X : am_X) (I : Nat → Nat → Int32) (J : Nat → Nat → Int64) (x1 : Int32) (x2 : Int32) (w3 : Value) (w4 : Value) (hw3 : w3.category = 1) (hw4 : w4.category = 1) : am_ev X amP_71 7 [.ref 83, .int x1, .int x2, w3, w4] [] (am_sh I J) = (if (I 16 2) ≤ x2 then (if (I 88 2) = (-1 : Int32) then some (some (.int (0 : Int32)), am_sh I J) else some (some (.int (1 : Int32)), am_sh I J)) else am_ev X amP_71 16 [.ref 83, .int x1, .int x2, .int (x2 + (1 : Int32)), w4] [] (am_sh I J)) := by
  refine (ev_iload rfl rfl).trans ?_
  refine (ev_aload rfl rfl).trans ?_
  refine (ev_getR rfl (by decide) am_K_83 (by decide) rfl am_R_83_0).trans ?_
  refine (ev_getI rfl (by decide) am_K_16 (by decide) rfl).trans ?_
  refine (ev_icmp3 rfl).trans (am_ite (fun c1 => ?_) (fun c1 => ?_))
  · refine (ev_aload rfl rfl).trans ?_
    refine (ev_getR rfl (by decide) am_K_83 (by decide) rfl am_R_83_5).trans ?_
    refine (ev_const0 (v := (2 : Int32)) rfl am_ci_2).trans ?_
    refine (ev_ialdC (jn := 2) rfl (by decide) am_K_88 (by decide) (by decide)).trans ?_
    refine (ev_const0 (v := (-1 : Int32)) rfl am_ci_m1).trans ?_
    refine (ev_icmp0 rfl).trans (am_ite (fun c2 => ?_) (fun c2 => ?_))
    · refine (ev_const0 (v := (0 : Int32)) rfl am_ci_0).trans ?_
      exact ev_zret rfl (by decide)
    · refine (ev_const0 (v := (1 : Int32)) rfl am_ci_1).trans ?_
      refine (ev_goto rfl).trans ?_
      exact ev_zret rfl (by decide)
  · refine (ev_iload rfl rfl).trans ?_
    refine (ev_const0 (v := (1 : Int32)) rfl am_ci_1).trans ?_
    refine (ev_iadd rfl).trans ?_
    refine (ev_istore (ls' := [.ref 83, .int x1, .int x2, .int (x2 + (1 : Int32)), w4]) rfl (Nat.le_of_ble_eq_true rfl) rfl).trans ?_
    rfl
set_option maxRecDepth 10000 in
theorem sg_71_16 (X : am_X) (I : Nat → Nat → Int32) (J : Nat → Nat → Int64) (x1 : Int32) (x2 : Int32) (x3 : Int32) (w4 : Value) (hw4 : w4.category = 1) : am_ev X amP_71 16 [.ref 83, .int x1, .int x2, .int x3, w4] [] (am_sh I J) = (if (I 16 2) ≤ x3 then am_ev X amP_71 7 [.ref 83, .int x1, .int (x2 + (1 : Int32)), .int x3, w4] [] (am_sh I J) else (am_do X 101 [.ref 16, .int x2] (am_sh I J)).bind (fun q => am_ev X amP_71 25 [.ref 83, .int x1, .int x2, .int x3, w4] (q.1.toList ++ []) q.2)) := by
  refine (ev_iload rfl rfl).trans ?_
  refine (ev_aload rfl rfl).trans ?_
  refine (ev_getR rfl (by decide) am_K_83 (by decide) rfl am_R_83_0).trans ?_
  refine (ev_getI rfl (by decide) am_K_16 (by decide) rfl).trans ?_
  refine (ev_icmp3 rfl).trans (am_ite (fun c1 => ?_) (fun c1 => ?_))
  · refine (ev_iincv (v := (1 : Int32)) (ls' := [.ref 83, .int x1, .int (x2 + (1 : Int32)), .int x3, w4]) rfl am_ci_1 rfl rfl).trans ?_
    refine (ev_goto rfl).trans ?_
    rfl
  · refine (ev_aload rfl rfl).trans ?_
    refine (ev_getR rfl (by decide) am_K_83 (by decide) rfl am_R_83_0).trans ?_
    refine (ev_iload rfl rfl).trans ?_
    exact ev_invv (as := [.int x2]) rfl (by decide) am_K_16 rfl (by simp [Value.category])
set_option maxRecDepth 10000 in
theorem sg_71_25 (X : am_X) (I : Nat → Nat → Int32) (J : Nat → Nat → Int64) (x1 : Int32) (x2 : Int32) (x3 : Int32) (w4 : Value) (x5 : Int32) (hw4 : w4.category = 1) : am_ev X amP_71 25 [.ref 83, .int x1, .int x2, .int x3, w4] [.int x5] (am_sh I J) = (if x5 = 0 then (if (-1 : Int32) ≤ (I 88 2) then am_ev X amP_71 16 [.ref 83, .int x1, .int x2, .int (x3 + (1 : Int32)), .int (-1 : Int32)] [] (am_sh I J) else am_ev X amP_71 16 [.ref 83, .int x1, .int x2, .int (x3 + (1 : Int32)), .int (-1 : Int32)] [] (am_sh (am_up (am_up (am_up I 88 0 x2) 88 1 x3) 88 2 (-1 : Int32)) J)) else (am_do X 101 [.ref 16, .int x3] (am_sh I J)).bind (fun q => am_ev X amP_71 30 [.ref 83, .int x1, .int x2, .int x3, w4] (q.1.toList ++ []) q.2)) := by
  refine (ev_if0 rfl).trans (am_ite (fun c1 => ?_) (fun c1 => ?_))
  · refine (ev_const0 (v := (-1 : Int32)) rfl am_ci_m1).trans ?_
    refine (ev_istore (ls' := [.ref 83, .int x1, .int x2, .int x3, .int (-1 : Int32)]) rfl (Nat.le_of_ble_eq_true rfl) rfl).trans ?_
    refine (ev_iload rfl rfl).trans ?_
    refine (ev_aload rfl rfl).trans ?_
    refine (ev_getR rfl (by decide) am_K_83 (by decide) rfl am_R_83_5).trans ?_
    refine (ev_const0 (v := (2 : Int32)) rfl am_ci_2).trans ?_
    refine (ev_ialdC (jn := 2) rfl (by decide) am_K_88 (by decide) (by decide)).trans ?_
    refine (ev_icmp5 rfl).trans (am_ite (fun c2 => ?_) (fun c2 => ?_))
    · refine (ev_iincv (v := (1 : Int32)) (ls' := [.ref 83, .int x1, .int x2, .int (x3 + (1 : Int32)), .int (-1 : Int32)]) rfl am_ci_1 rfl rfl).trans ?_
      refine (ev_goto rfl).trans ?_
      rfl
    · refine (ev_aload rfl rfl).trans ?_
      refine (ev_getR rfl (by decide) am_K_83 (by decide) rfl am_R_83_5).trans ?_
      refine (ev_const0 (v := (0 : Int32)) rfl am_ci_0).trans ?_
      refine (ev_iload rfl rfl).trans ?_
      refine (ev_iastC (jn := 0) rfl (by decide) am_K_88 (by decide) (by decide)).trans ?_
      refine (ev_aload rfl rfl).trans ?_
      refine (ev_getR rfl (by decide) am_K_83 (by decide) rfl am_R_83_5).trans ?_
      refine (ev_const0 (v := (1 : Int32)) rfl am_ci_1).trans ?_
      refine (ev_iload rfl rfl).trans ?_
      refine (ev_iastC (jn := 1) rfl (by decide) am_K_88 (by decide) (by decide)).trans ?_
      refine (ev_aload rfl rfl).trans ?_
      refine (ev_getR rfl (by decide) am_K_83 (by decide) rfl am_R_83_5).trans ?_
      refine (ev_const0 (v := (2 : Int32)) rfl am_ci_2).trans ?_
      refine (ev_iload rfl rfl).trans ?_
      refine (ev_iastC (jn := 2) rfl (by decide) am_K_88 (by decide) (by decide)).trans ?_
      refine (ev_iincv (v := (1 : Int32)) (ls' := [.ref 83, .int x1, .int x2, .int (x3 + (1 : Int32)), .int (-1 : Int32)]) rfl am_ci_1 rfl rfl).trans ?_
      refine (ev_goto rfl).trans ?_
      rfl
  · refine (ev_aload rfl rfl).trans ?_
    refine (ev_getR rfl (by decide) am_K_83 (by decide) rfl am_R_83_0).trans ?_
    refine (ev_iload rfl rfl).trans ?_
    exact ev_invv (as := [.int x3]) rfl (by decide) am_K_16 rfl (by simp [Value.category])
set_option maxRecDepth 10000 in
theorem sg_71_30 (X : am_X) (I : Nat → Nat → Int32) (J : Nat → Nat → Int64) (x1 : Int32) (x2 : Int32) (x3 : Int32) (w4 : Value) (x5 : Int32) (hw4 : w4.category = 1) : am_ev X amP_71 30 [.ref 83, .int x1, .int x2, .int x3, w4] [.int x5] (am_sh I J) = (if x5 = 0 then (if (-1 : Int32) ≤ (I 88 2) then am_ev X amP_71 16 [.ref 83, .int x1, .int x2, .int (x3 + (1 : Int32)), .int (-1 : Int32)] [] (am_sh I J) else am_ev X amP_71 16 [.ref 83, .int x1, .int x2, .int (x3 + (1 : Int32)), .int (-1 : Int32)] [] (am_sh (am_up (am_up (am_up I 88 0 x2) 88 1 x3) 88 2 (-1 : Int32)) J)) else (am_do X 67 [.ref 83, .int x2, .int x3, .int x1] (am_sh I J)).bind (fun q => am_ev X amP_71 36 [.ref 83, .int x1, .int x2, .int x3, w4] (q.1.toList ++ []) q.2)) := by
  refine (ev_if0 rfl).trans (am_ite (fun c1 => ?_) (fun c1 => ?_))
  · refine (ev_const0 (v := (-1 : Int32)) rfl am_ci_m1).trans ?_
    refine (ev_istore (ls' := [.ref 83, .int x1, .int x2, .int x3, .int (-1 : Int32)]) rfl (Nat.le_of_ble_eq_true rfl) rfl).trans ?_
    refine (ev_iload rfl rfl).trans ?_
    refine (ev_aload rfl rfl).trans ?_
    refine (ev_getR rfl (by decide) am_K_83 (by decide) rfl am_R_83_5).trans ?_
    refine (ev_const0 (v := (2 : Int32)) rfl am_ci_2).trans ?_
    refine (ev_ialdC (jn := 2) rfl (by decide) am_K_88 (by decide) (by decide)).trans ?_
    refine (ev_icmp5 rfl).trans (am_ite (fun c2 => ?_) (fun c2 => ?_))
    · refine (ev_iincv (v := (1 : Int32)) (ls' := [.ref 83, .int x1, .int x2, .int (x3 + (1 : Int32)), .int (-1 : Int32)]) rfl am_ci_1 rfl rfl).trans ?_
      refine (ev_goto rfl).trans ?_
      rfl
    · refine (ev_aload rfl rfl).trans ?_
      refine (ev_getR rfl (by decide) am_K_83 (by decide) rfl am_R_83_5).trans ?_
      refine (ev_const0 (v := (0 : Int32)) rfl am_ci_0).trans ?_
      refine (ev_iload rfl rfl).trans ?_
      refine (ev_iastC (jn := 0) rfl (by decide) am_K_88 (by decide) (by decide)).trans ?_
      refine (ev_aload rfl rfl).trans ?_
      refine (ev_getR rfl (by decide) am_K_83 (by decide) rfl am_R_83_5).trans ?_
      refine (ev_const0 (v := (1 : Int32)) rfl am_ci_1).trans ?_
      refine (ev_iload rfl rfl).trans ?_
      refine (ev_iastC (jn := 1) rfl (by decide) am_K_88 (by decide) (by decide)).trans ?_
      refine (ev_aload rfl rfl).trans ?_
      refine (ev_getR rfl (by decide) am_K_83 (by decide) rfl am_R_83_5).trans ?_
      refine (ev_const0 (v := (2 : Int32)) rfl am_ci_2).trans ?_
      refine (ev_iload rfl rfl).trans ?_
      refine (ev_iastC (jn := 2) rfl (by decide) am_K_88 (by decide) (by decide)).trans ?_
      refine (ev_iincv (v := (1 : Int32)) (ls' := [.ref 83, .int x1, .int x2, .int (x3 + (1 : Int32)), .int (-1 : Int32)]) rfl am_ci_1 rfl rfl).trans ?_
      refine (ev_goto rfl).trans ?_
      rfl
  · refine (ev_aload rfl rfl).trans ?_
    refine (ev_iload rfl rfl).trans ?_
    refine (ev_iload rfl rfl).trans ?_
    refine (ev_iload rfl rfl).trans ?_
    exact ev_invv (as := [.int x1, .int x3, .int x2]) rfl (by decide) am_K_83 rfl (by simp [Value.category])
set_option maxRecDepth 10000 in
theorem sg_71_36 (X : am_X) (I : Nat → Nat → Int32) (J : Nat → Nat → Int64) (x1 : Int32) (x2 : Int32) (x3 : Int32) (w4 : Value) (x5 : Int32) (hw4 : w4.category = 1) : am_ev X amP_71 36 [.ref 83, .int x1, .int x2, .int x3, w4] [.int x5] (am_sh I J) = (if x5 ≤ (I 88 2) then am_ev X amP_71 16 [.ref 83, .int x1, .int x2, .int (x3 + (1 : Int32)), .int x5] [] (am_sh I J) else am_ev X amP_71 16 [.ref 83, .int x1, .int x2, .int (x3 + (1 : Int32)), .int x5] [] (am_sh (am_up (am_up (am_up I 88 0 x2) 88 1 x3) 88 2 x5) J)) := by
  refine (ev_goto rfl).trans ?_
  refine (ev_istore (ls' := [.ref 83, .int x1, .int x2, .int x3, .int x5]) rfl (Nat.le_of_ble_eq_true rfl) rfl).trans ?_
  refine (ev_iload rfl rfl).trans ?_
  refine (ev_aload rfl rfl).trans ?_
  refine (ev_getR rfl (by decide) am_K_83 (by decide) rfl am_R_83_5).trans ?_
  refine (ev_const0 (v := (2 : Int32)) rfl am_ci_2).trans ?_
  refine (ev_ialdC (jn := 2) rfl (by decide) am_K_88 (by decide) (by decide)).trans ?_
  refine (ev_icmp5 rfl).trans (am_ite (fun c1 => ?_) (fun c1 => ?_))
  · refine (ev_iincv (v := (1 : Int32)) (ls' := [.ref 83, .int x1, .int x2, .int (x3 + (1 : Int32)), .int x5]) rfl am_ci_1 rfl rfl).trans ?_
    refine (ev_goto rfl).trans ?_
    rfl
  · refine (ev_aload rfl rfl).trans ?_
    refine (ev_getR rfl (by decide) am_K_83 (by decide) rfl am_R_83_5).trans ?_
    refine (ev_const0 (v := (0 : Int32)) rfl am_ci_0).trans ?_
    refine (ev_iload rfl rfl).trans ?_
    refine (ev_iastC (jn := 0) rfl (by decide) am_K_88 (by decide) (by decide)).trans ?_
    refine (ev_aload rfl rfl).trans ?_
    refine (ev_getR rfl (by decide) am_K_83 (by decide) rfl am_R_83_5).trans ?_
    refine (ev_const0 (v := (1 : Int32)) rfl am_ci_1).trans ?_
    refine (ev_iload rfl rfl).trans ?_
    refine (ev_iastC (jn := 1) rfl (by decide) am_K_88 (by decide) (by decide)).trans ?_
    refine (ev_aload rfl rfl).trans ?_
    refine (ev_getR rfl (by decide) am_K_83 (by decide) rfl am_R_83_5).trans ?_
    refine (ev_const0 (v := (2 : Int32)) rfl am_ci_2).trans ?_
    refine (ev_iload rfl rfl).trans ?_
    refine (ev_iastC (jn := 2) rfl (by decide) am_K_88 (by decide) (by decide)).trans ?_
    refine (ev_iincv (v := (1 : Int32)) (ls' := [.ref 83, .int x1, .int x2, .int (x3 + (1 : Int32)), .int x5]) rfl am_ci_1 rfl rfl).trans ?_
    refine (ev_goto rfl).trans ?_
    rfl
-- 73 X4_paint
set_option maxRecDepth 10000 in
theorem sg_73_e0 (X : am_X) (I : Nat → Nat → Int32) (J : Nat → Nat → Int64) : am_ev X amP_73 0 [.ref 133, .ref 16, .null, .null, .null, .null, .null] [] (am_sh I J) = am_ev X amP_73 11 [.ref 133, .ref 16, .int (0 : Int32), .null, .null, .null, .null] [] (am_sh (am_up (am_up I 134 0 (I 16 3)) 133 1 (1 : Int32)) J) := by
  refine (ev_aload rfl rfl).trans ?_
  refine (ev_getR rfl (by decide) am_K_133 (by decide) rfl am_R_133_0).trans ?_
  refine (ev_const0 (v := (0 : Int32)) rfl am_ci_0).trans ?_
  refine (ev_aload rfl rfl).trans ?_
  refine (ev_getI rfl (by decide) am_K_16 (by decide) rfl).trans ?_
  refine (ev_iastC (jn := 0) rfl (by decide) am_K_134 (by decide) (by decide)).trans ?_
  refine (ev_aload rfl rfl).trans ?_
  refine (ev_const0 (v := (1 : Int32)) rfl am_ci_1).trans ?_
  refine (ev_putI rfl (by decide) am_K_133 (by decide) rfl).trans ?_
  refine (ev_const0 (v := (0 : Int32)) rfl am_ci_0).trans ?_
  refine (ev_istore (ls' := [.ref 133, .ref 16, .int (0 : Int32), .null, .null, .null, .null]) rfl (Nat.le_of_ble_eq_true rfl) rfl).trans ?_
  rfl
theorem cl_73 (X : am_X) (I : Nat → Nat → Int32) (J : Nat → Nat → Int64) : am_do X 73 [.ref 133, .ref 16] (am_sh I J) = am_ev X amP_73 0 [.ref 133, .ref 16, .null, .null, .null, .null, .null] [] (am_sh I J) := am_do_of rfl rfl rfl
set_option maxRecDepth 10000 in
theorem sg_73_11 (X : am_X) (I : Nat → Nat → Int32) (J : Nat → Nat → Int64) (x1 : Int32) (w2 : Value) (w3 : Value) (w4 : Value) (w5 : Value) (hw2 : w2.category = 1) (hw3 : w3.category = 1) (hw4 : w4.category = 1) (hw5 : w5.category = 1) : am_ev X amP_73 11 [.ref 133, .ref 16, .int x1, w2, w3, w4, w5] [] (am_sh I J) = (if (I 16 2) ≤ x1 then am_ev X amP_73 55 [.ref 133, .ref 16, .int (173 : Int32), .int (0 : Int32), w3, w4, w5] [] (am_sh I J) else am_ev X amP_73 22 [.ref 133, .ref 16, .int x1, .retAddr 0, .int (Int32.ofNat (X 0).1), .int (0 : Int32), w5] [] (am_sh I J)) := by
  refine (ev_iload rfl rfl).trans ?_
  refine (ev_aload rfl rfl).trans ?_
  refine (ev_getI rfl (by decide) am_K_16 (by decide) rfl).trans ?_
  refine (ev_icmp3 rfl).trans (am_ite (fun c1 => ?_) (fun c1 => ?_))
  · refine (ev_const2 (v := (173 : Int32)) rfl am_ci_173).trans ?_
    refine (ev_istore (ls' := [.ref 133, .ref 16, .int (173 : Int32), w2, w3, w4, w5]) rfl (Nat.le_of_ble_eq_true rfl) rfl).trans ?_
    refine (ev_const0 (v := (0 : Int32)) rfl am_ci_0).trans ?_
    refine (ev_istore (ls' := [.ref 133, .ref 16, .int (173 : Int32), .int (0 : Int32), w3, w4, w5]) rfl (Nat.le_of_ble_eq_true rfl) rfl).trans ?_
    rfl
  · refine (ev_gets0 rfl).trans ?_
    refine (ev_astoreS (ls' := [.ref 133, .ref 16, .int x1, .retAddr 0, w3, w4, w5]) rfl (Nat.le_of_ble_eq_true rfl) rfl).trans ?_
    refine (ev_aloadS rfl rfl).trans ?_
    refine (ev_alS rfl (by decide)).trans ?_
    refine (ev_istore (ls' := [.ref 133, .ref 16, .int x1, .retAddr 0, .int (Int32.ofNat (X 0).1), w4, w5]) rfl (Nat.le_of_ble_eq_true rfl) rfl).trans ?_
    refine (ev_const0 (v := (0 : Int32)) rfl am_ci_0).trans ?_
    refine (ev_istore (ls' := [.ref 133, .ref 16, .int x1, .retAddr 0, .int (Int32.ofNat (X 0).1), .int (0 : Int32), w5]) rfl (Nat.le_of_ble_eq_true rfl) rfl).trans ?_
    rfl
set_option maxRecDepth 10000 in
theorem sg_73_22 (X : am_X) (I : Nat → Nat → Int32) (J : Nat → Nat → Int64) (x1 : Int32) (x2 : Int32) (x3 : Int32) (w4 : Value) (hw4 : w4.category = 1) : am_ev X amP_73 22 [.ref 133, .ref 16, .int x1, .retAddr 0, .int x2, .int x3, w4] [] (am_sh I J) = (if x2 ≤ x3 then am_ev X amP_73 11 [.ref 133, .ref 16, .int (x1 + (1 : Int32)), .retAddr 0, .int x2, .int x3, w4] [] (am_sh I J) else (if x3 < 0 ∨ (X 0).1 ≤ x3.toNatClampNeg then none else (if x1 < 0 ∨ 10 ≤ x1.toNatClampNeg then none else (if ((X 0).2 x3.toNatClampNeg) < 0 ∨ 9 ≤ ((X 0).2 x3.toNatClampNeg).toNatClampNeg then none else (if (I 133 1) < 0 ∨ 72 ≤ (I 133 1).toNatClampNeg then none else am_ev X amP_73 22 [.ref 133, .ref 16, .int x1, .retAddr 0, .int x2, .int (x3 + (1 : Int32)), .int ((X 0).2 x3.toNatClampNeg)] [] (am_sh (am_up (am_up I 134 (I 133 1).toNatClampNeg (I (am_bd (x1.toNatClampNeg) + 1) ((X 0).2 x3.toNatClampNeg).toNatClampNeg)) 133 1 (((am_up I 134 (I 133 1).toNatClampNeg (I (am_bd (x1.toNatClampNeg) + 1) ((X 0).2 x3.toNatClampNeg).toNatClampNeg)) 133 1) + (1 : Int32))) J)))))) := by
  refine (ev_iload rfl rfl).trans ?_
  refine (ev_iload rfl rfl).trans ?_
  refine (ev_icmp3 rfl).trans (am_ite (fun c1 => ?_) (fun c1 => ?_))
  · refine (ev_iincv (v := (1 : Int32)) (ls' := [.ref 133, .ref 16, .int (x1 + (1 : Int32)), .retAddr 0, .int x2, .int x3, w4]) rfl am_ci_1 rfl rfl).trans ?_
    refine (ev_goto rfl).trans ?_
    rfl
  · refine (ev_aloadS rfl rfl).trans ?_
    refine (ev_iload rfl rfl).trans ?_
    refine (ev_iaS rfl (by decide)).trans (am_itn (fun g2 => ?_))
    refine (ev_istore (ls' := [.ref 133, .ref 16, .int x1, .retAddr 0, .int x2, .int x3, .int ((X 0).2 x3.toNatClampNeg)]) rfl (Nat.le_of_ble_eq_true rfl) rfl).trans ?_
    refine (ev_aload rfl rfl).trans ?_
    refine (ev_getR rfl (by decide) am_K_133 (by decide) rfl am_R_133_0).trans ?_
    refine (ev_aload rfl rfl).trans ?_
    refine (ev_getI rfl (by decide) am_K_133 (by decide) rfl).trans ?_
    refine (ev_aload rfl rfl).trans ?_
    refine (ev_getR rfl (by decide) am_K_16 (by decide) rfl am_R_16_0).trans ?_
    refine (ev_iload rfl rfl).trans ?_
    refine (ev_aald rfl (by decide) (Or.inl am_K_17) (f := am_bd) (fun k hk => am_R17 hk)).trans (am_itn (fun g3 => ?_))
    refine (ev_getR rfl (by have := am_bd_lt (by omega : (x1.toNatClampNeg) < 11); omega) (am_Kbd (by omega : (x1.toNatClampNeg) < 11)) (by decide) rfl (am_Rb2 (by omega : (x1.toNatClampNeg) < 11))).trans ?_
    refine (ev_iload rfl rfl).trans ?_
    refine (ev_iald rfl (by have := am_bd_lt (by omega : (x1.toNatClampNeg) < 11); omega) (am_Kbn (by omega : (x1.toNatClampNeg) < 11))).trans (am_itn (fun g4 => ?_))
    refine (ev_iast rfl (by decide) am_K_134).trans (am_itn (fun g5 => ?_))
    refine (ev_aload rfl rfl).trans ?_
    refine (ev_dupr rfl).trans ?_
    refine (ev_getI rfl (by decide) am_K_133 (by decide) rfl).trans ?_
    refine (ev_const0 (v := (1 : Int32)) rfl am_ci_1).trans ?_
    refine (ev_iadd rfl).trans ?_
    refine (ev_putI rfl (by decide) am_K_133 (by decide) rfl).trans ?_
    refine (ev_iincv (v := (1 : Int32)) (ls' := [.ref 133, .ref 16, .int x1, .retAddr 0, .int x2, .int (x3 + (1 : Int32)), .int ((X 0).2 x3.toNatClampNeg)]) rfl am_ci_1 rfl rfl).trans ?_
    refine (ev_goto rfl).trans ?_
    rfl
set_option maxRecDepth 10000 in
theorem sg_73_55 (X : am_X) (I : Nat → Nat → Int32) (J : Nat → Nat → Int64) (x1 : Int32) (x2 : Int32) (w3 : Value) (w4 : Value) (w5 : Value) (hw3 : w3.category = 1) (hw4 : w4.category = 1) (hw5 : w5.category = 1) : am_ev X amP_73 55 [.ref 133, .ref 16, .int x1, .int x2, w3, w4, w5] [] (am_sh I J) = (if (I 133 1) ≤ x2 then (if (I 133 1) < 0 ∨ 72 ≤ (I 133 1).toNatClampNeg then none else some (some (.int ((am_up (am_up I 134 (I 133 1).toNatClampNeg x1) 133 1 (((am_up I 134 (I 133 1).toNatClampNeg x1) 133 1) + (1 : Int32))) 133 1)), am_sh (am_up (am_up I 134 (I 133 1).toNatClampNeg x1) 133 1 (((am_up I 134 (I 133 1).toNatClampNeg x1) 133 1) + (1 : Int32))) J)) else (if x2 < 0 ∨ 72 ≤ x2.toNatClampNeg then none else am_ev X amP_73 55 [.ref 133, .ref 16, .int ((((3 : Int32) * x1) + (I 134 x2.toNatClampNeg)) - (((3 : Int32) * x1) + (I 134 x2.toNatClampNeg)) / (251 : Int32) * (251 : Int32)), .int (x2 + (1 : Int32)), w3, w4, w5] [] (am_sh I J))) := by
  refine (ev_iload rfl rfl).trans ?_
  refine (ev_aload rfl rfl).trans ?_
  refine (ev_getI rfl (by decide) am_K_133 (by decide) rfl).trans ?_
  refine (ev_icmp3 rfl).trans (am_ite (fun c1 => ?_) (fun c1 => ?_))
  · refine (ev_aload rfl rfl).trans ?_
    refine (ev_getR rfl (by decide) am_K_133 (by decide) rfl am_R_133_0).trans ?_
    refine (ev_aload rfl rfl).trans ?_
    refine (ev_getI rfl (by decide) am_K_133 (by decide) rfl).trans ?_
    refine (ev_iload rfl rfl).trans ?_
    refine (ev_iast rfl (by decide) am_K_134).trans (am_itn (fun g2 => ?_))
    refine (ev_aload rfl rfl).trans ?_
    refine (ev_dupr rfl).trans ?_
    refine (ev_getI rfl (by decide) am_K_133 (by decide) rfl).trans ?_
    refine (ev_const0 (v := (1 : Int32)) rfl am_ci_1).trans ?_
    refine (ev_iadd rfl).trans ?_
    refine (ev_putI rfl (by decide) am_K_133 (by decide) rfl).trans ?_
    refine (ev_aload rfl rfl).trans ?_
    refine (ev_getI rfl (by decide) am_K_133 (by decide) rfl).trans ?_
    exact ev_iret rfl
  · refine (ev_const0 (v := (3 : Int32)) rfl am_ci_3).trans ?_
    refine (ev_iload rfl rfl).trans ?_
    refine (ev_imul rfl).trans ?_
    refine (ev_aload rfl rfl).trans ?_
    refine (ev_getR rfl (by decide) am_K_133 (by decide) rfl am_R_133_0).trans ?_
    refine (ev_iload rfl rfl).trans ?_
    refine (ev_iald rfl (by decide) am_K_134).trans (am_itn (fun g2 => ?_))
    refine (ev_iadd rfl).trans ?_
    refine (ev_const2 (v := (251 : Int32)) rfl am_ci_251).trans ?_
    refine (ev_iremN (by decide) rfl).trans ?_
    refine (ev_istore (ls' := [.ref 133, .ref 16, .int ((((3 : Int32) * x1) + (I 134 x2.toNatClampNeg)) - (((3 : Int32) * x1) + (I 134 x2.toNatClampNeg)) / (251 : Int32) * (251 : Int32)), .int x2, w3, w4, w5]) rfl (Nat.le_of_ble_eq_true rfl) rfl).trans ?_
    refine (ev_iincv (v := (1 : Int32)) (ls' := [.ref 133, .ref 16, .int ((((3 : Int32) * x1) + (I 134 x2.toNatClampNeg)) - (((3 : Int32) * x1) + (I 134 x2.toNatClampNeg)) / (251 : Int32) * (251 : Int32)), .int (x2 + (1 : Int32)), w3, w4, w5]) rfl am_ci_1 rfl rfl).trans ?_
    refine (ev_goto rfl).trans ?_
    rfl
-- 74 X4_isPainted
set_option maxRecDepth 10000 in
theorem sg_74_e0 (X : am_X) (I : Nat → Nat → Int32) (J : Nat → Nat → Int64) : am_ev X amP_74 0 [.ref 133, .ref 1, .ref 16, .null, .null, .null, .null] [] (am_sh I J) = (if ¬ (I 1 1) = (((1 : Int32) + ((I 16 2) * (Int32.ofNat (X 0).1))) + (1 : Int32)) then some (some (.int (0 : Int32)), am_sh I J) else (am_do X 125 [.ref 1, .int (0 : Int32)] (am_sh I J)).bind (fun q => am_ev X amP_74 17 [.ref 133, .ref 1, .ref 16, .int ((1 : Int32) + ((I 16 2) * (Int32.ofNat (X 0).1))), .null, .null, .null] (q.1.toList ++ []) q.2)) := by
  refine (ev_const0 (v := (1 : Int32)) rfl am_ci_1).trans ?_
  refine (ev_aload rfl rfl).trans ?_
  refine (ev_getI rfl (by decide) am_K_16 (by decide) rfl).trans ?_
  refine (ev_gets0 rfl).trans ?_
  refine (ev_alS rfl (by decide)).trans ?_
  refine (ev_imul rfl).trans ?_
  refine (ev_iadd rfl).trans ?_
  refine (ev_istore (ls' := [.ref 133, .ref 1, .ref 16, .int ((1 : Int32) + ((I 16 2) * (Int32.ofNat (X 0).1))), .null, .null, .null]) rfl (Nat.le_of_ble_eq_true rfl) rfl).trans ?_
  refine (ev_aload rfl rfl).trans ?_
  refine (ev_getI rfl (by decide) am_K_1 (by decide) rfl).trans ?_
  refine (ev_iload rfl rfl).trans ?_
  refine (ev_const0 (v := (1 : Int32)) rfl am_ci_1).trans ?_
  refine (ev_iadd rfl).trans ?_
  refine (ev_icmp1 rfl).trans (am_ite (fun c1 => ?_) (fun c1 => ?_))
  · refine (ev_const0 (v := (0 : Int32)) rfl am_ci_0).trans ?_
    exact ev_zret rfl (by decide)
  · refine (ev_aload rfl rfl).trans ?_
    refine (ev_const0 (v := (0 : Int32)) rfl am_ci_0).trans ?_
    exact ev_invv (as := [.int (0 : Int32)]) rfl (by decide) am_K_1 rfl (by simp [Value.category])
theorem cl_74 (X : am_X) (I : Nat → Nat → Int32) (J : Nat → Nat → Int64) : am_do X 74 [.ref 133, .ref 1, .ref 16] (am_sh I J) = am_ev X amP_74 0 [.ref 133, .ref 1, .ref 16, .null, .null, .null, .null] [] (am_sh I J) := am_do_of rfl rfl rfl
set_option maxRecDepth 10000 in
theorem sg_74_17 (X : am_X) (I : Nat → Nat → Int32) (J : Nat → Nat → Int64) (x1 : Int32) (w2 : Value) (w3 : Value) (w4 : Value) (x5 : Int32) (hw2 : w2.category = 1) (hw3 : w3.category = 1) (hw4 : w4.category = 1) : am_ev X amP_74 17 [.ref 133, .ref 1, .ref 16, .int x1, w2, w3, w4] [.int x5] (am_sh I J) = (if x5 ≤ (99 : Int32) then am_ev X amP_74 25 [.ref 133, .ref 1, .ref 16, .int x1, .int (173 : Int32), .int (0 : Int32), w4] [] (am_sh I J) else some (some (.int (0 : Int32)), am_sh I J)) := by
  refine (ev_const1 (v := (99 : Int32)) rfl am_ci_99).trans ?_
  refine (ev_icmp5 rfl).trans (am_ite (fun c1 => ?_) (fun c1 => ?_))
  · refine (ev_const2 (v := (173 : Int32)) rfl am_ci_173).trans ?_
    refine (ev_istore (ls' := [.ref 133, .ref 1, .ref 16, .int x1, .int (173 : Int32), w3, w4]) rfl (Nat.le_of_ble_eq_true rfl) rfl).trans ?_
    refine (ev_const0 (v := (0 : Int32)) rfl am_ci_0).trans ?_
    refine (ev_istore (ls' := [.ref 133, .ref 1, .ref 16, .int x1, .int (173 : Int32), .int (0 : Int32), w4]) rfl (Nat.le_of_ble_eq_true rfl) rfl).trans ?_
    rfl
  · refine (ev_const0 (v := (0 : Int32)) rfl am_ci_0).trans ?_
    exact ev_zret rfl (by decide)
set_option maxRecDepth 10000 in
theorem sg_74_25 (X : am_X) (I : Nat → Nat → Int32) (J : Nat → Nat → Int64) (x1 : Int32) (x2 : Int32) (x3 : Int32) (w4 : Value) (hw4 : w4.category = 1) : am_ev X amP_74 25 [.ref 133, .ref 1, .ref 16, .int x1, .int x2, .int x3, w4] [] (am_sh I J) = (if x1 ≤ x3 then (am_do X 125 [.ref 1, .int x1] (am_sh I J)).bind (fun q => am_ev X amP_74 43 [.ref 133, .ref 1, .ref 16, .int x1, .int x2, .int x3, w4] (q.1.toList ++ []) q.2) else (am_do X 125 [.ref 1, .int x3] (am_sh I J)).bind (fun q => am_ev X amP_74 34 [.ref 133, .ref 1, .ref 16, .int x1, .int x2, .int x3, w4] (q.1.toList ++ [.int ((3 : Int32) * x2)]) q.2)) := by
  refine (ev_iload rfl rfl).trans ?_
  refine (ev_iload rfl rfl).trans ?_
  refine (ev_icmp3 rfl).trans (am_ite (fun c1 => ?_) (fun c1 => ?_))
  · refine (ev_aload rfl rfl).trans ?_
    refine (ev_iload rfl rfl).trans ?_
    exact ev_invv (as := [.int x1]) rfl (by decide) am_K_1 rfl (by simp [Value.category])
  · refine (ev_const0 (v := (3 : Int32)) rfl am_ci_3).trans ?_
    refine (ev_iload rfl rfl).trans ?_
    refine (ev_imul rfl).trans ?_
    refine (ev_aload rfl rfl).trans ?_
    refine (ev_iload rfl rfl).trans ?_
    exact ev_invv (as := [.int x3]) rfl (by decide) am_K_1 rfl (by simp [Value.category])
set_option maxRecDepth 10000 in
theorem sg_74_34 (X : am_X) (I : Nat → Nat → Int32) (J : Nat → Nat → Int64) (x1 : Int32) (x2 : Int32) (x3 : Int32) (w4 : Value) (x5 : Int32) (x6 : Int32) (hw4 : w4.category = 1) : am_ev X amP_74 34 [.ref 133, .ref 1, .ref 16, .int x1, .int x2, .int x3, w4] [.int x6, .int x5] (am_sh I J) = am_ev X amP_74 25 [.ref 133, .ref 1, .ref 16, .int x1, .int ((x5 + x6) - (x5 + x6) / (251 : Int32) * (251 : Int32)), .int (x3 + (1 : Int32)), w4] [] (am_sh I J) := by
  refine (ev_iadd rfl).trans ?_
  refine (ev_const2 (v := (251 : Int32)) rfl am_ci_251).trans ?_
  refine (ev_iremN (by decide) rfl).trans ?_
  refine (ev_istore (ls' := [.ref 133, .ref 1, .ref 16, .int x1, .int ((x5 + x6) - (x5 + x6) / (251 : Int32) * (251 : Int32)), .int x3, w4]) rfl (Nat.le_of_ble_eq_true rfl) rfl).trans ?_
  refine (ev_iincv (v := (1 : Int32)) (ls' := [.ref 133, .ref 1, .ref 16, .int x1, .int ((x5 + x6) - (x5 + x6) / (251 : Int32) * (251 : Int32)), .int (x3 + (1 : Int32)), w4]) rfl am_ci_1 rfl rfl).trans ?_
  refine (ev_goto rfl).trans ?_
  rfl
set_option maxRecDepth 10000 in
theorem sg_74_43 (X : am_X) (I : Nat → Nat → Int32) (J : Nat → Nat → Int64) (x1 : Int32) (x2 : Int32) (x3 : Int32) (w4 : Value) (x5 : Int32) (hw4 : w4.category = 1) : am_ev X amP_74 43 [.ref 133, .ref 1, .ref 16, .int x1, .int x2, .int x3, w4] [.int x5] (am_sh I J) = (if ¬ x5 = x2 then am_ev X amP_74 51 [.ref 133, .ref 1, .ref 16, .int x1, .int x2, .int (0 : Int32), .int (0 : Int32)] [] (am_sh I J) else am_ev X amP_74 51 [.ref 133, .ref 1, .ref 16, .int x1, .int x2, .int (1 : Int32), .int (0 : Int32)] [] (am_sh I J)) := by
  refine (ev_iload rfl rfl).trans ?_
  refine (ev_icmp1 rfl).trans (am_ite (fun c1 => ?_) (fun c1 => ?_))
  · refine (ev_const0 (v := (0 : Int32)) rfl am_ci_0).trans ?_
    refine (ev_istore (ls' := [.ref 133, .ref 1, .ref 16, .int x1, .int x2, .int (0 : Int32), w4]) rfl (Nat.le_of_ble_eq_true rfl) rfl).trans ?_
    refine (ev_const0 (v := (0 : Int32)) rfl am_ci_0).trans ?_
    refine (ev_istore (ls' := [.ref 133, .ref 1, .ref 16, .int x1, .int x2, .int (0 : Int32), .int (0 : Int32)]) rfl (Nat.le_of_ble_eq_true rfl) rfl).trans ?_
    rfl
  · refine (ev_const0 (v := (1 : Int32)) rfl am_ci_1).trans ?_
    refine (ev_goto rfl).trans ?_
    refine (ev_istore (ls' := [.ref 133, .ref 1, .ref 16, .int x1, .int x2, .int (1 : Int32), w4]) rfl (Nat.le_of_ble_eq_true rfl) rfl).trans ?_
    refine (ev_const0 (v := (0 : Int32)) rfl am_ci_0).trans ?_
    refine (ev_istore (ls' := [.ref 133, .ref 1, .ref 16, .int x1, .int x2, .int (1 : Int32), .int (0 : Int32)]) rfl (Nat.le_of_ble_eq_true rfl) rfl).trans ?_
    rfl
set_option maxRecDepth 10000 in
theorem sg_74_51 (X : am_X) (I : Nat → Nat → Int32) (J : Nat → Nat → Int64) (x1 : Int32) (x2 : Int32) (x3 : Int32) (x4 : Int32) (z0 : x3 = 0 ∨ x3 = 1) : am_ev X amP_74 51 [.ref 133, .ref 1, .ref 16, .int x1, .int x2, .int x3, .int x4] [] (am_sh I J) = (if (I 16 2) ≤ x4 then some (some (.int x3), am_sh I J) else (if x3 = 0 then some (some (.int x3), am_sh I J) else (am_do X 75 [.ref 133, .ref 1, .ref 16, .int x4] (am_sh I J)).bind (fun q => am_ev X amP_74 62 [.ref 133, .ref 1, .ref 16, .int x1, .int x2, .int x3, .int x4] (q.1.toList ++ []) q.2))) := by
  refine (ev_iload rfl rfl).trans ?_
  refine (ev_aload rfl rfl).trans ?_
  refine (ev_getI rfl (by decide) am_K_16 (by decide) rfl).trans ?_
  refine (ev_icmp3 rfl).trans (am_ite (fun c1 => ?_) (fun c1 => ?_))
  · refine (ev_iload rfl rfl).trans ?_
    exact ev_zret rfl z0
  · refine (ev_iload rfl rfl).trans ?_
    refine (ev_if0 rfl).trans (am_ite (fun c2 => ?_) (fun c2 => ?_))
    · refine (ev_iload rfl rfl).trans ?_
      exact ev_zret rfl z0
    · refine (ev_aload rfl rfl).trans ?_
      refine (ev_aload rfl rfl).trans ?_
      refine (ev_aload rfl rfl).trans ?_
      refine (ev_iload rfl rfl).trans ?_
      exact ev_invv (as := [.int x4, .ref 16, .ref 1]) rfl (by decide) am_K_133 rfl (by simp [Value.category])
set_option maxRecDepth 10000 in
theorem sg_74_62 (X : am_X) (I : Nat → Nat → Int32) (J : Nat → Nat → Int64) (x1 : Int32) (x2 : Int32) (x3 : Int32) (x4 : Int32) : am_ev X amP_74 62 [.ref 133, .ref 1, .ref 16, .int x1, .int x2, .int x3, .int x4] [] (am_sh I J) = (am_do X 76 [.ref 133] (am_sh I J)).bind (fun q => am_ev X amP_74 64 [.ref 133, .ref 1, .ref 16, .int x1, .int x2, .int x3, .int x4] (q.1.toList ++ []) q.2) := by
  refine (ev_aload rfl rfl).trans ?_
  exact ev_invv (as := []) rfl (by decide) am_K_133 rfl (by simp [Value.category])
set_option maxRecDepth 10000 in
theorem sg_74_64 (X : am_X) (I : Nat → Nat → Int32) (J : Nat → Nat → Int64) (x1 : Int32) (x2 : Int32) (x3 : Int32) (x4 : Int32) (x5 : Int32) : am_ev X amP_74 64 [.ref 133, .ref 1, .ref 16, .int x1, .int x2, .int x3, .int x4] [.int x5] (am_sh I J) = am_ev X amP_74 51 [.ref 133, .ref 1, .ref 16, .int x1, .int x2, .int x5, .int (x4 + (1 : Int32))] [] (am_sh I J) := by
  refine (ev_istore (ls' := [.ref 133, .ref 1, .ref 16, .int x1, .int x2, .int x5, .int x4]) rfl (Nat.le_of_ble_eq_true rfl) rfl).trans ?_
  refine (ev_iincv (v := (1 : Int32)) (ls' := [.ref 133, .ref 1, .ref 16, .int x1, .int x2, .int x5, .int (x4 + (1 : Int32))]) rfl am_ci_1 rfl rfl).trans ?_
  refine (ev_goto rfl).trans ?_
  rfl
-- 75 X4_readRow
set_option maxRecDepth 10000 in
theorem sg_75_e0 (X : am_X) (I : Nat → Nat → Int32) (J : Nat → Nat → Int64) (x1 : Int32) : am_ev X amP_75 0 [.ref 133, .ref 1, .ref 16, .int x1, .null] [] (am_sh I J) = (if x1 < 0 ∨ 10 ≤ x1.toNatClampNeg then none else (if (0 : Int32) < 0 ∨ (0 : Int32) < 0 ∨ (9 : Int32) < 0 ∨ 9 < (0 : Int32).toNatClampNeg + (9 : Int32).toNatClampNeg ∨ 9 < (0 : Int32).toNatClampNeg + (9 : Int32).toNatClampNeg then none else am_ev X amP_75 13 [.ref 133, .ref 1, .ref 16, .int x1, .int (0 : Int32)] [] (am_sh (fun c k => if c = 135 then (if (0 : Int32).toNatClampNeg ≤ k ∧ k < (0 : Int32).toNatClampNeg + (9 : Int32).toNatClampNeg then I (am_bd (x1.toNatClampNeg) + 1) ((0 : Int32).toNatClampNeg + (k - (0 : Int32).toNatClampNeg)) else I c k) else I c k) J))) := by
  refine (ev_aload rfl rfl).trans ?_
  refine (ev_getR rfl (by decide) am_K_16 (by decide) rfl am_R_16_0).trans ?_
  refine (ev_iload rfl rfl).trans ?_
  refine (ev_aald rfl (by decide) (Or.inl am_K_17) (f := am_bd) (fun k hk => am_R17 hk)).trans (am_itn (fun g1 => ?_))
  refine (ev_getR rfl (by have := am_bd_lt (by omega : (x1.toNatClampNeg) < 11); omega) (am_Kbd (by omega : (x1.toNatClampNeg) < 11)) (by decide) rfl (am_Rb2 (by omega : (x1.toNatClampNeg) < 11))).trans ?_
  refine (ev_const0 (v := (0 : Int32)) rfl am_ci_0).trans ?_
  refine (ev_aload rfl rfl).trans ?_
  refine (ev_getR rfl (by decide) am_K_133 (by decide) rfl am_R_133_2).trans ?_
  refine (ev_const0 (v := (0 : Int32)) rfl am_ci_0).trans ?_
  refine (ev_const1 (v := (9 : Int32)) rfl am_ci_9).trans ?_
  refine (ev_acpy rfl (by have := am_bd_lt (by omega : (x1.toNatClampNeg) < 11); omega) (am_Kbn (by omega : (x1.toNatClampNeg) < 11)) (by decide) am_K_135 (by simp [Value.category])).trans (am_itn (fun g2 => ?_))
  refine (ev_const0 (v := (0 : Int32)) rfl am_ci_0).trans ?_
  refine (ev_istore (ls' := [.ref 133, .ref 1, .ref 16, .int x1, .int (0 : Int32)]) rfl (Nat.le_of_ble_eq_true rfl) rfl).trans ?_
  rfl
theorem cl_75 (X : am_X) (I : Nat → Nat → Int32) (J : Nat → Nat → Int64) (x1 : Int32) : am_do X 75 [.ref 133, .ref 1, .ref 16, .int x1] (am_sh I J) = am_ev X amP_75 0 [.ref 133, .ref 1, .ref 16, .int x1, .null] [] (am_sh I J) := am_do_of rfl rfl rfl
set_option maxRecDepth 10000 in
theorem sg_75_13 (X : am_X) (I : Nat → Nat → Int32) (J : Nat → Nat → Int64) (x1 : Int32) (x2 : Int32) : am_ev X amP_75 13 [.ref 133, .ref 1, .ref 16, .int x1, .int x2] [] (am_sh I J) = (if (Int32.ofNat (X 0).1) ≤ x2 then some (none, am_sh I J) else (if x2 < 0 ∨ (X 0).1 ≤ x2.toNatClampNeg then none else (am_do X 125 [.ref 1, .int (((1 : Int32) + (x1 * (Int32.ofNat (X 0).1))) + x2)] (am_sh I J)).bind (fun q => am_ev X amP_75 32 [.ref 133, .ref 1, .ref 16, .int x1, .int x2] (q.1.toList ++ [.int ((X 0).2 x2.toNatClampNeg), .ref 135]) q.2))) := by
  refine (ev_iload rfl rfl).trans ?_
  refine (ev_gets0 rfl).trans ?_
  refine (ev_alS rfl (by decide)).trans ?_
  refine (ev_icmp3 rfl).trans (am_ite (fun c1 => ?_) (fun c1 => ?_))
  · exact ev_vret rfl
  · refine (ev_aload rfl rfl).trans ?_
    refine (ev_getR rfl (by decide) am_K_133 (by decide) rfl am_R_133_2).trans ?_
    refine (ev_gets0 rfl).trans ?_
    refine (ev_iload rfl rfl).trans ?_
    refine (ev_iaS rfl (by decide)).trans (am_itn (fun g2 => ?_))
    refine (ev_aload rfl rfl).trans ?_
    refine (ev_const0 (v := (1 : Int32)) rfl am_ci_1).trans ?_
    refine (ev_iload rfl rfl).trans ?_
    refine (ev_gets0 rfl).trans ?_
    refine (ev_alS rfl (by decide)).trans ?_
    refine (ev_imul rfl).trans ?_
    refine (ev_iadd rfl).trans ?_
    refine (ev_iload rfl rfl).trans ?_
    refine (ev_iadd rfl).trans ?_
    exact ev_invv (as := [.int (((1 : Int32) + (x1 * (Int32.ofNat (X 0).1))) + x2)]) rfl (by decide) am_K_1 rfl (by simp [Value.category])
set_option maxRecDepth 10000 in
theorem sg_75_32 (X : am_X) (I : Nat → Nat → Int32) (J : Nat → Nat → Int64) (x1 : Int32) (x2 : Int32) (x3 : Int32) (x4 : Int32) : am_ev X amP_75 32 [.ref 133, .ref 1, .ref 16, .int x1, .int x2] [.int x4, .int x3, .ref 135] (am_sh I J) = (if x3 < 0 ∨ 9 ≤ x3.toNatClampNeg then none else am_ev X amP_75 13 [.ref 133, .ref 1, .ref 16, .int x1, .int (x2 + (1 : Int32))] [] (am_sh (am_up I 135 x3.toNatClampNeg x4) J)) := by
  refine (ev_iast rfl (by decide) am_K_135).trans (am_itn (fun g1 => ?_))
  refine (ev_iincv (v := (1 : Int32)) (ls' := [.ref 133, .ref 1, .ref 16, .int x1, .int (x2 + (1 : Int32))]) rfl am_ci_1 rfl rfl).trans ?_
  refine (ev_goto rfl).trans ?_
  rfl
-- 76 X4_isRowWithin
set_option maxRecDepth 10000 in
theorem sg_76_e0 (X : am_X) (I : Nat → Nat → Int32) (J : Nat → Nat → Int64) : am_ev X amP_76 0 [.ref 133, .null] [] (am_sh I J) = am_ev X amP_76 2 [.ref 133, .int (0 : Int32)] [] (am_sh I J) := by
  refine (ev_const0 (v := (0 : Int32)) rfl am_ci_0).trans ?_
  refine (ev_istore (ls' := [.ref 133, .int (0 : Int32)]) rfl (Nat.le_of_ble_eq_true rfl) rfl).trans ?_
  rfl
theorem cl_76 (X : am_X) (I : Nat → Nat → Int32) (J : Nat → Nat → Int64) : am_do X 76 [.ref 133] (am_sh I J) = am_ev X amP_76 0 [.ref 133, .null] [] (am_sh I J) := am_do_of rfl rfl rfl
set_option maxRecDepth 10000 in
theorem sg_76_2 (X : am_X) (I : Nat → Nat → Int32) (J : Nat → Nat → Int64) (x1 : Int32) : am_ev X amP_76 2 [.ref 133, .int x1] [] (am_sh I J) = (if (9 : Int32) ≤ x1 then some (some (.int (1 : Int32)), am_sh I J) else (if x1 < 0 ∨ 9 ≤ x1.toNatClampNeg then none else (am_do X 27 [.ref 135, .int x1] (am_sh I J)).bind (fun q => am_ev X amP_76 13 [.ref 133, .int x1] (q.1.toList ++ [.int (I 135 x1.toNatClampNeg)]) q.2))) := by
  refine (ev_iload rfl rfl).trans ?_
  refine (ev_const1 (v := (9 : Int32)) rfl am_ci_9).trans ?_
  refine (ev_icmp3 rfl).trans (am_ite (fun c1 => ?_) (fun c1 => ?_))
  · refine (ev_const0 (v := (1 : Int32)) rfl am_ci_1).trans ?_
    exact ev_zret rfl (by decide)
  · refine (ev_aload rfl rfl).trans ?_
    refine (ev_getR rfl (by decide) am_K_133 (by decide) rfl am_R_133_2).trans ?_
    refine (ev_iload rfl rfl).trans ?_
    refine (ev_iald rfl (by decide) am_K_135).trans (am_itn (fun g2 => ?_))
    refine (ev_aload rfl rfl).trans ?_
    refine (ev_getR rfl (by decide) am_K_133 (by decide) rfl am_R_133_2).trans ?_
    refine (ev_iload rfl rfl).trans ?_
    exact ev_invs (as := [.int x1, .ref 135]) rfl rfl (by simp [Value.category])
set_option maxRecDepth 10000 in
theorem sg_76_13 (X : am_X) (I : Nat → Nat → Int32) (J : Nat → Nat → Int64) (x1 : Int32) (x2 : Int32) (x3 : Int32) : am_ev X amP_76 13 [.ref 133, .int x1] [.int x3, .int x2] (am_sh I J) = (if x2 < x3 then some (some (.int (0 : Int32)), am_sh I J) else (if x1 < 0 ∨ 9 ≤ x1.toNatClampNeg then none else (am_do X 28 [.ref 135, .int x1] (am_sh I J)).bind (fun q => am_ev X amP_76 22 [.ref 133, .int x1] (q.1.toList ++ [.int (I 135 x1.toNatClampNeg)]) q.2))) := by
  refine (ev_icmp2 rfl).trans (am_ite (fun c1 => ?_) (fun c1 => ?_))
  · refine (ev_const0 (v := (0 : Int32)) rfl am_ci_0).trans ?_
    exact ev_zret rfl (by decide)
  · refine (ev_aload rfl rfl).trans ?_
    refine (ev_getR rfl (by decide) am_K_133 (by decide) rfl am_R_133_2).trans ?_
    refine (ev_iload rfl rfl).trans ?_
    refine (ev_iald rfl (by decide) am_K_135).trans (am_itn (fun g2 => ?_))
    refine (ev_aload rfl rfl).trans ?_
    refine (ev_getR rfl (by decide) am_K_133 (by decide) rfl am_R_133_2).trans ?_
    refine (ev_iload rfl rfl).trans ?_
    exact ev_invs (as := [.int x1, .ref 135]) rfl rfl (by simp [Value.category])
set_option maxRecDepth 10000 in
theorem sg_76_22 (X : am_X) (I : Nat → Nat → Int32) (J : Nat → Nat → Int64) (x1 : Int32) (x2 : Int32) (x3 : Int32) : am_ev X amP_76 22 [.ref 133, .int x1] [.int x3, .int x2] (am_sh I J) = (if x2 ≤ x3 then am_ev X amP_76 2 [.ref 133, .int (x1 + (1 : Int32))] [] (am_sh I J) else some (some (.int (0 : Int32)), am_sh I J)) := by
  refine (ev_icmp5 rfl).trans (am_ite (fun c1 => ?_) (fun c1 => ?_))
  · refine (ev_iincv (v := (1 : Int32)) (ls' := [.ref 133, .int (x1 + (1 : Int32))]) rfl am_ci_1 rfl rfl).trans ?_
    refine (ev_goto rfl).trans ?_
    rfl
  · refine (ev_const0 (v := (0 : Int32)) rfl am_ci_0).trans ?_
    exact ev_zret rfl (by decide)
-- 77 X4_restore
set_option maxRecDepth 10000 in
theorem sg_77_e0 (X : am_X) (I : Nat → Nat → Int32) (J : Nat → Nat → Int64) : am_ev X amP_77 0 [.ref 133, .ref 1, .ref 16, .null] [] (am_sh I J) = (am_do X 125 [.ref 1, .int (0 : Int32)] (am_sh I J)).bind (fun q => am_ev X amP_77 4 [.ref 133, .ref 1, .ref 16, .null] (q.1.toList ++ [.ref 16]) q.2) := by
  refine (ev_aload rfl rfl).trans ?_
  refine (ev_aload rfl rfl).trans ?_
  refine (ev_const0 (v := (0 : Int32)) rfl am_ci_0).trans ?_
  exact ev_invv (as := [.int (0 : Int32)]) rfl (by decide) am_K_1 rfl (by simp [Value.category])
theorem cl_77 (X : am_X) (I : Nat → Nat → Int32) (J : Nat → Nat → Int64) : am_do X 77 [.ref 133, .ref 1, .ref 16] (am_sh I J) = am_ev X amP_77 0 [.ref 133, .ref 1, .ref 16, .null] [] (am_sh I J) := am_do_of rfl rfl rfl
set_option maxRecDepth 10000 in
theorem sg_77_4 (X : am_X) (I : Nat → Nat → Int32) (J : Nat → Nat → Int64) (w1 : Value) (x2 : Int32) (hw1 : w1.category = 1) : am_ev X amP_77 4 [.ref 133, .ref 1, .ref 16, w1] [.int x2, .ref 16] (am_sh I J) = am_ev X amP_77 7 [.ref 133, .ref 1, .ref 16, .int (0 : Int32)] [] (am_sh (am_up I 16 3 x2) J) := by
  refine (ev_putI rfl (by decide) am_K_16 (by decide) rfl).trans ?_
  refine (ev_const0 (v := (0 : Int32)) rfl am_ci_0).trans ?_
  refine (ev_istore (ls' := [.ref 133, .ref 1, .ref 16, .int (0 : Int32)]) rfl (Nat.le_of_ble_eq_true rfl) rfl).trans ?_
  rfl
set_option maxRecDepth 10000 in
theorem sg_77_7 (X : am_X) (I : Nat → Nat → Int32) (J : Nat → Nat → Int64) (x1 : Int32) : am_ev X amP_77 7 [.ref 133, .ref 1, .ref 16, .int x1] [] (am_sh I J) = (if (I 16 2) ≤ x1 then some (none, am_sh I J) else (am_do X 75 [.ref 133, .ref 1, .ref 16, .int x1] (am_sh I J)).bind (fun q => am_ev X amP_77 16 [.ref 133, .ref 1, .ref 16, .int x1] (q.1.toList ++ []) q.2)) := by
  refine (ev_iload rfl rfl).trans ?_
  refine (ev_aload rfl rfl).trans ?_
  refine (ev_getI rfl (by decide) am_K_16 (by decide) rfl).trans ?_
  refine (ev_icmp3 rfl).trans (am_ite (fun c1 => ?_) (fun c1 => ?_))
  · exact ev_vret rfl
  · refine (ev_aload rfl rfl).trans ?_
    refine (ev_aload rfl rfl).trans ?_
    refine (ev_aload rfl rfl).trans ?_
    refine (ev_iload rfl rfl).trans ?_
    exact ev_invv (as := [.int x1, .ref 16, .ref 1]) rfl (by decide) am_K_133 rfl (by simp [Value.category])
set_option maxRecDepth 10000 in
theorem sg_77_16 (X : am_X) (I : Nat → Nat → Int32) (J : Nat → Nat → Int64) (x1 : Int32) : am_ev X amP_77 16 [.ref 133, .ref 1, .ref 16, .int x1] [] (am_sh I J) = (if x1 < 0 ∨ 10 ≤ x1.toNatClampNeg then none else (if (0 : Int32) < 0 ∨ (0 : Int32) < 0 ∨ (9 : Int32) < 0 ∨ 9 < (0 : Int32).toNatClampNeg + (9 : Int32).toNatClampNeg ∨ 9 < (0 : Int32).toNatClampNeg + (9 : Int32).toNatClampNeg then none else (if x1 < 0 ∨ 10 ≤ x1.toNatClampNeg then none else (am_do X 31 [.ref (am_bd (x1.toNatClampNeg))] (am_sh (fun c k => if c = (am_bd (x1.toNatClampNeg) + 1) then (if (0 : Int32).toNatClampNeg ≤ k ∧ k < (0 : Int32).toNatClampNeg + (9 : Int32).toNatClampNeg then I 135 ((0 : Int32).toNatClampNeg + (k - (0 : Int32).toNatClampNeg)) else I c k) else I c k) J)).bind (fun q => am_ev X amP_77 32 [.ref 133, .ref 1, .ref 16, .int x1] (q.1.toList ++ []) q.2)))) := by
  refine (ev_aload rfl rfl).trans ?_
  refine (ev_getR rfl (by decide) am_K_133 (by decide) rfl am_R_133_2).trans ?_
  refine (ev_const0 (v := (0 : Int32)) rfl am_ci_0).trans ?_
  refine (ev_aload rfl rfl).trans ?_
  refine (ev_getR rfl (by decide) am_K_16 (by decide) rfl am_R_16_0).trans ?_
  refine (ev_iload rfl rfl).trans ?_
  refine (ev_aald rfl (by decide) (Or.inl am_K_17) (f := am_bd) (fun k hk => am_R17 hk)).trans (am_itn (fun g1 => ?_))
  refine (ev_getR rfl (by have := am_bd_lt (by omega : (x1.toNatClampNeg) < 11); omega) (am_Kbd (by omega : (x1.toNatClampNeg) < 11)) (by decide) rfl (am_Rb2 (by omega : (x1.toNatClampNeg) < 11))).trans ?_
  refine (ev_const0 (v := (0 : Int32)) rfl am_ci_0).trans ?_
  refine (ev_const1 (v := (9 : Int32)) rfl am_ci_9).trans ?_
  refine (ev_acpy rfl (by decide) am_K_135 (by have := am_bd_lt (by omega : (x1.toNatClampNeg) < 11); omega) (am_Kbn (by omega : (x1.toNatClampNeg) < 11)) (by simp [Value.category])).trans (am_itn (fun g2 => ?_))
  refine (ev_aload rfl rfl).trans ?_
  refine (ev_getR rfl (by decide) am_K_16 (by decide) rfl am_R_16_0).trans ?_
  refine (ev_iload rfl rfl).trans ?_
  refine (ev_aald rfl (by decide) (Or.inl am_K_17) (f := am_bd) (fun k hk => am_R17 hk)).trans (am_itn (fun g3 => ?_))
  exact ev_invv (as := []) rfl (by have := am_bd_lt (by omega : (x1.toNatClampNeg) < 11); omega) (am_Kbd (by omega : (x1.toNatClampNeg) < 11)) rfl (by simp [Value.category])
set_option maxRecDepth 10000 in
theorem sg_77_32 (X : am_X) (I : Nat → Nat → Int32) (J : Nat → Nat → Int64) (x1 : Int32) : am_ev X amP_77 32 [.ref 133, .ref 1, .ref 16, .int x1] [] (am_sh I J) = am_ev X amP_77 7 [.ref 133, .ref 1, .ref 16, .int (x1 + (1 : Int32))] [] (am_sh I J) := by
  refine (ev_iincv (v := (1 : Int32)) (ls' := [.ref 133, .ref 1, .ref 16, .int (x1 + (1 : Int32))]) rfl am_ci_1 rfl rfl).trans ?_
  refine (ev_goto rfl).trans ?_
  rfl
-- 79 X5_forgetAll
set_option maxRecDepth 10000 in
theorem sg_79_e0 (X : am_X) (I : Nat → Nat → Int32) (J : Nat → Nat → Int64) : am_ev X amP_79 0 [.ref 79] [] (am_sh I J) = (am_do X 360 [.ref 80, .int (-1 : Int32)] (am_sh I J)).bind (fun q => am_ev X amP_79 4 [.ref 79] (q.1.toList ++ []) q.2) := by
  refine (ev_aload rfl rfl).trans ?_
  refine (ev_getR rfl (by decide) am_K_79 (by decide) rfl am_R_79_1).trans ?_
  refine (ev_const0 (v := (-1 : Int32)) rfl am_ci_m1).trans ?_
  exact ev_invs (as := [.int (-1 : Int32), .ref 80]) rfl rfl (by simp [Value.category])
theorem cl_79 (X : am_X) (I : Nat → Nat → Int32) (J : Nat → Nat → Int64) : am_do X 79 [.ref 79] (am_sh I J) = am_ev X amP_79 0 [.ref 79] [] (am_sh I J) := am_do_of rfl rfl rfl
set_option maxRecDepth 10000 in
theorem sg_79_4 (X : am_X) (I : Nat → Nat → Int32) (J : Nat → Nat → Int64) : am_ev X amP_79 4 [.ref 79] [] (am_sh I J) = some (none, am_sh I J) := by
  exact ev_vret rfl
-- 80 X5_forgetBody
set_option maxRecDepth 10000 in
theorem sg_80_e0 (X : am_X) (I : Nat → Nat → Int32) (J : Nat → Nat → Int64) (x1 : Int32) : am_ev X amP_80 0 [.ref 79, .int x1, .null] [] (am_sh I J) = am_ev X amP_80 2 [.ref 79, .int x1, .int (0 : Int32)] [] (am_sh I J) := by
  refine (ev_const0 (v := (0 : Int32)) rfl am_ci_0).trans ?_
  refine (ev_istore (ls' := [.ref 79, .int x1, .int (0 : Int32)]) rfl (Nat.le_of_ble_eq_true rfl) rfl).trans ?_
  rfl
theorem cl_80 (X : am_X) (I : Nat → Nat → Int32) (J : Nat → Nat → Int64) (x1 : Int32) : am_do X 80 [.ref 79, .int x1] (am_sh I J) = am_ev X amP_80 0 [.ref 79, .int x1, .null] [] (am_sh I J) := am_do_of rfl rfl rfl
set_option maxRecDepth 10000 in
theorem sg_80_2 (X : am_X) (I : Nat → Nat → Int32) (J : Nat → Nat → Int64) (x1 : Int32) (x2 : Int32) : am_ev X amP_80 2 [.ref 79, .int x1, .int x2] [] (am_sh I J) = (if (10 : Int32) ≤ x2 then some (none, am_sh I J) else (am_do X 51 [.int x1, .int x2] (am_sh I J)).bind (fun q => am_ev X amP_80 10 [.ref 79, .int x1, .int x2] (q.1.toList ++ [.ref 80]) q.2)) := by
  refine (ev_iload rfl rfl).trans ?_
  refine (ev_const1 (v := (10 : Int32)) rfl am_ci_10).trans ?_
  refine (ev_icmp3 rfl).trans (am_ite (fun c1 => ?_) (fun c1 => ?_))
  · exact ev_vret rfl
  · refine (ev_aload rfl rfl).trans ?_
    refine (ev_getR rfl (by decide) am_K_79 (by decide) rfl am_R_79_1).trans ?_
    refine (ev_iload rfl rfl).trans ?_
    refine (ev_iload rfl rfl).trans ?_
    exact ev_invs (as := [.int x2, .int x1]) rfl rfl (by simp [Value.category])
set_option maxRecDepth 10000 in
theorem sg_80_10 (X : am_X) (I : Nat → Nat → Int32) (J : Nat → Nat → Int64) (x1 : Int32) (x2 : Int32) (x3 : Int32) : am_ev X amP_80 10 [.ref 79, .int x1, .int x2] [.int x3, .ref 80] (am_sh I J) = (if x3 < 0 ∨ 100 ≤ x3.toNatClampNeg then none else am_ev X amP_80 2 [.ref 79, .int x1, .int (x2 + (1 : Int32))] [] (am_sh (am_up I 80 x3.toNatClampNeg (-1 : Int32)) J)) := by
  refine (ev_const0 (v := (-1 : Int32)) rfl am_ci_m1).trans ?_
  refine (ev_iast rfl (by decide) am_K_80).trans (am_itn (fun g1 => ?_))
  refine (ev_iincv (v := (1 : Int32)) (ls' := [.ref 79, .int x1, .int (x2 + (1 : Int32))]) rfl am_ci_1 rfl rfl).trans ?_
  refine (ev_goto rfl).trans ?_
  rfl
-- 81 X5_sieveOf
set_option maxRecDepth 10000 in
theorem sg_81_e0 (X : am_X) (I : Nat → Nat → Int32) (J : Nat → Nat → Int64) (x1 : Int32) (x2 : Int32) : am_ev X amP_81 0 [.ref 79, .int x1, .int x2, .null] [] (am_sh I J) = (am_do X 51 [.int x1, .int x2] (am_sh I J)).bind (fun q => am_ev X amP_81 3 [.ref 79, .int x1, .int x2, .null] (q.1.toList ++ []) q.2) := by
  refine (ev_iload rfl rfl).trans ?_
  refine (ev_iload rfl rfl).trans ?_
  exact ev_invs (as := [.int x2, .int x1]) rfl rfl (by simp [Value.category])
theorem cl_81 (X : am_X) (I : Nat → Nat → Int32) (J : Nat → Nat → Int64) (x1 : Int32) (x2 : Int32) : am_do X 81 [.ref 79, .int x1, .int x2] (am_sh I J) = am_ev X amP_81 0 [.ref 79, .int x1, .int x2, .null] [] (am_sh I J) := am_do_of rfl rfl rfl
set_option maxRecDepth 10000 in
theorem sg_81_3 (X : am_X) (I : Nat → Nat → Int32) (J : Nat → Nat → Int64) (x1 : Int32) (x2 : Int32) (w3 : Value) (x4 : Int32) (hw3 : w3.category = 1) : am_ev X amP_81 3 [.ref 79, .int x1, .int x2, w3] [.int x4] (am_sh I J) = (if x4 < 0 ∨ 100 ≤ x4.toNatClampNeg then none else (if ¬ (I 80 x4.toNatClampNeg) = (-1 : Int32) then (if x4 < 0 ∨ 100 ≤ x4.toNatClampNeg then none else some (some (.int (I 80 x4.toNatClampNeg)), am_sh I J)) else (if x1 < 0 ∨ 10 ≤ x1.toNatClampNeg then none else (if x2 < 0 ∨ 10 ≤ x2.toNatClampNeg then none else (am_do X 82 [.ref 79, .ref (am_bd (x1.toNatClampNeg)), .ref (am_bd (x2.toNatClampNeg))] (am_sh I J)).bind (fun q => am_ev X amP_81 25 [.ref 79, .int x1, .int x2, .int x4] (q.1.toList ++ [.int x4, .ref 80]) q.2))))) := by
  refine (ev_istore (ls' := [.ref 79, .int x1, .int x2, .int x4]) rfl (Nat.le_of_ble_eq_true rfl) rfl).trans ?_
  refine (ev_aload rfl rfl).trans ?_
  refine (ev_getR rfl (by decide) am_K_79 (by decide) rfl am_R_79_1).trans ?_
  refine (ev_iload rfl rfl).trans ?_
  refine (ev_iald rfl (by decide) am_K_80).trans (am_itn (fun g1 => ?_))
  refine (ev_const0 (v := (-1 : Int32)) rfl am_ci_m1).trans ?_
  refine (ev_icmp1 rfl).trans (am_ite (fun c2 => ?_) (fun c2 => ?_))
  · refine (ev_aload rfl rfl).trans ?_
    refine (ev_getR rfl (by decide) am_K_79 (by decide) rfl am_R_79_1).trans ?_
    refine (ev_iload rfl rfl).trans ?_
    refine (ev_iald rfl (by decide) am_K_80).trans (am_itn (fun g3 => ?_))
    exact ev_iret rfl
  · refine (ev_aload rfl rfl).trans ?_
    refine (ev_getR rfl (by decide) am_K_79 (by decide) rfl am_R_79_1).trans ?_
    refine (ev_iload rfl rfl).trans ?_
    refine (ev_aload rfl rfl).trans ?_
    refine (ev_aload rfl rfl).trans ?_
    refine (ev_getR rfl (by decide) am_K_79 (by decide) rfl am_R_79_0).trans ?_
    refine (ev_getR rfl (by decide) am_K_16 (by decide) rfl am_R_16_0).trans ?_
    refine (ev_iload rfl rfl).trans ?_
    refine (ev_aald rfl (by decide) (Or.inl am_K_17) (f := am_bd) (fun k hk => am_R17 hk)).trans (am_itn (fun g3 => ?_))
    refine (ev_aload rfl rfl).trans ?_
    refine (ev_getR rfl (by decide) am_K_79 (by decide) rfl am_R_79_0).trans ?_
    refine (ev_getR rfl (by decide) am_K_16 (by decide) rfl am_R_16_0).trans ?_
    refine (ev_iload rfl rfl).trans ?_
    refine (ev_aald rfl (by decide) (Or.inl am_K_17) (f := am_bd) (fun k hk => am_R17 hk)).trans (am_itn (fun g4 => ?_))
    exact ev_invv (as := [.ref (am_bd (x2.toNatClampNeg)), .ref (am_bd (x1.toNatClampNeg))]) rfl (by decide) am_K_79 rfl (by simp [Value.category])
set_option maxRecDepth 10000 in
theorem sg_81_25 (X : am_X) (I : Nat → Nat → Int32) (J : Nat → Nat → Int64) (x1 : Int32) (x2 : Int32) (x3 : Int32) (x4 : Int32) (x5 : Int32) : am_ev X amP_81 25 [.ref 79, .int x1, .int x2, .int x3] [.int x5, .int x4, .ref 80] (am_sh I J) = (if x4 < 0 ∨ 100 ≤ x4.toNatClampNeg then none else (if x3 < 0 ∨ 100 ≤ x3.toNatClampNeg then none else some (some (.int ((am_up I 80 x4.toNatClampNeg x5) 80 x3.toNatClampNeg)), am_sh (am_up I 80 x4.toNatClampNeg x5) J))) := by
  refine (ev_iast rfl (by decide) am_K_80).trans (am_itn (fun g1 => ?_))
  refine (ev_aload rfl rfl).trans ?_
  refine (ev_getR rfl (by decide) am_K_79 (by decide) rfl am_R_79_1).trans ?_
  refine (ev_iload rfl rfl).trans ?_
  refine (ev_iald rfl (by decide) am_K_80).trans (am_itn (fun g2 => ?_))
  exact ev_iret rfl
-- 82 X5_sift
set_option maxRecDepth 10000 in
theorem sg_82_e0 (X : am_X) (I : Nat → Nat → Int32) (J : Nat → Nat → Int64) (b1 : Nat) (b2 : Nat) (hb1 : b1 < 11) (hb2 : b2 < 11) : am_ev X amP_82 0 [.ref 79, .ref (am_bd b1), .ref (am_bd b2), .null, .null] [] (am_sh I J) = (am_do X 38 [.ref (am_bd b1), .ref (am_bd b2), .int (I 16 3)] (am_sh I J)).bind (fun q => am_ev X amP_82 6 [.ref 79, .ref (am_bd b1), .ref (am_bd b2), .null, .null] (q.1.toList ++ []) q.2) := by
  refine (ev_aload rfl rfl).trans ?_
  refine (ev_aload rfl rfl).trans ?_
  refine (ev_aload rfl rfl).trans ?_
  refine (ev_getR rfl (by decide) am_K_79 (by decide) rfl am_R_79_0).trans ?_
  refine (ev_getI rfl (by decide) am_K_16 (by decide) rfl).trans ?_
  exact ev_invv (as := [.int (I 16 3), .ref (am_bd b2)]) rfl (by have := am_bd_lt hb1; omega) (am_Kbd hb1) rfl (by simp [Value.category])
theorem cl_82 (X : am_X) (I : Nat → Nat → Int32) (J : Nat → Nat → Int64) (b1 : Nat) (b2 : Nat) : am_do X 82 [.ref 79, .ref (am_bd b1), .ref (am_bd b2)] (am_sh I J) = am_ev X amP_82 0 [.ref 79, .ref (am_bd b1), .ref (am_bd b2), .null, .null] [] (am_sh I J) := am_do_of rfl rfl rfl
set_option maxRecDepth 10000 in
theorem sg_82_6 (X : am_X) (I : Nat → Nat → Int32) (J : Nat → Nat → Int64) (b1 : Nat) (b2 : Nat) (w3 : Value) (w4 : Value) (x5 : Int32) (hb1 : b1 < 11) (hb2 : b2 < 11) (hw3 : w3.category = 1) (hw4 : w4.category = 1) : am_ev X amP_82 6 [.ref 79, .ref (am_bd b1), .ref (am_bd b2), w3, w4] [.int x5] (am_sh I J) = (if x5 = 0 then (am_do X 84 [.ref 79, .ref 81, .ref (am_bd b1), .ref (am_bd b2)] (am_sh I J)).bind (fun q => am_ev X amP_82 15 [.ref 79, .ref (am_bd b1), .ref (am_bd b2), w3, w4] (q.1.toList ++ []) q.2) else some (some (.int (1 : Int32)), am_sh I J)) := by
  refine (ev_if0 rfl).trans (am_ite (fun c1 => ?_) (fun c1 => ?_))
  · refine (ev_aload rfl rfl).trans ?_
    refine (ev_aload rfl rfl).trans ?_
    refine (ev_getR rfl (by decide) am_K_79 (by decide) rfl am_R_79_2).trans ?_
    refine (ev_aload rfl rfl).trans ?_
    refine (ev_aload rfl rfl).trans ?_
    exact ev_invv (as := [.ref (am_bd b2), .ref (am_bd b1), .ref 81]) rfl (by decide) am_K_79 rfl (by simp [Value.category])
  · refine (ev_const0 (v := (1 : Int32)) rfl am_ci_1).trans ?_
    exact ev_iret rfl
set_option maxRecDepth 10000 in
theorem sg_82_15 (X : am_X) (I : Nat → Nat → Int32) (J : Nat → Nat → Int64) (b1 : Nat) (b2 : Nat) (w3 : Value) (w4 : Value) (x5 : Int32) (hb1 : b1 < 11) (hb2 : b2 < 11) (hw3 : w3.category = 1) (hw4 : w4.category = 1) : am_ev X amP_82 15 [.ref 79, .ref (am_bd b1), .ref (am_bd b2), w3, w4] [.int x5] (am_sh I J) = (am_do X 84 [.ref 79, .ref 82, .ref (am_bd b2), .ref (am_bd b1)] (am_sh I J)).bind (fun q => am_ev X amP_82 22 [.ref 79, .ref (am_bd b1), .ref (am_bd b2), .int x5, w4] (q.1.toList ++ []) q.2) := by
  refine (ev_istore (ls' := [.ref 79, .ref (am_bd b1), .ref (am_bd b2), .int x5, w4]) rfl (Nat.le_of_ble_eq_true rfl) rfl).trans ?_
  refine (ev_aload rfl rfl).trans ?_
  refine (ev_aload rfl rfl).trans ?_
  refine (ev_getR rfl (by decide) am_K_79 (by decide) rfl am_R_79_3).trans ?_
  refine (ev_aload rfl rfl).trans ?_
  refine (ev_aload rfl rfl).trans ?_
  exact ev_invv (as := [.ref (am_bd b1), .ref (am_bd b2), .ref 82]) rfl (by decide) am_K_79 rfl (by simp [Value.category])
set_option maxRecDepth 10000 in
theorem sg_82_22 (X : am_X) (I : Nat → Nat → Int32) (J : Nat → Nat → Int64) (b1 : Nat) (b2 : Nat) (x3 : Int32) (w4 : Value) (x5 : Int32) (hb1 : b1 < 11) (hb2 : b2 < 11) (hw4 : w4.category = 1) : am_ev X amP_82 22 [.ref 79, .ref (am_bd b1), .ref (am_bd b2), .int x3, w4] [.int x5] (am_sh I J) = (if x3 = 0 then some (some (.int (2 : Int32)), am_sh I J) else (if ¬ x5 = 0 then (am_do X 87 [.ref 79, .ref (am_bd b1), .ref (am_bd b2), .int (0 : Int32)] (am_sh I J)).bind (fun q => am_ev X amP_82 34 [.ref 79, .ref (am_bd b1), .ref (am_bd b2), .int x3, .int x5] (q.1.toList ++ []) q.2) else some (some (.int (2 : Int32)), am_sh I J))) := by
  refine (ev_istore (ls' := [.ref 79, .ref (am_bd b1), .ref (am_bd b2), .int x3, .int x5]) rfl (Nat.le_of_ble_eq_true rfl) rfl).trans ?_
  refine (ev_iload rfl rfl).trans ?_
  refine (ev_if0 rfl).trans (am_ite (fun c1 => ?_) (fun c1 => ?_))
  · refine (ev_const0 (v := (2 : Int32)) rfl am_ci_2).trans ?_
    exact ev_iret rfl
  · refine (ev_iload rfl rfl).trans ?_
    refine (ev_if1 rfl).trans (am_ite (fun c2 => ?_) (fun c2 => ?_))
    · refine (ev_aload rfl rfl).trans ?_
      refine (ev_aload rfl rfl).trans ?_
      refine (ev_aload rfl rfl).trans ?_
      refine (ev_const0 (v := (0 : Int32)) rfl am_ci_0).trans ?_
      exact ev_invv (as := [.int (0 : Int32), .ref (am_bd b2), .ref (am_bd b1)]) rfl (by decide) am_K_79 rfl (by simp [Value.category])
    · refine (ev_const0 (v := (2 : Int32)) rfl am_ci_2).trans ?_
      exact ev_iret rfl
set_option maxRecDepth 10000 in
theorem sg_82_34 (X : am_X) (I : Nat → Nat → Int32) (J : Nat → Nat → Int64) (b1 : Nat) (b2 : Nat) (x3 : Int32) (x4 : Int32) (x5 : Int32) (hb1 : b1 < 11) (hb2 : b2 < 11) : am_ev X amP_82 34 [.ref 79, .ref (am_bd b1), .ref (am_bd b2), .int x3, .int x4] [.int x5] (am_sh I J) = (if ¬ x5 = (-1 : Int32) then some (some (.int (0 : Int32)), am_sh I J) else some (some (.int (3 : Int32)), am_sh I J)) := by
  refine (ev_const0 (v := (-1 : Int32)) rfl am_ci_m1).trans ?_
  refine (ev_icmp1 rfl).trans (am_ite (fun c1 => ?_) (fun c1 => ?_))
  · refine (ev_const0 (v := (0 : Int32)) rfl am_ci_0).trans ?_
    exact ev_iret rfl
  · refine (ev_const0 (v := (3 : Int32)) rfl am_ci_3).trans ?_
    refine (ev_goto rfl).trans ?_
    exact ev_iret rfl
-- 83 X5_isInWindow
set_option maxRecDepth 10000 in
theorem sg_83_e0 (X : am_X) (I : Nat → Nat → Int32) (J : Nat → Nat → Int64) (b1 : Nat) (b2 : Nat) (x3 : Int32) (hb1 : b1 < 11) (hb2 : b2 < 11) : am_ev X amP_83 0 [.ref 79, .ref (am_bd b1), .ref (am_bd b2), .int x3] [] (am_sh I J) = (am_do X 30 [.ref (am_bd b1), .int x3] (am_sh I J)).bind (fun q => am_ev X amP_83 5 [.ref 79, .ref (am_bd b1), .ref (am_bd b2), .int x3] (q.1.toList ++ [.ref (am_bd b2), .ref (am_bd b1)]) q.2) := by
  refine (ev_aload rfl rfl).trans ?_
  refine (ev_aload rfl rfl).trans ?_
  refine (ev_aload rfl rfl).trans ?_
  refine (ev_iload rfl rfl).trans ?_
  exact ev_invv (as := [.int x3]) rfl (by have := am_bd_lt hb1; omega) (am_Kbd hb1) rfl (by simp [Value.category])
theorem cl_83 (X : am_X) (I : Nat → Nat → Int32) (J : Nat → Nat → Int64) (b1 : Nat) (b2 : Nat) (x3 : Int32) : am_do X 83 [.ref 79, .ref (am_bd b1), .ref (am_bd b2), .int x3] (am_sh I J) = am_ev X amP_83 0 [.ref 79, .ref (am_bd b1), .ref (am_bd b2), .int x3] [] (am_sh I J) := am_do_of rfl rfl rfl
set_option maxRecDepth 10000 in
theorem sg_83_5 (X : am_X) (I : Nat → Nat → Int32) (J : Nat → Nat → Int64) (b1 : Nat) (b2 : Nat) (x3 : Int32) (b4 : Nat) (b5 : Nat) (x6 : Int32) (hb1 : b1 < 11) (hb2 : b2 < 11) (hb4 : b4 < 11) (hb5 : b5 < 11) : am_ev X amP_83 5 [.ref 79, .ref (am_bd b1), .ref (am_bd b2), .int x3] [.int x6, .ref (am_bd b5), .ref (am_bd b4)] (am_sh I J) = (am_do X 37 [.ref (am_bd b4), .ref (am_bd b5), .int x6] (am_sh I J)).bind (fun q => am_ev X amP_83 6 [.ref 79, .ref (am_bd b1), .ref (am_bd b2), .int x3] (q.1.toList ++ []) q.2) := by
  exact ev_invv (as := [.int x6, .ref (am_bd b5)]) rfl (by have := am_bd_lt hb4; omega) (am_Kbd hb4) rfl (by simp [Value.category])
set_option maxRecDepth 10000 in
theorem sg_83_6 (X : am_X) (I : Nat → Nat → Int32) (J : Nat → Nat → Int64) (b1 : Nat) (b2 : Nat) (x3 : Int32) (x4 : Int32) (hb1 : b1 < 11) (hb2 : b2 < 11) : am_ev X amP_83 6 [.ref 79, .ref (am_bd b1), .ref (am_bd b2), .int x3] [.int x4] (am_sh I J) = (am_do X 351 [.int x4] (am_sh I J)).bind (fun q => am_ev X amP_83 7 [.ref 79, .ref (am_bd b1), .ref (am_bd b2), .int x3] (q.1.toList ++ []) q.2) := by
  exact ev_invs (as := [.int x4]) rfl rfl (by simp [Value.category])
set_option maxRecDepth 10000 in
theorem sg_83_7 (X : am_X) (I : Nat → Nat → Int32) (J : Nat → Nat → Int64) (b1 : Nat) (b2 : Nat) (x3 : Int32) (x4 : Int32) (hb1 : b1 < 11) (hb2 : b2 < 11) : am_ev X amP_83 7 [.ref 79, .ref (am_bd b1), .ref (am_bd b2), .int x3] [.int x4] (am_sh I J) = (if (((16 : Int32) * (I 16 3)) + (16 : Int32)) < x4 then some (some (.int (0 : Int32)), am_sh I J) else some (some (.int (1 : Int32)), am_sh I J)) := by
  refine (ev_const1 (v := (16 : Int32)) rfl am_ci_16).trans ?_
  refine (ev_aload rfl rfl).trans ?_
  refine (ev_getR rfl (by decide) am_K_79 (by decide) rfl am_R_79_0).trans ?_
  refine (ev_getI rfl (by decide) am_K_16 (by decide) rfl).trans ?_
  refine (ev_imul rfl).trans ?_
  refine (ev_const1 (v := (16 : Int32)) rfl am_ci_16).trans ?_
  refine (ev_iadd rfl).trans ?_
  refine (ev_icmp4 rfl).trans (am_ite (fun c1 => ?_) (fun c1 => ?_))
  · refine (ev_const0 (v := (0 : Int32)) rfl am_ci_0).trans ?_
    exact ev_zret rfl (by decide)
  · refine (ev_const0 (v := (1 : Int32)) rfl am_ci_1).trans ?_
    refine (ev_goto rfl).trans ?_
    exact ev_zret rfl (by decide)
-- 84 X5_fillWindow
set_option maxRecDepth 10000 in
theorem sg_84_e0 (X : am_X) (I : Nat → Nat → Int32) (J : Nat → Nat → Int64) (a1 : Nat) (b2 : Nat) (b3 : Nat) (ha1 : a1 < 162) (ka1 : am_K a1 = (21, 48)) (hb2 : b2 < 11) (hb3 : b3 < 11) : am_ev X amP_84 0 [.ref 79, .ref a1, .ref (am_bd b2), .ref (am_bd b3), .null, .null, .null] [] (am_sh I J) = am_ev X amP_84 7 [.ref 79, .ref a1, .ref (am_bd b2), .ref (am_bd b3), .int (0 : Int32), .int (I (am_bd b2) 1), .int (0 : Int32)] [] (am_sh I J) := by
  refine (ev_const0 (v := (0 : Int32)) rfl am_ci_0).trans ?_
  refine (ev_istore (ls' := [.ref 79, .ref a1, .ref (am_bd b2), .ref (am_bd b3), .int (0 : Int32), .null, .null]) rfl (Nat.le_of_ble_eq_true rfl) rfl).trans ?_
  refine (ev_aload rfl rfl).trans ?_
  refine (ev_getI rfl (by have := am_bd_lt hb2; omega) (am_Kbd hb2) (by decide) rfl).trans ?_
  refine (ev_istore (ls' := [.ref 79, .ref a1, .ref (am_bd b2), .ref (am_bd b3), .int (0 : Int32), .int (I (am_bd b2) 1), .null]) rfl (Nat.le_of_ble_eq_true rfl) rfl).trans ?_
  refine (ev_const0 (v := (0 : Int32)) rfl am_ci_0).trans ?_
  refine (ev_istore (ls' := [.ref 79, .ref a1, .ref (am_bd b2), .ref (am_bd b3), .int (0 : Int32), .int (I (am_bd b2) 1), .int (0 : Int32)]) rfl (Nat.le_of_ble_eq_true rfl) rfl).trans ?_
  rfl
theorem cl_84 (X : am_X) (I : Nat → Nat → Int32) (J : Nat → Nat → Int64) (a1 : Nat) (b2 : Nat) (b3 : Nat) : am_do X 84 [.ref 79, .ref a1, .ref (am_bd b2), .ref (am_bd b3)] (am_sh I J) = am_ev X amP_84 0 [.ref 79, .ref a1, .ref (am_bd b2), .ref (am_bd b3), .null, .null, .null] [] (am_sh I J) := am_do_of rfl rfl rfl
set_option maxRecDepth 10000 in
theorem sg_84_7 (X : am_X) (I : Nat → Nat → Int32) (J : Nat → Nat → Int64) (a1 : Nat) (b2 : Nat) (b3 : Nat) (x4 : Int32) (x5 : Int32) (x6 : Int32) (ha1 : a1 < 162) (ka1 : am_K a1 = (21, 48)) (hb2 : b2 < 11) (hb3 : b3 < 11) : am_ev X amP_84 7 [.ref 79, .ref a1, .ref (am_bd b2), .ref (am_bd b3), .int x4, .int x5, .int x6] [] (am_sh I J) = (if x5 ≤ x6 then some (some (.int x4), am_sh I J) else (am_do X 83 [.ref 79, .ref (am_bd b2), .ref (am_bd b3), .int x6] (am_sh I J)).bind (fun q => am_ev X amP_84 17 [.ref 79, .ref a1, .ref (am_bd b2), .ref (am_bd b3), .int x4, .int x5, .int x6] (q.1.toList ++ [.int x6, .ref a1]) q.2)) := by
  refine (ev_iload rfl rfl).trans ?_
  refine (ev_iload rfl rfl).trans ?_
  refine (ev_icmp3 rfl).trans (am_ite (fun c1 => ?_) (fun c1 => ?_))
  · refine (ev_iload rfl rfl).trans ?_
    exact ev_iret rfl
  · refine (ev_aload rfl rfl).trans ?_
    refine (ev_iload rfl rfl).trans ?_
    refine (ev_aload rfl rfl).trans ?_
    refine (ev_aload rfl rfl).trans ?_
    refine (ev_aload rfl rfl).trans ?_
    refine (ev_iload rfl rfl).trans ?_
    exact ev_invv (as := [.int x6, .ref (am_bd b3), .ref (am_bd b2)]) rfl (by decide) am_K_79 rfl (by simp [Value.category])
set_option maxRecDepth 10000 in
theorem sg_84_17 (X : am_X) (I : Nat → Nat → Int32) (J : Nat → Nat → Int64) (a1 : Nat) (b2 : Nat) (b3 : Nat) (x4 : Int32) (x5 : Int32) (x6 : Int32) (a7 : Nat) (x8 : Int32) (x9 : Int32) (ha1 : a1 < 162) (ka1 : am_K a1 = (21, 48)) (hb2 : b2 < 11) (hb3 : b3 < 11) (ha7 : a7 < 162) (ka7 : am_K a7 = (21, 48)) (z0 : x9 = 0 ∨ x9 = 1) : am_ev X amP_84 17 [.ref 79, .ref a1, .ref (am_bd b2), .ref (am_bd b3), .int x4, .int x5, .int x6] [.int x9, .int x8, .ref a7] (am_sh I J) = (if x8 < 0 ∨ 48 ≤ x8.toNatClampNeg then none else (if x6 < 0 ∨ 48 ≤ x6.toNatClampNeg then none else (if ((am_up I a7 x8.toNatClampNeg x9) a1 x6.toNatClampNeg) = 0 then am_ev X amP_84 7 [.ref 79, .ref a1, .ref (am_bd b2), .ref (am_bd b3), .int (x4 + (0 : Int32)), .int x5, .int (x6 + (1 : Int32))] [] (am_sh (am_up I a7 x8.toNatClampNeg x9) J) else am_ev X amP_84 7 [.ref 79, .ref a1, .ref (am_bd b2), .ref (am_bd b3), .int (x4 + (1 : Int32)), .int x5, .int (x6 + (1 : Int32))] [] (am_sh (am_up I a7 x8.toNatClampNeg x9) J)))) := by
  refine (ev_zast rfl ha7 ka7 z0).trans (am_itn (fun g1 => ?_))
  refine (ev_iload rfl rfl).trans ?_
  refine (ev_aload rfl rfl).trans ?_
  refine (ev_iload rfl rfl).trans ?_
  refine (ev_zald rfl ha1 ka1).trans (am_itn (fun g2 => ?_))
  refine (ev_if0 rfl).trans (am_ite (fun c3 => ?_) (fun c3 => ?_))
  · refine (ev_const0 (v := (0 : Int32)) rfl am_ci_0).trans ?_
    refine (ev_iadd rfl).trans ?_
    refine (ev_istore (ls' := [.ref 79, .ref a1, .ref (am_bd b2), .ref (am_bd b3), .int (x4 + (0 : Int32)), .int x5, .int x6]) rfl (Nat.le_of_ble_eq_true rfl) rfl).trans ?_
    refine (ev_iincv (v := (1 : Int32)) (ls' := [.ref 79, .ref a1, .ref (am_bd b2), .ref (am_bd b3), .int (x4 + (0 : Int32)), .int x5, .int (x6 + (1 : Int32))]) rfl am_ci_1 rfl rfl).trans ?_
    refine (ev_goto rfl).trans ?_
    rfl
  · refine (ev_const0 (v := (1 : Int32)) rfl am_ci_1).trans ?_
    refine (ev_goto rfl).trans ?_
    refine (ev_iadd rfl).trans ?_
    refine (ev_istore (ls' := [.ref 79, .ref a1, .ref (am_bd b2), .ref (am_bd b3), .int (x4 + (1 : Int32)), .int x5, .int x6]) rfl (Nat.le_of_ble_eq_true rfl) rfl).trans ?_
    refine (ev_iincv (v := (1 : Int32)) (ls' := [.ref 79, .ref a1, .ref (am_bd b2), .ref (am_bd b3), .int (x4 + (1 : Int32)), .int x5, .int (x6 + (1 : Int32))]) rfl am_ci_1 rfl rfl).trans ?_
    refine (ev_goto rfl).trans ?_
    rfl
-- 85 X5_windowTick
set_option maxRecDepth 10000 in
theorem sg_85_e0 (X : am_X) (I : Nat → Nat → Int32) (J : Nat → Nat → Int64) (x1 : Int32) (x2 : Int32) (x3 : Int32) : am_ev X amP_85 0 [.ref 79, .int x1, .int x2, .int x3, .null, .null, .null, .null] [] (am_sh I J) = (if x1 < 0 ∨ 10 ≤ x1.toNatClampNeg then none else (if x2 < 0 ∨ 10 ≤ x2.toNatClampNeg then none else (am_do X 84 [.ref 79, .ref 81, .ref (am_bd (x1.toNatClampNeg)), .ref (am_bd (x2.toNatClampNeg))] (am_sh I J)).bind (fun q => am_ev X amP_85 14 [.ref 79, .int x1, .int x2, .int x3, .null, .null, .null, .null] (q.1.toList ++ []) q.2))) := by
  refine (ev_aload rfl rfl).trans ?_
  refine (ev_aload rfl rfl).trans ?_
  refine (ev_getR rfl (by decide) am_K_79 (by decide) rfl am_R_79_2).trans ?_
  refine (ev_aload rfl rfl).trans ?_
  refine (ev_getR rfl (by decide) am_K_79 (by decide) rfl am_R_79_0).trans ?_
  refine (ev_getR rfl (by decide) am_K_16 (by decide) rfl am_R_16_0).trans ?_
  refine (ev_iload rfl rfl).trans ?_
  refine (ev_aald rfl (by decide) (Or.inl am_K_17) (f := am_bd) (fun k hk => am_R17 hk)).trans (am_itn (fun g1 => ?_))
  refine (ev_aload rfl rfl).trans ?_
  refine (ev_getR rfl (by decide) am_K_79 (by decide) rfl am_R_79_0).trans ?_
  refine (ev_getR rfl (by decide) am_K_16 (by decide) rfl am_R_16_0).trans ?_
  refine (ev_iload rfl rfl).trans ?_
  refine (ev_aald rfl (by decide) (Or.inl am_K_17) (f := am_bd) (fun k hk => am_R17 hk)).trans (am_itn (fun g2 => ?_))
  exact ev_invv (as := [.ref (am_bd (x2.toNatClampNeg)), .ref (am_bd (x1.toNatClampNeg)), .ref 81]) rfl (by decide) am_K_79 rfl (by simp [Value.category])
theorem cl_85 (X : am_X) (I : Nat → Nat → Int32) (J : Nat → Nat → Int64) (x1 : Int32) (x2 : Int32) (x3 : Int32) : am_do X 85 [.ref 79, .int x1, .int x2, .int x3] (am_sh I J) = am_ev X amP_85 0 [.ref 79, .int x1, .int x2, .int x3, .null, .null, .null, .null] [] (am_sh I J) := am_do_of rfl rfl rfl
set_option maxRecDepth 10000 in
theorem sg_85_14 (X : am_X) (I : Nat → Nat → Int32) (J : Nat → Nat → Int64) (x1 : Int32) (x2 : Int32) (x3 : Int32) (w4 : Value) (w5 : Value) (w6 : Value) (w7 : Value) (x8 : Int32) (hw4 : w4.category = 1) (hw5 : w5.category = 1) (hw6 : w6.category = 1) (hw7 : w7.category = 1) : am_ev X amP_85 14 [.ref 79, .int x1, .int x2, .int x3, w4, w5, w6, w7] [.int x8] (am_sh I J) = (if ¬ x3 = (-1 : Int32) then (if x1 < 0 ∨ 10 ≤ x1.toNatClampNeg then none else am_ev X amP_85 31 [.ref 79, .int x1, .int x2, .int x3, .int x8, .int (I (am_bd (x1.toNatClampNeg)) 1), .int (0 : Int32), .int (0 : Int32)] [] (am_sh I J)) else some (some (.int x8), am_sh I J)) := by
  refine (ev_istore (ls' := [.ref 79, .int x1, .int x2, .int x3, .int x8, w5, w6, w7]) rfl (Nat.le_of_ble_eq_true rfl) rfl).trans ?_
  refine (ev_iload rfl rfl).trans ?_
  refine (ev_const0 (v := (-1 : Int32)) rfl am_ci_m1).trans ?_
  refine (ev_icmp1 rfl).trans (am_ite (fun c1 => ?_) (fun c1 => ?_))
  · refine (ev_aload rfl rfl).trans ?_
    refine (ev_getR rfl (by decide) am_K_79 (by decide) rfl am_R_79_0).trans ?_
    refine (ev_getR rfl (by decide) am_K_16 (by decide) rfl am_R_16_0).trans ?_
    refine (ev_iload rfl rfl).trans ?_
    refine (ev_aald rfl (by decide) (Or.inl am_K_17) (f := am_bd) (fun k hk => am_R17 hk)).trans (am_itn (fun g2 => ?_))
    refine (ev_getI rfl (by have := am_bd_lt (by omega : (x1.toNatClampNeg) < 11); omega) (am_Kbd (by omega : (x1.toNatClampNeg) < 11)) (by decide) rfl).trans ?_
    refine (ev_istore (ls' := [.ref 79, .int x1, .int x2, .int x3, .int x8, .int (I (am_bd (x1.toNatClampNeg)) 1), w6, w7]) rfl (Nat.le_of_ble_eq_true rfl) rfl).trans ?_
    refine (ev_const0 (v := (0 : Int32)) rfl am_ci_0).trans ?_
    refine (ev_istore (ls' := [.ref 79, .int x1, .int x2, .int x3, .int x8, .int (I (am_bd (x1.toNatClampNeg)) 1), .int (0 : Int32), w7]) rfl (Nat.le_of_ble_eq_true rfl) rfl).trans ?_
    refine (ev_const0 (v := (0 : Int32)) rfl am_ci_0).trans ?_
    refine (ev_istore (ls' := [.ref 79, .int x1, .int x2, .int x3, .int x8, .int (I (am_bd (x1.toNatClampNeg)) 1), .int (0 : Int32), .int (0 : Int32)]) rfl (Nat.le_of_ble_eq_true rfl) rfl).trans ?_
    rfl
  · refine (ev_iload rfl rfl).trans ?_
    exact ev_iret rfl
set_option maxRecDepth 10000 in
theorem sg_85_31 (X : am_X) (I : Nat → Nat → Int32) (J : Nat → Nat → Int64) (x1 : Int32) (x2 : Int32) (x3 : Int32) (x4 : Int32) (x5 : Int32) (x6 : Int32) (x7 : Int32) : am_ev X amP_85 31 [.ref 79, .int x1, .int x2, .int x3, .int x4, .int x5, .int x6, .int x7] [] (am_sh I J) = (if x5 ≤ x7 then some (some (.int (-1 : Int32)), am_sh I J) else (if x7 < 0 ∨ 48 ≤ x7.toNatClampNeg then none else (if (I 81 x7.toNatClampNeg) = 0 then (if x7 < 0 ∨ 48 ≤ x7.toNatClampNeg then none else (if (I 81 x7.toNatClampNeg) = 0 then am_ev X amP_85 31 [.ref 79, .int x1, .int x2, .int x3, .int x4, .int x5, .int (x6 + (0 : Int32)), .int (x7 + (1 : Int32))] [] (am_sh I J) else am_ev X amP_85 31 [.ref 79, .int x1, .int x2, .int x3, .int x4, .int x5, .int (x6 + (1 : Int32)), .int (x7 + (1 : Int32))] [] (am_sh I J))) else (if ¬ x6 = x3 then (if x7 < 0 ∨ 48 ≤ x7.toNatClampNeg then none else (if (I 81 x7.toNatClampNeg) = 0 then am_ev X amP_85 31 [.ref 79, .int x1, .int x2, .int x3, .int x4, .int x5, .int (x6 + (0 : Int32)), .int (x7 + (1 : Int32))] [] (am_sh I J) else am_ev X amP_85 31 [.ref 79, .int x1, .int x2, .int x3, .int x4, .int x5, .int (x6 + (1 : Int32)), .int (x7 + (1 : Int32))] [] (am_sh I J))) else some (some (.int x7), am_sh I J))))) := by
  refine (ev_iload rfl rfl).trans ?_
  refine (ev_iload rfl rfl).trans ?_
  refine (ev_icmp3 rfl).trans (am_ite (fun c1 => ?_) (fun c1 => ?_))
  · refine (ev_const0 (v := (-1 : Int32)) rfl am_ci_m1).trans ?_
    exact ev_iret rfl
  · refine (ev_aload rfl rfl).trans ?_
    refine (ev_getR rfl (by decide) am_K_79 (by decide) rfl am_R_79_2).trans ?_
    refine (ev_iload rfl rfl).trans ?_
    refine (ev_zald rfl (by decide) am_K_81).trans (am_itn (fun g2 => ?_))
    refine (ev_if0 rfl).trans (am_ite (fun c3 => ?_) (fun c3 => ?_))
    · refine (ev_iload rfl rfl).trans ?_
      refine (ev_aload rfl rfl).trans ?_
      refine (ev_getR rfl (by decide) am_K_79 (by decide) rfl am_R_79_2).trans ?_
      refine (ev_iload rfl rfl).trans ?_
      refine (ev_zald rfl (by decide) am_K_81).trans (am_itn (fun g4 => ?_))
      refine (ev_if0 rfl).trans (am_ite (fun c5 => ?_) (fun c5 => ?_))
      · refine (ev_const0 (v := (0 : Int32)) rfl am_ci_0).trans ?_
        refine (ev_iadd rfl).trans ?_
        refine (ev_istore (ls' := [.ref 79, .int x1, .int x2, .int x3, .int x4, .int x5, .int (x6 + (0 : Int32)), .int x7]) rfl (Nat.le_of_ble_eq_true rfl) rfl).trans ?_
        refine (ev_iincv (v := (1 : Int32)) (ls' := [.ref 79, .int x1, .int x2, .int x3, .int x4, .int x5, .int (x6 + (0 : Int32)), .int (x7 + (1 : Int32))]) rfl am_ci_1 rfl rfl).trans ?_
        refine (ev_goto rfl).trans ?_
        rfl
      · refine (ev_const0 (v := (1 : Int32)) rfl am_ci_1).trans ?_
        refine (ev_goto rfl).trans ?_
        refine (ev_iadd rfl).trans ?_
        refine (ev_istore (ls' := [.ref 79, .int x1, .int x2, .int x3, .int x4, .int x5, .int (x6 + (1 : Int32)), .int x7]) rfl (Nat.le_of_ble_eq_true rfl) rfl).trans ?_
        refine (ev_iincv (v := (1 : Int32)) (ls' := [.ref 79, .int x1, .int x2, .int x3, .int x4, .int x5, .int (x6 + (1 : Int32)), .int (x7 + (1 : Int32))]) rfl am_ci_1 rfl rfl).trans ?_
        refine (ev_goto rfl).trans ?_
        rfl
    · refine (ev_iload rfl rfl).trans ?_
      refine (ev_iload rfl rfl).trans ?_
      refine (ev_icmp1 rfl).trans (am_ite (fun c4 => ?_) (fun c4 => ?_))
      · refine (ev_iload rfl rfl).trans ?_
        refine (ev_aload rfl rfl).trans ?_
        refine (ev_getR rfl (by decide) am_K_79 (by decide) rfl am_R_79_2).trans ?_
        refine (ev_iload rfl rfl).trans ?_
        refine (ev_zald rfl (by decide) am_K_81).trans (am_itn (fun g5 => ?_))
        refine (ev_if0 rfl).trans (am_ite (fun c6 => ?_) (fun c6 => ?_))
        · refine (ev_const0 (v := (0 : Int32)) rfl am_ci_0).trans ?_
          refine (ev_iadd rfl).trans ?_
          refine (ev_istore (ls' := [.ref 79, .int x1, .int x2, .int x3, .int x4, .int x5, .int (x6 + (0 : Int32)), .int x7]) rfl (Nat.le_of_ble_eq_true rfl) rfl).trans ?_
          refine (ev_iincv (v := (1 : Int32)) (ls' := [.ref 79, .int x1, .int x2, .int x3, .int x4, .int x5, .int (x6 + (0 : Int32)), .int (x7 + (1 : Int32))]) rfl am_ci_1 rfl rfl).trans ?_
          refine (ev_goto rfl).trans ?_
          rfl
        · refine (ev_const0 (v := (1 : Int32)) rfl am_ci_1).trans ?_
          refine (ev_goto rfl).trans ?_
          refine (ev_iadd rfl).trans ?_
          refine (ev_istore (ls' := [.ref 79, .int x1, .int x2, .int x3, .int x4, .int x5, .int (x6 + (1 : Int32)), .int x7]) rfl (Nat.le_of_ble_eq_true rfl) rfl).trans ?_
          refine (ev_iincv (v := (1 : Int32)) (ls' := [.ref 79, .int x1, .int x2, .int x3, .int x4, .int x5, .int (x6 + (1 : Int32)), .int (x7 + (1 : Int32))]) rfl am_ci_1 rfl rfl).trans ?_
          refine (ev_goto rfl).trans ?_
          rfl
      · refine (ev_iload rfl rfl).trans ?_
        exact ev_iret rfl
