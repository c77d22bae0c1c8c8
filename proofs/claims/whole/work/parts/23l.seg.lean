-- 335 X12_goesOn
set_option maxRecDepth 10000 in
theorem sg_335_e0 (X : am_X) (I : Nat → Nat → Int32) (J : Nat → Nat → Int64) : am_ev X amP_335 0 [.ref 139, .null, .null] [] (am_sh I J) = (am_do X 303 [.ref 139] (am_sh I J)).bind (fun q => am_ev X amP_335 3 [.ref 139, .null, .null] (q.1.toList ++ [.ref 139]) q.2) := by
  refine (ev_aload rfl rfl).trans ?_
  refine (ev_aload rfl rfl).trans ?_
  exact ev_invv (as := []) rfl (by decide) am_K_139 rfl (by simp [Value.category])
theorem cl_335 (X : am_X) (I : Nat → Nat → Int32) (J : Nat → Nat → Int64) : am_do X 335 [.ref 139] (am_sh I J) = am_ev X amP_335 0 [.ref 139, .null, .null] [] (am_sh I J) := am_do_of rfl rfl rfl
set_option maxRecDepth 10000 in
theorem sg_335_3 (X : am_X) (I : Nat → Nat → Int32) (J : Nat → Nat → Int64) (w1 : Value) (w2 : Value) (x3 : Int32) (hw1 : w1.category = 1) (hw2 : w2.category = 1) : am_ev X amP_335 3 [.ref 139, w1, w2] [.int x3, .ref 139] (am_sh I J) = (am_do X 304 [.ref 139, .int x3, .int (I 148 1)] (am_sh I J)).bind (fun q => am_ev X amP_335 8 [.ref 139, w1, w2] (q.1.toList ++ []) q.2) := by
  refine (ev_aload rfl rfl).trans ?_
  refine (ev_getR rfl (by decide) am_K_139 (by decide) rfl am_R_139_22).trans ?_
  refine (ev_const0 (v := (1 : Int32)) rfl am_ci_1).trans ?_
  refine (ev_ialdC (jn := 1) rfl (by decide) am_K_148 (by decide) (by decide)).trans ?_
  exact ev_invv (as := [.int (I 148 1), .int x3]) rfl (by decide) am_K_139 rfl (by simp [Value.category])
set_option maxRecDepth 10000 in
theorem sg_335_8 (X : am_X) (I : Nat → Nat → Int32) (J : Nat → Nat → Int64) (w1 : Value) (w2 : Value) (x3 : Int32) (hw1 : w1.category = 1) (hw2 : w2.category = 1) : am_ev X amP_335 8 [.ref 139, w1, w2] [.int x3] (am_sh I J) = am_ev X amP_335 11 [.ref 139, .int x3, .int (0 : Int32)] [] (am_sh I J) := by
  refine (ev_istore (ls' := [.ref 139, .int x3, w2]) rfl (Nat.le_of_ble_eq_true rfl) rfl).trans ?_
  refine (ev_const0 (v := (0 : Int32)) rfl am_ci_0).trans ?_
  refine (ev_istore (ls' := [.ref 139, .int x3, .int (0 : Int32)]) rfl (Nat.le_of_ble_eq_true rfl) rfl).trans ?_
  rfl
set_option maxRecDepth 10000 in
theorem sg_335_11 (X : am_X) (I : Nat → Nat → Int32) (J : Nat → Nat → Int64) (x1 : Int32) (x2 : Int32) : am_ev X amP_335 11 [.ref 139, .int x1, .int x2] [] (am_sh I J) = (if (I 139 1) ≤ x2 then (if x1 = 0 then some (none, am_sh (am_up I 148 1 ((I 148 1) + (1 : Int32))) J) else (if ¬ (I 148 2) = (40 : Int32) then (if ((73 : Int32) + ((2 : Int32) * (I 148 2))) < 0 ∨ 153 ≤ ((73 : Int32) + ((2 : Int32) * (I 148 2))).toNatClampNeg then none else (if (((73 : Int32) + ((2 : Int32) * ((am_up I 148 ((73 : Int32) + ((2 : Int32) * (I 148 2))).toNatClampNeg (I 148 1)) 148 2))) + (1 : Int32)) < 0 ∨ 153 ≤ (((73 : Int32) + ((2 : Int32) * ((am_up I 148 ((73 : Int32) + ((2 : Int32) * (I 148 2))).toNatClampNeg (I 148 1)) 148 2))) + (1 : Int32)).toNatClampNeg then none else some (none, am_sh (am_up (am_up (am_up (am_up I 148 ((73 : Int32) + ((2 : Int32) * (I 148 2))).toNatClampNeg (I 148 1)) 148 (((73 : Int32) + ((2 : Int32) * ((am_up I 148 ((73 : Int32) + ((2 : Int32) * (I 148 2))).toNatClampNeg (I 148 1)) 148 2))) + (1 : Int32)).toNatClampNeg x1) 148 2 (((am_up (am_up I 148 ((73 : Int32) + ((2 : Int32) * (I 148 2))).toNatClampNeg (I 148 1)) 148 (((73 : Int32) + ((2 : Int32) * ((am_up I 148 ((73 : Int32) + ((2 : Int32) * (I 148 2))).toNatClampNeg (I 148 1)) 148 2))) + (1 : Int32)).toNatClampNeg x1) 148 2) + (1 : Int32))) 148 1 (((am_up (am_up (am_up I 148 ((73 : Int32) + ((2 : Int32) * (I 148 2))).toNatClampNeg (I 148 1)) 148 (((73 : Int32) + ((2 : Int32) * ((am_up I 148 ((73 : Int32) + ((2 : Int32) * (I 148 2))).toNatClampNeg (I 148 1)) 148 2))) + (1 : Int32)).toNatClampNeg x1) 148 2 (((am_up (am_up I 148 ((73 : Int32) + ((2 : Int32) * (I 148 2))).toNatClampNeg (I 148 1)) 148 (((73 : Int32) + ((2 : Int32) * ((am_up I 148 ((73 : Int32) + ((2 : Int32) * (I 148 2))).toNatClampNeg (I 148 1)) 148 2))) + (1 : Int32)).toNatClampNeg x1) 148 2) + (1 : Int32))) 148 1) + (1 : Int32))) J))) else am_ev X amP_335 39 [.ref 139, .int x1, .int (73 : Int32)] [] (am_sh I J))) else (if ¬ ((x1 >>> (x2 &&& 31)) &&& (1 : Int32)) = (1 : Int32) then am_ev X amP_335 11 [.ref 139, .int x1, .int (x2 + (1 : Int32))] [] (am_sh I J) else (am_do X 242 [.ref 139, .int x2, .int (6 : Int32), .int (0 : Int32)] (am_sh I J)).bind (fun q => am_ev X amP_335 27 [.ref 139, .int x1, .int x2] (q.1.toList ++ []) q.2))) := by
  refine (ev_iload rfl rfl).trans ?_
  refine (ev_aload rfl rfl).trans ?_
  refine (ev_getI rfl (by decide) am_K_139 (by decide) rfl).trans ?_
  refine (ev_icmp3 rfl).trans (am_ite (fun c1 => ?_) (fun c1 => ?_))
  · refine (ev_iload rfl rfl).trans ?_
    refine (ev_if0 rfl).trans (am_ite (fun c2 => ?_) (fun c2 => ?_))
    · refine (ev_aload rfl rfl).trans ?_
      refine (ev_getR rfl (by decide) am_K_139 (by decide) rfl am_R_139_22).trans ?_
      refine (ev_const0 (v := (1 : Int32)) rfl am_ci_1).trans ?_
      refine (ev_dup2 rfl).trans ?_
      refine (ev_ialdC (jn := 1) rfl (by decide) am_K_148 (by decide) (by decide)).trans ?_
      refine (ev_const0 (v := (1 : Int32)) rfl am_ci_1).trans ?_
      refine (ev_iadd rfl).trans ?_
      refine (ev_iastC (jn := 1) rfl (by decide) am_K_148 (by decide) (by decide)).trans ?_
      exact ev_vret rfl
    · refine (ev_aload rfl rfl).trans ?_
      refine (ev_getR rfl (by decide) am_K_139 (by decide) rfl am_R_139_22).trans ?_
      refine (ev_const0 (v := (2 : Int32)) rfl am_ci_2).trans ?_
      refine (ev_ialdC (jn := 2) rfl (by decide) am_K_148 (by decide) (by decide)).trans ?_
      refine (ev_const1 (v := (40 : Int32)) rfl am_ci_40).trans ?_
      refine (ev_icmp1 rfl).trans (am_ite (fun c3 => ?_) (fun c3 => ?_))
      · refine (ev_aload rfl rfl).trans ?_
        refine (ev_getR rfl (by decide) am_K_139 (by decide) rfl am_R_139_22).trans ?_
        refine (ev_const1 (v := (73 : Int32)) rfl am_ci_73).trans ?_
        refine (ev_const0 (v := (2 : Int32)) rfl am_ci_2).trans ?_
        refine (ev_aload rfl rfl).trans ?_
        refine (ev_getR rfl (by decide) am_K_139 (by decide) rfl am_R_139_22).trans ?_
        refine (ev_const0 (v := (2 : Int32)) rfl am_ci_2).trans ?_
        refine (ev_ialdC (jn := 2) rfl (by decide) am_K_148 (by decide) (by decide)).trans ?_
        refine (ev_imul rfl).trans ?_
        refine (ev_iadd rfl).trans ?_
        refine (ev_aload rfl rfl).trans ?_
        refine (ev_getR rfl (by decide) am_K_139 (by decide) rfl am_R_139_22).trans ?_
        refine (ev_const0 (v := (1 : Int32)) rfl am_ci_1).trans ?_
        refine (ev_ialdC (jn := 1) rfl (by decide) am_K_148 (by decide) (by decide)).trans ?_
        refine (ev_iast rfl (by decide) am_K_148).trans (am_itn (fun g4 => ?_))
        refine (ev_aload rfl rfl).trans ?_
        refine (ev_getR rfl (by decide) am_K_139 (by decide) rfl am_R_139_22).trans ?_
        refine (ev_const1 (v := (73 : Int32)) rfl am_ci_73).trans ?_
        refine (ev_const0 (v := (2 : Int32)) rfl am_ci_2).trans ?_
        refine (ev_aload rfl rfl).trans ?_
        refine (ev_getR rfl (by decide) am_K_139 (by decide) rfl am_R_139_22).trans ?_
        refine (ev_const0 (v := (2 : Int32)) rfl am_ci_2).trans ?_
        refine (ev_ialdC (jn := 2) rfl (by decide) am_K_148 (by decide) (by decide)).trans ?_
        refine (ev_imul rfl).trans ?_
        refine (ev_iadd rfl).trans ?_
        refine (ev_const0 (v := (1 : Int32)) rfl am_ci_1).trans ?_
        refine (ev_iadd rfl).trans ?_
        refine (ev_iload rfl rfl).trans ?_
        refine (ev_iast rfl (by decide) am_K_148).trans (am_itn (fun g5 => ?_))
        refine (ev_aload rfl rfl).trans ?_
        refine (ev_getR rfl (by decide) am_K_139 (by decide) rfl am_R_139_22).trans ?_
        refine (ev_const0 (v := (2 : Int32)) rfl am_ci_2).trans ?_
        refine (ev_dup2 rfl).trans ?_
        refine (ev_ialdC (jn := 2) rfl (by decide) am_K_148 (by decide) (by decide)).trans ?_
        refine (ev_const0 (v := (1 : Int32)) rfl am_ci_1).trans ?_
        refine (ev_iadd rfl).trans ?_
        refine (ev_iastC (jn := 2) rfl (by decide) am_K_148 (by decide) (by decide)).trans ?_
        refine (ev_aload rfl rfl).trans ?_
        refine (ev_getR rfl (by decide) am_K_139 (by decide) rfl am_R_139_22).trans ?_
        refine (ev_const0 (v := (1 : Int32)) rfl am_ci_1).trans ?_
        refine (ev_dup2 rfl).trans ?_
        refine (ev_ialdC (jn := 1) rfl (by decide) am_K_148 (by decide) (by decide)).trans ?_
        refine (ev_const0 (v := (1 : Int32)) rfl am_ci_1).trans ?_
        refine (ev_iadd rfl).trans ?_
        refine (ev_iastC (jn := 1) rfl (by decide) am_K_148 (by decide) (by decide)).trans ?_
        exact ev_vret rfl
      · refine (ev_const1 (v := (73 : Int32)) rfl am_ci_73).trans ?_
        refine (ev_istore (ls' := [.ref 139, .int x1, .int (73 : Int32)]) rfl (Nat.le_of_ble_eq_true rfl) rfl).trans ?_
        rfl
  · refine (ev_iload rfl rfl).trans ?_
    refine (ev_iload rfl rfl).trans ?_
    refine (ev_ishr rfl).trans ?_
    refine (ev_const0 (v := (1 : Int32)) rfl am_ci_1).trans ?_
    refine (ev_iand rfl).trans ?_
    refine (ev_const0 (v := (1 : Int32)) rfl am_ci_1).trans ?_
    refine (ev_icmp1 rfl).trans (am_ite (fun c2 => ?_) (fun c2 => ?_))
    · refine (ev_iincv (v := (1 : Int32)) (ls' := [.ref 139, .int x1, .int (x2 + (1 : Int32))]) rfl am_ci_1 rfl rfl).trans ?_
      refine (ev_goto rfl).trans ?_
      rfl
    · refine (ev_aload rfl rfl).trans ?_
      refine (ev_iload rfl rfl).trans ?_
      refine (ev_const1 (v := (6 : Int32)) rfl am_ci_6).trans ?_
      refine (ev_const0 (v := (0 : Int32)) rfl am_ci_0).trans ?_
      exact ev_invv (as := [.int (0 : Int32), .int (6 : Int32), .int x2]) rfl (by decide) am_K_139 rfl (by simp [Value.category])
set_option maxRecDepth 10000 in
theorem sg_335_27 (X : am_X) (I : Nat → Nat → Int32) (J : Nat → Nat → Int64) (x1 : Int32) (x2 : Int32) : am_ev X amP_335 27 [.ref 139, .int x1, .int x2] [] (am_sh I J) = am_ev X amP_335 11 [.ref 139, .int x1, .int (x2 + (1 : Int32))] [] (am_sh I J) := by
  refine (ev_iincv (v := (1 : Int32)) (ls' := [.ref 139, .int x1, .int (x2 + (1 : Int32))]) rfl am_ci_1 rfl rfl).trans ?_
  refine (ev_goto rfl).trans ?_
  rfl
set_option maxRecDepth 10000 in
theorem sg_335_39 (X : am_X) (I : Nat → Nat → Int32) (J : Nat → Nat → Int64) (x1 : Int32) (x2 : Int32) : am_ev X amP_335 39 [.ref 139, .int x1, .int x2] [] (am_sh I J) = (if (151 : Int32) ≤ x2 then (if ((73 : Int32) + ((2 : Int32) * ((am_up I 148 2 ((I 148 2) - (1 : Int32))) 148 2))) < 0 ∨ 153 ≤ ((73 : Int32) + ((2 : Int32) * ((am_up I 148 2 ((I 148 2) - (1 : Int32))) 148 2))).toNatClampNeg then none else (if (((73 : Int32) + ((2 : Int32) * ((am_up (am_up I 148 2 ((I 148 2) - (1 : Int32))) 148 ((73 : Int32) + ((2 : Int32) * ((am_up I 148 2 ((I 148 2) - (1 : Int32))) 148 2))).toNatClampNeg ((am_up I 148 2 ((I 148 2) - (1 : Int32))) 148 1)) 148 2))) + (1 : Int32)) < 0 ∨ 153 ≤ (((73 : Int32) + ((2 : Int32) * ((am_up (am_up I 148 2 ((I 148 2) - (1 : Int32))) 148 ((73 : Int32) + ((2 : Int32) * ((am_up I 148 2 ((I 148 2) - (1 : Int32))) 148 2))).toNatClampNeg ((am_up I 148 2 ((I 148 2) - (1 : Int32))) 148 1)) 148 2))) + (1 : Int32)).toNatClampNeg then none else some (none, am_sh (am_up (am_up (am_up (am_up (am_up I 148 2 ((I 148 2) - (1 : Int32))) 148 ((73 : Int32) + ((2 : Int32) * ((am_up I 148 2 ((I 148 2) - (1 : Int32))) 148 2))).toNatClampNeg ((am_up I 148 2 ((I 148 2) - (1 : Int32))) 148 1)) 148 (((73 : Int32) + ((2 : Int32) * ((am_up (am_up I 148 2 ((I 148 2) - (1 : Int32))) 148 ((73 : Int32) + ((2 : Int32) * ((am_up I 148 2 ((I 148 2) - (1 : Int32))) 148 2))).toNatClampNeg ((am_up I 148 2 ((I 148 2) - (1 : Int32))) 148 1)) 148 2))) + (1 : Int32)).toNatClampNeg x1) 148 2 (((am_up (am_up (am_up I 148 2 ((I 148 2) - (1 : Int32))) 148 ((73 : Int32) + ((2 : Int32) * ((am_up I 148 2 ((I 148 2) - (1 : Int32))) 148 2))).toNatClampNeg ((am_up I 148 2 ((I 148 2) - (1 : Int32))) 148 1)) 148 (((73 : Int32) + ((2 : Int32) * ((am_up (am_up I 148 2 ((I 148 2) - (1 : Int32))) 148 ((73 : Int32) + ((2 : Int32) * ((am_up I 148 2 ((I 148 2) - (1 : Int32))) 148 2))).toNatClampNeg ((am_up I 148 2 ((I 148 2) - (1 : Int32))) 148 1)) 148 2))) + (1 : Int32)).toNatClampNeg x1) 148 2) + (1 : Int32))) 148 1 (((am_up (am_up (am_up (am_up I 148 2 ((I 148 2) - (1 : Int32))) 148 ((73 : Int32) + ((2 : Int32) * ((am_up I 148 2 ((I 148 2) - (1 : Int32))) 148 2))).toNatClampNeg ((am_up I 148 2 ((I 148 2) - (1 : Int32))) 148 1)) 148 (((73 : Int32) + ((2 : Int32) * ((am_up (am_up I 148 2 ((I 148 2) - (1 : Int32))) 148 ((73 : Int32) + ((2 : Int32) * ((am_up I 148 2 ((I 148 2) - (1 : Int32))) 148 2))).toNatClampNeg ((am_up I 148 2 ((I 148 2) - (1 : Int32))) 148 1)) 148 2))) + (1 : Int32)).toNatClampNeg x1) 148 2 (((am_up (am_up (am_up I 148 2 ((I 148 2) - (1 : Int32))) 148 ((73 : Int32) + ((2 : Int32) * ((am_up I 148 2 ((I 148 2) - (1 : Int32))) 148 2))).toNatClampNeg ((am_up I 148 2 ((I 148 2) - (1 : Int32))) 148 1)) 148 (((73 : Int32) + ((2 : Int32) * ((am_up (am_up I 148 2 ((I 148 2) - (1 : Int32))) 148 ((73 : Int32) + ((2 : Int32) * ((am_up I 148 2 ((I 148 2) - (1 : Int32))) 148 2))).toNatClampNeg ((am_up I 148 2 ((I 148 2) - (1 : Int32))) 148 1)) 148 2))) + (1 : Int32)).toNatClampNeg x1) 148 2) + (1 : Int32))) 148 1) + (1 : Int32))) J))) else (if (x2 + (2 : Int32)) < 0 ∨ 153 ≤ (x2 + (2 : Int32)).toNatClampNeg then none else (if x2 < 0 ∨ 153 ≤ x2.toNatClampNeg then none else am_ev X amP_335 39 [.ref 139, .int x1, .int (x2 + (1 : Int32))] [] (am_sh (am_up I 148 x2.toNatClampNeg (I 148 (x2 + (2 : Int32)).toNatClampNeg)) J)))) := by
  refine (ev_iload rfl rfl).trans ?_
  refine (ev_const2 (v := (151 : Int32)) rfl am_ci_151).trans ?_
  refine (ev_icmp3 rfl).trans (am_ite (fun c1 => ?_) (fun c1 => ?_))
  · refine (ev_aload rfl rfl).trans ?_
    refine (ev_getR rfl (by decide) am_K_139 (by decide) rfl am_R_139_22).trans ?_
    refine (ev_const0 (v := (2 : Int32)) rfl am_ci_2).trans ?_
    refine (ev_dup2 rfl).trans ?_
    refine (ev_ialdC (jn := 2) rfl (by decide) am_K_148 (by decide) (by decide)).trans ?_
    refine (ev_const0 (v := (1 : Int32)) rfl am_ci_1).trans ?_
    refine (ev_isub rfl).trans ?_
    refine (ev_iastC (jn := 2) rfl (by decide) am_K_148 (by decide) (by decide)).trans ?_
    refine (ev_aload rfl rfl).trans ?_
    refine (ev_getR rfl (by decide) am_K_139 (by decide) rfl am_R_139_22).trans ?_
    refine (ev_const1 (v := (73 : Int32)) rfl am_ci_73).trans ?_
    refine (ev_const0 (v := (2 : Int32)) rfl am_ci_2).trans ?_
    refine (ev_aload rfl rfl).trans ?_
    refine (ev_getR rfl (by decide) am_K_139 (by decide) rfl am_R_139_22).trans ?_
    refine (ev_const0 (v := (2 : Int32)) rfl am_ci_2).trans ?_
    refine (ev_ialdC (jn := 2) rfl (by decide) am_K_148 (by decide) (by decide)).trans ?_
    refine (ev_imul rfl).trans ?_
    refine (ev_iadd rfl).trans ?_
    refine (ev_aload rfl rfl).trans ?_
    refine (ev_getR rfl (by decide) am_K_139 (by decide) rfl am_R_139_22).trans ?_
    refine (ev_const0 (v := (1 : Int32)) rfl am_ci_1).trans ?_
    refine (ev_ialdC (jn := 1) rfl (by decide) am_K_148 (by decide) (by decide)).trans ?_
    refine (ev_iast rfl (by decide) am_K_148).trans (am_itn (fun g2 => ?_))
    refine (ev_aload rfl rfl).trans ?_
    refine (ev_getR rfl (by decide) am_K_139 (by decide) rfl am_R_139_22).trans ?_
    refine (ev_const1 (v := (73 : Int32)) rfl am_ci_73).trans ?_
    refine (ev_const0 (v := (2 : Int32)) rfl am_ci_2).trans ?_
    refine (ev_aload rfl rfl).trans ?_
    refine (ev_getR rfl (by decide) am_K_139 (by decide) rfl am_R_139_22).trans ?_
    refine (ev_const0 (v := (2 : Int32)) rfl am_ci_2).trans ?_
    refine (ev_ialdC (jn := 2) rfl (by decide) am_K_148 (by decide) (by decide)).trans ?_
    refine (ev_imul rfl).trans ?_
    refine (ev_iadd rfl).trans ?_
    refine (ev_const0 (v := (1 : Int32)) rfl am_ci_1).trans ?_
    refine (ev_iadd rfl).trans ?_
    refine (ev_iload rfl rfl).trans ?_
    refine (ev_iast rfl (by decide) am_K_148).trans (am_itn (fun g3 => ?_))
    refine (ev_aload rfl rfl).trans ?_
    refine (ev_getR rfl (by decide) am_K_139 (by decide) rfl am_R_139_22).trans ?_
    refine (ev_const0 (v := (2 : Int32)) rfl am_ci_2).trans ?_
    refine (ev_dup2 rfl).trans ?_
    refine (ev_ialdC (jn := 2) rfl (by decide) am_K_148 (by decide) (by decide)).trans ?_
    refine (ev_const0 (v := (1 : Int32)) rfl am_ci_1).trans ?_
    refine (ev_iadd rfl).trans ?_
    refine (ev_iastC (jn := 2) rfl (by decide) am_K_148 (by decide) (by decide)).trans ?_
    refine (ev_aload rfl rfl).trans ?_
    refine (ev_getR rfl (by decide) am_K_139 (by decide) rfl am_R_139_22).trans ?_
    refine (ev_const0 (v := (1 : Int32)) rfl am_ci_1).trans ?_
    refine (ev_dup2 rfl).trans ?_
    refine (ev_ialdC (jn := 1) rfl (by decide) am_K_148 (by decide) (by decide)).trans ?_
    refine (ev_const0 (v := (1 : Int32)) rfl am_ci_1).trans ?_
    refine (ev_iadd rfl).trans ?_
    refine (ev_iastC (jn := 1) rfl (by decide) am_K_148 (by decide) (by decide)).trans ?_
    exact ev_vret rfl
  · refine (ev_aload rfl rfl).trans ?_
    refine (ev_getR rfl (by decide) am_K_139 (by decide) rfl am_R_139_22).trans ?_
    refine (ev_iload rfl rfl).trans ?_
    refine (ev_aload rfl rfl).trans ?_
    refine (ev_getR rfl (by decide) am_K_139 (by decide) rfl am_R_139_22).trans ?_
    refine (ev_iload rfl rfl).trans ?_
    refine (ev_const0 (v := (2 : Int32)) rfl am_ci_2).trans ?_
    refine (ev_iadd rfl).trans ?_
    refine (ev_iald rfl (by decide) am_K_148).trans (am_itn (fun g2 => ?_))
    refine (ev_iast rfl (by decide) am_K_148).trans (am_itn (fun g3 => ?_))
    refine (ev_iincv (v := (1 : Int32)) (ls' := [.ref 139, .int x1, .int (x2 + (1 : Int32))]) rfl am_ci_1 rfl rfl).trans ?_
    refine (ev_goto rfl).trans ?_
    rfl
-- 336 X12_ticks
set_option maxRecDepth 10000 in
theorem sg_336_e0 (X : am_X) (I : Nat → Nat → Int32) (J : Nat → Nat → Int64) (x1 : Int32) : am_ev X amP_336 0 [.ref 139, .int x1, .null] [] (am_sh I J) = (if (I 139 0) = 0 then (am_do X 218 [.ref 139, .int (2 : Int32)] (am_sh I J)).bind (fun q => am_ev X amP_336 19 [.ref 139, .int x1, .null] (q.1.toList ++ []) q.2) else (am_do X 214 [.int x1, .int (1 : Int32), .int (999 : Int32)] (am_sh I J)).bind (fun q => am_ev X amP_336 7 [.ref 139, .int x1, .null] (q.1.toList ++ []) q.2)) := by
  refine (ev_aload rfl rfl).trans ?_
  refine (ev_getI rfl (by decide) am_K_139 (by decide) rfl).trans ?_
  refine (ev_if0 rfl).trans (am_ite (fun c1 => ?_) (fun c1 => ?_))
  · refine (ev_aload rfl rfl).trans ?_
    refine (ev_const0 (v := (2 : Int32)) rfl am_ci_2).trans ?_
    exact ev_invv (as := [.int (2 : Int32)]) rfl (by decide) am_K_139 rfl (by simp [Value.category])
  · refine (ev_iload rfl rfl).trans ?_
    refine (ev_const0 (v := (1 : Int32)) rfl am_ci_1).trans ?_
    refine (ev_const2 (v := (999 : Int32)) rfl am_ci_999).trans ?_
    exact ev_invs (as := [.int (999 : Int32), .int (1 : Int32), .int x1]) rfl rfl (by simp [Value.category])
theorem cl_336 (X : am_X) (I : Nat → Nat → Int32) (J : Nat → Nat → Int64) (x1 : Int32) : am_do X 336 [.ref 139, .int x1] (am_sh I J) = am_ev X amP_336 0 [.ref 139, .int x1, .null] [] (am_sh I J) := am_do_of rfl rfl rfl
set_option maxRecDepth 10000 in
theorem sg_336_7 (X : am_X) (I : Nat → Nat → Int32) (J : Nat → Nat → Int64) (x1 : Int32) (w2 : Value) (x3 : Int32) (hw2 : w2.category = 1) : am_ev X amP_336 7 [.ref 139, .int x1, w2] [.int x3] (am_sh I J) = (if x3 = 0 then (am_do X 218 [.ref 139, .int (2 : Int32)] (am_sh I J)).bind (fun q => am_ev X amP_336 19 [.ref 139, .int x1, w2] (q.1.toList ++ []) q.2) else (if ((I 148 1) + x1) ≤ (9999 : Int32) then (am_do X 244 [.ref 139] (am_sh I J)).bind (fun q => am_ev X amP_336 22 [.ref 139, .int x1, w2] (q.1.toList ++ []) q.2) else (am_do X 218 [.ref 139, .int (2 : Int32)] (am_sh I J)).bind (fun q => am_ev X amP_336 19 [.ref 139, .int x1, w2] (q.1.toList ++ []) q.2))) := by
  refine (ev_if0 rfl).trans (am_ite (fun c1 => ?_) (fun c1 => ?_))
  · refine (ev_aload rfl rfl).trans ?_
    refine (ev_const0 (v := (2 : Int32)) rfl am_ci_2).trans ?_
    exact ev_invv (as := [.int (2 : Int32)]) rfl (by decide) am_K_139 rfl (by simp [Value.category])
  · refine (ev_aload rfl rfl).trans ?_
    refine (ev_getR rfl (by decide) am_K_139 (by decide) rfl am_R_139_22).trans ?_
    refine (ev_const0 (v := (1 : Int32)) rfl am_ci_1).trans ?_
    refine (ev_ialdC (jn := 1) rfl (by decide) am_K_148 (by decide) (by decide)).trans ?_
    refine (ev_iload rfl rfl).trans ?_
    refine (ev_iadd rfl).trans ?_
    refine (ev_const2 (v := (9999 : Int32)) rfl am_ci_9999).trans ?_
    refine (ev_icmp5 rfl).trans (am_ite (fun c2 => ?_) (fun c2 => ?_))
    · refine (ev_aload rfl rfl).trans ?_
      exact ev_invv (as := []) rfl (by decide) am_K_139 rfl (by simp [Value.category])
    · refine (ev_aload rfl rfl).trans ?_
      refine (ev_const0 (v := (2 : Int32)) rfl am_ci_2).trans ?_
      exact ev_invv (as := [.int (2 : Int32)]) rfl (by decide) am_K_139 rfl (by simp [Value.category])
set_option maxRecDepth 10000 in
theorem sg_336_19 (X : am_X) (I : Nat → Nat → Int32) (J : Nat → Nat → Int64) (x1 : Int32) (w2 : Value) (x3 : Int32) (hw2 : w2.category = 1) : am_ev X amP_336 19 [.ref 139, .int x1, w2] [.int x3] (am_sh I J) = some (some (.int x3), am_sh I J) := by
  exact ev_iret rfl
set_option maxRecDepth 10000 in
theorem sg_336_22 (X : am_X) (I : Nat → Nat → Int32) (J : Nat → Nat → Int64) (x1 : Int32) (w2 : Value) (hw2 : w2.category = 1) : am_ev X amP_336 22 [.ref 139, .int x1, w2] [] (am_sh I J) = am_ev X amP_336 24 [.ref 139, .int x1, .int (0 : Int32)] [] (am_sh I J) := by
  refine (ev_const0 (v := (0 : Int32)) rfl am_ci_0).trans ?_
  refine (ev_istore (ls' := [.ref 139, .int x1, .int (0 : Int32)]) rfl (Nat.le_of_ble_eq_true rfl) rfl).trans ?_
  rfl
set_option maxRecDepth 10000 in
theorem sg_336_24 (X : am_X) (I : Nat → Nat → Int32) (J : Nat → Nat → Int64) (x1 : Int32) (x2 : Int32) : am_ev X amP_336 24 [.ref 139, .int x1, .int x2] [] (am_sh I J) = (if x1 ≤ x2 then some (some (.int (I 148 1)), am_sh I J) else (am_do X 335 [.ref 139] (am_sh I J)).bind (fun q => am_ev X amP_336 29 [.ref 139, .int x1, .int x2] (q.1.toList ++ []) q.2)) := by
  refine (ev_iload rfl rfl).trans ?_
  refine (ev_iload rfl rfl).trans ?_
  refine (ev_icmp3 rfl).trans (am_ite (fun c1 => ?_) (fun c1 => ?_))
  · refine (ev_aload rfl rfl).trans ?_
    refine (ev_getR rfl (by decide) am_K_139 (by decide) rfl am_R_139_22).trans ?_
    refine (ev_const0 (v := (1 : Int32)) rfl am_ci_1).trans ?_
    refine (ev_ialdC (jn := 1) rfl (by decide) am_K_148 (by decide) (by decide)).trans ?_
    exact ev_iret rfl
  · refine (ev_aload rfl rfl).trans ?_
    exact ev_invv (as := []) rfl (by decide) am_K_139 rfl (by simp [Value.category])
set_option maxRecDepth 10000 in
theorem sg_336_29 (X : am_X) (I : Nat → Nat → Int32) (J : Nat → Nat → Int64) (x1 : Int32) (x2 : Int32) : am_ev X amP_336 29 [.ref 139, .int x1, .int x2] [] (am_sh I J) = am_ev X amP_336 24 [.ref 139, .int x1, .int (x2 + (1 : Int32))] [] (am_sh I J) := by
  refine (ev_iincv (v := (1 : Int32)) (ls' := [.ref 139, .int x1, .int (x2 + (1 : Int32))]) rfl am_ci_1 rfl rfl).trans ?_
  refine (ev_goto rfl).trans ?_
  rfl
-- 337 X12_draw
set_option maxRecDepth 10000 in
theorem sg_337_e0 (X : am_X) (I : Nat → Nat → Int32) (J : Nat → Nat → Int64) (x1 : Int32) : am_ev X amP_337 0 [.ref 139, .int x1] [] (am_sh I J) = (if x1 = 0 then none else some (some (.int ((((am_up I 139 41 (Int64.toInt32 ((((Int64.ofInt 1103515245) * (Int32.toInt64 (I 139 41))) + (Int64.ofInt 12345)) - (((Int64.ofInt 1103515245) * (Int32.toInt64 (I 139 41))) + (Int64.ofInt 12345)) / (Int64.ofInt 2147483648) * (Int64.ofInt 2147483648)))) 139 41) / (64 : Int32)) - (((am_up I 139 41 (Int64.toInt32 ((((Int64.ofInt 1103515245) * (Int32.toInt64 (I 139 41))) + (Int64.ofInt 12345)) - (((Int64.ofInt 1103515245) * (Int32.toInt64 (I 139 41))) + (Int64.ofInt 12345)) / (Int64.ofInt 2147483648) * (Int64.ofInt 2147483648)))) 139 41) / (64 : Int32)) / x1 * x1)), am_sh (am_up I 139 41 (Int64.toInt32 ((((Int64.ofInt 1103515245) * (Int32.toInt64 (I 139 41))) + (Int64.ofInt 12345)) - (((Int64.ofInt 1103515245) * (Int32.toInt64 (I 139 41))) + (Int64.ofInt 12345)) / (Int64.ofInt 2147483648) * (Int64.ofInt 2147483648)))) J)) := by
  refine (ev_aload rfl rfl).trans ?_
  refine (ev_ldc2 rfl).trans ?_
  refine (ev_aload rfl rfl).trans ?_
  refine (ev_getI rfl (by decide) am_K_139 (by decide) rfl).trans ?_
  refine (ev_i2l rfl).trans ?_
  refine (ev_lmul rfl).trans ?_
  refine (ev_ldc2 rfl).trans ?_
  refine (ev_ladd rfl).trans ?_
  refine (ev_ldc2 rfl).trans ?_
  refine (ev_lrem (by decide) rfl).trans ?_
  refine (ev_l2i rfl).trans ?_
  refine (ev_putI rfl (by decide) am_K_139 (by decide) rfl).trans ?_
  refine (ev_aload rfl rfl).trans ?_
  refine (ev_getI rfl (by decide) am_K_139 (by decide) rfl).trans ?_
  refine (ev_const1 (v := (64 : Int32)) rfl am_ci_64).trans ?_
  refine (ev_idivN (by decide) rfl).trans ?_
  refine (ev_iload rfl rfl).trans ?_
  refine (ev_irem rfl).trans (am_itn (fun g1 => ?_))
  exact ev_iret rfl
theorem cl_337 (X : am_X) (I : Nat → Nat → Int32) (J : Nat → Nat → Int64) (x1 : Int32) : am_do X 337 [.ref 139, .int x1] (am_sh I J) = am_ev X amP_337 0 [.ref 139, .int x1] [] (am_sh I J) := am_do_of rfl rfl rfl
-- 338 X12_chance
set_option maxRecDepth 10000 in
theorem sg_338_e0 (X : am_X) (I : Nat → Nat → Int32) (J : Nat → Nat → Int64) (x1 : Int32) : am_ev X amP_338 0 [.ref 139, .int x1, .null, .null, .null, .null, .null] [] (am_sh I J) = (if (I 139 1) = 0 then (am_do X 218 [.ref 139, .int (2 : Int32)] (am_sh I J)).bind (fun q => am_ev X amP_338 21 [.ref 139, .int x1, .null, .null, .null, .null, .null] (q.1.toList ++ []) q.2) else (am_do X 214 [.int x1, .int (1 : Int32), .int (40 : Int32)] (am_sh I J)).bind (fun q => am_ev X amP_338 7 [.ref 139, .int x1, .null, .null, .null, .null, .null] (q.1.toList ++ []) q.2)) := by
  refine (ev_aload rfl rfl).trans ?_
  refine (ev_getI rfl (by decide) am_K_139 (by decide) rfl).trans ?_
  refine (ev_if0 rfl).trans (am_ite (fun c1 => ?_) (fun c1 => ?_))
  · refine (ev_aload rfl rfl).trans ?_
    refine (ev_const0 (v := (2 : Int32)) rfl am_ci_2).trans ?_
    exact ev_invv (as := [.int (2 : Int32)]) rfl (by decide) am_K_139 rfl (by simp [Value.category])
  · refine (ev_iload rfl rfl).trans ?_
    refine (ev_const0 (v := (1 : Int32)) rfl am_ci_1).trans ?_
    refine (ev_const1 (v := (40 : Int32)) rfl am_ci_40).trans ?_
    exact ev_invs (as := [.int (40 : Int32), .int (1 : Int32), .int x1]) rfl rfl (by simp [Value.category])
theorem cl_338 (X : am_X) (I : Nat → Nat → Int32) (J : Nat → Nat → Int64) (x1 : Int32) : am_do X 338 [.ref 139, .int x1] (am_sh I J) = am_ev X amP_338 0 [.ref 139, .int x1, .null, .null, .null, .null, .null] [] (am_sh I J) := am_do_of rfl rfl rfl
set_option maxRecDepth 10000 in
theorem sg_338_7 (X : am_X) (I : Nat → Nat → Int32) (J : Nat → Nat → Int64) (x1 : Int32) (w2 : Value) (w3 : Value) (w4 : Value) (w5 : Value) (w6 : Value) (x7 : Int32) (hw2 : w2.category = 1) (hw3 : w3.category = 1) (hw4 : w4.category = 1) (hw5 : w5.category = 1) (hw6 : w6.category = 1) : am_ev X amP_338 7 [.ref 139, .int x1, w2, w3, w4, w5, w6] [.int x7] (am_sh I J) = (if x7 = 0 then (am_do X 218 [.ref 139, .int (2 : Int32)] (am_sh I J)).bind (fun q => am_ev X amP_338 21 [.ref 139, .int x1, w2, w3, w4, w5, w6] (q.1.toList ++ []) q.2) else (if ((I 148 1) + ((7 : Int32) * x1)) ≤ (9999 : Int32) then (am_do X 244 [.ref 139] (am_sh I J)).bind (fun q => am_ev X amP_338 24 [.ref 139, .int x1, w2, w3, w4, w5, w6] (q.1.toList ++ []) q.2) else (am_do X 218 [.ref 139, .int (2 : Int32)] (am_sh I J)).bind (fun q => am_ev X amP_338 21 [.ref 139, .int x1, w2, w3, w4, w5, w6] (q.1.toList ++ []) q.2))) := by
  refine (ev_if0 rfl).trans (am_ite (fun c1 => ?_) (fun c1 => ?_))
  · refine (ev_aload rfl rfl).trans ?_
    refine (ev_const0 (v := (2 : Int32)) rfl am_ci_2).trans ?_
    exact ev_invv (as := [.int (2 : Int32)]) rfl (by decide) am_K_139 rfl (by simp [Value.category])
  · refine (ev_aload rfl rfl).trans ?_
    refine (ev_getR rfl (by decide) am_K_139 (by decide) rfl am_R_139_22).trans ?_
    refine (ev_const0 (v := (1 : Int32)) rfl am_ci_1).trans ?_
    refine (ev_ialdC (jn := 1) rfl (by decide) am_K_148 (by decide) (by decide)).trans ?_
    refine (ev_const1 (v := (7 : Int32)) rfl am_ci_7).trans ?_
    refine (ev_iload rfl rfl).trans ?_
    refine (ev_imul rfl).trans ?_
    refine (ev_iadd rfl).trans ?_
    refine (ev_const2 (v := (9999 : Int32)) rfl am_ci_9999).trans ?_
    refine (ev_icmp5 rfl).trans (am_ite (fun c2 => ?_) (fun c2 => ?_))
    · refine (ev_aload rfl rfl).trans ?_
      exact ev_invv (as := []) rfl (by decide) am_K_139 rfl (by simp [Value.category])
    · refine (ev_aload rfl rfl).trans ?_
      refine (ev_const0 (v := (2 : Int32)) rfl am_ci_2).trans ?_
      exact ev_invv (as := [.int (2 : Int32)]) rfl (by decide) am_K_139 rfl (by simp [Value.category])
set_option maxRecDepth 10000 in
theorem sg_338_21 (X : am_X) (I : Nat → Nat → Int32) (J : Nat → Nat → Int64) (x1 : Int32) (w2 : Value) (w3 : Value) (w4 : Value) (w5 : Value) (w6 : Value) (x7 : Int32) (hw2 : w2.category = 1) (hw3 : w3.category = 1) (hw4 : w4.category = 1) (hw5 : w5.category = 1) (hw6 : w6.category = 1) : am_ev X amP_338 21 [.ref 139, .int x1, w2, w3, w4, w5, w6] [.int x7] (am_sh I J) = some (some (.int x7), am_sh I J) := by
  exact ev_iret rfl
set_option maxRecDepth 10000 in
theorem sg_338_24 (X : am_X) (I : Nat → Nat → Int32) (J : Nat → Nat → Int64) (x1 : Int32) (w2 : Value) (w3 : Value) (w4 : Value) (w5 : Value) (w6 : Value) (hw2 : w2.category = 1) (hw3 : w3.category = 1) (hw4 : w4.category = 1) (hw5 : w5.category = 1) (hw6 : w6.category = 1) : am_ev X amP_338 24 [.ref 139, .int x1, w2, w3, w4, w5, w6] [] (am_sh I J) = am_ev X amP_338 26 [.ref 139, .int x1, .int (0 : Int32), w3, w4, w5, w6] [] (am_sh I J) := by
  refine (ev_const0 (v := (0 : Int32)) rfl am_ci_0).trans ?_
  refine (ev_istore (ls' := [.ref 139, .int x1, .int (0 : Int32), w3, w4, w5, w6]) rfl (Nat.le_of_ble_eq_true rfl) rfl).trans ?_
  rfl
set_option maxRecDepth 10000 in
theorem sg_338_26 (X : am_X) (I : Nat → Nat → Int32) (J : Nat → Nat → Int64) (x1 : Int32) (x2 : Int32) (w3 : Value) (w4 : Value) (w5 : Value) (w6 : Value) (hw3 : w3.category = 1) (hw4 : w4.category = 1) (hw5 : w5.category = 1) (hw6 : w6.category = 1) : am_ev X amP_338 26 [.ref 139, .int x1, .int x2, w3, w4, w5, w6] [] (am_sh I J) = (if x1 ≤ x2 then some (some (.int (I 148 1)), am_sh I J) else (am_do X 337 [.ref 139, .int (I 139 1)] (am_sh I J)).bind (fun q => am_ev X amP_338 33 [.ref 139, .int x1, .int x2, w3, w4, w5, w6] (q.1.toList ++ []) q.2)) := by
  refine (ev_iload rfl rfl).trans ?_
  refine (ev_iload rfl rfl).trans ?_
  refine (ev_icmp3 rfl).trans (am_ite (fun c1 => ?_) (fun c1 => ?_))
  · refine (ev_aload rfl rfl).trans ?_
    refine (ev_getR rfl (by decide) am_K_139 (by decide) rfl am_R_139_22).trans ?_
    refine (ev_const0 (v := (1 : Int32)) rfl am_ci_1).trans ?_
    refine (ev_ialdC (jn := 1) rfl (by decide) am_K_148 (by decide) (by decide)).trans ?_
    exact ev_iret rfl
  · refine (ev_aload rfl rfl).trans ?_
    refine (ev_aload rfl rfl).trans ?_
    refine (ev_getI rfl (by decide) am_K_139 (by decide) rfl).trans ?_
    exact ev_invv (as := [.int (I 139 1)]) rfl (by decide) am_K_139 rfl (by simp [Value.category])
set_option maxRecDepth 10000 in
theorem sg_338_33 (X : am_X) (I : Nat → Nat → Int32) (J : Nat → Nat → Int64) (x1 : Int32) (x2 : Int32) (w3 : Value) (w4 : Value) (w5 : Value) (w6 : Value) (x7 : Int32) (hw3 : w3.category = 1) (hw4 : w4.category = 1) (hw5 : w5.category = 1) (hw6 : w6.category = 1) : am_ev X amP_338 33 [.ref 139, .int x1, .int x2, w3, w4, w5, w6] [.int x7] (am_sh I J) = (am_do X 337 [.ref 139, .int (3 : Int32)] (am_sh I J)).bind (fun q => am_ev X amP_338 37 [.ref 139, .int x1, .int x2, .int x7, w4, w5, w6] (q.1.toList ++ []) q.2) := by
  refine (ev_istore (ls' := [.ref 139, .int x1, .int x2, .int x7, w4, w5, w6]) rfl (Nat.le_of_ble_eq_true rfl) rfl).trans ?_
  refine (ev_aload rfl rfl).trans ?_
  refine (ev_const0 (v := (3 : Int32)) rfl am_ci_3).trans ?_
  exact ev_invv (as := [.int (3 : Int32)]) rfl (by decide) am_K_139 rfl (by simp [Value.category])
set_option maxRecDepth 10000 in
theorem sg_338_37 (X : am_X) (I : Nat → Nat → Int32) (J : Nat → Nat → Int64) (x1 : Int32) (x2 : Int32) (x3 : Int32) (w4 : Value) (w5 : Value) (w6 : Value) (x7 : Int32) (hw4 : w4.category = 1) (hw5 : w5.category = 1) (hw6 : w6.category = 1) : am_ev X amP_338 37 [.ref 139, .int x1, .int x2, .int x3, w4, w5, w6] [.int x7] (am_sh I J) = (if ¬ x7 = 0 then (if ¬ x7 = (1 : Int32) then (if x3 < 0 ∨ 10 ≤ x3.toNatClampNeg then none else (am_do X 337 [.ref 139, .int (I 140 x3.toNatClampNeg)] (am_sh I J)).bind (fun q => am_ev X amP_338 73 [.ref 139, .int x1, .int x2, .int x3, .int x7, w5, w6] (q.1.toList ++ [.int (3 : Int32), .int x3, .ref 139]) q.2)) else (if x3 < 0 ∨ 10 ≤ x3.toNatClampNeg then none else (am_do X 337 [.ref 139, .int (I 140 x3.toNatClampNeg)] (am_sh I J)).bind (fun q => am_ev X amP_338 62 [.ref 139, .int x1, .int x2, .int x3, .int x7, w5, w6] (q.1.toList ++ [.int x3, .ref 139]) q.2))) else (am_do X 241 [.ref 139, .int x3, .int (6 : Int32)] (am_sh I J)).bind (fun q => am_ev X amP_338 48 [.ref 139, .int x1, .int x2, .int x3, .int x7, w5, w6] (q.1.toList ++ [.int (1 : Int32), .int (6 : Int32), .int x3, .ref 139]) q.2)) := by
  refine (ev_istore (ls' := [.ref 139, .int x1, .int x2, .int x3, .int x7, w5, w6]) rfl (Nat.le_of_ble_eq_true rfl) rfl).trans ?_
  refine (ev_iload rfl rfl).trans ?_
  refine (ev_if1 rfl).trans (am_ite (fun c1 => ?_) (fun c1 => ?_))
  · refine (ev_iload rfl rfl).trans ?_
    refine (ev_const0 (v := (1 : Int32)) rfl am_ci_1).trans ?_
    refine (ev_icmp1 rfl).trans (am_ite (fun c2 => ?_) (fun c2 => ?_))
    · refine (ev_aload rfl rfl).trans ?_
      refine (ev_iload rfl rfl).trans ?_
      refine (ev_const0 (v := (3 : Int32)) rfl am_ci_3).trans ?_
      refine (ev_aload rfl rfl).trans ?_
      refine (ev_aload rfl rfl).trans ?_
      refine (ev_getR rfl (by decide) am_K_139 (by decide) rfl am_R_139_3).trans ?_
      refine (ev_iload rfl rfl).trans ?_
      refine (ev_iald rfl (by decide) am_K_140).trans (am_itn (fun g3 => ?_))
      exact ev_invv (as := [.int (I 140 x3.toNatClampNeg)]) rfl (by decide) am_K_139 rfl (by simp [Value.category])
    · refine (ev_aload rfl rfl).trans ?_
      refine (ev_iload rfl rfl).trans ?_
      refine (ev_aload rfl rfl).trans ?_
      refine (ev_aload rfl rfl).trans ?_
      refine (ev_getR rfl (by decide) am_K_139 (by decide) rfl am_R_139_3).trans ?_
      refine (ev_iload rfl rfl).trans ?_
      refine (ev_iald rfl (by decide) am_K_140).trans (am_itn (fun g3 => ?_))
      exact ev_invv (as := [.int (I 140 x3.toNatClampNeg)]) rfl (by decide) am_K_139 rfl (by simp [Value.category])
  · refine (ev_aload rfl rfl).trans ?_
    refine (ev_iload rfl rfl).trans ?_
    refine (ev_const1 (v := (6 : Int32)) rfl am_ci_6).trans ?_
    refine (ev_const0 (v := (1 : Int32)) rfl am_ci_1).trans ?_
    refine (ev_aload rfl rfl).trans ?_
    refine (ev_iload rfl rfl).trans ?_
    refine (ev_const1 (v := (6 : Int32)) rfl am_ci_6).trans ?_
    exact ev_invv (as := [.int (6 : Int32), .int x3]) rfl (by decide) am_K_139 rfl (by simp [Value.category])
set_option maxRecDepth 10000 in
theorem sg_338_48 (X : am_X) (I : Nat → Nat → Int32) (J : Nat → Nat → Int64) (x1 : Int32) (x2 : Int32) (x3 : Int32) (x4 : Int32) (w5 : Value) (w6 : Value) (x7 : Int32) (x8 : Int32) (x9 : Int32) (x10 : Int32) (hw5 : w5.category = 1) (hw6 : w6.category = 1) : am_ev X amP_338 48 [.ref 139, .int x1, .int x2, .int x3, .int x4, w5, w6] [.int x10, .int x9, .int x8, .int x7, .ref 139] (am_sh I J) = (am_do X 242 [.ref 139, .int x7, .int x8, .int (x9 - x10)] (am_sh I J)).bind (fun q => am_ev X amP_338 50 [.ref 139, .int x1, .int x2, .int x3, .int x4, w5, w6] (q.1.toList ++ []) q.2) := by
  refine (ev_isub rfl).trans ?_
  exact ev_invv (as := [.int (x9 - x10), .int x8, .int x7]) rfl (by decide) am_K_139 rfl (by simp [Value.category])
set_option maxRecDepth 10000 in
theorem sg_338_50 (X : am_X) (I : Nat → Nat → Int32) (J : Nat → Nat → Int64) (x1 : Int32) (x2 : Int32) (x3 : Int32) (x4 : Int32) (w5 : Value) (w6 : Value) (hw5 : w5.category = 1) (hw6 : w6.category = 1) : am_ev X amP_338 50 [.ref 139, .int x1, .int x2, .int x3, .int x4, w5, w6] [] (am_sh I J) = (am_do X 247 [.ref 139, .int x3] (am_sh I J)).bind (fun q => am_ev X amP_338 77 [.ref 139, .int x1, .int x2, .int x3, .int x4, w5, w6] (q.1.toList ++ []) q.2) := by
  refine (ev_goto rfl).trans ?_
  refine (ev_aload rfl rfl).trans ?_
  refine (ev_iload rfl rfl).trans ?_
  exact ev_invv (as := [.int x3]) rfl (by decide) am_K_139 rfl (by simp [Value.category])
set_option maxRecDepth 10000 in
theorem sg_338_62 (X : am_X) (I : Nat → Nat → Int32) (J : Nat → Nat → Int64) (x1 : Int32) (x2 : Int32) (x3 : Int32) (x4 : Int32) (w5 : Value) (w6 : Value) (x7 : Int32) (x8 : Int32) (hw5 : w5.category = 1) (hw6 : w6.category = 1) : am_ev X amP_338 62 [.ref 139, .int x1, .int x2, .int x3, .int x4, w5, w6] [.int x8, .int x7, .ref 139] (am_sh I J) = (am_do X 294 [.ref 139, .int x7, .int x8] (am_sh I J)).bind (fun q => am_ev X amP_338 63 [.ref 139, .int x1, .int x2, .int x3, .int x4, w5, w6] (q.1.toList ++ []) q.2) := by
  exact ev_invv (as := [.int x8, .int x7]) rfl (by decide) am_K_139 rfl (by simp [Value.category])
set_option maxRecDepth 10000 in
theorem sg_338_63 (X : am_X) (I : Nat → Nat → Int32) (J : Nat → Nat → Int64) (x1 : Int32) (x2 : Int32) (x3 : Int32) (x4 : Int32) (w5 : Value) (w6 : Value) (hw5 : w5.category = 1) (hw6 : w6.category = 1) : am_ev X amP_338 63 [.ref 139, .int x1, .int x2, .int x3, .int x4, w5, w6] [] (am_sh I J) = (am_do X 247 [.ref 139, .int x3] (am_sh I J)).bind (fun q => am_ev X amP_338 77 [.ref 139, .int x1, .int x2, .int x3, .int x4, w5, w6] (q.1.toList ++ []) q.2) := by
  refine (ev_goto rfl).trans ?_
  refine (ev_aload rfl rfl).trans ?_
  refine (ev_iload rfl rfl).trans ?_
  exact ev_invv (as := [.int x3]) rfl (by decide) am_K_139 rfl (by simp [Value.category])
set_option maxRecDepth 10000 in
theorem sg_338_73 (X : am_X) (I : Nat → Nat → Int32) (J : Nat → Nat → Int64) (x1 : Int32) (x2 : Int32) (x3 : Int32) (x4 : Int32) (w5 : Value) (w6 : Value) (x7 : Int32) (x8 : Int32) (x9 : Int32) (hw5 : w5.category = 1) (hw6 : w6.category = 1) : am_ev X amP_338 73 [.ref 139, .int x1, .int x2, .int x3, .int x4, w5, w6] [.int x9, .int x8, .int x7, .ref 139] (am_sh I J) = (am_do X 242 [.ref 139, .int x7, .int x8, .int x9] (am_sh I J)).bind (fun q => am_ev X amP_338 74 [.ref 139, .int x1, .int x2, .int x3, .int x4, w5, w6] (q.1.toList ++ []) q.2) := by
  exact ev_invv (as := [.int x9, .int x8, .int x7]) rfl (by decide) am_K_139 rfl (by simp [Value.category])
set_option maxRecDepth 10000 in
theorem sg_338_74 (X : am_X) (I : Nat → Nat → Int32) (J : Nat → Nat → Int64) (x1 : Int32) (x2 : Int32) (x3 : Int32) (x4 : Int32) (w5 : Value) (w6 : Value) (hw5 : w5.category = 1) (hw6 : w6.category = 1) : am_ev X amP_338 74 [.ref 139, .int x1, .int x2, .int x3, .int x4, w5, w6] [] (am_sh I J) = (am_do X 247 [.ref 139, .int x3] (am_sh I J)).bind (fun q => am_ev X amP_338 77 [.ref 139, .int x1, .int x2, .int x3, .int x4, w5, w6] (q.1.toList ++ []) q.2) := by
  refine (ev_aload rfl rfl).trans ?_
  refine (ev_iload rfl rfl).trans ?_
  exact ev_invv (as := [.int x3]) rfl (by decide) am_K_139 rfl (by simp [Value.category])
set_option maxRecDepth 10000 in
theorem sg_338_77 (X : am_X) (I : Nat → Nat → Int32) (J : Nat → Nat → Int64) (x1 : Int32) (x2 : Int32) (x3 : Int32) (x4 : Int32) (w5 : Value) (w6 : Value) (hw5 : w5.category = 1) (hw6 : w6.category = 1) : am_ev X amP_338 77 [.ref 139, .int x1, .int x2, .int x3, .int x4, w5, w6] [] (am_sh I J) = (am_do X 337 [.ref 139, .int (8 : Int32)] (am_sh I J)).bind (fun q => am_ev X amP_338 80 [.ref 139, .int x1, .int x2, .int x3, .int x4, w5, w6] (q.1.toList ++ []) q.2) := by
  refine (ev_aload rfl rfl).trans ?_
  refine (ev_const1 (v := (8 : Int32)) rfl am_ci_8).trans ?_
  exact ev_invv (as := [.int (8 : Int32)]) rfl (by decide) am_K_139 rfl (by simp [Value.category])
set_option maxRecDepth 10000 in
theorem sg_338_80 (X : am_X) (I : Nat → Nat → Int32) (J : Nat → Nat → Int64) (x1 : Int32) (x2 : Int32) (x3 : Int32) (x4 : Int32) (w5 : Value) (w6 : Value) (x7 : Int32) (hw5 : w5.category = 1) (hw6 : w6.category = 1) : am_ev X amP_338 80 [.ref 139, .int x1, .int x2, .int x3, .int x4, w5, w6] [.int x7] (am_sh I J) = am_ev X amP_338 83 [.ref 139, .int x1, .int x2, .int x3, .int x4, .int x7, .int (0 : Int32)] [] (am_sh I J) := by
  refine (ev_istore (ls' := [.ref 139, .int x1, .int x2, .int x3, .int x4, .int x7, w6]) rfl (Nat.le_of_ble_eq_true rfl) rfl).trans ?_
  refine (ev_const0 (v := (0 : Int32)) rfl am_ci_0).trans ?_
  refine (ev_istore (ls' := [.ref 139, .int x1, .int x2, .int x3, .int x4, .int x7, .int (0 : Int32)]) rfl (Nat.le_of_ble_eq_true rfl) rfl).trans ?_
  rfl
set_option maxRecDepth 10000 in
theorem sg_338_83 (X : am_X) (I : Nat → Nat → Int32) (J : Nat → Nat → Int64) (x1 : Int32) (x2 : Int32) (x3 : Int32) (x4 : Int32) (x5 : Int32) (x6 : Int32) : am_ev X amP_338 83 [.ref 139, .int x1, .int x2, .int x3, .int x4, .int x5, .int x6] [] (am_sh I J) = (if x5 ≤ x6 then am_ev X amP_338 26 [.ref 139, .int x1, .int (x2 + (1 : Int32)), .int x3, .int x4, .int x5, .int x6] [] (am_sh I J) else (am_do X 335 [.ref 139] (am_sh I J)).bind (fun q => am_ev X amP_338 88 [.ref 139, .int x1, .int x2, .int x3, .int x4, .int x5, .int x6] (q.1.toList ++ []) q.2)) := by
  refine (ev_iload rfl rfl).trans ?_
  refine (ev_iload rfl rfl).trans ?_
  refine (ev_icmp3 rfl).trans (am_ite (fun c1 => ?_) (fun c1 => ?_))
  · refine (ev_iincv (v := (1 : Int32)) (ls' := [.ref 139, .int x1, .int (x2 + (1 : Int32)), .int x3, .int x4, .int x5, .int x6]) rfl am_ci_1 rfl rfl).trans ?_
    refine (ev_goto rfl).trans ?_
    rfl
  · refine (ev_aload rfl rfl).trans ?_
    exact ev_invv (as := []) rfl (by decide) am_K_139 rfl (by simp [Value.category])
set_option maxRecDepth 10000 in
theorem sg_338_88 (X : am_X) (I : Nat → Nat → Int32) (J : Nat → Nat → Int64) (x1 : Int32) (x2 : Int32) (x3 : Int32) (x4 : Int32) (x5 : Int32) (x6 : Int32) : am_ev X amP_338 88 [.ref 139, .int x1, .int x2, .int x3, .int x4, .int x5, .int x6] [] (am_sh I J) = am_ev X amP_338 83 [.ref 139, .int x1, .int x2, .int x3, .int x4, .int x5, .int (x6 + (1 : Int32))] [] (am_sh I J) := by
  refine (ev_iincv (v := (1 : Int32)) (ls' := [.ref 139, .int x1, .int x2, .int x3, .int x4, .int x5, .int (x6 + (1 : Int32))]) rfl am_ci_1 rfl rfl).trans ?_
  refine (ev_goto rfl).trans ?_
  rfl
-- 339 X12_undo
set_option maxRecDepth 10000 in
theorem sg_339_e0 (X : am_X) (I : Nat → Nat → Int32) (J : Nat → Nat → Int64) : am_ev X amP_339 0 [.ref 139, .null] [] (am_sh I J) = (if ¬ (I 139 24) = 0 then am_ev X amP_339 15 [.ref 139, .int (0 : Int32)] [] (am_sh (am_up I 139 24 ((I 139 24) - (1 : Int32))) J) else (am_do X 219 [.ref 139, .int (4 : Int32)] (am_sh I J)).bind (fun q => am_ev X amP_339 6 [.ref 139, .null] (q.1.toList ++ []) q.2)) := by
  refine (ev_aload rfl rfl).trans ?_
  refine (ev_getI rfl (by decide) am_K_139 (by decide) rfl).trans ?_
  refine (ev_if1 rfl).trans (am_ite (fun c1 => ?_) (fun c1 => ?_))
  · refine (ev_aload rfl rfl).trans ?_
    refine (ev_dupr rfl).trans ?_
    refine (ev_getI rfl (by decide) am_K_139 (by decide) rfl).trans ?_
    refine (ev_const0 (v := (1 : Int32)) rfl am_ci_1).trans ?_
    refine (ev_isub rfl).trans ?_
    refine (ev_putI rfl (by decide) am_K_139 (by decide) rfl).trans ?_
    refine (ev_const0 (v := (0 : Int32)) rfl am_ci_0).trans ?_
    refine (ev_istore (ls' := [.ref 139, .int (0 : Int32)]) rfl (Nat.le_of_ble_eq_true rfl) rfl).trans ?_
    rfl
  · refine (ev_aload rfl rfl).trans ?_
    refine (ev_const0 (v := (4 : Int32)) rfl am_ci_4).trans ?_
    exact ev_invv (as := [.int (4 : Int32)]) rfl (by decide) am_K_139 rfl (by simp [Value.category])
theorem cl_339 (X : am_X) (I : Nat → Nat → Int32) (J : Nat → Nat → Int64) : am_do X 339 [.ref 139] (am_sh I J) = am_ev X amP_339 0 [.ref 139, .null] [] (am_sh I J) := am_do_of rfl rfl rfl
set_option maxRecDepth 10000 in
theorem sg_339_6 (X : am_X) (I : Nat → Nat → Int32) (J : Nat → Nat → Int64) (w1 : Value) (x2 : Int32) (hw1 : w1.category = 1) (z0 : x2 = 0 ∨ x2 = 1) : am_ev X amP_339 6 [.ref 139, w1] [.int x2] (am_sh I J) = some (some (.int x2), am_sh I J) := by
  exact ev_zret rfl z0
set_option maxRecDepth 10000 in
theorem sg_339_15 (X : am_X) (I : Nat → Nat → Int32) (J : Nat → Nat → Int64) (x1 : Int32) : am_ev X amP_339 15 [.ref 139, .int x1] [] (am_sh I J) = (if (153 : Int32) ≤ x1 then (am_do X 248 [.ref 139] (am_sh I J)).bind (fun q => am_ev X amP_339 35 [.ref 139, .int x1] (q.1.toList ++ []) q.2) else (if (((153 : Int32) * (I 139 24)) + x1) < 0 ∨ 3060 ≤ (((153 : Int32) * (I 139 24)) + x1).toNatClampNeg then none else (if x1 < 0 ∨ 153 ≤ x1.toNatClampNeg then none else am_ev X amP_339 15 [.ref 139, .int (x1 + (1 : Int32))] [] (am_sh (am_up I 148 x1.toNatClampNeg (I 149 (((153 : Int32) * (I 139 24)) + x1).toNatClampNeg)) J)))) := by
  refine (ev_iload rfl rfl).trans ?_
  refine (ev_const2 (v := (153 : Int32)) rfl am_ci_153).trans ?_
  refine (ev_icmp3 rfl).trans (am_ite (fun c1 => ?_) (fun c1 => ?_))
  · refine (ev_aload rfl rfl).trans ?_
    exact ev_invv (as := []) rfl (by decide) am_K_139 rfl (by simp [Value.category])
  · refine (ev_aload rfl rfl).trans ?_
    refine (ev_getR rfl (by decide) am_K_139 (by decide) rfl am_R_139_22).trans ?_
    refine (ev_iload rfl rfl).trans ?_
    refine (ev_aload rfl rfl).trans ?_
    refine (ev_getR rfl (by decide) am_K_139 (by decide) rfl am_R_139_23).trans ?_
    refine (ev_const2 (v := (153 : Int32)) rfl am_ci_153).trans ?_
    refine (ev_aload rfl rfl).trans ?_
    refine (ev_getI rfl (by decide) am_K_139 (by decide) rfl).trans ?_
    refine (ev_imul rfl).trans ?_
    refine (ev_iload rfl rfl).trans ?_
    refine (ev_iadd rfl).trans ?_
    refine (ev_iald rfl (by decide) am_K_149).trans (am_itn (fun g2 => ?_))
    refine (ev_iast rfl (by decide) am_K_148).trans (am_itn (fun g3 => ?_))
    refine (ev_iincv (v := (1 : Int32)) (ls' := [.ref 139, .int (x1 + (1 : Int32))]) rfl am_ci_1 rfl rfl).trans ?_
    refine (ev_goto rfl).trans ?_
    rfl
set_option maxRecDepth 10000 in
theorem sg_339_35 (X : am_X) (I : Nat → Nat → Int32) (J : Nat → Nat → Int64) (x1 : Int32) : am_ev X amP_339 35 [.ref 139, .int x1] [] (am_sh I J) = some (some (.int (1 : Int32)), am_sh I J) := by
  refine (ev_const0 (v := (1 : Int32)) rfl am_ci_1).trans ?_
  exact ev_zret rfl (by decide)
-- 340 X12_seed
set_option maxRecDepth 10000 in
theorem sg_340_e0 (X : am_X) (I : Nat → Nat → Int32) (J : Nat → Nat → Int64) (x1 : Int32) : am_ev X amP_340 0 [.ref 139, .int x1] [] (am_sh I J) = (if 0 ≤ x1 then some (some (.int (1 : Int32)), am_sh (am_up I 139 41 x1) J) else (am_do X 219 [.ref 139, .int (5 : Int32)] (am_sh I J)).bind (fun q => am_ev X amP_340 5 [.ref 139, .int x1] (q.1.toList ++ []) q.2)) := by
  refine (ev_iload rfl rfl).trans ?_
  refine (ev_if3 rfl).trans (am_ite (fun c1 => ?_) (fun c1 => ?_))
  · refine (ev_aload rfl rfl).trans ?_
    refine (ev_iload rfl rfl).trans ?_
    refine (ev_putI rfl (by decide) am_K_139 (by decide) rfl).trans ?_
    refine (ev_const0 (v := (1 : Int32)) rfl am_ci_1).trans ?_
    exact ev_zret rfl (by decide)
  · refine (ev_aload rfl rfl).trans ?_
    refine (ev_const0 (v := (5 : Int32)) rfl am_ci_5).trans ?_
    exact ev_invv (as := [.int (5 : Int32)]) rfl (by decide) am_K_139 rfl (by simp [Value.category])
theorem cl_340 (X : am_X) (I : Nat → Nat → Int32) (J : Nat → Nat → Int64) (x1 : Int32) : am_do X 340 [.ref 139, .int x1] (am_sh I J) = am_ev X amP_340 0 [.ref 139, .int x1] [] (am_sh I J) := am_do_of rfl rfl rfl
set_option maxRecDepth 10000 in
theorem sg_340_5 (X : am_X) (I : Nat → Nat → Int32) (J : Nat → Nat → Int64) (x1 : Int32) (x2 : Int32) (z0 : x2 = 0 ∨ x2 = 1) : am_ev X amP_340 5 [.ref 139, .int x1] [.int x2] (am_sh I J) = some (some (.int x2), am_sh I J) := by
  exact ev_zret rfl z0
-- 341 X12_says
set_option maxRecDepth 10000 in
theorem sg_341_e0 (X : am_X) (I : Nat → Nat → Int32) (J : Nat → Nat → Int64) (x1 : Int32) : am_ev X amP_341 0 [.ref 139, .int x1] [] (am_sh I J) = (if (I 139 43) < 0 ∨ 72 ≤ (I 139 43).toNatClampNeg then none else some (none, am_sh (am_up (am_up I 161 (I 139 43).toNatClampNeg x1) 139 43 (((am_up I 161 (I 139 43).toNatClampNeg x1) 139 43) + (1 : Int32))) J)) := by
  refine (ev_aload rfl rfl).trans ?_
  refine (ev_getR rfl (by decide) am_K_139 (by decide) rfl am_R_139_42).trans ?_
  refine (ev_aload rfl rfl).trans ?_
  refine (ev_getI rfl (by decide) am_K_139 (by decide) rfl).trans ?_
  refine (ev_iload rfl rfl).trans ?_
  refine (ev_iast rfl (by decide) am_K_161).trans (am_itn (fun g1 => ?_))
  refine (ev_aload rfl rfl).trans ?_
  refine (ev_dupr rfl).trans ?_
  refine (ev_getI rfl (by decide) am_K_139 (by decide) rfl).trans ?_
  refine (ev_const0 (v := (1 : Int32)) rfl am_ci_1).trans ?_
  refine (ev_iadd rfl).trans ?_
  refine (ev_putI rfl (by decide) am_K_139 (by decide) rfl).trans ?_
  exact ev_vret rfl
theorem cl_341 (X : am_X) (I : Nat → Nat → Int32) (J : Nat → Nat → Int64) (x1 : Int32) : am_do X 341 [.ref 139, .int x1] (am_sh I J) = am_ev X amP_341 0 [.ref 139, .int x1] [] (am_sh I J) := am_do_of rfl rfl rfl
-- 342 X12_image
set_option maxRecDepth 10000 in
theorem sg_342_e0 (X : am_X) (I : Nat → Nat → Int32) (J : Nat → Nat → Int64) : am_ev X amP_342 0 [.ref 139, .null, .null] [] (am_sh I J) = (am_do X 341 [.ref 139, .int ((am_up I 139 43 (0 : Int32)) 148 0)] (am_sh (am_up I 139 43 (0 : Int32)) J)).bind (fun q => am_ev X amP_342 9 [.ref 139, .null, .null] (q.1.toList ++ []) q.2) := by
  refine (ev_aload rfl rfl).trans ?_
  refine (ev_const0 (v := (0 : Int32)) rfl am_ci_0).trans ?_
  refine (ev_putI rfl (by decide) am_K_139 (by decide) rfl).trans ?_
  refine (ev_aload rfl rfl).trans ?_
  refine (ev_aload rfl rfl).trans ?_
  refine (ev_getR rfl (by decide) am_K_139 (by decide) rfl am_R_139_22).trans ?_
  refine (ev_const0 (v := (0 : Int32)) rfl am_ci_0).trans ?_
  refine (ev_ialdC (jn := 0) rfl (by decide) am_K_148 (by decide) (by decide)).trans ?_
  exact ev_invv (as := [.int ((am_up I 139 43 (0 : Int32)) 148 0)]) rfl (by decide) am_K_139 rfl (by simp [Value.category])
theorem cl_342 (X : am_X) (I : Nat → Nat → Int32) (J : Nat → Nat → Int64) : am_do X 342 [.ref 139] (am_sh I J) = am_ev X amP_342 0 [.ref 139, .null, .null] [] (am_sh I J) := am_do_of rfl rfl rfl
set_option maxRecDepth 10000 in
theorem sg_342_9 (X : am_X) (I : Nat → Nat → Int32) (J : Nat → Nat → Int64) (w1 : Value) (w2 : Value) (hw1 : w1.category = 1) (hw2 : w2.category = 1) : am_ev X amP_342 9 [.ref 139, w1, w2] [] (am_sh I J) = am_ev X amP_342 11 [.ref 139, .int (0 : Int32), w2] [] (am_sh I J) := by
  refine (ev_const0 (v := (0 : Int32)) rfl am_ci_0).trans ?_
  refine (ev_istore (ls' := [.ref 139, .int (0 : Int32), w2]) rfl (Nat.le_of_ble_eq_true rfl) rfl).trans ?_
  rfl
set_option maxRecDepth 10000 in
theorem sg_342_11 (X : am_X) (I : Nat → Nat → Int32) (J : Nat → Nat → Int64) (x1 : Int32) (w2 : Value) (hw2 : w2.category = 1) : am_ev X amP_342 11 [.ref 139, .int x1, w2] [] (am_sh I J) = (if (I 139 1) ≤ x1 then am_ev X amP_342 40 [.ref 139, .int (173 : Int32), .int (0 : Int32)] [] (am_sh I J) else (am_do X 241 [.ref 139, .int x1, .int (6 : Int32)] (am_sh I J)).bind (fun q => am_ev X amP_342 20 [.ref 139, .int x1, w2] (q.1.toList ++ [.ref 139]) q.2)) := by
  refine (ev_iload rfl rfl).trans ?_
  refine (ev_aload rfl rfl).trans ?_
  refine (ev_getI rfl (by decide) am_K_139 (by decide) rfl).trans ?_
  refine (ev_icmp3 rfl).trans (am_ite (fun c1 => ?_) (fun c1 => ?_))
  · refine (ev_const2 (v := (173 : Int32)) rfl am_ci_173).trans ?_
    refine (ev_istore (ls' := [.ref 139, .int (173 : Int32), w2]) rfl (Nat.le_of_ble_eq_true rfl) rfl).trans ?_
    refine (ev_const0 (v := (0 : Int32)) rfl am_ci_0).trans ?_
    refine (ev_istore (ls' := [.ref 139, .int (173 : Int32), .int (0 : Int32)]) rfl (Nat.le_of_ble_eq_true rfl) rfl).trans ?_
    rfl
  · refine (ev_aload rfl rfl).trans ?_
    refine (ev_aload rfl rfl).trans ?_
    refine (ev_iload rfl rfl).trans ?_
    refine (ev_const1 (v := (6 : Int32)) rfl am_ci_6).trans ?_
    exact ev_invv (as := [.int (6 : Int32), .int x1]) rfl (by decide) am_K_139 rfl (by simp [Value.category])
set_option maxRecDepth 10000 in
theorem sg_342_20 (X : am_X) (I : Nat → Nat → Int32) (J : Nat → Nat → Int64) (x1 : Int32) (w2 : Value) (x3 : Int32) (hw2 : w2.category = 1) : am_ev X amP_342 20 [.ref 139, .int x1, w2] [.int x3, .ref 139] (am_sh I J) = (am_do X 341 [.ref 139, .int x3] (am_sh I J)).bind (fun q => am_ev X amP_342 21 [.ref 139, .int x1, w2] (q.1.toList ++ []) q.2) := by
  exact ev_invv (as := [.int x3]) rfl (by decide) am_K_139 rfl (by simp [Value.category])
set_option maxRecDepth 10000 in
theorem sg_342_21 (X : am_X) (I : Nat → Nat → Int32) (J : Nat → Nat → Int64) (x1 : Int32) (w2 : Value) (hw2 : w2.category = 1) : am_ev X amP_342 21 [.ref 139, .int x1, w2] [] (am_sh I J) = am_ev X amP_342 23 [.ref 139, .int x1, .int (0 : Int32)] [] (am_sh I J) := by
  refine (ev_const0 (v := (0 : Int32)) rfl am_ci_0).trans ?_
  refine (ev_istore (ls' := [.ref 139, .int x1, .int (0 : Int32)]) rfl (Nat.le_of_ble_eq_true rfl) rfl).trans ?_
  rfl
set_option maxRecDepth 10000 in
theorem sg_342_23 (X : am_X) (I : Nat → Nat → Int32) (J : Nat → Nat → Int64) (x1 : Int32) (x2 : Int32) : am_ev X amP_342 23 [.ref 139, .int x1, .int x2] [] (am_sh I J) = (if (5 : Int32) < x2 then am_ev X amP_342 11 [.ref 139, .int (x1 + (1 : Int32)), .int x2] [] (am_sh I J) else (am_do X 241 [.ref 139, .int x1, .int x2] (am_sh I J)).bind (fun q => am_ev X amP_342 31 [.ref 139, .int x1, .int x2] (q.1.toList ++ [.ref 139]) q.2)) := by
  refine (ev_iload rfl rfl).trans ?_
  refine (ev_const0 (v := (5 : Int32)) rfl am_ci_5).trans ?_
  refine (ev_icmp4 rfl).trans (am_ite (fun c1 => ?_) (fun c1 => ?_))
  · refine (ev_iincv (v := (1 : Int32)) (ls' := [.ref 139, .int (x1 + (1 : Int32)), .int x2]) rfl am_ci_1 rfl rfl).trans ?_
    refine (ev_goto rfl).trans ?_
    rfl
  · refine (ev_aload rfl rfl).trans ?_
    refine (ev_aload rfl rfl).trans ?_
    refine (ev_iload rfl rfl).trans ?_
    refine (ev_iload rfl rfl).trans ?_
    exact ev_invv (as := [.int x2, .int x1]) rfl (by decide) am_K_139 rfl (by simp [Value.category])
set_option maxRecDepth 10000 in
theorem sg_342_31 (X : am_X) (I : Nat → Nat → Int32) (J : Nat → Nat → Int64) (x1 : Int32) (x2 : Int32) (x3 : Int32) : am_ev X amP_342 31 [.ref 139, .int x1, .int x2] [.int x3, .ref 139] (am_sh I J) = (am_do X 341 [.ref 139, .int x3] (am_sh I J)).bind (fun q => am_ev X amP_342 32 [.ref 139, .int x1, .int x2] (q.1.toList ++ []) q.2) := by
  exact ev_invv (as := [.int x3]) rfl (by decide) am_K_139 rfl (by simp [Value.category])
set_option maxRecDepth 10000 in
theorem sg_342_32 (X : am_X) (I : Nat → Nat → Int32) (J : Nat → Nat → Int64) (x1 : Int32) (x2 : Int32) : am_ev X amP_342 32 [.ref 139, .int x1, .int x2] [] (am_sh I J) = am_ev X amP_342 23 [.ref 139, .int x1, .int (x2 + (1 : Int32))] [] (am_sh I J) := by
  refine (ev_iincv (v := (1 : Int32)) (ls' := [.ref 139, .int x1, .int (x2 + (1 : Int32))]) rfl am_ci_1 rfl rfl).trans ?_
  refine (ev_goto rfl).trans ?_
  rfl
set_option maxRecDepth 10000 in
theorem sg_342_40 (X : am_X) (I : Nat → Nat → Int32) (J : Nat → Nat → Int64) (x1 : Int32) (x2 : Int32) : am_ev X amP_342 40 [.ref 139, .int x1, .int x2] [] (am_sh I J) = (if (I 139 43) ≤ x2 then (am_do X 341 [.ref 139, .int x1] (am_sh I J)).bind (fun q => am_ev X amP_342 60 [.ref 139, .int x1, .int x2] (q.1.toList ++ []) q.2) else (if x2 < 0 ∨ 72 ≤ x2.toNatClampNeg then none else am_ev X amP_342 40 [.ref 139, .int ((((3 : Int32) * x1) + (I 161 x2.toNatClampNeg)) - (((3 : Int32) * x1) + (I 161 x2.toNatClampNeg)) / (251 : Int32) * (251 : Int32)), .int (x2 + (1 : Int32))] [] (am_sh I J))) := by
  refine (ev_iload rfl rfl).trans ?_
  refine (ev_aload rfl rfl).trans ?_
  refine (ev_getI rfl (by decide) am_K_139 (by decide) rfl).trans ?_
  refine (ev_icmp3 rfl).trans (am_ite (fun c1 => ?_) (fun c1 => ?_))
  · refine (ev_aload rfl rfl).trans ?_
    refine (ev_iload rfl rfl).trans ?_
    exact ev_invv (as := [.int x1]) rfl (by decide) am_K_139 rfl (by simp [Value.category])
  · refine (ev_const0 (v := (3 : Int32)) rfl am_ci_3).trans ?_
    refine (ev_iload rfl rfl).trans ?_
    refine (ev_imul rfl).trans ?_
    refine (ev_aload rfl rfl).trans ?_
    refine (ev_getR rfl (by decide) am_K_139 (by decide) rfl am_R_139_42).trans ?_
    refine (ev_iload rfl rfl).trans ?_
    refine (ev_iald rfl (by decide) am_K_161).trans (am_itn (fun g2 => ?_))
    refine (ev_iadd rfl).trans ?_
    refine (ev_const2 (v := (251 : Int32)) rfl am_ci_251).trans ?_
    refine (ev_iremN (by decide) rfl).trans ?_
    refine (ev_istore (ls' := [.ref 139, .int ((((3 : Int32) * x1) + (I 161 x2.toNatClampNeg)) - (((3 : Int32) * x1) + (I 161 x2.toNatClampNeg)) / (251 : Int32) * (251 : Int32)), .int x2]) rfl (Nat.le_of_ble_eq_true rfl) rfl).trans ?_
    refine (ev_iincv (v := (1 : Int32)) (ls' := [.ref 139, .int ((((3 : Int32) * x1) + (I 161 x2.toNatClampNeg)) - (((3 : Int32) * x1) + (I 161 x2.toNatClampNeg)) / (251 : Int32) * (251 : Int32)), .int (x2 + (1 : Int32))]) rfl am_ci_1 rfl rfl).trans ?_
    refine (ev_goto rfl).trans ?_
    rfl
set_option maxRecDepth 10000 in
theorem sg_342_60 (X : am_X) (I : Nat → Nat → Int32) (J : Nat → Nat → Int64) (x1 : Int32) (x2 : Int32) : am_ev X amP_342 60 [.ref 139, .int x1, .int x2] [] (am_sh I J) = some (some (.int (I 139 43)), am_sh I J) := by
  refine (ev_aload rfl rfl).trans ?_
  refine (ev_getI rfl (by decide) am_K_139 (by decide) rfl).trans ?_
  exact ev_iret rfl
-- 343 X12_octet
set_option maxRecDepth 10000 in
theorem sg_343_e0 (X : am_X) (I : Nat → Nat → Int32) (J : Nat → Nat → Int64) (x1 : Int32) : am_ev X amP_343 0 [.ref 139, .int x1] [] (am_sh I J) = (am_do X 214 [.int x1, .int (0 : Int32), .int ((I 139 43) - (1 : Int32))] (am_sh I J)).bind (fun q => am_ev X amP_343 7 [.ref 139, .int x1] (q.1.toList ++ []) q.2) := by
  refine (ev_iload rfl rfl).trans ?_
  refine (ev_const0 (v := (0 : Int32)) rfl am_ci_0).trans ?_
  refine (ev_aload rfl rfl).trans ?_
  refine (ev_getI rfl (by decide) am_K_139 (by decide) rfl).trans ?_
  refine (ev_const0 (v := (1 : Int32)) rfl am_ci_1).trans ?_
  refine (ev_isub rfl).trans ?_
  exact ev_invs (as := [.int ((I 139 43) - (1 : Int32)), .int (0 : Int32), .int x1]) rfl rfl (by simp [Value.category])
theorem cl_343 (X : am_X) (I : Nat → Nat → Int32) (J : Nat → Nat → Int64) (x1 : Int32) : am_do X 343 [.ref 139, .int x1] (am_sh I J) = am_ev X amP_343 0 [.ref 139, .int x1] [] (am_sh I J) := am_do_of rfl rfl rfl
set_option maxRecDepth 10000 in
theorem sg_343_7 (X : am_X) (I : Nat → Nat → Int32) (J : Nat → Nat → Int64) (x1 : Int32) (x2 : Int32) : am_ev X amP_343 7 [.ref 139, .int x1] [.int x2] (am_sh I J) = (if x2 = 0 then some (some (.int (-1 : Int32)), am_sh I J) else (if x1 < 0 ∨ 72 ≤ x1.toNatClampNeg then none else some (some (.int (I 161 x1.toNatClampNeg)), am_sh I J))) := by
  refine (ev_if0 rfl).trans (am_ite (fun c1 => ?_) (fun c1 => ?_))
  · refine (ev_const0 (v := (-1 : Int32)) rfl am_ci_m1).trans ?_
    exact ev_iret rfl
  · refine (ev_aload rfl rfl).trans ?_
    refine (ev_getR rfl (by decide) am_K_139 (by decide) rfl am_R_139_42).trans ?_
    refine (ev_iload rfl rfl).trans ?_
    refine (ev_iald rfl (by decide) am_K_161).trans (am_itn (fun g2 => ?_))
    refine (ev_goto rfl).trans ?_
    exact ev_iret rfl
-- 344 X12_isBodyAt
set_option maxRecDepth 10000 in
theorem sg_344_e0 (X : am_X) (I : Nat → Nat → Int32) (J : Nat → Nat → Int64) (x1 : Int32) : am_ev X amP_344 0 [.ref 139, .int x1, .null] [] (am_sh I J) = (if ((1 : Int32) + ((7 : Int32) * x1)) < 0 ∨ 1600 ≤ ((1 : Int32) + ((7 : Int32) * x1)).toNatClampNeg then none else (if (1 : Int32) < (I 145 ((1 : Int32) + ((7 : Int32) * x1)).toNatClampNeg) then some (some (.int (0 : Int32)), am_sh I J) else (if (((1 : Int32) + ((7 : Int32) * x1)) + (1 : Int32)) < 0 ∨ 1600 ≤ (((1 : Int32) + ((7 : Int32) * x1)) + (1 : Int32)).toNatClampNeg then none else (am_do X 214 [.int (I 145 (((1 : Int32) + ((7 : Int32) * x1)) + (1 : Int32)).toNatClampNeg), .int (1 : Int32), .int (200 : Int32)] (am_sh I J)).bind (fun q => am_ev X amP_344 21 [.ref 139, .int x1, .int ((1 : Int32) + ((7 : Int32) * x1))] (q.1.toList ++ []) q.2)))) := by
  refine (ev_const0 (v := (1 : Int32)) rfl am_ci_1).trans ?_
  refine (ev_const1 (v := (7 : Int32)) rfl am_ci_7).trans ?_
  refine (ev_iload rfl rfl).trans ?_
  refine (ev_imul rfl).trans ?_
  refine (ev_iadd rfl).trans ?_
  refine (ev_istore (ls' := [.ref 139, .int x1, .int ((1 : Int32) + ((7 : Int32) * x1))]) rfl (Nat.le_of_ble_eq_true rfl) rfl).trans ?_
  refine (ev_aload rfl rfl).trans ?_
  refine (ev_getR rfl (by decide) am_K_139 (by decide) rfl am_R_139_11).trans ?_
  refine (ev_iload rfl rfl).trans ?_
  refine (ev_iald rfl (by decide) am_K_145).trans (am_itn (fun g1 => ?_))
  refine (ev_const0 (v := (1 : Int32)) rfl am_ci_1).trans ?_
  refine (ev_icmp4 rfl).trans (am_ite (fun c2 => ?_) (fun c2 => ?_))
  · refine (ev_const0 (v := (0 : Int32)) rfl am_ci_0).trans ?_
    exact ev_zret rfl (by decide)
  · refine (ev_aload rfl rfl).trans ?_
    refine (ev_getR rfl (by decide) am_K_139 (by decide) rfl am_R_139_11).trans ?_
    refine (ev_iload rfl rfl).trans ?_
    refine (ev_const0 (v := (1 : Int32)) rfl am_ci_1).trans ?_
    refine (ev_iadd rfl).trans ?_
    refine (ev_iald rfl (by decide) am_K_145).trans (am_itn (fun g3 => ?_))
    refine (ev_const0 (v := (1 : Int32)) rfl am_ci_1).trans ?_
    refine (ev_const2 (v := (200 : Int32)) rfl am_ci_200).trans ?_
    exact ev_invs (as := [.int (200 : Int32), .int (1 : Int32), .int (I 145 (((1 : Int32) + ((7 : Int32) * x1)) + (1 : Int32)).toNatClampNeg)]) rfl rfl (by simp [Value.category])
theorem cl_344 (X : am_X) (I : Nat → Nat → Int32) (J : Nat → Nat → Int64) (x1 : Int32) : am_do X 344 [.ref 139, .int x1] (am_sh I J) = am_ev X amP_344 0 [.ref 139, .int x1, .null] [] (am_sh I J) := am_do_of rfl rfl rfl
set_option maxRecDepth 10000 in
theorem sg_344_21 (X : am_X) (I : Nat → Nat → Int32) (J : Nat → Nat → Int64) (x1 : Int32) (x2 : Int32) (x3 : Int32) : am_ev X amP_344 21 [.ref 139, .int x1, .int x2] [.int x3] (am_sh I J) = (if x3 = 0 then some (some (.int (0 : Int32)), am_sh I J) else (if (x2 + (2 : Int32)) < 0 ∨ 1600 ≤ (x2 + (2 : Int32)).toNatClampNeg then none else (if (x2 + (1 : Int32)) < 0 ∨ 1600 ≤ (x2 + (1 : Int32)).toNatClampNeg then none else (am_do X 214 [.int (I 145 (x2 + (2 : Int32)).toNatClampNeg), .int (I 145 (x2 + (1 : Int32)).toNatClampNeg), .int (200 : Int32)] (am_sh I J)).bind (fun q => am_ev X amP_344 36 [.ref 139, .int x1, .int x2] (q.1.toList ++ []) q.2)))) := by
  refine (ev_if0 rfl).trans (am_ite (fun c1 => ?_) (fun c1 => ?_))
  · refine (ev_const0 (v := (0 : Int32)) rfl am_ci_0).trans ?_
    exact ev_zret rfl (by decide)
  · refine (ev_aload rfl rfl).trans ?_
    refine (ev_getR rfl (by decide) am_K_139 (by decide) rfl am_R_139_11).trans ?_
    refine (ev_iload rfl rfl).trans ?_
    refine (ev_const0 (v := (2 : Int32)) rfl am_ci_2).trans ?_
    refine (ev_iadd rfl).trans ?_
    refine (ev_iald rfl (by decide) am_K_145).trans (am_itn (fun g2 => ?_))
    refine (ev_aload rfl rfl).trans ?_
    refine (ev_getR rfl (by decide) am_K_139 (by decide) rfl am_R_139_11).trans ?_
    refine (ev_iload rfl rfl).trans ?_
    refine (ev_const0 (v := (1 : Int32)) rfl am_ci_1).trans ?_
    refine (ev_iadd rfl).trans ?_
    refine (ev_iald rfl (by decide) am_K_145).trans (am_itn (fun g3 => ?_))
    refine (ev_const2 (v := (200 : Int32)) rfl am_ci_200).trans ?_
    exact ev_invs (as := [.int (200 : Int32), .int (I 145 (x2 + (1 : Int32)).toNatClampNeg), .int (I 145 (x2 + (2 : Int32)).toNatClampNeg)]) rfl rfl (by simp [Value.category])
set_option maxRecDepth 10000 in
theorem sg_344_36 (X : am_X) (I : Nat → Nat → Int32) (J : Nat → Nat → Int64) (x1 : Int32) (x2 : Int32) (x3 : Int32) : am_ev X amP_344 36 [.ref 139, .int x1, .int x2] [.int x3] (am_sh I J) = (if x3 = 0 then some (some (.int (0 : Int32)), am_sh I J) else (if (x2 + (3 : Int32)) < 0 ∨ 1600 ≤ (x2 + (3 : Int32)).toNatClampNeg then none else (if x1 < 0 ∨ 10 ≤ x1.toNatClampNeg then none else (if (I 140 x1.toNatClampNeg) ≤ (I 145 (x2 + (3 : Int32)).toNatClampNeg) then some (some (.int (0 : Int32)), am_sh I J) else (if (x2 + (4 : Int32)) < 0 ∨ 1600 ≤ (x2 + (4 : Int32)).toNatClampNeg then none else (if x1 < 0 ∨ 10 ≤ x1.toNatClampNeg then none else (if (I 140 x1.toNatClampNeg) ≤ (I 145 (x2 + (4 : Int32)).toNatClampNeg) then some (some (.int (0 : Int32)), am_sh I J) else (if (x2 + (5 : Int32)) < 0 ∨ 1600 ≤ (x2 + (5 : Int32)).toNatClampNeg then none else (if (16 : Int32) < (I 145 (x2 + (5 : Int32)).toNatClampNeg) then some (some (.int (0 : Int32)), am_sh I J) else (if (x2 + (6 : Int32)) < 0 ∨ 1600 ≤ (x2 + (6 : Int32)).toNatClampNeg then none else (if (99 : Int32) < (I 145 (x2 + (6 : Int32)).toNatClampNeg) then some (some (.int (0 : Int32)), am_sh I J) else some (some (.int (1 : Int32)), am_sh I J)))))))))))) := by
  refine (ev_if0 rfl).trans (am_ite (fun c1 => ?_) (fun c1 => ?_))
  · refine (ev_const0 (v := (0 : Int32)) rfl am_ci_0).trans ?_
    exact ev_zret rfl (by decide)
  · refine (ev_aload rfl rfl).trans ?_
    refine (ev_getR rfl (by decide) am_K_139 (by decide) rfl am_R_139_11).trans ?_
    refine (ev_iload rfl rfl).trans ?_
    refine (ev_const0 (v := (3 : Int32)) rfl am_ci_3).trans ?_
    refine (ev_iadd rfl).trans ?_
    refine (ev_iald rfl (by decide) am_K_145).trans (am_itn (fun g2 => ?_))
    refine (ev_aload rfl rfl).trans ?_
    refine (ev_getR rfl (by decide) am_K_139 (by decide) rfl am_R_139_3).trans ?_
    refine (ev_iload rfl rfl).trans ?_
    refine (ev_iald rfl (by decide) am_K_140).trans (am_itn (fun g3 => ?_))
    refine (ev_icmp3 rfl).trans (am_ite (fun c4 => ?_) (fun c4 => ?_))
    · refine (ev_const0 (v := (0 : Int32)) rfl am_ci_0).trans ?_
      exact ev_zret rfl (by decide)
    · refine (ev_aload rfl rfl).trans ?_
      refine (ev_getR rfl (by decide) am_K_139 (by decide) rfl am_R_139_11).trans ?_
      refine (ev_iload rfl rfl).trans ?_
      refine (ev_const0 (v := (4 : Int32)) rfl am_ci_4).trans ?_
      refine (ev_iadd rfl).trans ?_
      refine (ev_iald rfl (by decide) am_K_145).trans (am_itn (fun g5 => ?_))
      refine (ev_aload rfl rfl).trans ?_
      refine (ev_getR rfl (by decide) am_K_139 (by decide) rfl am_R_139_3).trans ?_
      refine (ev_iload rfl rfl).trans ?_
      refine (ev_iald rfl (by decide) am_K_140).trans (am_itn (fun g6 => ?_))
      refine (ev_icmp3 rfl).trans (am_ite (fun c7 => ?_) (fun c7 => ?_))
      · refine (ev_const0 (v := (0 : Int32)) rfl am_ci_0).trans ?_
        exact ev_zret rfl (by decide)
      · refine (ev_aload rfl rfl).trans ?_
        refine (ev_getR rfl (by decide) am_K_139 (by decide) rfl am_R_139_11).trans ?_
        refine (ev_iload rfl rfl).trans ?_
        refine (ev_const0 (v := (5 : Int32)) rfl am_ci_5).trans ?_
        refine (ev_iadd rfl).trans ?_
        refine (ev_iald rfl (by decide) am_K_145).trans (am_itn (fun g8 => ?_))
        refine (ev_const1 (v := (16 : Int32)) rfl am_ci_16).trans ?_
        refine (ev_icmp4 rfl).trans (am_ite (fun c9 => ?_) (fun c9 => ?_))
        · refine (ev_const0 (v := (0 : Int32)) rfl am_ci_0).trans ?_
          exact ev_zret rfl (by decide)
        · refine (ev_aload rfl rfl).trans ?_
          refine (ev_getR rfl (by decide) am_K_139 (by decide) rfl am_R_139_11).trans ?_
          refine (ev_iload rfl rfl).trans ?_
          refine (ev_const1 (v := (6 : Int32)) rfl am_ci_6).trans ?_
          refine (ev_iadd rfl).trans ?_
          refine (ev_iald rfl (by decide) am_K_145).trans (am_itn (fun g10 => ?_))
          refine (ev_const1 (v := (99 : Int32)) rfl am_ci_99).trans ?_
          refine (ev_icmp4 rfl).trans (am_ite (fun c11 => ?_) (fun c11 => ?_))
          · refine (ev_const0 (v := (0 : Int32)) rfl am_ci_0).trans ?_
            exact ev_zret rfl (by decide)
          · refine (ev_const0 (v := (1 : Int32)) rfl am_ci_1).trans ?_
            refine (ev_goto rfl).trans ?_
            exact ev_zret rfl (by decide)
-- 345 X12_isImage
set_option maxRecDepth 10000 in
theorem sg_345_e0 (X : am_X) (I : Nat → Nat → Int32) (J : Nat → Nat → Int64) (x1 : Int32) : am_ev X amP_345 0 [.ref 139, .int x1, .null, .null, .null] [] (am_sh I J) = (if (I 139 0) = 0 then some (some (.int (0 : Int32)), am_sh I J) else (if x1 = ((2 : Int32) + ((7 : Int32) * (I 139 1))) then am_ev X amP_345 17 [.ref 139, .int x1, .int (173 : Int32), .int (0 : Int32), .null] [] (am_sh I J) else some (some (.int (0 : Int32)), am_sh I J))) := by
  refine (ev_aload rfl rfl).trans ?_
  refine (ev_getI rfl (by decide) am_K_139 (by decide) rfl).trans ?_
  refine (ev_if0 rfl).trans (am_ite (fun c1 => ?_) (fun c1 => ?_))
  · refine (ev_const0 (v := (0 : Int32)) rfl am_ci_0).trans ?_
    exact ev_zret rfl (by decide)
  · refine (ev_iload rfl rfl).trans ?_
    refine (ev_const0 (v := (2 : Int32)) rfl am_ci_2).trans ?_
    refine (ev_const1 (v := (7 : Int32)) rfl am_ci_7).trans ?_
    refine (ev_aload rfl rfl).trans ?_
    refine (ev_getI rfl (by decide) am_K_139 (by decide) rfl).trans ?_
    refine (ev_imul rfl).trans ?_
    refine (ev_iadd rfl).trans ?_
    refine (ev_icmp0 rfl).trans (am_ite (fun c2 => ?_) (fun c2 => ?_))
    · refine (ev_const2 (v := (173 : Int32)) rfl am_ci_173).trans ?_
      refine (ev_istore (ls' := [.ref 139, .int x1, .int (173 : Int32), .null, .null]) rfl (Nat.le_of_ble_eq_true rfl) rfl).trans ?_
      refine (ev_const0 (v := (0 : Int32)) rfl am_ci_0).trans ?_
      refine (ev_istore (ls' := [.ref 139, .int x1, .int (173 : Int32), .int (0 : Int32), .null]) rfl (Nat.le_of_ble_eq_true rfl) rfl).trans ?_
      rfl
    · refine (ev_const0 (v := (0 : Int32)) rfl am_ci_0).trans ?_
      exact ev_zret rfl (by decide)
theorem cl_345 (X : am_X) (I : Nat → Nat → Int32) (J : Nat → Nat → Int64) (x1 : Int32) : am_do X 345 [.ref 139, .int x1] (am_sh I J) = am_ev X amP_345 0 [.ref 139, .int x1, .null, .null, .null] [] (am_sh I J) := am_do_of rfl rfl rfl
set_option maxRecDepth 10000 in
theorem sg_345_17 (X : am_X) (I : Nat → Nat → Int32) (J : Nat → Nat → Int64) (x1 : Int32) (x2 : Int32) (x3 : Int32) (w4 : Value) (hw4 : w4.category = 1) : am_ev X amP_345 17 [.ref 139, .int x1, .int x2, .int x3, w4] [] (am_sh I J) = (if (x1 - (1 : Int32)) ≤ x3 then (if (x1 - (1 : Int32)) < 0 ∨ 1600 ≤ (x1 - (1 : Int32)).toNatClampNeg then none else (if ¬ (I 145 (x1 - (1 : Int32)).toNatClampNeg) = x2 then am_ev X amP_345 55 [.ref 139, .int x1, .int x2, .int (0 : Int32), .int (0 : Int32)] [] (am_sh I J) else (if (99 : Int32) < (I 145 0) then am_ev X amP_345 55 [.ref 139, .int x1, .int x2, .int (0 : Int32), .int (0 : Int32)] [] (am_sh I J) else am_ev X amP_345 55 [.ref 139, .int x1, .int x2, .int (1 : Int32), .int (0 : Int32)] [] (am_sh I J)))) else (if x3 < 0 ∨ 1600 ≤ x3.toNatClampNeg then none else am_ev X amP_345 17 [.ref 139, .int x1, .int ((((3 : Int32) * x2) + (I 145 x3.toNatClampNeg)) - (((3 : Int32) * x2) + (I 145 x3.toNatClampNeg)) / (251 : Int32) * (251 : Int32)), .int (x3 + (1 : Int32)), w4] [] (am_sh I J))) := by
  refine (ev_iload rfl rfl).trans ?_
  refine (ev_iload rfl rfl).trans ?_
  refine (ev_const0 (v := (1 : Int32)) rfl am_ci_1).trans ?_
  refine (ev_isub rfl).trans ?_
  refine (ev_icmp3 rfl).trans (am_ite (fun c1 => ?_) (fun c1 => ?_))
  · refine (ev_aload rfl rfl).trans ?_
    refine (ev_getR rfl (by decide) am_K_139 (by decide) rfl am_R_139_11).trans ?_
    refine (ev_iload rfl rfl).trans ?_
    refine (ev_const0 (v := (1 : Int32)) rfl am_ci_1).trans ?_
    refine (ev_isub rfl).trans ?_
    refine (ev_iald rfl (by decide) am_K_145).trans (am_itn (fun g2 => ?_))
    refine (ev_iload rfl rfl).trans ?_
    refine (ev_icmp1 rfl).trans (am_ite (fun c3 => ?_) (fun c3 => ?_))
    · refine (ev_const0 (v := (0 : Int32)) rfl am_ci_0).trans ?_
      refine (ev_istore (ls' := [.ref 139, .int x1, .int x2, .int (0 : Int32), w4]) rfl (Nat.le_of_ble_eq_true rfl) rfl).trans ?_
      refine (ev_const0 (v := (0 : Int32)) rfl am_ci_0).trans ?_
      refine (ev_istore (ls' := [.ref 139, .int x1, .int x2, .int (0 : Int32), .int (0 : Int32)]) rfl (Nat.le_of_ble_eq_true rfl) rfl).trans ?_
      rfl
    · refine (ev_aload rfl rfl).trans ?_
      refine (ev_getR rfl (by decide) am_K_139 (by decide) rfl am_R_139_11).trans ?_
      refine (ev_const0 (v := (0 : Int32)) rfl am_ci_0).trans ?_
      refine (ev_ialdC (jn := 0) rfl (by decide) am_K_145 (by decide) (by decide)).trans ?_
      refine (ev_const1 (v := (99 : Int32)) rfl am_ci_99).trans ?_
      refine (ev_icmp4 rfl).trans (am_ite (fun c4 => ?_) (fun c4 => ?_))
      · refine (ev_const0 (v := (0 : Int32)) rfl am_ci_0).trans ?_
        refine (ev_istore (ls' := [.ref 139, .int x1, .int x2, .int (0 : Int32), w4]) rfl (Nat.le_of_ble_eq_true rfl) rfl).trans ?_
        refine (ev_const0 (v := (0 : Int32)) rfl am_ci_0).trans ?_
        refine (ev_istore (ls' := [.ref 139, .int x1, .int x2, .int (0 : Int32), .int (0 : Int32)]) rfl (Nat.le_of_ble_eq_true rfl) rfl).trans ?_
        rfl
      · refine (ev_const0 (v := (1 : Int32)) rfl am_ci_1).trans ?_
        refine (ev_goto rfl).trans ?_
        refine (ev_istore (ls' := [.ref 139, .int x1, .int x2, .int (1 : Int32), w4]) rfl (Nat.le_of_ble_eq_true rfl) rfl).trans ?_
        refine (ev_const0 (v := (0 : Int32)) rfl am_ci_0).trans ?_
        refine (ev_istore (ls' := [.ref 139, .int x1, .int x2, .int (1 : Int32), .int (0 : Int32)]) rfl (Nat.le_of_ble_eq_true rfl) rfl).trans ?_
        rfl
  · refine (ev_const0 (v := (3 : Int32)) rfl am_ci_3).trans ?_
    refine (ev_iload rfl rfl).trans ?_
    refine (ev_imul rfl).trans ?_
    refine (ev_aload rfl rfl).trans ?_
    refine (ev_getR rfl (by decide) am_K_139 (by decide) rfl am_R_139_11).trans ?_
    refine (ev_iload rfl rfl).trans ?_
    refine (ev_iald rfl (by decide) am_K_145).trans (am_itn (fun g2 => ?_))
    refine (ev_iadd rfl).trans ?_
    refine (ev_const2 (v := (251 : Int32)) rfl am_ci_251).trans ?_
    refine (ev_iremN (by decide) rfl).trans ?_
    refine (ev_istore (ls' := [.ref 139, .int x1, .int ((((3 : Int32) * x2) + (I 145 x3.toNatClampNeg)) - (((3 : Int32) * x2) + (I 145 x3.toNatClampNeg)) / (251 : Int32) * (251 : Int32)), .int x3, w4]) rfl (Nat.le_of_ble_eq_true rfl) rfl).trans ?_
    refine (ev_iincv (v := (1 : Int32)) (ls' := [.ref 139, .int x1, .int ((((3 : Int32) * x2) + (I 145 x3.toNatClampNeg)) - (((3 : Int32) * x2) + (I 145 x3.toNatClampNeg)) / (251 : Int32) * (251 : Int32)), .int (x3 + (1 : Int32)), w4]) rfl am_ci_1 rfl rfl).trans ?_
    refine (ev_goto rfl).trans ?_
    rfl
set_option maxRecDepth 10000 in
theorem sg_345_55 (X : am_X) (I : Nat → Nat → Int32) (J : Nat → Nat → Int64) (x1 : Int32) (x2 : Int32) (x3 : Int32) (x4 : Int32) (z0 : x3 = 0 ∨ x3 = 1) : am_ev X amP_345 55 [.ref 139, .int x1, .int x2, .int x3, .int x4] [] (am_sh I J) = (if x3 = 0 then some (some (.int x3), am_sh I J) else (if (I 139 1) ≤ x4 then some (some (.int x3), am_sh I J) else (am_do X 344 [.ref 139, .int x4] (am_sh I J)).bind (fun q => am_ev X amP_345 64 [.ref 139, .int x1, .int x2, .int x3, .int x4] (q.1.toList ++ []) q.2))) := by
  refine (ev_iload rfl rfl).trans ?_
  refine (ev_if0 rfl).trans (am_ite (fun c1 => ?_) (fun c1 => ?_))
  · refine (ev_iload rfl rfl).trans ?_
    exact ev_zret rfl z0
  · refine (ev_iload rfl rfl).trans ?_
    refine (ev_aload rfl rfl).trans ?_
    refine (ev_getI rfl (by decide) am_K_139 (by decide) rfl).trans ?_
    refine (ev_icmp3 rfl).trans (am_ite (fun c2 => ?_) (fun c2 => ?_))
    · refine (ev_iload rfl rfl).trans ?_
      exact ev_zret rfl z0
    · refine (ev_aload rfl rfl).trans ?_
      refine (ev_iload rfl rfl).trans ?_
      exact ev_invv (as := [.int x4]) rfl (by decide) am_K_139 rfl (by simp [Value.category])
set_option maxRecDepth 10000 in
theorem sg_345_64 (X : am_X) (I : Nat → Nat → Int32) (J : Nat → Nat → Int64) (x1 : Int32) (x2 : Int32) (x3 : Int32) (x4 : Int32) (x5 : Int32) : am_ev X amP_345 64 [.ref 139, .int x1, .int x2, .int x3, .int x4] [.int x5] (am_sh I J) = am_ev X amP_345 55 [.ref 139, .int x1, .int x2, .int x5, .int (x4 + (1 : Int32))] [] (am_sh I J) := by
  refine (ev_istore (ls' := [.ref 139, .int x1, .int x2, .int x5, .int x4]) rfl (Nat.le_of_ble_eq_true rfl) rfl).trans ?_
  refine (ev_iincv (v := (1 : Int32)) (ls' := [.ref 139, .int x1, .int x2, .int x5, .int (x4 + (1 : Int32))]) rfl am_ci_1 rfl rfl).trans ?_
  refine (ev_goto rfl).trans ?_
  rfl
-- 346 X12_on
set_option maxRecDepth 10000 in
theorem sg_346_e0 (X : am_X) (I : Nat → Nat → Int32) (J : Nat → Nat → Int64) : am_ev X amP_346 0 [.ref 139, .null, .null, .null] [] (am_sh I J) = (am_do X 223 [.ref 139] (am_sh I J)).bind (fun q => am_ev X amP_346 2 [.ref 139, .null, .null, .null] (q.1.toList ++ []) q.2) := by
  refine (ev_aload rfl rfl).trans ?_
  exact ev_invv (as := []) rfl (by decide) am_K_139 rfl (by simp [Value.category])
theorem cl_346 (X : am_X) (I : Nat → Nat → Int32) (J : Nat → Nat → Int64) : am_do X 346 [.ref 139] (am_sh I J) = am_ev X amP_346 0 [.ref 139, .null, .null, .null] [] (am_sh I J) := am_do_of rfl rfl rfl
set_option maxRecDepth 10000 in
theorem sg_346_2 (X : am_X) (I : Nat → Nat → Int32) (J : Nat → Nat → Int64) (w1 : Value) (w2 : Value) (w3 : Value) (x4 : Int32) (hw1 : w1.category = 1) (hw2 : w2.category = 1) (hw3 : w3.category = 1) : am_ev X amP_346 2 [.ref 139, w1, w2, w3] [.int x4] (am_sh I J) = (am_do X 345 [.ref 139, .int x4] (am_sh I J)).bind (fun q => am_ev X amP_346 6 [.ref 139, .int x4, w2, w3] (q.1.toList ++ []) q.2) := by
  refine (ev_istore (ls' := [.ref 139, .int x4, w2, w3]) rfl (Nat.le_of_ble_eq_true rfl) rfl).trans ?_
  refine (ev_aload rfl rfl).trans ?_
  refine (ev_iload rfl rfl).trans ?_
  exact ev_invv (as := [.int x4]) rfl (by decide) am_K_139 rfl (by simp [Value.category])
set_option maxRecDepth 10000 in
theorem sg_346_6 (X : am_X) (I : Nat → Nat → Int32) (J : Nat → Nat → Int64) (x1 : Int32) (w2 : Value) (w3 : Value) (x4 : Int32) (hw2 : w2.category = 1) (hw3 : w3.category = 1) : am_ev X amP_346 6 [.ref 139, .int x1, w2, w3] [.int x4] (am_sh I J) = (if ¬ x4 = 0 then am_ev X amP_346 21 [.ref 139, .int x1, .int (0 : Int32), w3] [] (am_sh (am_up I 148 0 (I 145 0)) J) else (am_do X 219 [.ref 139, .int (5 : Int32)] (am_sh I J)).bind (fun q => am_ev X amP_346 10 [.ref 139, .int x1, w2, w3] (q.1.toList ++ []) q.2)) := by
  refine (ev_if1 rfl).trans (am_ite (fun c1 => ?_) (fun c1 => ?_))
  · refine (ev_aload rfl rfl).trans ?_
    refine (ev_getR rfl (by decide) am_K_139 (by decide) rfl am_R_139_22).trans ?_
    refine (ev_const0 (v := (0 : Int32)) rfl am_ci_0).trans ?_
    refine (ev_aload rfl rfl).trans ?_
    refine (ev_getR rfl (by decide) am_K_139 (by decide) rfl am_R_139_11).trans ?_
    refine (ev_const0 (v := (0 : Int32)) rfl am_ci_0).trans ?_
    refine (ev_ialdC (jn := 0) rfl (by decide) am_K_145 (by decide) (by decide)).trans ?_
    refine (ev_iastC (jn := 0) rfl (by decide) am_K_148 (by decide) (by decide)).trans ?_
    refine (ev_const0 (v := (0 : Int32)) rfl am_ci_0).trans ?_
    refine (ev_istore (ls' := [.ref 139, .int x1, .int (0 : Int32), w3]) rfl (Nat.le_of_ble_eq_true rfl) rfl).trans ?_
    rfl
  · refine (ev_aload rfl rfl).trans ?_
    refine (ev_const0 (v := (5 : Int32)) rfl am_ci_5).trans ?_
    exact ev_invv (as := [.int (5 : Int32)]) rfl (by decide) am_K_139 rfl (by simp [Value.category])
set_option maxRecDepth 10000 in
theorem sg_346_10 (X : am_X) (I : Nat → Nat → Int32) (J : Nat → Nat → Int64) (x1 : Int32) (w2 : Value) (w3 : Value) (x4 : Int32) (hw2 : w2.category = 1) (hw3 : w3.category = 1) (z0 : x4 = 0 ∨ x4 = 1) : am_ev X amP_346 10 [.ref 139, .int x1, w2, w3] [.int x4] (am_sh I J) = some (some (.int x4), am_sh I J) := by
  exact ev_zret rfl z0
set_option maxRecDepth 10000 in
theorem sg_346_21 (X : am_X) (I : Nat → Nat → Int32) (J : Nat → Nat → Int64) (x1 : Int32) (x2 : Int32) (w3 : Value) (hw3 : w3.category = 1) : am_ev X amP_346 21 [.ref 139, .int x1, .int x2, w3] [] (am_sh I J) = (if (I 139 1) ≤ x2 then (am_do X 248 [.ref 139] (am_sh (am_up (am_up I 148 2 (0 : Int32)) 139 24 (0 : Int32)) J)).bind (fun q => am_ev X amP_346 70 [.ref 139, .int x1, .int x2, w3] (q.1.toList ++ []) q.2) else (if ((1 : Int32) + ((7 : Int32) * x2)) < 0 ∨ 1600 ≤ ((1 : Int32) + ((7 : Int32) * x2)).toNatClampNeg then none else (am_do X 242 [.ref 139, .int x2, .int (6 : Int32), .int (I 145 ((1 : Int32) + ((7 : Int32) * x2)).toNatClampNeg)] (am_sh I J)).bind (fun q => am_ev X amP_346 37 [.ref 139, .int x1, .int x2, w3] (q.1.toList ++ []) q.2))) := by
  refine (ev_iload rfl rfl).trans ?_
  refine (ev_aload rfl rfl).trans ?_
  refine (ev_getI rfl (by decide) am_K_139 (by decide) rfl).trans ?_
  refine (ev_icmp3 rfl).trans (am_ite (fun c1 => ?_) (fun c1 => ?_))
  · refine (ev_aload rfl rfl).trans ?_
    refine (ev_getR rfl (by decide) am_K_139 (by decide) rfl am_R_139_22).trans ?_
    refine (ev_const0 (v := (2 : Int32)) rfl am_ci_2).trans ?_
    refine (ev_const0 (v := (0 : Int32)) rfl am_ci_0).trans ?_
    refine (ev_iastC (jn := 2) rfl (by decide) am_K_148 (by decide) (by decide)).trans ?_
    refine (ev_aload rfl rfl).trans ?_
    refine (ev_const0 (v := (0 : Int32)) rfl am_ci_0).trans ?_
    refine (ev_putI rfl (by decide) am_K_139 (by decide) rfl).trans ?_
    refine (ev_aload rfl rfl).trans ?_
    exact ev_invv (as := []) rfl (by decide) am_K_139 rfl (by simp [Value.category])
  · refine (ev_aload rfl rfl).trans ?_
    refine (ev_iload rfl rfl).trans ?_
    refine (ev_const1 (v := (6 : Int32)) rfl am_ci_6).trans ?_
    refine (ev_aload rfl rfl).trans ?_
    refine (ev_getR rfl (by decide) am_K_139 (by decide) rfl am_R_139_11).trans ?_
    refine (ev_const0 (v := (1 : Int32)) rfl am_ci_1).trans ?_
    refine (ev_const1 (v := (7 : Int32)) rfl am_ci_7).trans ?_
    refine (ev_iload rfl rfl).trans ?_
    refine (ev_imul rfl).trans ?_
    refine (ev_iadd rfl).trans ?_
    refine (ev_iald rfl (by decide) am_K_145).trans (am_itn (fun g2 => ?_))
    exact ev_invv (as := [.int (I 145 ((1 : Int32) + ((7 : Int32) * x2)).toNatClampNeg), .int (6 : Int32), .int x2]) rfl (by decide) am_K_139 rfl (by simp [Value.category])
set_option maxRecDepth 10000 in
theorem sg_346_37 (X : am_X) (I : Nat → Nat → Int32) (J : Nat → Nat → Int64) (x1 : Int32) (x2 : Int32) (w3 : Value) (hw3 : w3.category = 1) : am_ev X amP_346 37 [.ref 139, .int x1, .int x2, w3] [] (am_sh I J) = am_ev X amP_346 39 [.ref 139, .int x1, .int x2, .int (0 : Int32)] [] (am_sh I J) := by
  refine (ev_const0 (v := (0 : Int32)) rfl am_ci_0).trans ?_
  refine (ev_istore (ls' := [.ref 139, .int x1, .int x2, .int (0 : Int32)]) rfl (Nat.le_of_ble_eq_true rfl) rfl).trans ?_
  rfl
set_option maxRecDepth 10000 in
theorem sg_346_39 (X : am_X) (I : Nat → Nat → Int32) (J : Nat → Nat → Int64) (x1 : Int32) (x2 : Int32) (x3 : Int32) : am_ev X amP_346 39 [.ref 139, .int x1, .int x2, .int x3] [] (am_sh I J) = (if (5 : Int32) < x3 then am_ev X amP_346 21 [.ref 139, .int x1, .int (x2 + (1 : Int32)), .int x3] [] (am_sh I J) else (if (((2 : Int32) + ((7 : Int32) * x2)) + x3) < 0 ∨ 1600 ≤ (((2 : Int32) + ((7 : Int32) * x2)) + x3).toNatClampNeg then none else (am_do X 242 [.ref 139, .int x2, .int x3, .int (I 145 (((2 : Int32) + ((7 : Int32) * x2)) + x3).toNatClampNeg)] (am_sh I J)).bind (fun q => am_ev X amP_346 56 [.ref 139, .int x1, .int x2, .int x3] (q.1.toList ++ []) q.2))) := by
  refine (ev_iload rfl rfl).trans ?_
  refine (ev_const0 (v := (5 : Int32)) rfl am_ci_5).trans ?_
  refine (ev_icmp4 rfl).trans (am_ite (fun c1 => ?_) (fun c1 => ?_))
  · refine (ev_iincv (v := (1 : Int32)) (ls' := [.ref 139, .int x1, .int (x2 + (1 : Int32)), .int x3]) rfl am_ci_1 rfl rfl).trans ?_
    refine (ev_goto rfl).trans ?_
    rfl
  · refine (ev_aload rfl rfl).trans ?_
    refine (ev_iload rfl rfl).trans ?_
    refine (ev_iload rfl rfl).trans ?_
    refine (ev_aload rfl rfl).trans ?_
    refine (ev_getR rfl (by decide) am_K_139 (by decide) rfl am_R_139_11).trans ?_
    refine (ev_const0 (v := (2 : Int32)) rfl am_ci_2).trans ?_
    refine (ev_const1 (v := (7 : Int32)) rfl am_ci_7).trans ?_
    refine (ev_iload rfl rfl).trans ?_
    refine (ev_imul rfl).trans ?_
    refine (ev_iadd rfl).trans ?_
    refine (ev_iload rfl rfl).trans ?_
    refine (ev_iadd rfl).trans ?_
    refine (ev_iald rfl (by decide) am_K_145).trans (am_itn (fun g2 => ?_))
    exact ev_invv (as := [.int (I 145 (((2 : Int32) + ((7 : Int32) * x2)) + x3).toNatClampNeg), .int x3, .int x2]) rfl (by decide) am_K_139 rfl (by simp [Value.category])
set_option maxRecDepth 10000 in
theorem sg_346_56 (X : am_X) (I : Nat → Nat → Int32) (J : Nat → Nat → Int64) (x1 : Int32) (x2 : Int32) (x3 : Int32) : am_ev X amP_346 56 [.ref 139, .int x1, .int x2, .int x3] [] (am_sh I J) = am_ev X amP_346 39 [.ref 139, .int x1, .int x2, .int (x3 + (1 : Int32))] [] (am_sh I J) := by
  refine (ev_iincv (v := (1 : Int32)) (ls' := [.ref 139, .int x1, .int x2, .int (x3 + (1 : Int32))]) rfl am_ci_1 rfl rfl).trans ?_
  refine (ev_goto rfl).trans ?_
  rfl
set_option maxRecDepth 10000 in
theorem sg_346_70 (X : am_X) (I : Nat → Nat → Int32) (J : Nat → Nat → Int64) (x1 : Int32) (x2 : Int32) (w3 : Value) (hw3 : w3.category = 1) : am_ev X amP_346 70 [.ref 139, .int x1, .int x2, w3] [] (am_sh I J) = some (some (.int (1 : Int32)), am_sh I J) := by
  refine (ev_const0 (v := (1 : Int32)) rfl am_ci_1).trans ?_
  exact ev_zret rfl (by decide)
-- 347 X12_status
set_option maxRecDepth 10000 in
theorem sg_347_e0 (X : am_X) (I : Nat → Nat → Int32) (J : Nat → Nat → Int64) (x1 : Int32) : am_ev X amP_347 0 [.ref 139, .int x1] [] (am_sh I J) = (am_do X 214 [.int x1, .int (0 : Int32), .int (5 : Int32)] (am_sh I J)).bind (fun q => am_ev X amP_347 4 [.ref 139, .int x1] (q.1.toList ++ []) q.2) := by
  refine (ev_iload rfl rfl).trans ?_
  refine (ev_const0 (v := (0 : Int32)) rfl am_ci_0).trans ?_
  refine (ev_const0 (v := (5 : Int32)) rfl am_ci_5).trans ?_
  exact ev_invs (as := [.int (5 : Int32), .int (0 : Int32), .int x1]) rfl rfl (by simp [Value.category])
theorem cl_347 (X : am_X) (I : Nat → Nat → Int32) (J : Nat → Nat → Int64) (x1 : Int32) : am_do X 347 [.ref 139, .int x1] (am_sh I J) = am_ev X amP_347 0 [.ref 139, .int x1] [] (am_sh I J) := am_do_of rfl rfl rfl
set_option maxRecDepth 10000 in
theorem sg_347_4 (X : am_X) (I : Nat → Nat → Int32) (J : Nat → Nat → Int64) (x1 : Int32) (x2 : Int32) : am_ev X amP_347 4 [.ref 139, .int x1] [.int x2] (am_sh I J) = (if x2 = 0 then some (some (.int (-1 : Int32)), am_sh I J) else (if x1 < 0 ∨ 6 ≤ x1.toNatClampNeg then none else some (some (.int (I 146 x1.toNatClampNeg)), am_sh I J))) := by
  refine (ev_if0 rfl).trans (am_ite (fun c1 => ?_) (fun c1 => ?_))
  · refine (ev_const0 (v := (-1 : Int32)) rfl am_ci_m1).trans ?_
    exact ev_iret rfl
  · refine (ev_aload rfl rfl).trans ?_
    refine (ev_getR rfl (by decide) am_K_139 (by decide) rfl am_R_139_13).trans ?_
    refine (ev_iload rfl rfl).trans ?_
    refine (ev_iald rfl (by decide) am_K_146).trans (am_itn (fun g2 => ?_))
    refine (ev_goto rfl).trans ?_
    exact ev_iret rfl
-- 348 J6_bitCount_0f7a4
set_option maxRecDepth 10000 in
theorem sg_348_e0 (X : am_X) (I : Nat → Nat → Int32) (J : Nat → Nat → Int64) (x1 : Int32) : am_ev X amP_348 0 [.int x1] [] (am_sh I J) = some (some (.int ((((((((x1 - (((x1).toUInt32 >>> (((1 : Int32)).toUInt32 &&& Int32.toUInt32 31)).toInt32 &&& (1431655765 : Int32))) &&& (858993459 : Int32)) + ((((x1 - (((x1).toUInt32 >>> (((1 : Int32)).toUInt32 &&& Int32.toUInt32 31)).toInt32 &&& (1431655765 : Int32)))).toUInt32 >>> (((2 : Int32)).toUInt32 &&& Int32.toUInt32 31)).toInt32 &&& (858993459 : Int32))) + (((((x1 - (((x1).toUInt32 >>> (((1 : Int32)).toUInt32 &&& Int32.toUInt32 31)).toInt32 &&& (1431655765 : Int32))) &&& (858993459 : Int32)) + ((((x1 - (((x1).toUInt32 >>> (((1 : Int32)).toUInt32 &&& Int32.toUInt32 31)).toInt32 &&& (1431655765 : Int32)))).toUInt32 >>> (((2 : Int32)).toUInt32 &&& Int32.toUInt32 31)).toInt32 &&& (858993459 : Int32)))).toUInt32 >>> (((4 : Int32)).toUInt32 &&& Int32.toUInt32 31)).toInt32) &&& (252645135 : Int32)) + (((((((x1 - (((x1).toUInt32 >>> (((1 : Int32)).toUInt32 &&& Int32.toUInt32 31)).toInt32 &&& (1431655765 : Int32))) &&& (858993459 : Int32)) + ((((x1 - (((x1).toUInt32 >>> (((1 : Int32)).toUInt32 &&& Int32.toUInt32 31)).toInt32 &&& (1431655765 : Int32)))).toUInt32 >>> (((2 : Int32)).toUInt32 &&& Int32.toUInt32 31)).toInt32 &&& (858993459 : Int32))) + (((((x1 - (((x1).toUInt32 >>> (((1 : Int32)).toUInt32 &&& Int32.toUInt32 31)).toInt32 &&& (1431655765 : Int32))) &&& (858993459 : Int32)) + ((((x1 - (((x1).toUInt32 >>> (((1 : Int32)).toUInt32 &&& Int32.toUInt32 31)).toInt32 &&& (1431655765 : Int32)))).toUInt32 >>> (((2 : Int32)).toUInt32 &&& Int32.toUInt32 31)).toInt32 &&& (858993459 : Int32)))).toUInt32 >>> (((4 : Int32)).toUInt32 &&& Int32.toUInt32 31)).toInt32) &&& (252645135 : Int32))).toUInt32 >>> (((8 : Int32)).toUInt32 &&& Int32.toUInt32 31)).toInt32) + ((((((((x1 - (((x1).toUInt32 >>> (((1 : Int32)).toUInt32 &&& Int32.toUInt32 31)).toInt32 &&& (1431655765 : Int32))) &&& (858993459 : Int32)) + ((((x1 - (((x1).toUInt32 >>> (((1 : Int32)).toUInt32 &&& Int32.toUInt32 31)).toInt32 &&& (1431655765 : Int32)))).toUInt32 >>> (((2 : Int32)).toUInt32 &&& Int32.toUInt32 31)).toInt32 &&& (858993459 : Int32))) + (((((x1 - (((x1).toUInt32 >>> (((1 : Int32)).toUInt32 &&& Int32.toUInt32 31)).toInt32 &&& (1431655765 : Int32))) &&& (858993459 : Int32)) + ((((x1 - (((x1).toUInt32 >>> (((1 : Int32)).toUInt32 &&& Int32.toUInt32 31)).toInt32 &&& (1431655765 : Int32)))).toUInt32 >>> (((2 : Int32)).toUInt32 &&& Int32.toUInt32 31)).toInt32 &&& (858993459 : Int32)))).toUInt32 >>> (((4 : Int32)).toUInt32 &&& Int32.toUInt32 31)).toInt32) &&& (252645135 : Int32)) + (((((((x1 - (((x1).toUInt32 >>> (((1 : Int32)).toUInt32 &&& Int32.toUInt32 31)).toInt32 &&& (1431655765 : Int32))) &&& (858993459 : Int32)) + ((((x1 - (((x1).toUInt32 >>> (((1 : Int32)).toUInt32 &&& Int32.toUInt32 31)).toInt32 &&& (1431655765 : Int32)))).toUInt32 >>> (((2 : Int32)).toUInt32 &&& Int32.toUInt32 31)).toInt32 &&& (858993459 : Int32))) + (((((x1 - (((x1).toUInt32 >>> (((1 : Int32)).toUInt32 &&& Int32.toUInt32 31)).toInt32 &&& (1431655765 : Int32))) &&& (858993459 : Int32)) + ((((x1 - (((x1).toUInt32 >>> (((1 : Int32)).toUInt32 &&& Int32.toUInt32 31)).toInt32 &&& (1431655765 : Int32)))).toUInt32 >>> (((2 : Int32)).toUInt32 &&& Int32.toUInt32 31)).toInt32 &&& (858993459 : Int32)))).toUInt32 >>> (((4 : Int32)).toUInt32 &&& Int32.toUInt32 31)).toInt32) &&& (252645135 : Int32))).toUInt32 >>> (((8 : Int32)).toUInt32 &&& Int32.toUInt32 31)).toInt32)).toUInt32 >>> (((16 : Int32)).toUInt32 &&& Int32.toUInt32 31)).toInt32) &&& (63 : Int32))), am_sh I J) := by
  refine (ev_iload rfl rfl).trans ?_
  refine (ev_iload rfl rfl).trans ?_
  refine (ev_const0 (v := (1 : Int32)) rfl am_ci_1).trans ?_
  refine (ev_iushr rfl).trans ?_
  refine (ev_const4 (v := (1431655765 : Int32)) rfl am_ci_1431655765).trans ?_
  refine (ev_iand rfl).trans ?_
  refine (ev_isub rfl).trans ?_
  refine (ev_istore (ls' := [.int (x1 - (((x1).toUInt32 >>> (((1 : Int32)).toUInt32 &&& Int32.toUInt32 31)).toInt32 &&& (1431655765 : Int32)))]) rfl (Nat.le_of_ble_eq_true rfl) rfl).trans ?_
  refine (ev_iload rfl rfl).trans ?_
  refine (ev_const4 (v := (858993459 : Int32)) rfl am_ci_858993459).trans ?_
  refine (ev_iand rfl).trans ?_
  refine (ev_iload rfl rfl).trans ?_
  refine (ev_const0 (v := (2 : Int32)) rfl am_ci_2).trans ?_
  refine (ev_iushr rfl).trans ?_
  refine (ev_const4 (v := (858993459 : Int32)) rfl am_ci_858993459).trans ?_
  refine (ev_iand rfl).trans ?_
  refine (ev_iadd rfl).trans ?_
  refine (ev_istore (ls' := [.int (((x1 - (((x1).toUInt32 >>> (((1 : Int32)).toUInt32 &&& Int32.toUInt32 31)).toInt32 &&& (1431655765 : Int32))) &&& (858993459 : Int32)) + ((((x1 - (((x1).toUInt32 >>> (((1 : Int32)).toUInt32 &&& Int32.toUInt32 31)).toInt32 &&& (1431655765 : Int32)))).toUInt32 >>> (((2 : Int32)).toUInt32 &&& Int32.toUInt32 31)).toInt32 &&& (858993459 : Int32)))]) rfl (Nat.le_of_ble_eq_true rfl) rfl).trans ?_
  refine (ev_iload rfl rfl).trans ?_
  refine (ev_iload rfl rfl).trans ?_
  refine (ev_const0 (v := (4 : Int32)) rfl am_ci_4).trans ?_
  refine (ev_iushr rfl).trans ?_
  refine (ev_iadd rfl).trans ?_
  refine (ev_const4 (v := (252645135 : Int32)) rfl am_ci_252645135).trans ?_
  refine (ev_iand rfl).trans ?_
  refine (ev_istore (ls' := [.int (((((x1 - (((x1).toUInt32 >>> (((1 : Int32)).toUInt32 &&& Int32.toUInt32 31)).toInt32 &&& (1431655765 : Int32))) &&& (858993459 : Int32)) + ((((x1 - (((x1).toUInt32 >>> (((1 : Int32)).toUInt32 &&& Int32.toUInt32 31)).toInt32 &&& (1431655765 : Int32)))).toUInt32 >>> (((2 : Int32)).toUInt32 &&& Int32.toUInt32 31)).toInt32 &&& (858993459 : Int32))) + (((((x1 - (((x1).toUInt32 >>> (((1 : Int32)).toUInt32 &&& Int32.toUInt32 31)).toInt32 &&& (1431655765 : Int32))) &&& (858993459 : Int32)) + ((((x1 - (((x1).toUInt32 >>> (((1 : Int32)).toUInt32 &&& Int32.toUInt32 31)).toInt32 &&& (1431655765 : Int32)))).toUInt32 >>> (((2 : Int32)).toUInt32 &&& Int32.toUInt32 31)).toInt32 &&& (858993459 : Int32)))).toUInt32 >>> (((4 : Int32)).toUInt32 &&& Int32.toUInt32 31)).toInt32) &&& (252645135 : Int32))]) rfl (Nat.le_of_ble_eq_true rfl) rfl).trans ?_
  refine (ev_iload rfl rfl).trans ?_
  refine (ev_iload rfl rfl).trans ?_
  refine (ev_const1 (v := (8 : Int32)) rfl am_ci_8).trans ?_
  refine (ev_iushr rfl).trans ?_
  refine (ev_iadd rfl).trans ?_
  refine (ev_istore (ls' := [.int ((((((x1 - (((x1).toUInt32 >>> (((1 : Int32)).toUInt32 &&& Int32.toUInt32 31)).toInt32 &&& (1431655765 : Int32))) &&& (858993459 : Int32)) + ((((x1 - (((x1).toUInt32 >>> (((1 : Int32)).toUInt32 &&& Int32.toUInt32 31)).toInt32 &&& (1431655765 : Int32)))).toUInt32 >>> (((2 : Int32)).toUInt32 &&& Int32.toUInt32 31)).toInt32 &&& (858993459 : Int32))) + (((((x1 - (((x1).toUInt32 >>> (((1 : Int32)).toUInt32 &&& Int32.toUInt32 31)).toInt32 &&& (1431655765 : Int32))) &&& (858993459 : Int32)) + ((((x1 - (((x1).toUInt32 >>> (((1 : Int32)).toUInt32 &&& Int32.toUInt32 31)).toInt32 &&& (1431655765 : Int32)))).toUInt32 >>> (((2 : Int32)).toUInt32 &&& Int32.toUInt32 31)).toInt32 &&& (858993459 : Int32)))).toUInt32 >>> (((4 : Int32)).toUInt32 &&& Int32.toUInt32 31)).toInt32) &&& (252645135 : Int32)) + (((((((x1 - (((x1).toUInt32 >>> (((1 : Int32)).toUInt32 &&& Int32.toUInt32 31)).toInt32 &&& (1431655765 : Int32))) &&& (858993459 : Int32)) + ((((x1 - (((x1).toUInt32 >>> (((1 : Int32)).toUInt32 &&& Int32.toUInt32 31)).toInt32 &&& (1431655765 : Int32)))).toUInt32 >>> (((2 : Int32)).toUInt32 &&& Int32.toUInt32 31)).toInt32 &&& (858993459 : Int32))) + (((((x1 - (((x1).toUInt32 >>> (((1 : Int32)).toUInt32 &&& Int32.toUInt32 31)).toInt32 &&& (1431655765 : Int32))) &&& (858993459 : Int32)) + ((((x1 - (((x1).toUInt32 >>> (((1 : Int32)).toUInt32 &&& Int32.toUInt32 31)).toInt32 &&& (1431655765 : Int32)))).toUInt32 >>> (((2 : Int32)).toUInt32 &&& Int32.toUInt32 31)).toInt32 &&& (858993459 : Int32)))).toUInt32 >>> (((4 : Int32)).toUInt32 &&& Int32.toUInt32 31)).toInt32) &&& (252645135 : Int32))).toUInt32 >>> (((8 : Int32)).toUInt32 &&& Int32.toUInt32 31)).toInt32)]) rfl (Nat.le_of_ble_eq_true rfl) rfl).trans ?_
  refine (ev_iload rfl rfl).trans ?_
  refine (ev_iload rfl rfl).trans ?_
  refine (ev_const1 (v := (16 : Int32)) rfl am_ci_16).trans ?_
  refine (ev_iushr rfl).trans ?_
  refine (ev_iadd rfl).trans ?_
  refine (ev_istore (ls' := [.int (((((((x1 - (((x1).toUInt32 >>> (((1 : Int32)).toUInt32 &&& Int32.toUInt32 31)).toInt32 &&& (1431655765 : Int32))) &&& (858993459 : Int32)) + ((((x1 - (((x1).toUInt32 >>> (((1 : Int32)).toUInt32 &&& Int32.toUInt32 31)).toInt32 &&& (1431655765 : Int32)))).toUInt32 >>> (((2 : Int32)).toUInt32 &&& Int32.toUInt32 31)).toInt32 &&& (858993459 : Int32))) + (((((x1 - (((x1).toUInt32 >>> (((1 : Int32)).toUInt32 &&& Int32.toUInt32 31)).toInt32 &&& (1431655765 : Int32))) &&& (858993459 : Int32)) + ((((x1 - (((x1).toUInt32 >>> (((1 : Int32)).toUInt32 &&& Int32.toUInt32 31)).toInt32 &&& (1431655765 : Int32)))).toUInt32 >>> (((2 : Int32)).toUInt32 &&& Int32.toUInt32 31)).toInt32 &&& (858993459 : Int32)))).toUInt32 >>> (((4 : Int32)).toUInt32 &&& Int32.toUInt32 31)).toInt32) &&& (252645135 : Int32)) + (((((((x1 - (((x1).toUInt32 >>> (((1 : Int32)).toUInt32 &&& Int32.toUInt32 31)).toInt32 &&& (1431655765 : Int32))) &&& (858993459 : Int32)) + ((((x1 - (((x1).toUInt32 >>> (((1 : Int32)).toUInt32 &&& Int32.toUInt32 31)).toInt32 &&& (1431655765 : Int32)))).toUInt32 >>> (((2 : Int32)).toUInt32 &&& Int32.toUInt32 31)).toInt32 &&& (858993459 : Int32))) + (((((x1 - (((x1).toUInt32 >>> (((1 : Int32)).toUInt32 &&& Int32.toUInt32 31)).toInt32 &&& (1431655765 : Int32))) &&& (858993459 : Int32)) + ((((x1 - (((x1).toUInt32 >>> (((1 : Int32)).toUInt32 &&& Int32.toUInt32 31)).toInt32 &&& (1431655765 : Int32)))).toUInt32 >>> (((2 : Int32)).toUInt32 &&& Int32.toUInt32 31)).toInt32 &&& (858993459 : Int32)))).toUInt32 >>> (((4 : Int32)).toUInt32 &&& Int32.toUInt32 31)).toInt32) &&& (252645135 : Int32))).toUInt32 >>> (((8 : Int32)).toUInt32 &&& Int32.toUInt32 31)).toInt32) + ((((((((x1 - (((x1).toUInt32 >>> (((1 : Int32)).toUInt32 &&& Int32.toUInt32 31)).toInt32 &&& (1431655765 : Int32))) &&& (858993459 : Int32)) + ((((x1 - (((x1).toUInt32 >>> (((1 : Int32)).toUInt32 &&& Int32.toUInt32 31)).toInt32 &&& (1431655765 : Int32)))).toUInt32 >>> (((2 : Int32)).toUInt32 &&& Int32.toUInt32 31)).toInt32 &&& (858993459 : Int32))) + (((((x1 - (((x1).toUInt32 >>> (((1 : Int32)).toUInt32 &&& Int32.toUInt32 31)).toInt32 &&& (1431655765 : Int32))) &&& (858993459 : Int32)) + ((((x1 - (((x1).toUInt32 >>> (((1 : Int32)).toUInt32 &&& Int32.toUInt32 31)).toInt32 &&& (1431655765 : Int32)))).toUInt32 >>> (((2 : Int32)).toUInt32 &&& Int32.toUInt32 31)).toInt32 &&& (858993459 : Int32)))).toUInt32 >>> (((4 : Int32)).toUInt32 &&& Int32.toUInt32 31)).toInt32) &&& (252645135 : Int32)) + (((((((x1 - (((x1).toUInt32 >>> (((1 : Int32)).toUInt32 &&& Int32.toUInt32 31)).toInt32 &&& (1431655765 : Int32))) &&& (858993459 : Int32)) + ((((x1 - (((x1).toUInt32 >>> (((1 : Int32)).toUInt32 &&& Int32.toUInt32 31)).toInt32 &&& (1431655765 : Int32)))).toUInt32 >>> (((2 : Int32)).toUInt32 &&& Int32.toUInt32 31)).toInt32 &&& (858993459 : Int32))) + (((((x1 - (((x1).toUInt32 >>> (((1 : Int32)).toUInt32 &&& Int32.toUInt32 31)).toInt32 &&& (1431655765 : Int32))) &&& (858993459 : Int32)) + ((((x1 - (((x1).toUInt32 >>> (((1 : Int32)).toUInt32 &&& Int32.toUInt32 31)).toInt32 &&& (1431655765 : Int32)))).toUInt32 >>> (((2 : Int32)).toUInt32 &&& Int32.toUInt32 31)).toInt32 &&& (858993459 : Int32)))).toUInt32 >>> (((4 : Int32)).toUInt32 &&& Int32.toUInt32 31)).toInt32) &&& (252645135 : Int32))).toUInt32 >>> (((8 : Int32)).toUInt32 &&& Int32.toUInt32 31)).toInt32)).toUInt32 >>> (((16 : Int32)).toUInt32 &&& Int32.toUInt32 31)).toInt32)]) rfl (Nat.le_of_ble_eq_true rfl) rfl).trans ?_
  refine (ev_iload rfl rfl).trans ?_
  refine (ev_const1 (v := (63 : Int32)) rfl am_ci_63).trans ?_
  refine (ev_iand rfl).trans ?_
  exact ev_iret rfl
theorem cl_348 (X : am_X) (I : Nat → Nat → Int32) (J : Nat → Nat → Int64) (x1 : Int32) : am_do X 348 [.int x1] (am_sh I J) = am_ev X amP_348 0 [.int x1] [] (am_sh I J) := am_do_of rfl rfl rfl
-- 349 J13_bitCount_95d88
set_option maxRecDepth 10000 in
theorem sg_349_e0 (X : am_X) (I : Nat → Nat → Int32) (J : Nat → Nat → Int64) (x1 : Int64) : am_ev X amP_349 0 [.long (x1), .null] [] (am_sh I J) = some (some (.int ((Int64.toInt32 ((((((((x1 - ((((x1).toUInt64 >>> (((1 : Int32)).toInt64.toUInt64 &&& Int64.toUInt64 63)).toInt64) &&& (Int64.ofInt 6148914691236517205))) &&& (Int64.ofInt 3689348814741910323)) + (((((x1 - ((((x1).toUInt64 >>> (((1 : Int32)).toInt64.toUInt64 &&& Int64.toUInt64 63)).toInt64) &&& (Int64.ofInt 6148914691236517205)))).toUInt64 >>> (((2 : Int32)).toInt64.toUInt64 &&& Int64.toUInt64 63)).toInt64) &&& (Int64.ofInt 3689348814741910323))) + ((((((x1 - ((((x1).toUInt64 >>> (((1 : Int32)).toInt64.toUInt64 &&& Int64.toUInt64 63)).toInt64) &&& (Int64.ofInt 6148914691236517205))) &&& (Int64.ofInt 3689348814741910323)) + (((((x1 - ((((x1).toUInt64 >>> (((1 : Int32)).toInt64.toUInt64 &&& Int64.toUInt64 63)).toInt64) &&& (Int64.ofInt 6148914691236517205)))).toUInt64 >>> (((2 : Int32)).toInt64.toUInt64 &&& Int64.toUInt64 63)).toInt64) &&& (Int64.ofInt 3689348814741910323)))).toUInt64 >>> (((4 : Int32)).toInt64.toUInt64 &&& Int64.toUInt64 63)).toInt64)) &&& (Int64.ofInt 1085102592571150095)) + ((((((((x1 - ((((x1).toUInt64 >>> (((1 : Int32)).toInt64.toUInt64 &&& Int64.toUInt64 63)).toInt64) &&& (Int64.ofInt 6148914691236517205))) &&& (Int64.ofInt 3689348814741910323)) + (((((x1 - ((((x1).toUInt64 >>> (((1 : Int32)).toInt64.toUInt64 &&& Int64.toUInt64 63)).toInt64) &&& (Int64.ofInt 6148914691236517205)))).toUInt64 >>> (((2 : Int32)).toInt64.toUInt64 &&& Int64.toUInt64 63)).toInt64) &&& (Int64.ofInt 3689348814741910323))) + ((((((x1 - ((((x1).toUInt64 >>> (((1 : Int32)).toInt64.toUInt64 &&& Int64.toUInt64 63)).toInt64) &&& (Int64.ofInt 6148914691236517205))) &&& (Int64.ofInt 3689348814741910323)) + (((((x1 - ((((x1).toUInt64 >>> (((1 : Int32)).toInt64.toUInt64 &&& Int64.toUInt64 63)).toInt64) &&& (Int64.ofInt 6148914691236517205)))).toUInt64 >>> (((2 : Int32)).toInt64.toUInt64 &&& Int64.toUInt64 63)).toInt64) &&& (Int64.ofInt 3689348814741910323)))).toUInt64 >>> (((4 : Int32)).toInt64.toUInt64 &&& Int64.toUInt64 63)).toInt64)) &&& (Int64.ofInt 1085102592571150095))).toUInt64 >>> (((8 : Int32)).toInt64.toUInt64 &&& Int64.toUInt64 63)).toInt64)) + (((((((((x1 - ((((x1).toUInt64 >>> (((1 : Int32)).toInt64.toUInt64 &&& Int64.toUInt64 63)).toInt64) &&& (Int64.ofInt 6148914691236517205))) &&& (Int64.ofInt 3689348814741910323)) + (((((x1 - ((((x1).toUInt64 >>> (((1 : Int32)).toInt64.toUInt64 &&& Int64.toUInt64 63)).toInt64) &&& (Int64.ofInt 6148914691236517205)))).toUInt64 >>> (((2 : Int32)).toInt64.toUInt64 &&& Int64.toUInt64 63)).toInt64) &&& (Int64.ofInt 3689348814741910323))) + ((((((x1 - ((((x1).toUInt64 >>> (((1 : Int32)).toInt64.toUInt64 &&& Int64.toUInt64 63)).toInt64) &&& (Int64.ofInt 6148914691236517205))) &&& (Int64.ofInt 3689348814741910323)) + (((((x1 - ((((x1).toUInt64 >>> (((1 : Int32)).toInt64.toUInt64 &&& Int64.toUInt64 63)).toInt64) &&& (Int64.ofInt 6148914691236517205)))).toUInt64 >>> (((2 : Int32)).toInt64.toUInt64 &&& Int64.toUInt64 63)).toInt64) &&& (Int64.ofInt 3689348814741910323)))).toUInt64 >>> (((4 : Int32)).toInt64.toUInt64 &&& Int64.toUInt64 63)).toInt64)) &&& (Int64.ofInt 1085102592571150095)) + ((((((((x1 - ((((x1).toUInt64 >>> (((1 : Int32)).toInt64.toUInt64 &&& Int64.toUInt64 63)).toInt64) &&& (Int64.ofInt 6148914691236517205))) &&& (Int64.ofInt 3689348814741910323)) + (((((x1 - ((((x1).toUInt64 >>> (((1 : Int32)).toInt64.toUInt64 &&& Int64.toUInt64 63)).toInt64) &&& (Int64.ofInt 6148914691236517205)))).toUInt64 >>> (((2 : Int32)).toInt64.toUInt64 &&& Int64.toUInt64 63)).toInt64) &&& (Int64.ofInt 3689348814741910323))) + ((((((x1 - ((((x1).toUInt64 >>> (((1 : Int32)).toInt64.toUInt64 &&& Int64.toUInt64 63)).toInt64) &&& (Int64.ofInt 6148914691236517205))) &&& (Int64.ofInt 3689348814741910323)) + (((((x1 - ((((x1).toUInt64 >>> (((1 : Int32)).toInt64.toUInt64 &&& Int64.toUInt64 63)).toInt64) &&& (Int64.ofInt 6148914691236517205)))).toUInt64 >>> (((2 : Int32)).toInt64.toUInt64 &&& Int64.toUInt64 63)).toInt64) &&& (Int64.ofInt 3689348814741910323)))).toUInt64 >>> (((4 : Int32)).toInt64.toUInt64 &&& Int64.toUInt64 63)).toInt64)) &&& (Int64.ofInt 1085102592571150095))).toUInt64 >>> (((8 : Int32)).toInt64.toUInt64 &&& Int64.toUInt64 63)).toInt64))).toUInt64 >>> (((16 : Int32)).toInt64.toUInt64 &&& Int64.toUInt64 63)).toInt64)) + ((((((((((x1 - ((((x1).toUInt64 >>> (((1 : Int32)).toInt64.toUInt64 &&& Int64.toUInt64 63)).toInt64) &&& (Int64.ofInt 6148914691236517205))) &&& (Int64.ofInt 3689348814741910323)) + (((((x1 - ((((x1).toUInt64 >>> (((1 : Int32)).toInt64.toUInt64 &&& Int64.toUInt64 63)).toInt64) &&& (Int64.ofInt 6148914691236517205)))).toUInt64 >>> (((2 : Int32)).toInt64.toUInt64 &&& Int64.toUInt64 63)).toInt64) &&& (Int64.ofInt 3689348814741910323))) + ((((((x1 - ((((x1).toUInt64 >>> (((1 : Int32)).toInt64.toUInt64 &&& Int64.toUInt64 63)).toInt64) &&& (Int64.ofInt 6148914691236517205))) &&& (Int64.ofInt 3689348814741910323)) + (((((x1 - ((((x1).toUInt64 >>> (((1 : Int32)).toInt64.toUInt64 &&& Int64.toUInt64 63)).toInt64) &&& (Int64.ofInt 6148914691236517205)))).toUInt64 >>> (((2 : Int32)).toInt64.toUInt64 &&& Int64.toUInt64 63)).toInt64) &&& (Int64.ofInt 3689348814741910323)))).toUInt64 >>> (((4 : Int32)).toInt64.toUInt64 &&& Int64.toUInt64 63)).toInt64)) &&& (Int64.ofInt 1085102592571150095)) + ((((((((x1 - ((((x1).toUInt64 >>> (((1 : Int32)).toInt64.toUInt64 &&& Int64.toUInt64 63)).toInt64) &&& (Int64.ofInt 6148914691236517205))) &&& (Int64.ofInt 3689348814741910323)) + (((((x1 - ((((x1).toUInt64 >>> (((1 : Int32)).toInt64.toUInt64 &&& Int64.toUInt64 63)).toInt64) &&& (Int64.ofInt 6148914691236517205)))).toUInt64 >>> (((2 : Int32)).toInt64.toUInt64 &&& Int64.toUInt64 63)).toInt64) &&& (Int64.ofInt 3689348814741910323))) + ((((((x1 - ((((x1).toUInt64 >>> (((1 : Int32)).toInt64.toUInt64 &&& Int64.toUInt64 63)).toInt64) &&& (Int64.ofInt 6148914691236517205))) &&& (Int64.ofInt 3689348814741910323)) + (((((x1 - ((((x1).toUInt64 >>> (((1 : Int32)).toInt64.toUInt64 &&& Int64.toUInt64 63)).toInt64) &&& (Int64.ofInt 6148914691236517205)))).toUInt64 >>> (((2 : Int32)).toInt64.toUInt64 &&& Int64.toUInt64 63)).toInt64) &&& (Int64.ofInt 3689348814741910323)))).toUInt64 >>> (((4 : Int32)).toInt64.toUInt64 &&& Int64.toUInt64 63)).toInt64)) &&& (Int64.ofInt 1085102592571150095))).toUInt64 >>> (((8 : Int32)).toInt64.toUInt64 &&& Int64.toUInt64 63)).toInt64)) + (((((((((x1 - ((((x1).toUInt64 >>> (((1 : Int32)).toInt64.toUInt64 &&& Int64.toUInt64 63)).toInt64) &&& (Int64.ofInt 6148914691236517205))) &&& (Int64.ofInt 3689348814741910323)) + (((((x1 - ((((x1).toUInt64 >>> (((1 : Int32)).toInt64.toUInt64 &&& Int64.toUInt64 63)).toInt64) &&& (Int64.ofInt 6148914691236517205)))).toUInt64 >>> (((2 : Int32)).toInt64.toUInt64 &&& Int64.toUInt64 63)).toInt64) &&& (Int64.ofInt 3689348814741910323))) + ((((((x1 - ((((x1).toUInt64 >>> (((1 : Int32)).toInt64.toUInt64 &&& Int64.toUInt64 63)).toInt64) &&& (Int64.ofInt 6148914691236517205))) &&& (Int64.ofInt 3689348814741910323)) + (((((x1 - ((((x1).toUInt64 >>> (((1 : Int32)).toInt64.toUInt64 &&& Int64.toUInt64 63)).toInt64) &&& (Int64.ofInt 6148914691236517205)))).toUInt64 >>> (((2 : Int32)).toInt64.toUInt64 &&& Int64.toUInt64 63)).toInt64) &&& (Int64.ofInt 3689348814741910323)))).toUInt64 >>> (((4 : Int32)).toInt64.toUInt64 &&& Int64.toUInt64 63)).toInt64)) &&& (Int64.ofInt 1085102592571150095)) + ((((((((x1 - ((((x1).toUInt64 >>> (((1 : Int32)).toInt64.toUInt64 &&& Int64.toUInt64 63)).toInt64) &&& (Int64.ofInt 6148914691236517205))) &&& (Int64.ofInt 3689348814741910323)) + (((((x1 - ((((x1).toUInt64 >>> (((1 : Int32)).toInt64.toUInt64 &&& Int64.toUInt64 63)).toInt64) &&& (Int64.ofInt 6148914691236517205)))).toUInt64 >>> (((2 : Int32)).toInt64.toUInt64 &&& Int64.toUInt64 63)).toInt64) &&& (Int64.ofInt 3689348814741910323))) + ((((((x1 - ((((x1).toUInt64 >>> (((1 : Int32)).toInt64.toUInt64 &&& Int64.toUInt64 63)).toInt64) &&& (Int64.ofInt 6148914691236517205))) &&& (Int64.ofInt 3689348814741910323)) + (((((x1 - ((((x1).toUInt64 >>> (((1 : Int32)).toInt64.toUInt64 &&& Int64.toUInt64 63)).toInt64) &&& (Int64.ofInt 6148914691236517205)))).toUInt64 >>> (((2 : Int32)).toInt64.toUInt64 &&& Int64.toUInt64 63)).toInt64) &&& (Int64.ofInt 3689348814741910323)))).toUInt64 >>> (((4 : Int32)).toInt64.toUInt64 &&& Int64.toUInt64 63)).toInt64)) &&& (Int64.ofInt 1085102592571150095))).toUInt64 >>> (((8 : Int32)).toInt64.toUInt64 &&& Int64.toUInt64 63)).toInt64))).toUInt64 >>> (((16 : Int32)).toInt64.toUInt64 &&& Int64.toUInt64 63)).toInt64))).toUInt64 >>> (((32 : Int32)).toInt64.toUInt64 &&& Int64.toUInt64 63)).toInt64))) &&& (127 : Int32))), am_sh I J) := by
  refine (ev_lload rfl rfl).trans ?_
  refine (ev_lload rfl rfl).trans ?_
  refine (ev_const0 (v := (1 : Int32)) rfl am_ci_1).trans ?_
  refine (ev_lushr rfl).trans ?_
  refine (ev_ldc2 rfl).trans ?_
  refine (ev_land rfl).trans ?_
  refine (ev_lsub rfl).trans ?_
  refine (ev_lstore (ls' := [.long (x1 - ((((x1).toUInt64 >>> (((1 : Int32)).toInt64.toUInt64 &&& Int64.toUInt64 63)).toInt64) &&& (Int64.ofInt 6148914691236517205))), .null]) rfl (Nat.le_of_ble_eq_true rfl) rfl).trans ?_
  refine (ev_lload rfl rfl).trans ?_
  refine (ev_ldc2 rfl).trans ?_
  refine (ev_land rfl).trans ?_
  refine (ev_lload rfl rfl).trans ?_
  refine (ev_const0 (v := (2 : Int32)) rfl am_ci_2).trans ?_
  refine (ev_lushr rfl).trans ?_
  refine (ev_ldc2 rfl).trans ?_
  refine (ev_land rfl).trans ?_
  refine (ev_ladd rfl).trans ?_
  refine (ev_lstore (ls' := [.long (((x1 - ((((x1).toUInt64 >>> (((1 : Int32)).toInt64.toUInt64 &&& Int64.toUInt64 63)).toInt64) &&& (Int64.ofInt 6148914691236517205))) &&& (Int64.ofInt 3689348814741910323)) + (((((x1 - ((((x1).toUInt64 >>> (((1 : Int32)).toInt64.toUInt64 &&& Int64.toUInt64 63)).toInt64) &&& (Int64.ofInt 6148914691236517205)))).toUInt64 >>> (((2 : Int32)).toInt64.toUInt64 &&& Int64.toUInt64 63)).toInt64) &&& (Int64.ofInt 3689348814741910323))), .null]) rfl (Nat.le_of_ble_eq_true rfl) rfl).trans ?_
  refine (ev_lload rfl rfl).trans ?_
  refine (ev_lload rfl rfl).trans ?_
  refine (ev_const0 (v := (4 : Int32)) rfl am_ci_4).trans ?_
  refine (ev_lushr rfl).trans ?_
  refine (ev_ladd rfl).trans ?_
  refine (ev_ldc2 rfl).trans ?_
  refine (ev_land rfl).trans ?_
  refine (ev_lstore (ls' := [.long (((((x1 - ((((x1).toUInt64 >>> (((1 : Int32)).toInt64.toUInt64 &&& Int64.toUInt64 63)).toInt64) &&& (Int64.ofInt 6148914691236517205))) &&& (Int64.ofInt 3689348814741910323)) + (((((x1 - ((((x1).toUInt64 >>> (((1 : Int32)).toInt64.toUInt64 &&& Int64.toUInt64 63)).toInt64) &&& (Int64.ofInt 6148914691236517205)))).toUInt64 >>> (((2 : Int32)).toInt64.toUInt64 &&& Int64.toUInt64 63)).toInt64) &&& (Int64.ofInt 3689348814741910323))) + ((((((x1 - ((((x1).toUInt64 >>> (((1 : Int32)).toInt64.toUInt64 &&& Int64.toUInt64 63)).toInt64) &&& (Int64.ofInt 6148914691236517205))) &&& (Int64.ofInt 3689348814741910323)) + (((((x1 - ((((x1).toUInt64 >>> (((1 : Int32)).toInt64.toUInt64 &&& Int64.toUInt64 63)).toInt64) &&& (Int64.ofInt 6148914691236517205)))).toUInt64 >>> (((2 : Int32)).toInt64.toUInt64 &&& Int64.toUInt64 63)).toInt64) &&& (Int64.ofInt 3689348814741910323)))).toUInt64 >>> (((4 : Int32)).toInt64.toUInt64 &&& Int64.toUInt64 63)).toInt64)) &&& (Int64.ofInt 1085102592571150095)), .null]) rfl (Nat.le_of_ble_eq_true rfl) rfl).trans ?_
  refine (ev_lload rfl rfl).trans ?_
  refine (ev_lload rfl rfl).trans ?_
  refine (ev_const1 (v := (8 : Int32)) rfl am_ci_8).trans ?_
  refine (ev_lushr rfl).trans ?_
  refine (ev_ladd rfl).trans ?_
  refine (ev_lstore (ls' := [.long ((((((x1 - ((((x1).toUInt64 >>> (((1 : Int32)).toInt64.toUInt64 &&& Int64.toUInt64 63)).toInt64) &&& (Int64.ofInt 6148914691236517205))) &&& (Int64.ofInt 3689348814741910323)) + (((((x1 - ((((x1).toUInt64 >>> (((1 : Int32)).toInt64.toUInt64 &&& Int64.toUInt64 63)).toInt64) &&& (Int64.ofInt 6148914691236517205)))).toUInt64 >>> (((2 : Int32)).toInt64.toUInt64 &&& Int64.toUInt64 63)).toInt64) &&& (Int64.ofInt 3689348814741910323))) + ((((((x1 - ((((x1).toUInt64 >>> (((1 : Int32)).toInt64.toUInt64 &&& Int64.toUInt64 63)).toInt64) &&& (Int64.ofInt 6148914691236517205))) &&& (Int64.ofInt 3689348814741910323)) + (((((x1 - ((((x1).toUInt64 >>> (((1 : Int32)).toInt64.toUInt64 &&& Int64.toUInt64 63)).toInt64) &&& (Int64.ofInt 6148914691236517205)))).toUInt64 >>> (((2 : Int32)).toInt64.toUInt64 &&& Int64.toUInt64 63)).toInt64) &&& (Int64.ofInt 3689348814741910323)))).toUInt64 >>> (((4 : Int32)).toInt64.toUInt64 &&& Int64.toUInt64 63)).toInt64)) &&& (Int64.ofInt 1085102592571150095)) + ((((((((x1 - ((((x1).toUInt64 >>> (((1 : Int32)).toInt64.toUInt64 &&& Int64.toUInt64 63)).toInt64) &&& (Int64.ofInt 6148914691236517205))) &&& (Int64.ofInt 3689348814741910323)) + (((((x1 - ((((x1).toUInt64 >>> (((1 : Int32)).toInt64.toUInt64 &&& Int64.toUInt64 63)).toInt64) &&& (Int64.ofInt 6148914691236517205)))).toUInt64 >>> (((2 : Int32)).toInt64.toUInt64 &&& Int64.toUInt64 63)).toInt64) &&& (Int64.ofInt 3689348814741910323))) + ((((((x1 - ((((x1).toUInt64 >>> (((1 : Int32)).toInt64.toUInt64 &&& Int64.toUInt64 63)).toInt64) &&& (Int64.ofInt 6148914691236517205))) &&& (Int64.ofInt 3689348814741910323)) + (((((x1 - ((((x1).toUInt64 >>> (((1 : Int32)).toInt64.toUInt64 &&& Int64.toUInt64 63)).toInt64) &&& (Int64.ofInt 6148914691236517205)))).toUInt64 >>> (((2 : Int32)).toInt64.toUInt64 &&& Int64.toUInt64 63)).toInt64) &&& (Int64.ofInt 3689348814741910323)))).toUInt64 >>> (((4 : Int32)).toInt64.toUInt64 &&& Int64.toUInt64 63)).toInt64)) &&& (Int64.ofInt 1085102592571150095))).toUInt64 >>> (((8 : Int32)).toInt64.toUInt64 &&& Int64.toUInt64 63)).toInt64)), .null]) rfl (Nat.le_of_ble_eq_true rfl) rfl).trans ?_
  refine (ev_lload rfl rfl).trans ?_
  refine (ev_lload rfl rfl).trans ?_
  refine (ev_const1 (v := (16 : Int32)) rfl am_ci_16).trans ?_
  refine (ev_lushr rfl).trans ?_
  refine (ev_ladd rfl).trans ?_
  refine (ev_lstore (ls' := [.long (((((((x1 - ((((x1).toUInt64 >>> (((1 : Int32)).toInt64.toUInt64 &&& Int64.toUInt64 63)).toInt64) &&& (Int64.ofInt 6148914691236517205))) &&& (Int64.ofInt 3689348814741910323)) + (((((x1 - ((((x1).toUInt64 >>> (((1 : Int32)).toInt64.toUInt64 &&& Int64.toUInt64 63)).toInt64) &&& (Int64.ofInt 6148914691236517205)))).toUInt64 >>> (((2 : Int32)).toInt64.toUInt64 &&& Int64.toUInt64 63)).toInt64) &&& (Int64.ofInt 3689348814741910323))) + ((((((x1 - ((((x1).toUInt64 >>> (((1 : Int32)).toInt64.toUInt64 &&& Int64.toUInt64 63)).toInt64) &&& (Int64.ofInt 6148914691236517205))) &&& (Int64.ofInt 3689348814741910323)) + (((((x1 - ((((x1).toUInt64 >>> (((1 : Int32)).toInt64.toUInt64 &&& Int64.toUInt64 63)).toInt64) &&& (Int64.ofInt 6148914691236517205)))).toUInt64 >>> (((2 : Int32)).toInt64.toUInt64 &&& Int64.toUInt64 63)).toInt64) &&& (Int64.ofInt 3689348814741910323)))).toUInt64 >>> (((4 : Int32)).toInt64.toUInt64 &&& Int64.toUInt64 63)).toInt64)) &&& (Int64.ofInt 1085102592571150095)) + ((((((((x1 - ((((x1).toUInt64 >>> (((1 : Int32)).toInt64.toUInt64 &&& Int64.toUInt64 63)).toInt64) &&& (Int64.ofInt 6148914691236517205))) &&& (Int64.ofInt 3689348814741910323)) + (((((x1 - ((((x1).toUInt64 >>> (((1 : Int32)).toInt64.toUInt64 &&& Int64.toUInt64 63)).toInt64) &&& (Int64.ofInt 6148914691236517205)))).toUInt64 >>> (((2 : Int32)).toInt64.toUInt64 &&& Int64.toUInt64 63)).toInt64) &&& (Int64.ofInt 3689348814741910323))) + ((((((x1 - ((((x1).toUInt64 >>> (((1 : Int32)).toInt64.toUInt64 &&& Int64.toUInt64 63)).toInt64) &&& (Int64.ofInt 6148914691236517205))) &&& (Int64.ofInt 3689348814741910323)) + (((((x1 - ((((x1).toUInt64 >>> (((1 : Int32)).toInt64.toUInt64 &&& Int64.toUInt64 63)).toInt64) &&& (Int64.ofInt 6148914691236517205)))).toUInt64 >>> (((2 : Int32)).toInt64.toUInt64 &&& Int64.toUInt64 63)).toInt64) &&& (Int64.ofInt 3689348814741910323)))).toUInt64 >>> (((4 : Int32)).toInt64.toUInt64 &&& Int64.toUInt64 63)).toInt64)) &&& (Int64.ofInt 1085102592571150095))).toUInt64 >>> (((8 : Int32)).toInt64.toUInt64 &&& Int64.toUInt64 63)).toInt64)) + (((((((((x1 - ((((x1).toUInt64 >>> (((1 : Int32)).toInt64.toUInt64 &&& Int64.toUInt64 63)).toInt64) &&& (Int64.ofInt 6148914691236517205))) &&& (Int64.ofInt 3689348814741910323)) + (((((x1 - ((((x1).toUInt64 >>> (((1 : Int32)).toInt64.toUInt64 &&& Int64.toUInt64 63)).toInt64) &&& (Int64.ofInt 6148914691236517205)))).toUInt64 >>> (((2 : Int32)).toInt64.toUInt64 &&& Int64.toUInt64 63)).toInt64) &&& (Int64.ofInt 3689348814741910323))) + ((((((x1 - ((((x1).toUInt64 >>> (((1 : Int32)).toInt64.toUInt64 &&& Int64.toUInt64 63)).toInt64) &&& (Int64.ofInt 6148914691236517205))) &&& (Int64.ofInt 3689348814741910323)) + (((((x1 - ((((x1).toUInt64 >>> (((1 : Int32)).toInt64.toUInt64 &&& Int64.toUInt64 63)).toInt64) &&& (Int64.ofInt 6148914691236517205)))).toUInt64 >>> (((2 : Int32)).toInt64.toUInt64 &&& Int64.toUInt64 63)).toInt64) &&& (Int64.ofInt 3689348814741910323)))).toUInt64 >>> (((4 : Int32)).toInt64.toUInt64 &&& Int64.toUInt64 63)).toInt64)) &&& (Int64.ofInt 1085102592571150095)) + ((((((((x1 - ((((x1).toUInt64 >>> (((1 : Int32)).toInt64.toUInt64 &&& Int64.toUInt64 63)).toInt64) &&& (Int64.ofInt 6148914691236517205))) &&& (Int64.ofInt 3689348814741910323)) + (((((x1 - ((((x1).toUInt64 >>> (((1 : Int32)).toInt64.toUInt64 &&& Int64.toUInt64 63)).toInt64) &&& (Int64.ofInt 6148914691236517205)))).toUInt64 >>> (((2 : Int32)).toInt64.toUInt64 &&& Int64.toUInt64 63)).toInt64) &&& (Int64.ofInt 3689348814741910323))) + ((((((x1 - ((((x1).toUInt64 >>> (((1 : Int32)).toInt64.toUInt64 &&& Int64.toUInt64 63)).toInt64) &&& (Int64.ofInt 6148914691236517205))) &&& (Int64.ofInt 3689348814741910323)) + (((((x1 - ((((x1).toUInt64 >>> (((1 : Int32)).toInt64.toUInt64 &&& Int64.toUInt64 63)).toInt64) &&& (Int64.ofInt 6148914691236517205)))).toUInt64 >>> (((2 : Int32)).toInt64.toUInt64 &&& Int64.toUInt64 63)).toInt64) &&& (Int64.ofInt 3689348814741910323)))).toUInt64 >>> (((4 : Int32)).toInt64.toUInt64 &&& Int64.toUInt64 63)).toInt64)) &&& (Int64.ofInt 1085102592571150095))).toUInt64 >>> (((8 : Int32)).toInt64.toUInt64 &&& Int64.toUInt64 63)).toInt64))).toUInt64 >>> (((16 : Int32)).toInt64.toUInt64 &&& Int64.toUInt64 63)).toInt64)), .null]) rfl (Nat.le_of_ble_eq_true rfl) rfl).trans ?_
  refine (ev_lload rfl rfl).trans ?_
  refine (ev_lload rfl rfl).trans ?_
  refine (ev_const1 (v := (32 : Int32)) rfl am_ci_32).trans ?_
  refine (ev_lushr rfl).trans ?_
  refine (ev_ladd rfl).trans ?_
  refine (ev_lstore (ls' := [.long ((((((((x1 - ((((x1).toUInt64 >>> (((1 : Int32)).toInt64.toUInt64 &&& Int64.toUInt64 63)).toInt64) &&& (Int64.ofInt 6148914691236517205))) &&& (Int64.ofInt 3689348814741910323)) + (((((x1 - ((((x1).toUInt64 >>> (((1 : Int32)).toInt64.toUInt64 &&& Int64.toUInt64 63)).toInt64) &&& (Int64.ofInt 6148914691236517205)))).toUInt64 >>> (((2 : Int32)).toInt64.toUInt64 &&& Int64.toUInt64 63)).toInt64) &&& (Int64.ofInt 3689348814741910323))) + ((((((x1 - ((((x1).toUInt64 >>> (((1 : Int32)).toInt64.toUInt64 &&& Int64.toUInt64 63)).toInt64) &&& (Int64.ofInt 6148914691236517205))) &&& (Int64.ofInt 3689348814741910323)) + (((((x1 - ((((x1).toUInt64 >>> (((1 : Int32)).toInt64.toUInt64 &&& Int64.toUInt64 63)).toInt64) &&& (Int64.ofInt 6148914691236517205)))).toUInt64 >>> (((2 : Int32)).toInt64.toUInt64 &&& Int64.toUInt64 63)).toInt64) &&& (Int64.ofInt 3689348814741910323)))).toUInt64 >>> (((4 : Int32)).toInt64.toUInt64 &&& Int64.toUInt64 63)).toInt64)) &&& (Int64.ofInt 1085102592571150095)) + ((((((((x1 - ((((x1).toUInt64 >>> (((1 : Int32)).toInt64.toUInt64 &&& Int64.toUInt64 63)).toInt64) &&& (Int64.ofInt 6148914691236517205))) &&& (Int64.ofInt 3689348814741910323)) + (((((x1 - ((((x1).toUInt64 >>> (((1 : Int32)).toInt64.toUInt64 &&& Int64.toUInt64 63)).toInt64) &&& (Int64.ofInt 6148914691236517205)))).toUInt64 >>> (((2 : Int32)).toInt64.toUInt64 &&& Int64.toUInt64 63)).toInt64) &&& (Int64.ofInt 3689348814741910323))) + ((((((x1 - ((((x1).toUInt64 >>> (((1 : Int32)).toInt64.toUInt64 &&& Int64.toUInt64 63)).toInt64) &&& (Int64.ofInt 6148914691236517205))) &&& (Int64.ofInt 3689348814741910323)) + (((((x1 - ((((x1).toUInt64 >>> (((1 : Int32)).toInt64.toUInt64 &&& Int64.toUInt64 63)).toInt64) &&& (Int64.ofInt 6148914691236517205)))).toUInt64 >>> (((2 : Int32)).toInt64.toUInt64 &&& Int64.toUInt64 63)).toInt64) &&& (Int64.ofInt 3689348814741910323)))).toUInt64 >>> (((4 : Int32)).toInt64.toUInt64 &&& Int64.toUInt64 63)).toInt64)) &&& (Int64.ofInt 1085102592571150095))).toUInt64 >>> (((8 : Int32)).toInt64.toUInt64 &&& Int64.toUInt64 63)).toInt64)) + (((((((((x1 - ((((x1).toUInt64 >>> (((1 : Int32)).toInt64.toUInt64 &&& Int64.toUInt64 63)).toInt64) &&& (Int64.ofInt 6148914691236517205))) &&& (Int64.ofInt 3689348814741910323)) + (((((x1 - ((((x1).toUInt64 >>> (((1 : Int32)).toInt64.toUInt64 &&& Int64.toUInt64 63)).toInt64) &&& (Int64.ofInt 6148914691236517205)))).toUInt64 >>> (((2 : Int32)).toInt64.toUInt64 &&& Int64.toUInt64 63)).toInt64) &&& (Int64.ofInt 3689348814741910323))) + ((((((x1 - ((((x1).toUInt64 >>> (((1 : Int32)).toInt64.toUInt64 &&& Int64.toUInt64 63)).toInt64) &&& (Int64.ofInt 6148914691236517205))) &&& (Int64.ofInt 3689348814741910323)) + (((((x1 - ((((x1).toUInt64 >>> (((1 : Int32)).toInt64.toUInt64 &&& Int64.toUInt64 63)).toInt64) &&& (Int64.ofInt 6148914691236517205)))).toUInt64 >>> (((2 : Int32)).toInt64.toUInt64 &&& Int64.toUInt64 63)).toInt64) &&& (Int64.ofInt 3689348814741910323)))).toUInt64 >>> (((4 : Int32)).toInt64.toUInt64 &&& Int64.toUInt64 63)).toInt64)) &&& (Int64.ofInt 1085102592571150095)) + ((((((((x1 - ((((x1).toUInt64 >>> (((1 : Int32)).toInt64.toUInt64 &&& Int64.toUInt64 63)).toInt64) &&& (Int64.ofInt 6148914691236517205))) &&& (Int64.ofInt 3689348814741910323)) + (((((x1 - ((((x1).toUInt64 >>> (((1 : Int32)).toInt64.toUInt64 &&& Int64.toUInt64 63)).toInt64) &&& (Int64.ofInt 6148914691236517205)))).toUInt64 >>> (((2 : Int32)).toInt64.toUInt64 &&& Int64.toUInt64 63)).toInt64) &&& (Int64.ofInt 3689348814741910323))) + ((((((x1 - ((((x1).toUInt64 >>> (((1 : Int32)).toInt64.toUInt64 &&& Int64.toUInt64 63)).toInt64) &&& (Int64.ofInt 6148914691236517205))) &&& (Int64.ofInt 3689348814741910323)) + (((((x1 - ((((x1).toUInt64 >>> (((1 : Int32)).toInt64.toUInt64 &&& Int64.toUInt64 63)).toInt64) &&& (Int64.ofInt 6148914691236517205)))).toUInt64 >>> (((2 : Int32)).toInt64.toUInt64 &&& Int64.toUInt64 63)).toInt64) &&& (Int64.ofInt 3689348814741910323)))).toUInt64 >>> (((4 : Int32)).toInt64.toUInt64 &&& Int64.toUInt64 63)).toInt64)) &&& (Int64.ofInt 1085102592571150095))).toUInt64 >>> (((8 : Int32)).toInt64.toUInt64 &&& Int64.toUInt64 63)).toInt64))).toUInt64 >>> (((16 : Int32)).toInt64.toUInt64 &&& Int64.toUInt64 63)).toInt64)) + ((((((((((x1 - ((((x1).toUInt64 >>> (((1 : Int32)).toInt64.toUInt64 &&& Int64.toUInt64 63)).toInt64) &&& (Int64.ofInt 6148914691236517205))) &&& (Int64.ofInt 3689348814741910323)) + (((((x1 - ((((x1).toUInt64 >>> (((1 : Int32)).toInt64.toUInt64 &&& Int64.toUInt64 63)).toInt64) &&& (Int64.ofInt 6148914691236517205)))).toUInt64 >>> (((2 : Int32)).toInt64.toUInt64 &&& Int64.toUInt64 63)).toInt64) &&& (Int64.ofInt 3689348814741910323))) + ((((((x1 - ((((x1).toUInt64 >>> (((1 : Int32)).toInt64.toUInt64 &&& Int64.toUInt64 63)).toInt64) &&& (Int64.ofInt 6148914691236517205))) &&& (Int64.ofInt 3689348814741910323)) + (((((x1 - ((((x1).toUInt64 >>> (((1 : Int32)).toInt64.toUInt64 &&& Int64.toUInt64 63)).toInt64) &&& (Int64.ofInt 6148914691236517205)))).toUInt64 >>> (((2 : Int32)).toInt64.toUInt64 &&& Int64.toUInt64 63)).toInt64) &&& (Int64.ofInt 3689348814741910323)))).toUInt64 >>> (((4 : Int32)).toInt64.toUInt64 &&& Int64.toUInt64 63)).toInt64)) &&& (Int64.ofInt 1085102592571150095)) + ((((((((x1 - ((((x1).toUInt64 >>> (((1 : Int32)).toInt64.toUInt64 &&& Int64.toUInt64 63)).toInt64) &&& (Int64.ofInt 6148914691236517205))) &&& (Int64.ofInt 3689348814741910323)) + (((((x1 - ((((x1).toUInt64 >>> (((1 : Int32)).toInt64.toUInt64 &&& Int64.toUInt64 63)).toInt64) &&& (Int64.ofInt 6148914691236517205)))).toUInt64 >>> (((2 : Int32)).toInt64.toUInt64 &&& Int64.toUInt64 63)).toInt64) &&& (Int64.ofInt 3689348814741910323))) + ((((((x1 - ((((x1).toUInt64 >>> (((1 : Int32)).toInt64.toUInt64 &&& Int64.toUInt64 63)).toInt64) &&& (Int64.ofInt 6148914691236517205))) &&& (Int64.ofInt 3689348814741910323)) + (((((x1 - ((((x1).toUInt64 >>> (((1 : Int32)).toInt64.toUInt64 &&& Int64.toUInt64 63)).toInt64) &&& (Int64.ofInt 6148914691236517205)))).toUInt64 >>> (((2 : Int32)).toInt64.toUInt64 &&& Int64.toUInt64 63)).toInt64) &&& (Int64.ofInt 3689348814741910323)))).toUInt64 >>> (((4 : Int32)).toInt64.toUInt64 &&& Int64.toUInt64 63)).toInt64)) &&& (Int64.ofInt 1085102592571150095))).toUInt64 >>> (((8 : Int32)).toInt64.toUInt64 &&& Int64.toUInt64 63)).toInt64)) + (((((((((x1 - ((((x1).toUInt64 >>> (((1 : Int32)).toInt64.toUInt64 &&& Int64.toUInt64 63)).toInt64) &&& (Int64.ofInt 6148914691236517205))) &&& (Int64.ofInt 3689348814741910323)) + (((((x1 - ((((x1).toUInt64 >>> (((1 : Int32)).toInt64.toUInt64 &&& Int64.toUInt64 63)).toInt64) &&& (Int64.ofInt 6148914691236517205)))).toUInt64 >>> (((2 : Int32)).toInt64.toUInt64 &&& Int64.toUInt64 63)).toInt64) &&& (Int64.ofInt 3689348814741910323))) + ((((((x1 - ((((x1).toUInt64 >>> (((1 : Int32)).toInt64.toUInt64 &&& Int64.toUInt64 63)).toInt64) &&& (Int64.ofInt 6148914691236517205))) &&& (Int64.ofInt 3689348814741910323)) + (((((x1 - ((((x1).toUInt64 >>> (((1 : Int32)).toInt64.toUInt64 &&& Int64.toUInt64 63)).toInt64) &&& (Int64.ofInt 6148914691236517205)))).toUInt64 >>> (((2 : Int32)).toInt64.toUInt64 &&& Int64.toUInt64 63)).toInt64) &&& (Int64.ofInt 3689348814741910323)))).toUInt64 >>> (((4 : Int32)).toInt64.toUInt64 &&& Int64.toUInt64 63)).toInt64)) &&& (Int64.ofInt 1085102592571150095)) + ((((((((x1 - ((((x1).toUInt64 >>> (((1 : Int32)).toInt64.toUInt64 &&& Int64.toUInt64 63)).toInt64) &&& (Int64.ofInt 6148914691236517205))) &&& (Int64.ofInt 3689348814741910323)) + (((((x1 - ((((x1).toUInt64 >>> (((1 : Int32)).toInt64.toUInt64 &&& Int64.toUInt64 63)).toInt64) &&& (Int64.ofInt 6148914691236517205)))).toUInt64 >>> (((2 : Int32)).toInt64.toUInt64 &&& Int64.toUInt64 63)).toInt64) &&& (Int64.ofInt 3689348814741910323))) + ((((((x1 - ((((x1).toUInt64 >>> (((1 : Int32)).toInt64.toUInt64 &&& Int64.toUInt64 63)).toInt64) &&& (Int64.ofInt 6148914691236517205))) &&& (Int64.ofInt 3689348814741910323)) + (((((x1 - ((((x1).toUInt64 >>> (((1 : Int32)).toInt64.toUInt64 &&& Int64.toUInt64 63)).toInt64) &&& (Int64.ofInt 6148914691236517205)))).toUInt64 >>> (((2 : Int32)).toInt64.toUInt64 &&& Int64.toUInt64 63)).toInt64) &&& (Int64.ofInt 3689348814741910323)))).toUInt64 >>> (((4 : Int32)).toInt64.toUInt64 &&& Int64.toUInt64 63)).toInt64)) &&& (Int64.ofInt 1085102592571150095))).toUInt64 >>> (((8 : Int32)).toInt64.toUInt64 &&& Int64.toUInt64 63)).toInt64))).toUInt64 >>> (((16 : Int32)).toInt64.toUInt64 &&& Int64.toUInt64 63)).toInt64))).toUInt64 >>> (((32 : Int32)).toInt64.toUInt64 &&& Int64.toUInt64 63)).toInt64)), .null]) rfl (Nat.le_of_ble_eq_true rfl) rfl).trans ?_
  refine (ev_lload rfl rfl).trans ?_
  refine (ev_l2i rfl).trans ?_
  refine (ev_const1 (v := (127 : Int32)) rfl am_ci_127).trans ?_
  refine (ev_iand rfl).trans ?_
  exact ev_iret rfl
theorem cl_349 (X : am_X) (I : Nat → Nat → Int32) (J : Nat → Nat → Int64) (x1 : Int64) : am_do X 349 [.long (x1)] (am_sh I J) = am_ev X amP_349 0 [.long (x1), .null] [] (am_sh I J) := am_do_of rfl rfl rfl
-- 350 J9_floorMod_7cf53
set_option maxRecDepth 10000 in
theorem sg_350_e0 (X : am_X) (I : Nat → Nat → Int32) (J : Nat → Nat → Int64) (x1 : Int32) (x2 : Int32) : am_ev X amP_350 0 [.int x1, .int x2, .null] [] (am_sh I J) = (if x2 = 0 then none else (if 0 ≤ (x1 ^^^ x2) then some (some (.int (x1 - x1 / x2 * x2)), am_sh I J) else (if (x1 - x1 / x2 * x2) = 0 then some (some (.int (x1 - x1 / x2 * x2)), am_sh I J) else some (some (.int ((x1 - x1 / x2 * x2) + x2)), am_sh I J)))) := by
  refine (ev_iload rfl rfl).trans ?_
  refine (ev_iload rfl rfl).trans ?_
  refine (ev_irem rfl).trans (am_itn (fun g1 => ?_))
  refine (ev_istore (ls' := [.int x1, .int x2, .int (x1 - x1 / x2 * x2)]) rfl (Nat.le_of_ble_eq_true rfl) rfl).trans ?_
  refine (ev_iload rfl rfl).trans ?_
  refine (ev_iload rfl rfl).trans ?_
  refine (ev_ixor rfl).trans ?_
  refine (ev_if3 rfl).trans (am_ite (fun c2 => ?_) (fun c2 => ?_))
  · refine (ev_iload rfl rfl).trans ?_
    exact ev_iret rfl
  · refine (ev_iload rfl rfl).trans ?_
    refine (ev_if0 rfl).trans (am_ite (fun c3 => ?_) (fun c3 => ?_))
    · refine (ev_iload rfl rfl).trans ?_
      exact ev_iret rfl
    · refine (ev_iload rfl rfl).trans ?_
      refine (ev_iload rfl rfl).trans ?_
      refine (ev_iadd rfl).trans ?_
      exact ev_iret rfl
theorem cl_350 (X : am_X) (I : Nat → Nat → Int32) (J : Nat → Nat → Int64) (x1 : Int32) (x2 : Int32) : am_do X 350 [.int x1, .int x2] (am_sh I J) = am_ev X amP_350 0 [.int x1, .int x2, .null] [] (am_sh I J) := am_do_of rfl rfl rfl
-- 351 J9_abs_0f7a4
set_option maxRecDepth 10000 in
theorem sg_351_e0 (X : am_X) (I : Nat → Nat → Int32) (J : Nat → Nat → Int64) (x1 : Int32) : am_ev X amP_351 0 [.int x1] [] (am_sh I J) = (if 0 ≤ x1 then some (some (.int x1), am_sh I J) else some (some (.int (-x1)), am_sh I J)) := by
  refine (ev_iload rfl rfl).trans ?_
  refine (ev_if3 rfl).trans (am_ite (fun c1 => ?_) (fun c1 => ?_))
  · refine (ev_iload rfl rfl).trans ?_
    exact ev_iret rfl
  · refine (ev_iload rfl rfl).trans ?_
    refine (ev_ineg rfl).trans ?_
    refine (ev_goto rfl).trans ?_
    exact ev_iret rfl
theorem cl_351 (X : am_X) (I : Nat → Nat → Int32) (J : Nat → Nat → Int64) (x1 : Int32) : am_do X 351 [.int x1] (am_sh I J) = am_ev X amP_351 0 [.int x1] [] (am_sh I J) := am_do_of rfl rfl rfl
-- 352 J9_max_7cf53
set_option maxRecDepth 10000 in
theorem sg_352_e0 (X : am_X) (I : Nat → Nat → Int32) (J : Nat → Nat → Int64) (x1 : Int32) (x2 : Int32) : am_ev X amP_352 0 [.int x1, .int x2] [] (am_sh I J) = (if x1 < x2 then some (some (.int x2), am_sh I J) else some (some (.int x1), am_sh I J)) := by
  refine (ev_iload rfl rfl).trans ?_
  refine (ev_iload rfl rfl).trans ?_
  refine (ev_icmp2 rfl).trans (am_ite (fun c1 => ?_) (fun c1 => ?_))
  · refine (ev_iload rfl rfl).trans ?_
    exact ev_iret rfl
  · refine (ev_iload rfl rfl).trans ?_
    refine (ev_goto rfl).trans ?_
    exact ev_iret rfl
theorem cl_352 (X : am_X) (I : Nat → Nat → Int32) (J : Nat → Nat → Int64) (x1 : Int32) (x2 : Int32) : am_do X 352 [.int x1, .int x2] (am_sh I J) = am_ev X amP_352 0 [.int x1, .int x2] [] (am_sh I J) := am_do_of rfl rfl rfl
-- 353 J9_min_7cf53
set_option maxRecDepth 10000 in
theorem sg_353_e0 (X : am_X) (I : Nat → Nat → Int32) (J : Nat → Nat → Int64) (x1 : Int32) (x2 : Int32) : am_ev X amP_353 0 [.int x1, .int x2] [] (am_sh I J) = (if x2 < x1 then some (some (.int x2), am_sh I J) else some (some (.int x1), am_sh I J)) := by
  refine (ev_iload rfl rfl).trans ?_
  refine (ev_iload rfl rfl).trans ?_
  refine (ev_icmp4 rfl).trans (am_ite (fun c1 => ?_) (fun c1 => ?_))
  · refine (ev_iload rfl rfl).trans ?_
    exact ev_iret rfl
  · refine (ev_iload rfl rfl).trans ?_
    refine (ev_goto rfl).trans ?_
    exact ev_iret rfl
theorem cl_353 (X : am_X) (I : Nat → Nat → Int32) (J : Nat → Nat → Int64) (x1 : Int32) (x2 : Int32) : am_do X 353 [.int x1, .int x2] (am_sh I J) = am_ev X amP_353 0 [.int x1, .int x2] [] (am_sh I J) := am_do_of rfl rfl rfl
-- 360 J7_fill_53178
set_option maxRecDepth 10000 in
theorem sg_360_e0 (X : am_X) (I : Nat → Nat → Int32) (J : Nat → Nat → Int64) (a1 : Nat) (n1 : Nat) (x2 : Int32) (ha1 : a1 < 162) (ka1 : am_K a1 = (20, n1)) : am_ev X amP_360 0 [.ref a1, .int x2, .null, .null] [] (am_sh I J) = am_ev X amP_360 5 [.ref a1, .int x2, .int (0 : Int32), .int (Int32.ofNat n1)] [] (am_sh I J) := by
  refine (ev_const0 (v := (0 : Int32)) rfl am_ci_0).trans ?_
  refine (ev_istore (ls' := [.ref a1, .int x2, .int (0 : Int32), .null]) rfl (Nat.le_of_ble_eq_true rfl) rfl).trans ?_
  refine (ev_aload rfl rfl).trans ?_
  refine (ev_alen rfl ha1 ka1 (by decide) (by decide)).trans ?_
  refine (ev_istore (ls' := [.ref a1, .int x2, .int (0 : Int32), .int (Int32.ofNat n1)]) rfl (Nat.le_of_ble_eq_true rfl) rfl).trans ?_
  rfl
theorem cl_360 (X : am_X) (I : Nat → Nat → Int32) (J : Nat → Nat → Int64) (a1 : Nat) (n1 : Nat) (x2 : Int32) : am_do X 360 [.ref a1, .int x2] (am_sh I J) = am_ev X amP_360 0 [.ref a1, .int x2, .null, .null] [] (am_sh I J) := am_do_of rfl rfl rfl
set_option maxRecDepth 10000 in
theorem sg_360_5 (X : am_X) (I : Nat → Nat → Int32) (J : Nat → Nat → Int64) (a1 : Nat) (n1 : Nat) (x2 : Int32) (x3 : Int32) (x4 : Int32) (ha1 : a1 < 162) (ka1 : am_K a1 = (20, n1)) : am_ev X amP_360 5 [.ref a1, .int x2, .int x3, .int x4] [] (am_sh I J) = (if x4 ≤ x3 then some (none, am_sh I J) else (if x3 < 0 ∨ n1 ≤ x3.toNatClampNeg then none else am_ev X amP_360 5 [.ref a1, .int x2, .int (x3 + (1 : Int32)), .int x4] [] (am_sh (am_up I a1 x3.toNatClampNeg x2) J))) := by
  refine (ev_iload rfl rfl).trans ?_
  refine (ev_iload rfl rfl).trans ?_
  refine (ev_icmp3 rfl).trans (am_ite (fun c1 => ?_) (fun c1 => ?_))
  · exact ev_vret rfl
  · refine (ev_aload rfl rfl).trans ?_
    refine (ev_iload rfl rfl).trans ?_
    refine (ev_iload rfl rfl).trans ?_
    refine (ev_iast rfl ha1 ka1).trans (am_itn (fun g2 => ?_))
    refine (ev_iincv (v := (1 : Int32)) (ls' := [.ref a1, .int x2, .int (x3 + (1 : Int32)), .int x4]) rfl am_ci_1 rfl rfl).trans ?_
    refine (ev_goto rfl).trans ?_
    rfl
-- 362 L_law
set_option maxRecDepth 10000 in
theorem sg_362_10 (X : am_X) (I : Nat → Nat → Int32) (J : Nat → Nat → Int64) (x1 : Int32) : am_ev X amP_362 10 [.retAddr 2, .ref 0, .ref 139, .int x1] [] (am_sh I J) = (if ((Int32.ofNat (X 2).1) - (6 : Int32)) < x1 then some (some (.int (1 : Int32)), am_sh I J) else (if x1 < 0 ∨ (X 2).1 ≤ x1.toNatClampNeg then none else (if (((X 2).2 x1.toNatClampNeg) &&& (63 : Int32)) = (0 : Int32) then (if (x1 + (1 : Int32)) < 0 ∨ (X 2).1 ≤ (x1 + (1 : Int32)).toNatClampNeg then none else (if (x1 + (2 : Int32)) < 0 ∨ (X 2).1 ≤ (x1 + (2 : Int32)).toNatClampNeg then none else (if (x1 + (3 : Int32)) < 0 ∨ (X 2).1 ≤ (x1 + (3 : Int32)).toNatClampNeg then none else (if (x1 + (4 : Int32)) < 0 ∨ (X 2).1 ≤ (x1 + (4 : Int32)).toNatClampNeg then none else (if (x1 + (5 : Int32)) < 0 ∨ (X 2).1 ≤ (x1 + (5 : Int32)).toNatClampNeg then none else (am_do X 155 [.ref 0, .int ((X 2).2 (x1 + (1 : Int32)).toNatClampNeg), .int ((X 2).2 (x1 + (2 : Int32)).toNatClampNeg), .int ((X 2).2 (x1 + (3 : Int32)).toNatClampNeg), .int ((X 2).2 (x1 + (4 : Int32)).toNatClampNeg), .int ((X 2).2 (x1 + (5 : Int32)).toNatClampNeg)] (am_sh I J)).bind (fun q => am_ev X amP_362 49 [.retAddr 2, .ref 0, .ref 139, .int x1] (q.1.toList ++ []) q.2)))))) else (if (((X 2).2 x1.toNatClampNeg) &&& (63 : Int32)) = (1 : Int32) then (if (x1 + (1 : Int32)) < 0 ∨ (X 2).1 ≤ (x1 + (1 : Int32)).toNatClampNeg then none else (am_do X 156 [.ref 0, .int ((X 2).2 (x1 + (1 : Int32)).toNatClampNeg)] (am_sh I J)).bind (fun q => am_ev X amP_362 86 [.retAddr 2, .ref 0, .ref 139, .int x1] (q.1.toList ++ []) q.2)) else (if (((X 2).2 x1.toNatClampNeg) &&& (63 : Int32)) = (2 : Int32) then (am_do X 157 [.ref 0] (am_sh I J)).bind (fun q => am_ev X amP_362 98 [.retAddr 2, .ref 0, .ref 139, .int x1] (q.1.toList ++ []) q.2) else (if (((X 2).2 x1.toNatClampNeg) &&& (63 : Int32)) = (3 : Int32) then (if (x1 + (1 : Int32)) < 0 ∨ (X 2).1 ≤ (x1 + (1 : Int32)).toNatClampNeg then none else (am_do X 158 [.ref 0, .int ((X 2).2 (x1 + (1 : Int32)).toNatClampNeg)] (am_sh I J)).bind (fun q => am_ev X amP_362 110 [.retAddr 2, .ref 0, .ref 139, .int x1] (q.1.toList ++ []) q.2)) else (if (((X 2).2 x1.toNatClampNeg) &&& (63 : Int32)) = (4 : Int32) then (if (x1 + (1 : Int32)) < 0 ∨ (X 2).1 ≤ (x1 + (1 : Int32)).toNatClampNeg then none else (am_do X 159 [.ref 0, .int ((X 2).2 (x1 + (1 : Int32)).toNatClampNeg)] (am_sh I J)).bind (fun q => am_ev X amP_362 127 [.retAddr 2, .ref 0, .ref 139, .int x1] (q.1.toList ++ []) q.2)) else (if (((X 2).2 x1.toNatClampNeg) &&& (63 : Int32)) = (5 : Int32) then (if (x1 + (1 : Int32)) < 0 ∨ (X 2).1 ≤ (x1 + (1 : Int32)).toNatClampNeg then none else (if (x1 + (2 : Int32)) < 0 ∨ (X 2).1 ≤ (x1 + (2 : Int32)).toNatClampNeg then none else (am_do X 160 [.ref 0, .int ((X 2).2 (x1 + (1 : Int32)).toNatClampNeg), .int ((X 2).2 (x1 + (2 : Int32)).toNatClampNeg)] (am_sh I J)).bind (fun q => am_ev X amP_362 149 [.retAddr 2, .ref 0, .ref 139, .int x1] (q.1.toList ++ []) q.2))) else (if (((X 2).2 x1.toNatClampNeg) &&& (63 : Int32)) = (6 : Int32) then (am_do X 161 [.ref 0] (am_sh I J)).bind (fun q => am_ev X amP_362 166 [.retAddr 2, .ref 0, .ref 139, .int x1] (q.1.toList ++ []) q.2) else (if (((X 2).2 x1.toNatClampNeg) &&& (63 : Int32)) = (7 : Int32) then (if (x1 + (1 : Int32)) < 0 ∨ (X 2).1 ≤ (x1 + (1 : Int32)).toNatClampNeg then none else (if (x1 + (2 : Int32)) < 0 ∨ (X 2).1 ≤ (x1 + (2 : Int32)).toNatClampNeg then none else (am_do X 162 [.ref 0, .int ((X 2).2 (x1 + (1 : Int32)).toNatClampNeg), .int ((X 2).2 (x1 + (2 : Int32)).toNatClampNeg)] (am_sh I J)).bind (fun q => am_ev X amP_362 183 [.retAddr 2, .ref 0, .ref 139, .int x1] (q.1.toList ++ []) q.2))) else (if (((X 2).2 x1.toNatClampNeg) &&& (63 : Int32)) = (8 : Int32) then (if (x1 + (1 : Int32)) < 0 ∨ (X 2).1 ≤ (x1 + (1 : Int32)).toNatClampNeg then none else (if (x1 + (2 : Int32)) < 0 ∨ (X 2).1 ≤ (x1 + (2 : Int32)).toNatClampNeg then none else (if (x1 + (3 : Int32)) < 0 ∨ (X 2).1 ≤ (x1 + (3 : Int32)).toNatClampNeg then none else (am_do X 163 [.ref 0, .int ((X 2).2 (x1 + (1 : Int32)).toNatClampNeg), .int ((X 2).2 (x1 + (2 : Int32)).toNatClampNeg), .int ((X 2).2 (x1 + (3 : Int32)).toNatClampNeg)] (am_sh I J)).bind (fun q => am_ev X amP_362 215 [.retAddr 2, .ref 0, .ref 139, .int x1] (q.1.toList ++ []) q.2)))) else (if (((X 2).2 x1.toNatClampNeg) &&& (63 : Int32)) = (9 : Int32) then (if (x1 + (1 : Int32)) < 0 ∨ (X 2).1 ≤ (x1 + (1 : Int32)).toNatClampNeg then none else (if (x1 + (2 : Int32)) < 0 ∨ (X 2).1 ≤ (x1 + (2 : Int32)).toNatClampNeg then none else (if (x1 + (3 : Int32)) < 0 ∨ (X 2).1 ≤ (x1 + (3 : Int32)).toNatClampNeg then none else (am_do X 164 [.ref 0, .int ((X 2).2 (x1 + (1 : Int32)).toNatClampNeg), .int ((X 2).2 (x1 + (2 : Int32)).toNatClampNeg), .int ((X 2).2 (x1 + (3 : Int32)).toNatClampNeg)] (am_sh I J)).bind (fun q => am_ev X amP_362 252 [.retAddr 2, .ref 0, .ref 139, .int x1] (q.1.toList ++ []) q.2)))) else (if (((X 2).2 x1.toNatClampNeg) &&& (63 : Int32)) = (10 : Int32) then (if (x1 + (1 : Int32)) < 0 ∨ (X 2).1 ≤ (x1 + (1 : Int32)).toNatClampNeg then none else (if (x1 + (2 : Int32)) < 0 ∨ (X 2).1 ≤ (x1 + (2 : Int32)).toNatClampNeg then none else (if (x1 + (3 : Int32)) < 0 ∨ (X 2).1 ≤ (x1 + (3 : Int32)).toNatClampNeg then none else (am_do X 165 [.ref 0, .int ((X 2).2 (x1 + (1 : Int32)).toNatClampNeg), .int ((X 2).2 (x1 + (2 : Int32)).toNatClampNeg), .int ((X 2).2 (x1 + (3 : Int32)).toNatClampNeg)] (am_sh I J)).bind (fun q => am_ev X amP_362 289 [.retAddr 2, .ref 0, .ref 139, .int x1] (q.1.toList ++ []) q.2)))) else (if (((X 2).2 x1.toNatClampNeg) &&& (63 : Int32)) = (11 : Int32) then (if (x1 + (1 : Int32)) < 0 ∨ (X 2).1 ≤ (x1 + (1 : Int32)).toNatClampNeg then none else (if (x1 + (2 : Int32)) < 0 ∨ (X 2).1 ≤ (x1 + (2 : Int32)).toNatClampNeg then none else (am_do X 166 [.ref 0, .int ((X 2).2 (x1 + (1 : Int32)).toNatClampNeg), .int ((X 2).2 (x1 + (2 : Int32)).toNatClampNeg)] (am_sh I J)).bind (fun q => am_ev X amP_362 321 [.retAddr 2, .ref 0, .ref 139, .int x1] (q.1.toList ++ []) q.2))) else (if (((X 2).2 x1.toNatClampNeg) &&& (63 : Int32)) = (12 : Int32) then (if (x1 + (1 : Int32)) < 0 ∨ (X 2).1 ≤ (x1 + (1 : Int32)).toNatClampNeg then none else (if (x1 + (2 : Int32)) < 0 ∨ (X 2).1 ≤ (x1 + (2 : Int32)).toNatClampNeg then none else (if (x1 + (3 : Int32)) < 0 ∨ (X 2).1 ≤ (x1 + (3 : Int32)).toNatClampNeg then none else (am_do X 167 [.ref 0, .int ((X 2).2 (x1 + (1 : Int32)).toNatClampNeg), .int ((X 2).2 (x1 + (2 : Int32)).toNatClampNeg), .int ((X 2).2 (x1 + (3 : Int32)).toNatClampNeg)] (am_sh I J)).bind (fun q => am_ev X amP_362 353 [.retAddr 2, .ref 0, .ref 139, .int x1] (q.1.toList ++ []) q.2)))) else (if (((X 2).2 x1.toNatClampNeg) &&& (63 : Int32)) = (13 : Int32) then (if (x1 + (1 : Int32)) < 0 ∨ (X 2).1 ≤ (x1 + (1 : Int32)).toNatClampNeg then none else (if (x1 + (2 : Int32)) < 0 ∨ (X 2).1 ≤ (x1 + (2 : Int32)).toNatClampNeg then none else (if (x1 + (3 : Int32)) < 0 ∨ (X 2).1 ≤ (x1 + (3 : Int32)).toNatClampNeg then none else (am_do X 168 [.ref 0, .int ((X 2).2 (x1 + (1 : Int32)).toNatClampNeg), .int ((X 2).2 (x1 + (2 : Int32)).toNatClampNeg), .int ((X 2).2 (x1 + (3 : Int32)).toNatClampNeg)] (am_sh I J)).bind (fun q => am_ev X amP_362 390 [.retAddr 2, .ref 0, .ref 139, .int x1] (q.1.toList ++ []) q.2)))) else (if (((X 2).2 x1.toNatClampNeg) &&& (63 : Int32)) = (14 : Int32) then (if (x1 + (1 : Int32)) < 0 ∨ (X 2).1 ≤ (x1 + (1 : Int32)).toNatClampNeg then none else (if (x1 + (2 : Int32)) < 0 ∨ (X 2).1 ≤ (x1 + (2 : Int32)).toNatClampNeg then none else (if (x1 + (3 : Int32)) < 0 ∨ (X 2).1 ≤ (x1 + (3 : Int32)).toNatClampNeg then none else (am_do X 169 [.ref 0, .int ((X 2).2 (x1 + (1 : Int32)).toNatClampNeg), .int ((X 2).2 (x1 + (2 : Int32)).toNatClampNeg), .int ((X 2).2 (x1 + (3 : Int32)).toNatClampNeg)] (am_sh I J)).bind (fun q => am_ev X amP_362 427 [.retAddr 2, .ref 0, .ref 139, .int x1] (q.1.toList ++ []) q.2)))) else (if (((X 2).2 x1.toNatClampNeg) &&& (63 : Int32)) = (15 : Int32) then (if (x1 + (1 : Int32)) < 0 ∨ (X 2).1 ≤ (x1 + (1 : Int32)).toNatClampNeg then none else (if (x1 + (2 : Int32)) < 0 ∨ (X 2).1 ≤ (x1 + (2 : Int32)).toNatClampNeg then none else (if (x1 + (3 : Int32)) < 0 ∨ (X 2).1 ≤ (x1 + (3 : Int32)).toNatClampNeg then none else (if (x1 + (4 : Int32)) < 0 ∨ (X 2).1 ≤ (x1 + (4 : Int32)).toNatClampNeg then none else (am_do X 170 [.ref 0, .int ((X 2).2 (x1 + (1 : Int32)).toNatClampNeg), .int ((X 2).2 (x1 + (2 : Int32)).toNatClampNeg), .int ((X 2).2 (x1 + (3 : Int32)).toNatClampNeg), .int ((X 2).2 (x1 + (4 : Int32)).toNatClampNeg)] (am_sh I J)).bind (fun q => am_ev X amP_362 469 [.retAddr 2, .ref 0, .ref 139, .int x1] (q.1.toList ++ []) q.2))))) else (if (((X 2).2 x1.toNatClampNeg) &&& (63 : Int32)) = (16 : Int32) then (if (x1 + (1 : Int32)) < 0 ∨ (X 2).1 ≤ (x1 + (1 : Int32)).toNatClampNeg then none else (if (x1 + (2 : Int32)) < 0 ∨ (X 2).1 ≤ (x1 + (2 : Int32)).toNatClampNeg then none else (if (x1 + (3 : Int32)) < 0 ∨ (X 2).1 ≤ (x1 + (3 : Int32)).toNatClampNeg then none else (if (x1 + (4 : Int32)) < 0 ∨ (X 2).1 ≤ (x1 + (4 : Int32)).toNatClampNeg then none else (am_do X 171 [.ref 0, .int ((X 2).2 (x1 + (1 : Int32)).toNatClampNeg), .int ((X 2).2 (x1 + (2 : Int32)).toNatClampNeg), .int ((X 2).2 (x1 + (3 : Int32)).toNatClampNeg), .int ((X 2).2 (x1 + (4 : Int32)).toNatClampNeg)] (am_sh I J)).bind (fun q => am_ev X amP_362 516 [.retAddr 2, .ref 0, .ref 139, .int x1] (q.1.toList ++ []) q.2))))) else (if (((X 2).2 x1.toNatClampNeg) &&& (63 : Int32)) = (17 : Int32) then (if (x1 + (1 : Int32)) < 0 ∨ (X 2).1 ≤ (x1 + (1 : Int32)).toNatClampNeg then none else (if (x1 + (2 : Int32)) < 0 ∨ (X 2).1 ≤ (x1 + (2 : Int32)).toNatClampNeg then none else (am_do X 172 [.ref 0, .int ((X 2).2 (x1 + (1 : Int32)).toNatClampNeg), .int ((X 2).2 (x1 + (2 : Int32)).toNatClampNeg)] (am_sh I J)).bind (fun q => am_ev X amP_362 553 [.retAddr 2, .ref 0, .ref 139, .int x1] (q.1.toList ++ []) q.2))) else (if (((X 2).2 x1.toNatClampNeg) &&& (63 : Int32)) = (18 : Int32) then (if (x1 + (1 : Int32)) < 0 ∨ (X 2).1 ≤ (x1 + (1 : Int32)).toNatClampNeg then none else (if (x1 + (2 : Int32)) < 0 ∨ (X 2).1 ≤ (x1 + (2 : Int32)).toNatClampNeg then none else (if (x1 + (3 : Int32)) < 0 ∨ (X 2).1 ≤ (x1 + (3 : Int32)).toNatClampNeg then none else (if (x1 + (4 : Int32)) < 0 ∨ (X 2).1 ≤ (x1 + (4 : Int32)).toNatClampNeg then none else (am_do X 173 [.ref 0, .int ((X 2).2 (x1 + (1 : Int32)).toNatClampNeg), .int ((X 2).2 (x1 + (2 : Int32)).toNatClampNeg), .int ((X 2).2 (x1 + (3 : Int32)).toNatClampNeg), .int ((X 2).2 (x1 + (4 : Int32)).toNatClampNeg)] (am_sh I J)).bind (fun q => am_ev X amP_362 590 [.retAddr 2, .ref 0, .ref 139, .int x1] (q.1.toList ++ []) q.2))))) else (if (((X 2).2 x1.toNatClampNeg) &&& (63 : Int32)) = (19 : Int32) then (if (x1 + (1 : Int32)) < 0 ∨ (X 2).1 ≤ (x1 + (1 : Int32)).toNatClampNeg then none else (if (x1 + (2 : Int32)) < 0 ∨ (X 2).1 ≤ (x1 + (2 : Int32)).toNatClampNeg then none else (am_do X 174 [.ref 0, .int ((X 2).2 (x1 + (1 : Int32)).toNatClampNeg), .int ((X 2).2 (x1 + (2 : Int32)).toNatClampNeg)] (am_sh I J)).bind (fun q => am_ev X amP_362 627 [.retAddr 2, .ref 0, .ref 139, .int x1] (q.1.toList ++ []) q.2))) else (if (((X 2).2 x1.toNatClampNeg) &&& (63 : Int32)) = (20 : Int32) then (if (x1 + (1 : Int32)) < 0 ∨ (X 2).1 ≤ (x1 + (1 : Int32)).toNatClampNeg then none else (am_do X 175 [.ref 0, .int ((X 2).2 (x1 + (1 : Int32)).toNatClampNeg)] (am_sh I J)).bind (fun q => am_ev X amP_362 649 [.retAddr 2, .ref 0, .ref 139, .int x1] (q.1.toList ++ []) q.2)) else (if (((X 2).2 x1.toNatClampNeg) &&& (63 : Int32)) = (21 : Int32) then (if (x1 + (1 : Int32)) < 0 ∨ (X 2).1 ≤ (x1 + (1 : Int32)).toNatClampNeg then none else (am_do X 176 [.ref 0, .int ((X 2).2 (x1 + (1 : Int32)).toNatClampNeg)] (am_sh I J)).bind (fun q => am_ev X amP_362 666 [.retAddr 2, .ref 0, .ref 139, .int x1] (q.1.toList ++ []) q.2)) else (if (((X 2).2 x1.toNatClampNeg) &&& (63 : Int32)) = (22 : Int32) then (if (x1 + (1 : Int32)) < 0 ∨ (X 2).1 ≤ (x1 + (1 : Int32)).toNatClampNeg then none else (am_do X 177 [.ref 0, .int ((X 2).2 (x1 + (1 : Int32)).toNatClampNeg)] (am_sh I J)).bind (fun q => am_ev X amP_362 683 [.retAddr 2, .ref 0, .ref 139, .int x1] (q.1.toList ++ []) q.2)) else (if (((X 2).2 x1.toNatClampNeg) &&& (63 : Int32)) = (23 : Int32) then (if (x1 + (1 : Int32)) < 0 ∨ (X 2).1 ≤ (x1 + (1 : Int32)).toNatClampNeg then none else (if (x1 + (2 : Int32)) < 0 ∨ (X 2).1 ≤ (x1 + (2 : Int32)).toNatClampNeg then none else (if (x1 + (3 : Int32)) < 0 ∨ (X 2).1 ≤ (x1 + (3 : Int32)).toNatClampNeg then none else (if (x1 + (4 : Int32)) < 0 ∨ (X 2).1 ≤ (x1 + (4 : Int32)).toNatClampNeg then none else (am_do X 178 [.ref 0, .int ((X 2).2 (x1 + (1 : Int32)).toNatClampNeg), .int ((X 2).2 (x1 + (2 : Int32)).toNatClampNeg), .int ((X 2).2 (x1 + (3 : Int32)).toNatClampNeg), .int ((X 2).2 (x1 + (4 : Int32)).toNatClampNeg)] (am_sh I J)).bind (fun q => am_ev X amP_362 715 [.retAddr 2, .ref 0, .ref 139, .int x1] (q.1.toList ++ []) q.2))))) else (if (((X 2).2 x1.toNatClampNeg) &&& (63 : Int32)) = (24 : Int32) then (if (x1 + (1 : Int32)) < 0 ∨ (X 2).1 ≤ (x1 + (1 : Int32)).toNatClampNeg then none else (if (x1 + (2 : Int32)) < 0 ∨ (X 2).1 ≤ (x1 + (2 : Int32)).toNatClampNeg then none else (am_do X 179 [.ref 0, .int ((X 2).2 (x1 + (1 : Int32)).toNatClampNeg), .int ((X 2).2 (x1 + (2 : Int32)).toNatClampNeg)] (am_sh I J)).bind (fun q => am_ev X amP_362 752 [.retAddr 2, .ref 0, .ref 139, .int x1] (q.1.toList ++ []) q.2))) else (if (((X 2).2 x1.toNatClampNeg) &&& (63 : Int32)) = (25 : Int32) then (if (x1 + (1 : Int32)) < 0 ∨ (X 2).1 ≤ (x1 + (1 : Int32)).toNatClampNeg then none else (if (x1 + (2 : Int32)) < 0 ∨ (X 2).1 ≤ (x1 + (2 : Int32)).toNatClampNeg then none else (am_do X 180 [.ref 0, .int ((X 2).2 (x1 + (1 : Int32)).toNatClampNeg), .int ((X 2).2 (x1 + (2 : Int32)).toNatClampNeg)] (am_sh I J)).bind (fun q => am_ev X amP_362 779 [.retAddr 2, .ref 0, .ref 139, .int x1] (q.1.toList ++ []) q.2))) else (if (((X 2).2 x1.toNatClampNeg) &&& (63 : Int32)) = (26 : Int32) then (if (x1 + (1 : Int32)) < 0 ∨ (X 2).1 ≤ (x1 + (1 : Int32)).toNatClampNeg then none else (if (x1 + (2 : Int32)) < 0 ∨ (X 2).1 ≤ (x1 + (2 : Int32)).toNatClampNeg then none else (am_do X 181 [.ref 0, .int ((X 2).2 (x1 + (1 : Int32)).toNatClampNeg), .int ((X 2).2 (x1 + (2 : Int32)).toNatClampNeg)] (am_sh I J)).bind (fun q => am_ev X amP_362 806 [.retAddr 2, .ref 0, .ref 139, .int x1] (q.1.toList ++ []) q.2))) else (if (((X 2).2 x1.toNatClampNeg) &&& (63 : Int32)) = (27 : Int32) then (if (x1 + (1 : Int32)) < 0 ∨ (X 2).1 ≤ (x1 + (1 : Int32)).toNatClampNeg then none else (am_do X 182 [.ref 0, .int ((X 2).2 (x1 + (1 : Int32)).toNatClampNeg)] (am_sh I J)).bind (fun q => am_ev X amP_362 828 [.retAddr 2, .ref 0, .ref 139, .int x1] (q.1.toList ++ []) q.2)) else (if (((X 2).2 x1.toNatClampNeg) &&& (63 : Int32)) = (28 : Int32) then (if (x1 + (1 : Int32)) < 0 ∨ (X 2).1 ≤ (x1 + (1 : Int32)).toNatClampNeg then none else (am_do X 183 [.ref 0, .int ((X 2).2 (x1 + (1 : Int32)).toNatClampNeg)] (am_sh I J)).bind (fun q => am_ev X amP_362 845 [.retAddr 2, .ref 0, .ref 139, .int x1] (q.1.toList ++ []) q.2)) else (if (((X 2).2 x1.toNatClampNeg) &&& (63 : Int32)) = (29 : Int32) then (if (x1 + (1 : Int32)) < 0 ∨ (X 2).1 ≤ (x1 + (1 : Int32)).toNatClampNeg then none else (if (x1 + (2 : Int32)) < 0 ∨ (X 2).1 ≤ (x1 + (2 : Int32)).toNatClampNeg then none else (am_do X 184 [.ref 0, .int ((X 2).2 (x1 + (1 : Int32)).toNatClampNeg), .int ((X 2).2 (x1 + (2 : Int32)).toNatClampNeg)] (am_sh I J)).bind (fun q => am_ev X amP_362 867 [.retAddr 2, .ref 0, .ref 139, .int x1] (q.1.toList ++ []) q.2))) else (if (((X 2).2 x1.toNatClampNeg) &&& (63 : Int32)) = (30 : Int32) then (if (x1 + (1 : Int32)) < 0 ∨ (X 2).1 ≤ (x1 + (1 : Int32)).toNatClampNeg then none else (am_do X 185 [.ref 0, .int ((X 2).2 (x1 + (1 : Int32)).toNatClampNeg)] (am_sh I J)).bind (fun q => am_ev X amP_362 889 [.retAddr 2, .ref 0, .ref 139, .int x1] (q.1.toList ++ []) q.2)) else (if (((X 2).2 x1.toNatClampNeg) &&& (63 : Int32)) = (31 : Int32) then (if (x1 + (1 : Int32)) < 0 ∨ (X 2).1 ≤ (x1 + (1 : Int32)).toNatClampNeg then none else (am_do X 186 [.ref 0, .int ((X 2).2 (x1 + (1 : Int32)).toNatClampNeg)] (am_sh I J)).bind (fun q => am_ev X amP_362 906 [.retAddr 2, .ref 0, .ref 139, .int x1] (q.1.toList ++ []) q.2)) else (if (((X 2).2 x1.toNatClampNeg) &&& (63 : Int32)) = (32 : Int32) then (if (x1 + (1 : Int32)) < 0 ∨ (X 2).1 ≤ (x1 + (1 : Int32)).toNatClampNeg then none else (if (x1 + (2 : Int32)) < 0 ∨ (X 2).1 ≤ (x1 + (2 : Int32)).toNatClampNeg then none else (am_do X 187 [.ref 0, .int ((X 2).2 (x1 + (1 : Int32)).toNatClampNeg), .int ((X 2).2 (x1 + (2 : Int32)).toNatClampNeg)] (am_sh I J)).bind (fun q => am_ev X amP_362 928 [.retAddr 2, .ref 0, .ref 139, .int x1] (q.1.toList ++ []) q.2))) else (if (((X 2).2 x1.toNatClampNeg) &&& (63 : Int32)) = (33 : Int32) then (if (x1 + (1 : Int32)) < 0 ∨ (X 2).1 ≤ (x1 + (1 : Int32)).toNatClampNeg then none else (if (x1 + (2 : Int32)) < 0 ∨ (X 2).1 ≤ (x1 + (2 : Int32)).toNatClampNeg then none else (am_do X 188 [.ref 0, .int ((X 2).2 (x1 + (1 : Int32)).toNatClampNeg), .int ((X 2).2 (x1 + (2 : Int32)).toNatClampNeg)] (am_sh I J)).bind (fun q => am_ev X amP_362 955 [.retAddr 2, .ref 0, .ref 139, .int x1] (q.1.toList ++ []) q.2))) else (if (((X 2).2 x1.toNatClampNeg) &&& (63 : Int32)) = (34 : Int32) then (if (x1 + (1 : Int32)) < 0 ∨ (X 2).1 ≤ (x1 + (1 : Int32)).toNatClampNeg then none else (if (x1 + (2 : Int32)) < 0 ∨ (X 2).1 ≤ (x1 + (2 : Int32)).toNatClampNeg then none else (if (x1 + (3 : Int32)) < 0 ∨ (X 2).1 ≤ (x1 + (3 : Int32)).toNatClampNeg then none else (am_do X 189 [.ref 0, .int ((X 2).2 (x1 + (1 : Int32)).toNatClampNeg), .int ((X 2).2 (x1 + (2 : Int32)).toNatClampNeg), .int ((X 2).2 (x1 + (3 : Int32)).toNatClampNeg)] (am_sh I J)).bind (fun q => am_ev X amP_362 987 [.retAddr 2, .ref 0, .ref 139, .int x1] (q.1.toList ++ []) q.2)))) else (if (((X 2).2 x1.toNatClampNeg) &&& (63 : Int32)) = (35 : Int32) then (if (x1 + (1 : Int32)) < 0 ∨ (X 2).1 ≤ (x1 + (1 : Int32)).toNatClampNeg then none else (if (x1 + (2 : Int32)) < 0 ∨ (X 2).1 ≤ (x1 + (2 : Int32)).toNatClampNeg then none else (am_do X 190 [.ref 0, .int ((X 2).2 (x1 + (1 : Int32)).toNatClampNeg), .int ((X 2).2 (x1 + (2 : Int32)).toNatClampNeg)] (am_sh I J)).bind (fun q => am_ev X amP_362 1019 [.retAddr 2, .ref 0, .ref 139, .int x1] (q.1.toList ++ []) q.2))) else (if (((X 2).2 x1.toNatClampNeg) &&& (63 : Int32)) = (36 : Int32) then (if (x1 + (1 : Int32)) < 0 ∨ (X 2).1 ≤ (x1 + (1 : Int32)).toNatClampNeg then none else (am_do X 191 [.ref 0, .int ((X 2).2 (x1 + (1 : Int32)).toNatClampNeg)] (am_sh I J)).bind (fun q => am_ev X amP_362 1041 [.retAddr 2, .ref 0, .ref 139, .int x1] (q.1.toList ++ []) q.2)) else (if (((X 2).2 x1.toNatClampNeg) &&& (63 : Int32)) = (37 : Int32) then (if (x1 + (1 : Int32)) < 0 ∨ (X 2).1 ≤ (x1 + (1 : Int32)).toNatClampNeg then none else (if (x1 + (2 : Int32)) < 0 ∨ (X 2).1 ≤ (x1 + (2 : Int32)).toNatClampNeg then none else (am_do X 192 [.ref 0, .int ((X 2).2 (x1 + (1 : Int32)).toNatClampNeg), .int ((X 2).2 (x1 + (2 : Int32)).toNatClampNeg)] (am_sh I J)).bind (fun q => am_ev X amP_362 1063 [.retAddr 2, .ref 0, .ref 139, .int x1] (q.1.toList ++ []) q.2))) else (if (((X 2).2 x1.toNatClampNeg) &&& (63 : Int32)) = (38 : Int32) then (if (x1 + (1 : Int32)) < 0 ∨ (X 2).1 ≤ (x1 + (1 : Int32)).toNatClampNeg then none else (if (x1 + (2 : Int32)) < 0 ∨ (X 2).1 ≤ (x1 + (2 : Int32)).toNatClampNeg then none else (am_do X 193 [.ref 0, .int ((X 2).2 (x1 + (1 : Int32)).toNatClampNeg), .int ((X 2).2 (x1 + (2 : Int32)).toNatClampNeg)] (am_sh I J)).bind (fun q => am_ev X amP_362 1090 [.retAddr 2, .ref 0, .ref 139, .int x1] (q.1.toList ++ []) q.2))) else (if (((X 2).2 x1.toNatClampNeg) &&& (63 : Int32)) = (39 : Int32) then (if (x1 + (1 : Int32)) < 0 ∨ (X 2).1 ≤ (x1 + (1 : Int32)).toNatClampNeg then none else (am_do X 194 [.ref 0, .int ((X 2).2 (x1 + (1 : Int32)).toNatClampNeg)] (am_sh I J)).bind (fun q => am_ev X amP_362 1112 [.retAddr 2, .ref 0, .ref 139, .int x1] (q.1.toList ++ []) q.2)) else (if (((X 2).2 x1.toNatClampNeg) &&& (63 : Int32)) = (40 : Int32) then (if (x1 + (1 : Int32)) < 0 ∨ (X 2).1 ≤ (x1 + (1 : Int32)).toNatClampNeg then none else (am_do X 195 [.ref 0, .int ((X 2).2 (x1 + (1 : Int32)).toNatClampNeg)] (am_sh I J)).bind (fun q => am_ev X amP_362 1129 [.retAddr 2, .ref 0, .ref 139, .int x1] (q.1.toList ++ []) q.2)) else (if (((X 2).2 x1.toNatClampNeg) &&& (63 : Int32)) = (41 : Int32) then (if (x1 + (1 : Int32)) < 0 ∨ (X 2).1 ≤ (x1 + (1 : Int32)).toNatClampNeg then none else (am_do X 196 [.ref 0, .int ((X 2).2 (x1 + (1 : Int32)).toNatClampNeg)] (am_sh I J)).bind (fun q => am_ev X amP_362 1146 [.retAddr 2, .ref 0, .ref 139, .int x1] (q.1.toList ++ []) q.2)) else (if (((X 2).2 x1.toNatClampNeg) &&& (63 : Int32)) = (42 : Int32) then (if (x1 + (1 : Int32)) < 0 ∨ (X 2).1 ≤ (x1 + (1 : Int32)).toNatClampNeg then none else (if (x1 + (2 : Int32)) < 0 ∨ (X 2).1 ≤ (x1 + (2 : Int32)).toNatClampNeg then none else (if (x1 + (3 : Int32)) < 0 ∨ (X 2).1 ≤ (x1 + (3 : Int32)).toNatClampNeg then none else (am_do X 197 [.ref 0, .int ((X 2).2 (x1 + (1 : Int32)).toNatClampNeg), .int ((X 2).2 (x1 + (2 : Int32)).toNatClampNeg), .int ((X 2).2 (x1 + (3 : Int32)).toNatClampNeg)] (am_sh I J)).bind (fun q => am_ev X amP_362 1173 [.retAddr 2, .ref 0, .ref 139, .int x1] (q.1.toList ++ []) q.2)))) else (if (((X 2).2 x1.toNatClampNeg) &&& (63 : Int32)) = (43 : Int32) then (if (x1 + (1 : Int32)) < 0 ∨ (X 2).1 ≤ (x1 + (1 : Int32)).toNatClampNeg then none else (if (x1 + (2 : Int32)) < 0 ∨ (X 2).1 ≤ (x1 + (2 : Int32)).toNatClampNeg then none else (if ((X 2).2 (x1 + (2 : Int32)).toNatClampNeg) = 0 then (am_do X 198 [.ref 0, .int ((X 2).2 (x1 + (1 : Int32)).toNatClampNeg), .int (0 : Int32)] (am_sh I J)).bind (fun q => am_ev X amP_362 1209 [.retAddr 2, .ref 0, .ref 139, .int x1] (q.1.toList ++ []) q.2) else (am_do X 198 [.ref 0, .int ((X 2).2 (x1 + (1 : Int32)).toNatClampNeg), .int (1 : Int32)] (am_sh I J)).bind (fun q => am_ev X amP_362 1209 [.retAddr 2, .ref 0, .ref 139, .int x1] (q.1.toList ++ []) q.2)))) else (if (((X 2).2 x1.toNatClampNeg) &&& (63 : Int32)) = (44 : Int32) then (if (x1 + (1 : Int32)) < 0 ∨ (X 2).1 ≤ (x1 + (1 : Int32)).toNatClampNeg then none else (am_do X 199 [.ref 0, .int ((X 2).2 (x1 + (1 : Int32)).toNatClampNeg)] (am_sh I J)).bind (fun q => am_ev X amP_362 1235 [.retAddr 2, .ref 0, .ref 139, .int x1] (q.1.toList ++ []) q.2)) else (if (((X 2).2 x1.toNatClampNeg) &&& (63 : Int32)) = (45 : Int32) then (if (x1 + (1 : Int32)) < 0 ∨ (X 2).1 ≤ (x1 + (1 : Int32)).toNatClampNeg then none else (am_do X 200 [.ref 0, .int ((X 2).2 (x1 + (1 : Int32)).toNatClampNeg)] (am_sh I J)).bind (fun q => am_ev X amP_362 1252 [.retAddr 2, .ref 0, .ref 139, .int x1] (q.1.toList ++ []) q.2)) else (if (((X 2).2 x1.toNatClampNeg) &&& (63 : Int32)) = (46 : Int32) then (if (x1 + (1 : Int32)) < 0 ∨ (X 2).1 ≤ (x1 + (1 : Int32)).toNatClampNeg then none else (am_do X 201 [.ref 0, .int ((X 2).2 (x1 + (1 : Int32)).toNatClampNeg)] (am_sh I J)).bind (fun q => am_ev X amP_362 1269 [.retAddr 2, .ref 0, .ref 139, .int x1] (q.1.toList ++ []) q.2)) else (if (((X 2).2 x1.toNatClampNeg) &&& (63 : Int32)) = (47 : Int32) then (am_do X 202 [.ref 0] (am_sh I J)).bind (fun q => am_ev X amP_362 1281 [.retAddr 2, .ref 0, .ref 139, .int x1] (q.1.toList ++ []) q.2) else (if (((X 2).2 x1.toNatClampNeg) &&& (63 : Int32)) = (48 : Int32) then (if (x1 + (1 : Int32)) < 0 ∨ (X 2).1 ≤ (x1 + (1 : Int32)).toNatClampNeg then none else (am_do X 203 [.ref 0, .int ((X 2).2 (x1 + (1 : Int32)).toNatClampNeg)] (am_sh I J)).bind (fun q => am_ev X amP_362 1293 [.retAddr 2, .ref 0, .ref 139, .int x1] (q.1.toList ++ []) q.2)) else (if (((X 2).2 x1.toNatClampNeg) &&& (63 : Int32)) = (49 : Int32) then (am_do X 204 [.ref 0] (am_sh I J)).bind (fun q => am_ev X amP_362 1305 [.retAddr 2, .ref 0, .ref 139, .int x1] (q.1.toList ++ []) q.2) else (if (((X 2).2 x1.toNatClampNeg) &&& (63 : Int32)) = (50 : Int32) then (if (x1 + (1 : Int32)) < 0 ∨ (X 2).1 ≤ (x1 + (1 : Int32)).toNatClampNeg then none else (am_do X 205 [.ref 0, .int ((X 2).2 (x1 + (1 : Int32)).toNatClampNeg)] (am_sh I J)).bind (fun q => am_ev X amP_362 1317 [.retAddr 2, .ref 0, .ref 139, .int x1] (q.1.toList ++ []) q.2)) else (if (((X 2).2 x1.toNatClampNeg) &&& (63 : Int32)) = (51 : Int32) then (am_do X 206 [.ref 0] (am_sh I J)).bind (fun q => am_ev X amP_362 1329 [.retAddr 2, .ref 0, .ref 139, .int x1] (q.1.toList ++ []) q.2) else (if (((X 2).2 x1.toNatClampNeg) &&& (63 : Int32)) = (52 : Int32) then (if (x1 + (1 : Int32)) < 0 ∨ (X 2).1 ≤ (x1 + (1 : Int32)).toNatClampNeg then none else (am_do X 207 [.ref 0, .int ((X 2).2 (x1 + (1 : Int32)).toNatClampNeg)] (am_sh I J)).bind (fun q => am_ev X amP_362 1341 [.retAddr 2, .ref 0, .ref 139, .int x1] (q.1.toList ++ []) q.2)) else am_ev X amP_362 10 [.retAddr 2, .ref 0, .ref 139, .int (x1 + (6 : Int32))] [] (am_sh I J)))))))))))))))))))))))))))))))))))))))))))))))))))))))) := by
  refine (ev_iload rfl rfl).trans ?_
  refine (ev_aloadS rfl rfl).trans ?_
  refine (ev_alS rfl (by decide)).trans ?_
  refine (ev_const1 (v := (6 : Int32)) rfl am_ci_6).trans ?_
  refine (ev_isub rfl).trans ?_
  refine (ev_icmp4 rfl).trans (am_ite (fun c1 => ?_) (fun c1 => ?_))
  · refine (ev_const0 (v := (1 : Int32)) rfl am_ci_1).trans ?_
    exact ev_zret rfl (by decide)
  · refine (ev_aloadS rfl rfl).trans ?_
    refine (ev_iload rfl rfl).trans ?_
    refine (ev_iaS rfl (by decide)).trans (am_itn (fun g2 => ?_))
    refine (ev_const1 (v := (63 : Int32)) rfl am_ci_63).trans ?_
    refine (ev_iand rfl).trans ?_
    refine (am_dec ((((X 2).2 x1.toNatClampNeg) &&& (63 : Int32)) = (0 : Int32))).trans (am_ite (fun s3_0 => ?_) (fun s3_0 => ?_))
    · refine (ev_tswIn (k := 0) rfl (by rw [s3_0]; decide) rfl).trans ?_
      refine (ev_aload rfl rfl).trans ?_
      refine (ev_aloadS rfl rfl).trans ?_
      refine (ev_iload rfl rfl).trans ?_
      refine (ev_const0 (v := (1 : Int32)) rfl am_ci_1).trans ?_
      refine (ev_iadd rfl).trans ?_
      refine (ev_iaS rfl (by decide)).trans (am_itn (fun g4 => ?_))
      refine (ev_aloadS rfl rfl).trans ?_
      refine (ev_iload rfl rfl).trans ?_
      refine (ev_const0 (v := (2 : Int32)) rfl am_ci_2).trans ?_
      refine (ev_iadd rfl).trans ?_
      refine (ev_iaS rfl (by decide)).trans (am_itn (fun g5 => ?_))
      refine (ev_aloadS rfl rfl).trans ?_
      refine (ev_iload rfl rfl).trans ?_
      refine (ev_const0 (v := (3 : Int32)) rfl am_ci_3).trans ?_
      refine (ev_iadd rfl).trans ?_
      refine (ev_iaS rfl (by decide)).trans (am_itn (fun g6 => ?_))
      refine (ev_aloadS rfl rfl).trans ?_
      refine (ev_iload rfl rfl).trans ?_
      refine (ev_const0 (v := (4 : Int32)) rfl am_ci_4).trans ?_
      refine (ev_iadd rfl).trans ?_
      refine (ev_iaS rfl (by decide)).trans (am_itn (fun g7 => ?_))
      refine (ev_aloadS rfl rfl).trans ?_
      refine (ev_iload rfl rfl).trans ?_
      refine (ev_const0 (v := (5 : Int32)) rfl am_ci_5).trans ?_
      refine (ev_iadd rfl).trans ?_
      refine (ev_iaS rfl (by decide)).trans (am_itn (fun g8 => ?_))
      exact ev_invv (as := [.int ((X 2).2 (x1 + (5 : Int32)).toNatClampNeg), .int ((X 2).2 (x1 + (4 : Int32)).toNatClampNeg), .int ((X 2).2 (x1 + (3 : Int32)).toNatClampNeg), .int ((X 2).2 (x1 + (2 : Int32)).toNatClampNeg), .int ((X 2).2 (x1 + (1 : Int32)).toNatClampNeg)]) rfl (by decide) am_K_0 rfl (by simp [Value.category])
    refine (am_dec ((((X 2).2 x1.toNatClampNeg) &&& (63 : Int32)) = (1 : Int32))).trans (am_ite (fun s3_1 => ?_) (fun s3_1 => ?_))
    · refine (ev_tswIn (k := 1) rfl (by rw [s3_1]; decide) rfl).trans ?_
      refine (ev_aload rfl rfl).trans ?_
      refine (ev_aloadS rfl rfl).trans ?_
      refine (ev_iload rfl rfl).trans ?_
      refine (ev_const0 (v := (1 : Int32)) rfl am_ci_1).trans ?_
      refine (ev_iadd rfl).trans ?_
      refine (ev_iaS rfl (by decide)).trans (am_itn (fun g4 => ?_))
      exact ev_invv (as := [.int ((X 2).2 (x1 + (1 : Int32)).toNatClampNeg)]) rfl (by decide) am_K_0 rfl (by simp [Value.category])
    refine (am_dec ((((X 2).2 x1.toNatClampNeg) &&& (63 : Int32)) = (2 : Int32))).trans (am_ite (fun s3_2 => ?_) (fun s3_2 => ?_))
    · refine (ev_tswIn (k := 2) rfl (by rw [s3_2]; decide) rfl).trans ?_
      refine (ev_aload rfl rfl).trans ?_
      exact ev_invv (as := []) rfl (by decide) am_K_0 rfl (by simp [Value.category])
    refine (am_dec ((((X 2).2 x1.toNatClampNeg) &&& (63 : Int32)) = (3 : Int32))).trans (am_ite (fun s3_3 => ?_) (fun s3_3 => ?_))
    · refine (ev_tswIn (k := 3) rfl (by rw [s3_3]; decide) rfl).trans ?_
      refine (ev_aload rfl rfl).trans ?_
      refine (ev_aloadS rfl rfl).trans ?_
      refine (ev_iload rfl rfl).trans ?_
      refine (ev_const0 (v := (1 : Int32)) rfl am_ci_1).trans ?_
      refine (ev_iadd rfl).trans ?_
      refine (ev_iaS rfl (by decide)).trans (am_itn (fun g4 => ?_))
      exact ev_invv (as := [.int ((X 2).2 (x1 + (1 : Int32)).toNatClampNeg)]) rfl (by decide) am_K_0 rfl (by simp [Value.category])
    refine (am_dec ((((X 2).2 x1.toNatClampNeg) &&& (63 : Int32)) = (4 : Int32))).trans (am_ite (fun s3_4 => ?_) (fun s3_4 => ?_))
    · refine (ev_tswIn (k := 4) rfl (by rw [s3_4]; decide) rfl).trans ?_
      refine (ev_aload rfl rfl).trans ?_
      refine (ev_aloadS rfl rfl).trans ?_
      refine (ev_iload rfl rfl).trans ?_
      refine (ev_const0 (v := (1 : Int32)) rfl am_ci_1).trans ?_
      refine (ev_iadd rfl).trans ?_
      refine (ev_iaS rfl (by decide)).trans (am_itn (fun g4 => ?_))
      exact ev_invv (as := [.int ((X 2).2 (x1 + (1 : Int32)).toNatClampNeg)]) rfl (by decide) am_K_0 rfl (by simp [Value.category])
    refine (am_dec ((((X 2).2 x1.toNatClampNeg) &&& (63 : Int32)) = (5 : Int32))).trans (am_ite (fun s3_5 => ?_) (fun s3_5 => ?_))
    · refine (ev_tswIn (k := 5) rfl (by rw [s3_5]; decide) rfl).trans ?_
      refine (ev_aload rfl rfl).trans ?_
      refine (ev_aloadS rfl rfl).trans ?_
      refine (ev_iload rfl rfl).trans ?_
      refine (ev_const0 (v := (1 : Int32)) rfl am_ci_1).trans ?_
      refine (ev_iadd rfl).trans ?_
      refine (ev_iaS rfl (by decide)).trans (am_itn (fun g4 => ?_))
      refine (ev_aloadS rfl rfl).trans ?_
      refine (ev_iload rfl rfl).trans ?_
      refine (ev_const0 (v := (2 : Int32)) rfl am_ci_2).trans ?_
      refine (ev_iadd rfl).trans ?_
      refine (ev_iaS rfl (by decide)).trans (am_itn (fun g5 => ?_))
      exact ev_invv (as := [.int ((X 2).2 (x1 + (2 : Int32)).toNatClampNeg), .int ((X 2).2 (x1 + (1 : Int32)).toNatClampNeg)]) rfl (by decide) am_K_0 rfl (by simp [Value.category])
    refine (am_dec ((((X 2).2 x1.toNatClampNeg) &&& (63 : Int32)) = (6 : Int32))).trans (am_ite (fun s3_6 => ?_) (fun s3_6 => ?_))
    · refine (ev_tswIn (k := 6) rfl (by rw [s3_6]; decide) rfl).trans ?_
      refine (ev_aload rfl rfl).trans ?_
      exact ev_invv (as := []) rfl (by decide) am_K_0 rfl (by simp [Value.category])
    refine (am_dec ((((X 2).2 x1.toNatClampNeg) &&& (63 : Int32)) = (7 : Int32))).trans (am_ite (fun s3_7 => ?_) (fun s3_7 => ?_))
    · refine (ev_tswIn (k := 7) rfl (by rw [s3_7]; decide) rfl).trans ?_
      refine (ev_aload rfl rfl).trans ?_
      refine (ev_aloadS rfl rfl).trans ?_
      refine (ev_iload rfl rfl).trans ?_
      refine (ev_const0 (v := (1 : Int32)) rfl am_ci_1).trans ?_
      refine (ev_iadd rfl).trans ?_
      refine (ev_iaS rfl (by decide)).trans (am_itn (fun g4 => ?_))
      refine (ev_aloadS rfl rfl).trans ?_
      refine (ev_iload rfl rfl).trans ?_
      refine (ev_const0 (v := (2 : Int32)) rfl am_ci_2).trans ?_
      refine (ev_iadd rfl).trans ?_
      refine (ev_iaS rfl (by decide)).trans (am_itn (fun g5 => ?_))
      exact ev_invv (as := [.int ((X 2).2 (x1 + (2 : Int32)).toNatClampNeg), .int ((X 2).2 (x1 + (1 : Int32)).toNatClampNeg)]) rfl (by decide) am_K_0 rfl (by simp [Value.category])
    refine (am_dec ((((X 2).2 x1.toNatClampNeg) &&& (63 : Int32)) = (8 : Int32))).trans (am_ite (fun s3_8 => ?_) (fun s3_8 => ?_))
    · refine (ev_tswIn (k := 8) rfl (by rw [s3_8]; decide) rfl).trans ?_
      refine (ev_aload rfl rfl).trans ?_
      refine (ev_aloadS rfl rfl).trans ?_
      refine (ev_iload rfl rfl).trans ?_
      refine (ev_const0 (v := (1 : Int32)) rfl am_ci_1).trans ?_
      refine (ev_iadd rfl).trans ?_
      refine (ev_iaS rfl (by decide)).trans (am_itn (fun g4 => ?_))
      refine (ev_aloadS rfl rfl).trans ?_
      refine (ev_iload rfl rfl).trans ?_
      refine (ev_const0 (v := (2 : Int32)) rfl am_ci_2).trans ?_
      refine (ev_iadd rfl).trans ?_
      refine (ev_iaS rfl (by decide)).trans (am_itn (fun g5 => ?_))
      refine (ev_aloadS rfl rfl).trans ?_
      refine (ev_iload rfl rfl).trans ?_
      refine (ev_const0 (v := (3 : Int32)) rfl am_ci_3).trans ?_
      refine (ev_iadd rfl).trans ?_
      refine (ev_iaS rfl (by decide)).trans (am_itn (fun g6 => ?_))
      exact ev_invv (as := [.int ((X 2).2 (x1 + (3 : Int32)).toNatClampNeg), .int ((X 2).2 (x1 + (2 : Int32)).toNatClampNeg), .int ((X 2).2 (x1 + (1 : Int32)).toNatClampNeg)]) rfl (by decide) am_K_0 rfl (by simp [Value.category])
    refine (am_dec ((((X 2).2 x1.toNatClampNeg) &&& (63 : Int32)) = (9 : Int32))).trans (am_ite (fun s3_9 => ?_) (fun s3_9 => ?_))
    · refine (ev_tswIn (k := 9) rfl (by rw [s3_9]; decide) rfl).trans ?_
      refine (ev_aload rfl rfl).trans ?_
      refine (ev_aloadS rfl rfl).trans ?_
      refine (ev_iload rfl rfl).trans ?_
      refine (ev_const0 (v := (1 : Int32)) rfl am_ci_1).trans ?_
      refine (ev_iadd rfl).trans ?_
      refine (ev_iaS rfl (by decide)).trans (am_itn (fun g4 => ?_))
      refine (ev_aloadS rfl rfl).trans ?_
      refine (ev_iload rfl rfl).trans ?_
      refine (ev_const0 (v := (2 : Int32)) rfl am_ci_2).trans ?_
      refine (ev_iadd rfl).trans ?_
      refine (ev_iaS rfl (by decide)).trans (am_itn (fun g5 => ?_))
      refine (ev_aloadS rfl rfl).trans ?_
      refine (ev_iload rfl rfl).trans ?_
      refine (ev_const0 (v := (3 : Int32)) rfl am_ci_3).trans ?_
      refine (ev_iadd rfl).trans ?_
      refine (ev_iaS rfl (by decide)).trans (am_itn (fun g6 => ?_))
      exact ev_invv (as := [.int ((X 2).2 (x1 + (3 : Int32)).toNatClampNeg), .int ((X 2).2 (x1 + (2 : Int32)).toNatClampNeg), .int ((X 2).2 (x1 + (1 : Int32)).toNatClampNeg)]) rfl (by decide) am_K_0 rfl (by simp [Value.category])
    refine (am_dec ((((X 2).2 x1.toNatClampNeg) &&& (63 : Int32)) = (10 : Int32))).trans (am_ite (fun s3_10 => ?_) (fun s3_10 => ?_))
    · refine (ev_tswIn (k := 10) rfl (by rw [s3_10]; decide) rfl).trans ?_
      refine (ev_aload rfl rfl).trans ?_
      refine (ev_aloadS rfl rfl).trans ?_
      refine (ev_iload rfl rfl).trans ?_
      refine (ev_const0 (v := (1 : Int32)) rfl am_ci_1).trans ?_
      refine (ev_iadd rfl).trans ?_
      refine (ev_iaS rfl (by decide)).trans (am_itn (fun g4 => ?_))
      refine (ev_aloadS rfl rfl).trans ?_
      refine (ev_iload rfl rfl).trans ?_
      refine (ev_const0 (v := (2 : Int32)) rfl am_ci_2).trans ?_
      refine (ev_iadd rfl).trans ?_
      refine (ev_iaS rfl (by decide)).trans (am_itn (fun g5 => ?_))
      refine (ev_aloadS rfl rfl).trans ?_
      refine (ev_iload rfl rfl).trans ?_
      refine (ev_const0 (v := (3 : Int32)) rfl am_ci_3).trans ?_
      refine (ev_iadd rfl).trans ?_
      refine (ev_iaS rfl (by decide)).trans (am_itn (fun g6 => ?_))
      exact ev_invv (as := [.int ((X 2).2 (x1 + (3 : Int32)).toNatClampNeg), .int ((X 2).2 (x1 + (2 : Int32)).toNatClampNeg), .int ((X 2).2 (x1 + (1 : Int32)).toNatClampNeg)]) rfl (by decide) am_K_0 rfl (by simp [Value.category])
    refine (am_dec ((((X 2).2 x1.toNatClampNeg) &&& (63 : Int32)) = (11 : Int32))).trans (am_ite (fun s3_11 => ?_) (fun s3_11 => ?_))
    · refine (ev_tswIn (k := 11) rfl (by rw [s3_11]; decide) rfl).trans ?_
      refine (ev_aload rfl rfl).trans ?_
      refine (ev_aloadS rfl rfl).trans ?_
      refine (ev_iload rfl rfl).trans ?_
      refine (ev_const0 (v := (1 : Int32)) rfl am_ci_1).trans ?_
      refine (ev_iadd rfl).trans ?_
      refine (ev_iaS rfl (by decide)).trans (am_itn (fun g4 => ?_))
      refine (ev_aloadS rfl rfl).trans ?_
      refine (ev_iload rfl rfl).trans ?_
      refine (ev_const0 (v := (2 : Int32)) rfl am_ci_2).trans ?_
      refine (ev_iadd rfl).trans ?_
      refine (ev_iaS rfl (by decide)).trans (am_itn (fun g5 => ?_))
      exact ev_invv (as := [.int ((X 2).2 (x1 + (2 : Int32)).toNatClampNeg), .int ((X 2).2 (x1 + (1 : Int32)).toNatClampNeg)]) rfl (by decide) am_K_0 rfl (by simp [Value.category])
    refine (am_dec ((((X 2).2 x1.toNatClampNeg) &&& (63 : Int32)) = (12 : Int32))).trans (am_ite (fun s3_12 => ?_) (fun s3_12 => ?_))
    · refine (ev_tswIn (k := 12) rfl (by rw [s3_12]; decide) rfl).trans ?_
      refine (ev_aload rfl rfl).trans ?_
      refine (ev_aloadS rfl rfl).trans ?_
      refine (ev_iload rfl rfl).trans ?_
      refine (ev_const0 (v := (1 : Int32)) rfl am_ci_1).trans ?_
      refine (ev_iadd rfl).trans ?_
      refine (ev_iaS rfl (by decide)).trans (am_itn (fun g4 => ?_))
      refine (ev_aloadS rfl rfl).trans ?_
      refine (ev_iload rfl rfl).trans ?_
      refine (ev_const0 (v := (2 : Int32)) rfl am_ci_2).trans ?_
      refine (ev_iadd rfl).trans ?_
      refine (ev_iaS rfl (by decide)).trans (am_itn (fun g5 => ?_))
      refine (ev_aloadS rfl rfl).trans ?_
      refine (ev_iload rfl rfl).trans ?_
      refine (ev_const0 (v := (3 : Int32)) rfl am_ci_3).trans ?_
      refine (ev_iadd rfl).trans ?_
      refine (ev_iaS rfl (by decide)).trans (am_itn (fun g6 => ?_))
      exact ev_invv (as := [.int ((X 2).2 (x1 + (3 : Int32)).toNatClampNeg), .int ((X 2).2 (x1 + (2 : Int32)).toNatClampNeg), .int ((X 2).2 (x1 + (1 : Int32)).toNatClampNeg)]) rfl (by decide) am_K_0 rfl (by simp [Value.category])
    refine (am_dec ((((X 2).2 x1.toNatClampNeg) &&& (63 : Int32)) = (13 : Int32))).trans (am_ite (fun s3_13 => ?_) (fun s3_13 => ?_))
    · refine (ev_tswIn (k := 13) rfl (by rw [s3_13]; decide) rfl).trans ?_
      refine (ev_aload rfl rfl).trans ?_
      refine (ev_aloadS rfl rfl).trans ?_
      refine (ev_iload rfl rfl).trans ?_
      refine (ev_const0 (v := (1 : Int32)) rfl am_ci_1).trans ?_
      refine (ev_iadd rfl).trans ?_
      refine (ev_iaS rfl (by decide)).trans (am_itn (fun g4 => ?_))
      refine (ev_aloadS rfl rfl).trans ?_
      refine (ev_iload rfl rfl).trans ?_
      refine (ev_const0 (v := (2 : Int32)) rfl am_ci_2).trans ?_
      refine (ev_iadd rfl).trans ?_
      refine (ev_iaS rfl (by decide)).trans (am_itn (fun g5 => ?_))
      refine (ev_aloadS rfl rfl).trans ?_
      refine (ev_iload rfl rfl).trans ?_
      refine (ev_const0 (v := (3 : Int32)) rfl am_ci_3).trans ?_
      refine (ev_iadd rfl).trans ?_
      refine (ev_iaS rfl (by decide)).trans (am_itn (fun g6 => ?_))
      exact ev_invv (as := [.int ((X 2).2 (x1 + (3 : Int32)).toNatClampNeg), .int ((X 2).2 (x1 + (2 : Int32)).toNatClampNeg), .int ((X 2).2 (x1 + (1 : Int32)).toNatClampNeg)]) rfl (by decide) am_K_0 rfl (by simp [Value.category])
    refine (am_dec ((((X 2).2 x1.toNatClampNeg) &&& (63 : Int32)) = (14 : Int32))).trans (am_ite (fun s3_14 => ?_) (fun s3_14 => ?_))
    · refine (ev_tswIn (k := 14) rfl (by rw [s3_14]; decide) rfl).trans ?_
      refine (ev_aload rfl rfl).trans ?_
      refine (ev_aloadS rfl rfl).trans ?_
      refine (ev_iload rfl rfl).trans ?_
      refine (ev_const0 (v := (1 : Int32)) rfl am_ci_1).trans ?_
      refine (ev_iadd rfl).trans ?_
      refine (ev_iaS rfl (by decide)).trans (am_itn (fun g4 => ?_))
      refine (ev_aloadS rfl rfl).trans ?_
      refine (ev_iload rfl rfl).trans ?_
      refine (ev_const0 (v := (2 : Int32)) rfl am_ci_2).trans ?_
      refine (ev_iadd rfl).trans ?_
      refine (ev_iaS rfl (by decide)).trans (am_itn (fun g5 => ?_))
      refine (ev_aloadS rfl rfl).trans ?_
      refine (ev_iload rfl rfl).trans ?_
      refine (ev_const0 (v := (3 : Int32)) rfl am_ci_3).trans ?_
      refine (ev_iadd rfl).trans ?_
      refine (ev_iaS rfl (by decide)).trans (am_itn (fun g6 => ?_))
      exact ev_invv (as := [.int ((X 2).2 (x1 + (3 : Int32)).toNatClampNeg), .int ((X 2).2 (x1 + (2 : Int32)).toNatClampNeg), .int ((X 2).2 (x1 + (1 : Int32)).toNatClampNeg)]) rfl (by decide) am_K_0 rfl (by simp [Value.category])
    refine (am_dec ((((X 2).2 x1.toNatClampNeg) &&& (63 : Int32)) = (15 : Int32))).trans (am_ite (fun s3_15 => ?_) (fun s3_15 => ?_))
    · refine (ev_tswIn (k := 15) rfl (by rw [s3_15]; decide) rfl).trans ?_
      refine (ev_aload rfl rfl).trans ?_
      refine (ev_aloadS rfl rfl).trans ?_
      refine (ev_iload rfl rfl).trans ?_
      refine (ev_const0 (v := (1 : Int32)) rfl am_ci_1).trans ?_
      refine (ev_iadd rfl).trans ?_
      refine (ev_iaS rfl (by decide)).trans (am_itn (fun g4 => ?_))
      refine (ev_aloadS rfl rfl).trans ?_
      refine (ev_iload rfl rfl).trans ?_
      refine (ev_const0 (v := (2 : Int32)) rfl am_ci_2).trans ?_
      refine (ev_iadd rfl).trans ?_
      refine (ev_iaS rfl (by decide)).trans (am_itn (fun g5 => ?_))
      refine (ev_aloadS rfl rfl).trans ?_
      refine (ev_iload rfl rfl).trans ?_
      refine (ev_const0 (v := (3 : Int32)) rfl am_ci_3).trans ?_
      refine (ev_iadd rfl).trans ?_
      refine (ev_iaS rfl (by decide)).trans (am_itn (fun g6 => ?_))
      refine (ev_aloadS rfl rfl).trans ?_
      refine (ev_iload rfl rfl).trans ?_
      refine (ev_const0 (v := (4 : Int32)) rfl am_ci_4).trans ?_
      refine (ev_iadd rfl).trans ?_
      refine (ev_iaS rfl (by decide)).trans (am_itn (fun g7 => ?_))
      exact ev_invv (as := [.int ((X 2).2 (x1 + (4 : Int32)).toNatClampNeg), .int ((X 2).2 (x1 + (3 : Int32)).toNatClampNeg), .int ((X 2).2 (x1 + (2 : Int32)).toNatClampNeg), .int ((X 2).2 (x1 + (1 : Int32)).toNatClampNeg)]) rfl (by decide) am_K_0 rfl (by simp [Value.category])
    refine (am_dec ((((X 2).2 x1.toNatClampNeg) &&& (63 : Int32)) = (16 : Int32))).trans (am_ite (fun s3_16 => ?_) (fun s3_16 => ?_))
    · refine (ev_tswIn (k := 16) rfl (by rw [s3_16]; decide) rfl).trans ?_
      refine (ev_aload rfl rfl).trans ?_
      refine (ev_aloadS rfl rfl).trans ?_
      refine (ev_iload rfl rfl).trans ?_
      refine (ev_const0 (v := (1 : Int32)) rfl am_ci_1).trans ?_
      refine (ev_iadd rfl).trans ?_
      refine (ev_iaS rfl (by decide)).trans (am_itn (fun g4 => ?_))
      refine (ev_aloadS rfl rfl).trans ?_
      refine (ev_iload rfl rfl).trans ?_
      refine (ev_const0 (v := (2 : Int32)) rfl am_ci_2).trans ?_
      refine (ev_iadd rfl).trans ?_
      refine (ev_iaS rfl (by decide)).trans (am_itn (fun g5 => ?_))
      refine (ev_aloadS rfl rfl).trans ?_
      refine (ev_iload rfl rfl).trans ?_
      refine (ev_const0 (v := (3 : Int32)) rfl am_ci_3).trans ?_
      refine (ev_iadd rfl).trans ?_
      refine (ev_iaS rfl (by decide)).trans (am_itn (fun g6 => ?_))
      refine (ev_aloadS rfl rfl).trans ?_
      refine (ev_iload rfl rfl).trans ?_
      refine (ev_const0 (v := (4 : Int32)) rfl am_ci_4).trans ?_
      refine (ev_iadd rfl).trans ?_
      refine (ev_iaS rfl (by decide)).trans (am_itn (fun g7 => ?_))
      exact ev_invv (as := [.int ((X 2).2 (x1 + (4 : Int32)).toNatClampNeg), .int ((X 2).2 (x1 + (3 : Int32)).toNatClampNeg), .int ((X 2).2 (x1 + (2 : Int32)).toNatClampNeg), .int ((X 2).2 (x1 + (1 : Int32)).toNatClampNeg)]) rfl (by decide) am_K_0 rfl (by simp [Value.category])
    refine (am_dec ((((X 2).2 x1.toNatClampNeg) &&& (63 : Int32)) = (17 : Int32))).trans (am_ite (fun s3_17 => ?_) (fun s3_17 => ?_))
    · refine (ev_tswIn (k := 17) rfl (by rw [s3_17]; decide) rfl).trans ?_
      refine (ev_aload rfl rfl).trans ?_
      refine (ev_aloadS rfl rfl).trans ?_
      refine (ev_iload rfl rfl).trans ?_
      refine (ev_const0 (v := (1 : Int32)) rfl am_ci_1).trans ?_
      refine (ev_iadd rfl).trans ?_
      refine (ev_iaS rfl (by decide)).trans (am_itn (fun g4 => ?_))
      refine (ev_aloadS rfl rfl).trans ?_
      refine (ev_iload rfl rfl).trans ?_
      refine (ev_const0 (v := (2 : Int32)) rfl am_ci_2).trans ?_
      refine (ev_iadd rfl).trans ?_
      refine (ev_iaS rfl (by decide)).trans (am_itn (fun g5 => ?_))
      exact ev_invv (as := [.int ((X 2).2 (x1 + (2 : Int32)).toNatClampNeg), .int ((X 2).2 (x1 + (1 : Int32)).toNatClampNeg)]) rfl (by decide) am_K_0 rfl (by simp [Value.category])
    refine (am_dec ((((X 2).2 x1.toNatClampNeg) &&& (63 : Int32)) = (18 : Int32))).trans (am_ite (fun s3_18 => ?_) (fun s3_18 => ?_))
    · refine (ev_tswIn (k := 18) rfl (by rw [s3_18]; decide) rfl).trans ?_
      refine (ev_aload rfl rfl).trans ?_
      refine (ev_aloadS rfl rfl).trans ?_
      refine (ev_iload rfl rfl).trans ?_
      refine (ev_const0 (v := (1 : Int32)) rfl am_ci_1).trans ?_
      refine (ev_iadd rfl).trans ?_
      refine (ev_iaS rfl (by decide)).trans (am_itn (fun g4 => ?_))
      refine (ev_aloadS rfl rfl).trans ?_
      refine (ev_iload rfl rfl).trans ?_
      refine (ev_const0 (v := (2 : Int32)) rfl am_ci_2).trans ?_
      refine (ev_iadd rfl).trans ?_
      refine (ev_iaS rfl (by decide)).trans (am_itn (fun g5 => ?_))
      refine (ev_aloadS rfl rfl).trans ?_
      refine (ev_iload rfl rfl).trans ?_
      refine (ev_const0 (v := (3 : Int32)) rfl am_ci_3).trans ?_
      refine (ev_iadd rfl).trans ?_
      refine (ev_iaS rfl (by decide)).trans (am_itn (fun g6 => ?_))
      refine (ev_aloadS rfl rfl).trans ?_
      refine (ev_iload rfl rfl).trans ?_
      refine (ev_const0 (v := (4 : Int32)) rfl am_ci_4).trans ?_
      refine (ev_iadd rfl).trans ?_
      refine (ev_iaS rfl (by decide)).trans (am_itn (fun g7 => ?_))
      exact ev_invv (as := [.int ((X 2).2 (x1 + (4 : Int32)).toNatClampNeg), .int ((X 2).2 (x1 + (3 : Int32)).toNatClampNeg), .int ((X 2).2 (x1 + (2 : Int32)).toNatClampNeg), .int ((X 2).2 (x1 + (1 : Int32)).toNatClampNeg)]) rfl (by decide) am_K_0 rfl (by simp [Value.category])
    refine (am_dec ((((X 2).2 x1.toNatClampNeg) &&& (63 : Int32)) = (19 : Int32))).trans (am_ite (fun s3_19 => ?_) (fun s3_19 => ?_))
    · refine (ev_tswIn (k := 19) rfl (by rw [s3_19]; decide) rfl).trans ?_
      refine (ev_aload rfl rfl).trans ?_
      refine (ev_aloadS rfl rfl).trans ?_
      refine (ev_iload rfl rfl).trans ?_
      refine (ev_const0 (v := (1 : Int32)) rfl am_ci_1).trans ?_
      refine (ev_iadd rfl).trans ?_
      refine (ev_iaS rfl (by decide)).trans (am_itn (fun g4 => ?_))
      refine (ev_aloadS rfl rfl).trans ?_
      refine (ev_iload rfl rfl).trans ?_
      refine (ev_const0 (v := (2 : Int32)) rfl am_ci_2).trans ?_
      refine (ev_iadd rfl).trans ?_
      refine (ev_iaS rfl (by decide)).trans (am_itn (fun g5 => ?_))
      exact ev_invv (as := [.int ((X 2).2 (x1 + (2 : Int32)).toNatClampNeg), .int ((X 2).2 (x1 + (1 : Int32)).toNatClampNeg)]) rfl (by decide) am_K_0 rfl (by simp [Value.category])
    refine (am_dec ((((X 2).2 x1.toNatClampNeg) &&& (63 : Int32)) = (20 : Int32))).trans (am_ite (fun s3_20 => ?_) (fun s3_20 => ?_))
    · refine (ev_tswIn (k := 20) rfl (by rw [s3_20]; decide) rfl).trans ?_
      refine (ev_aload rfl rfl).trans ?_
      refine (ev_aloadS rfl rfl).trans ?_
      refine (ev_iload rfl rfl).trans ?_
      refine (ev_const0 (v := (1 : Int32)) rfl am_ci_1).trans ?_
      refine (ev_iadd rfl).trans ?_
      refine (ev_iaS rfl (by decide)).trans (am_itn (fun g4 => ?_))
      exact ev_invv (as := [.int ((X 2).2 (x1 + (1 : Int32)).toNatClampNeg)]) rfl (by decide) am_K_0 rfl (by simp [Value.category])
    refine (am_dec ((((X 2).2 x1.toNatClampNeg) &&& (63 : Int32)) = (21 : Int32))).trans (am_ite (fun s3_21 => ?_) (fun s3_21 => ?_))
    · refine (ev_tswIn (k := 21) rfl (by rw [s3_21]; decide) rfl).trans ?_
      refine (ev_aload rfl rfl).trans ?_
      refine (ev_aloadS rfl rfl).trans ?_
      refine (ev_iload rfl rfl).trans ?_
      refine (ev_const0 (v := (1 : Int32)) rfl am_ci_1).trans ?_
      refine (ev_iadd rfl).trans ?_
      refine (ev_iaS rfl (by decide)).trans (am_itn (fun g4 => ?_))
      exact ev_invv (as := [.int ((X 2).2 (x1 + (1 : Int32)).toNatClampNeg)]) rfl (by decide) am_K_0 rfl (by simp [Value.category])
    refine (am_dec ((((X 2).2 x1.toNatClampNeg) &&& (63 : Int32)) = (22 : Int32))).trans (am_ite (fun s3_22 => ?_) (fun s3_22 => ?_))
    · refine (ev_tswIn (k := 22) rfl (by rw [s3_22]; decide) rfl).trans ?_
      refine (ev_aload rfl rfl).trans ?_
      refine (ev_aloadS rfl rfl).trans ?_
      refine (ev_iload rfl rfl).trans ?_
      refine (ev_const0 (v := (1 : Int32)) rfl am_ci_1).trans ?_
      refine (ev_iadd rfl).trans ?_
      refine (ev_iaS rfl (by decide)).trans (am_itn (fun g4 => ?_))
      exact ev_invv (as := [.int ((X 2).2 (x1 + (1 : Int32)).toNatClampNeg)]) rfl (by decide) am_K_0 rfl (by simp [Value.category])
    refine (am_dec ((((X 2).2 x1.toNatClampNeg) &&& (63 : Int32)) = (23 : Int32))).trans (am_ite (fun s3_23 => ?_) (fun s3_23 => ?_))
    · refine (ev_tswIn (k := 23) rfl (by rw [s3_23]; decide) rfl).trans ?_
      refine (ev_aload rfl rfl).trans ?_
      refine (ev_aloadS rfl rfl).trans ?_
      refine (ev_iload rfl rfl).trans ?_
      refine (ev_const0 (v := (1 : Int32)) rfl am_ci_1).trans ?_
      refine (ev_iadd rfl).trans ?_
      refine (ev_iaS rfl (by decide)).trans (am_itn (fun g4 => ?_))
      refine (ev_aloadS rfl rfl).trans ?_
      refine (ev_iload rfl rfl).trans ?_
      refine (ev_const0 (v := (2 : Int32)) rfl am_ci_2).trans ?_
      refine (ev_iadd rfl).trans ?_
      refine (ev_iaS rfl (by decide)).trans (am_itn (fun g5 => ?_))
      refine (ev_aloadS rfl rfl).trans ?_
      refine (ev_iload rfl rfl).trans ?_
      refine (ev_const0 (v := (3 : Int32)) rfl am_ci_3).trans ?_
      refine (ev_iadd rfl).trans ?_
      refine (ev_iaS rfl (by decide)).trans (am_itn (fun g6 => ?_))
      refine (ev_aloadS rfl rfl).trans ?_
      refine (ev_iload rfl rfl).trans ?_
      refine (ev_const0 (v := (4 : Int32)) rfl am_ci_4).trans ?_
      refine (ev_iadd rfl).trans ?_
      refine (ev_iaS rfl (by decide)).trans (am_itn (fun g7 => ?_))
      exact ev_invv (as := [.int ((X 2).2 (x1 + (4 : Int32)).toNatClampNeg), .int ((X 2).2 (x1 + (3 : Int32)).toNatClampNeg), .int ((X 2).2 (x1 + (2 : Int32)).toNatClampNeg), .int ((X 2).2 (x1 + (1 : Int32)).toNatClampNeg)]) rfl (by decide) am_K_0 rfl (by simp [Value.category])
    refine (am_dec ((((X 2).2 x1.toNatClampNeg) &&& (63 : Int32)) = (24 : Int32))).trans (am_ite (fun s3_24 => ?_) (fun s3_24 => ?_))
    · refine (ev_tswIn (k := 24) rfl (by rw [s3_24]; decide) rfl).trans ?_
      refine (ev_aload rfl rfl).trans ?_
      refine (ev_aloadS rfl rfl).trans ?_
      refine (ev_iload rfl rfl).trans ?_
      refine (ev_const0 (v := (1 : Int32)) rfl am_ci_1).trans ?_
      refine (ev_iadd rfl).trans ?_
      refine (ev_iaS rfl (by decide)).trans (am_itn (fun g4 => ?_))
      refine (ev_aloadS rfl rfl).trans ?_
      refine (ev_iload rfl rfl).trans ?_
      refine (ev_const0 (v := (2 : Int32)) rfl am_ci_2).trans ?_
      refine (ev_iadd rfl).trans ?_
      refine (ev_iaS rfl (by decide)).trans (am_itn (fun g5 => ?_))
      exact ev_invv (as := [.int ((X 2).2 (x1 + (2 : Int32)).toNatClampNeg), .int ((X 2).2 (x1 + (1 : Int32)).toNatClampNeg)]) rfl (by decide) am_K_0 rfl (by simp [Value.category])
    refine (am_dec ((((X 2).2 x1.toNatClampNeg) &&& (63 : Int32)) = (25 : Int32))).trans (am_ite (fun s3_25 => ?_) (fun s3_25 => ?_))
    · refine (ev_tswIn (k := 25) rfl (by rw [s3_25]; decide) rfl).trans ?_
      refine (ev_aload rfl rfl).trans ?_
      refine (ev_aloadS rfl rfl).trans ?_
      refine (ev_iload rfl rfl).trans ?_
      refine (ev_const0 (v := (1 : Int32)) rfl am_ci_1).trans ?_
      refine (ev_iadd rfl).trans ?_
      refine (ev_iaS rfl (by decide)).trans (am_itn (fun g4 => ?_))
      refine (ev_aloadS rfl rfl).trans ?_
      refine (ev_iload rfl rfl).trans ?_
      refine (ev_const0 (v := (2 : Int32)) rfl am_ci_2).trans ?_
      refine (ev_iadd rfl).trans ?_
      refine (ev_iaS rfl (by decide)).trans (am_itn (fun g5 => ?_))
      exact ev_invv (as := [.int ((X 2).2 (x1 + (2 : Int32)).toNatClampNeg), .int ((X 2).2 (x1 + (1 : Int32)).toNatClampNeg)]) rfl (by decide) am_K_0 rfl (by simp [Value.category])
    refine (am_dec ((((X 2).2 x1.toNatClampNeg) &&& (63 : Int32)) = (26 : Int32))).trans (am_ite (fun s3_26 => ?_) (fun s3_26 => ?_))
    · refine (ev_tswIn (k := 26) rfl (by rw [s3_26]; decide) rfl).trans ?_
      refine (ev_aload rfl rfl).trans ?_
      refine (ev_aloadS rfl rfl).trans ?_
      refine (ev_iload rfl rfl).trans ?_
      refine (ev_const0 (v := (1 : Int32)) rfl am_ci_1).trans ?_
      refine (ev_iadd rfl).trans ?_
      refine (ev_iaS rfl (by decide)).trans (am_itn (fun g4 => ?_))
      refine (ev_aloadS rfl rfl).trans ?_
      refine (ev_iload rfl rfl).trans ?_
      refine (ev_const0 (v := (2 : Int32)) rfl am_ci_2).trans ?_
      refine (ev_iadd rfl).trans ?_
      refine (ev_iaS rfl (by decide)).trans (am_itn (fun g5 => ?_))
      exact ev_invv (as := [.int ((X 2).2 (x1 + (2 : Int32)).toNatClampNeg), .int ((X 2).2 (x1 + (1 : Int32)).toNatClampNeg)]) rfl (by decide) am_K_0 rfl (by simp [Value.category])
    refine (am_dec ((((X 2).2 x1.toNatClampNeg) &&& (63 : Int32)) = (27 : Int32))).trans (am_ite (fun s3_27 => ?_) (fun s3_27 => ?_))
    · refine (ev_tswIn (k := 27) rfl (by rw [s3_27]; decide) rfl).trans ?_
      refine (ev_aload rfl rfl).trans ?_
      refine (ev_aloadS rfl rfl).trans ?_
      refine (ev_iload rfl rfl).trans ?_
      refine (ev_const0 (v := (1 : Int32)) rfl am_ci_1).trans ?_
      refine (ev_iadd rfl).trans ?_
      refine (ev_iaS rfl (by decide)).trans (am_itn (fun g4 => ?_))
      exact ev_invv (as := [.int ((X 2).2 (x1 + (1 : Int32)).toNatClampNeg)]) rfl (by decide) am_K_0 rfl (by simp [Value.category])
    refine (am_dec ((((X 2).2 x1.toNatClampNeg) &&& (63 : Int32)) = (28 : Int32))).trans (am_ite (fun s3_28 => ?_) (fun s3_28 => ?_))
    · refine (ev_tswIn (k := 28) rfl (by rw [s3_28]; decide) rfl).trans ?_
      refine (ev_aload rfl rfl).trans ?_
      refine (ev_aloadS rfl rfl).trans ?_
      refine (ev_iload rfl rfl).trans ?_
      refine (ev_const0 (v := (1 : Int32)) rfl am_ci_1).trans ?_
      refine (ev_iadd rfl).trans ?_
      refine (ev_iaS rfl (by decide)).trans (am_itn (fun g4 => ?_))
      exact ev_invv (as := [.int ((X 2).2 (x1 + (1 : Int32)).toNatClampNeg)]) rfl (by decide) am_K_0 rfl (by simp [Value.category])
    refine (am_dec ((((X 2).2 x1.toNatClampNeg) &&& (63 : Int32)) = (29 : Int32))).trans (am_ite (fun s3_29 => ?_) (fun s3_29 => ?_))
    · refine (ev_tswIn (k := 29) rfl (by rw [s3_29]; decide) rfl).trans ?_
      refine (ev_aload rfl rfl).trans ?_
      refine (ev_aloadS rfl rfl).trans ?_
      refine (ev_iload rfl rfl).trans ?_
      refine (ev_const0 (v := (1 : Int32)) rfl am_ci_1).trans ?_
      refine (ev_iadd rfl).trans ?_
      refine (ev_iaS rfl (by decide)).trans (am_itn (fun g4 => ?_))
      refine (ev_aloadS rfl rfl).trans ?_
      refine (ev_iload rfl rfl).trans ?_
      refine (ev_const0 (v := (2 : Int32)) rfl am_ci_2).trans ?_
      refine (ev_iadd rfl).trans ?_
      refine (ev_iaS rfl (by decide)).trans (am_itn (fun g5 => ?_))
      exact ev_invv (as := [.int ((X 2).2 (x1 + (2 : Int32)).toNatClampNeg), .int ((X 2).2 (x1 + (1 : Int32)).toNatClampNeg)]) rfl (by decide) am_K_0 rfl (by simp [Value.category])
    refine (am_dec ((((X 2).2 x1.toNatClampNeg) &&& (63 : Int32)) = (30 : Int32))).trans (am_ite (fun s3_30 => ?_) (fun s3_30 => ?_))
    · refine (ev_tswIn (k := 30) rfl (by rw [s3_30]; decide) rfl).trans ?_
      refine (ev_aload rfl rfl).trans ?_
      refine (ev_aloadS rfl rfl).trans ?_
      refine (ev_iload rfl rfl).trans ?_
      refine (ev_const0 (v := (1 : Int32)) rfl am_ci_1).trans ?_
      refine (ev_iadd rfl).trans ?_
      refine (ev_iaS rfl (by decide)).trans (am_itn (fun g4 => ?_))
      exact ev_invv (as := [.int ((X 2).2 (x1 + (1 : Int32)).toNatClampNeg)]) rfl (by decide) am_K_0 rfl (by simp [Value.category])
    refine (am_dec ((((X 2).2 x1.toNatClampNeg) &&& (63 : Int32)) = (31 : Int32))).trans (am_ite (fun s3_31 => ?_) (fun s3_31 => ?_))
    · refine (ev_tswIn (k := 31) rfl (by rw [s3_31]; decide) rfl).trans ?_
      refine (ev_aload rfl rfl).trans ?_
      refine (ev_aloadS rfl rfl).trans ?_
      refine (ev_iload rfl rfl).trans ?_
      refine (ev_const0 (v := (1 : Int32)) rfl am_ci_1).trans ?_
      refine (ev_iadd rfl).trans ?_
      refine (ev_iaS rfl (by decide)).trans (am_itn (fun g4 => ?_))
      exact ev_invv (as := [.int ((X 2).2 (x1 + (1 : Int32)).toNatClampNeg)]) rfl (by decide) am_K_0 rfl (by simp [Value.category])
    refine (am_dec ((((X 2).2 x1.toNatClampNeg) &&& (63 : Int32)) = (32 : Int32))).trans (am_ite (fun s3_32 => ?_) (fun s3_32 => ?_))
    · refine (ev_tswIn (k := 32) rfl (by rw [s3_32]; decide) rfl).trans ?_
      refine (ev_aload rfl rfl).trans ?_
      refine (ev_aloadS rfl rfl).trans ?_
      refine (ev_iload rfl rfl).trans ?_
      refine (ev_const0 (v := (1 : Int32)) rfl am_ci_1).trans ?_
      refine (ev_iadd rfl).trans ?_
      refine (ev_iaS rfl (by decide)).trans (am_itn (fun g4 => ?_))
      refine (ev_aloadS rfl rfl).trans ?_
      refine (ev_iload rfl rfl).trans ?_
      refine (ev_const0 (v := (2 : Int32)) rfl am_ci_2).trans ?_
      refine (ev_iadd rfl).trans ?_
      refine (ev_iaS rfl (by decide)).trans (am_itn (fun g5 => ?_))
      exact ev_invv (as := [.int ((X 2).2 (x1 + (2 : Int32)).toNatClampNeg), .int ((X 2).2 (x1 + (1 : Int32)).toNatClampNeg)]) rfl (by decide) am_K_0 rfl (by simp [Value.category])
    refine (am_dec ((((X 2).2 x1.toNatClampNeg) &&& (63 : Int32)) = (33 : Int32))).trans (am_ite (fun s3_33 => ?_) (fun s3_33 => ?_))
    · refine (ev_tswIn (k := 33) rfl (by rw [s3_33]; decide) rfl).trans ?_
      refine (ev_aload rfl rfl).trans ?_
      refine (ev_aloadS rfl rfl).trans ?_
      refine (ev_iload rfl rfl).trans ?_
      refine (ev_const0 (v := (1 : Int32)) rfl am_ci_1).trans ?_
      refine (ev_iadd rfl).trans ?_
      refine (ev_iaS rfl (by decide)).trans (am_itn (fun g4 => ?_))
      refine (ev_aloadS rfl rfl).trans ?_
      refine (ev_iload rfl rfl).trans ?_
      refine (ev_const0 (v := (2 : Int32)) rfl am_ci_2).trans ?_
      refine (ev_iadd rfl).trans ?_
      refine (ev_iaS rfl (by decide)).trans (am_itn (fun g5 => ?_))
      exact ev_invv (as := [.int ((X 2).2 (x1 + (2 : Int32)).toNatClampNeg), .int ((X 2).2 (x1 + (1 : Int32)).toNatClampNeg)]) rfl (by decide) am_K_0 rfl (by simp [Value.category])
    refine (am_dec ((((X 2).2 x1.toNatClampNeg) &&& (63 : Int32)) = (34 : Int32))).trans (am_ite (fun s3_34 => ?_) (fun s3_34 => ?_))
    · refine (ev_tswIn (k := 34) rfl (by rw [s3_34]; decide) rfl).trans ?_
      refine (ev_aload rfl rfl).trans ?_
      refine (ev_aloadS rfl rfl).trans ?_
      refine (ev_iload rfl rfl).trans ?_
      refine (ev_const0 (v := (1 : Int32)) rfl am_ci_1).trans ?_
      refine (ev_iadd rfl).trans ?_
      refine (ev_iaS rfl (by decide)).trans (am_itn (fun g4 => ?_))
      refine (ev_aloadS rfl rfl).trans ?_
      refine (ev_iload rfl rfl).trans ?_
      refine (ev_const0 (v := (2 : Int32)) rfl am_ci_2).trans ?_
      refine (ev_iadd rfl).trans ?_
      refine (ev_iaS rfl (by decide)).trans (am_itn (fun g5 => ?_))
      refine (ev_aloadS rfl rfl).trans ?_
      refine (ev_iload rfl rfl).trans ?_
      refine (ev_const0 (v := (3 : Int32)) rfl am_ci_3).trans ?_
      refine (ev_iadd rfl).trans ?_
      refine (ev_iaS rfl (by decide)).trans (am_itn (fun g6 => ?_))
      exact ev_invv (as := [.int ((X 2).2 (x1 + (3 : Int32)).toNatClampNeg), .int ((X 2).2 (x1 + (2 : Int32)).toNatClampNeg), .int ((X 2).2 (x1 + (1 : Int32)).toNatClampNeg)]) rfl (by decide) am_K_0 rfl (by simp [Value.category])
    refine (am_dec ((((X 2).2 x1.toNatClampNeg) &&& (63 : Int32)) = (35 : Int32))).trans (am_ite (fun s3_35 => ?_) (fun s3_35 => ?_))
    · refine (ev_tswIn (k := 35) rfl (by rw [s3_35]; decide) rfl).trans ?_
      refine (ev_aload rfl rfl).trans ?_
      refine (ev_aloadS rfl rfl).trans ?_
      refine (ev_iload rfl rfl).trans ?_
      refine (ev_const0 (v := (1 : Int32)) rfl am_ci_1).trans ?_
      refine (ev_iadd rfl).trans ?_
      refine (ev_iaS rfl (by decide)).trans (am_itn (fun g4 => ?_))
      refine (ev_aloadS rfl rfl).trans ?_
      refine (ev_iload rfl rfl).trans ?_
      refine (ev_const0 (v := (2 : Int32)) rfl am_ci_2).trans ?_
      refine (ev_iadd rfl).trans ?_
      refine (ev_iaS rfl (by decide)).trans (am_itn (fun g5 => ?_))
      exact ev_invv (as := [.int ((X 2).2 (x1 + (2 : Int32)).toNatClampNeg), .int ((X 2).2 (x1 + (1 : Int32)).toNatClampNeg)]) rfl (by decide) am_K_0 rfl (by simp [Value.category])
    refine (am_dec ((((X 2).2 x1.toNatClampNeg) &&& (63 : Int32)) = (36 : Int32))).trans (am_ite (fun s3_36 => ?_) (fun s3_36 => ?_))
    · refine (ev_tswIn (k := 36) rfl (by rw [s3_36]; decide) rfl).trans ?_
      refine (ev_aload rfl rfl).trans ?_
      refine (ev_aloadS rfl rfl).trans ?_
      refine (ev_iload rfl rfl).trans ?_
      refine (ev_const0 (v := (1 : Int32)) rfl am_ci_1).trans ?_
      refine (ev_iadd rfl).trans ?_
      refine (ev_iaS rfl (by decide)).trans (am_itn (fun g4 => ?_))
      exact ev_invv (as := [.int ((X 2).2 (x1 + (1 : Int32)).toNatClampNeg)]) rfl (by decide) am_K_0 rfl (by simp [Value.category])
    refine (am_dec ((((X 2).2 x1.toNatClampNeg) &&& (63 : Int32)) = (37 : Int32))).trans (am_ite (fun s3_37 => ?_) (fun s3_37 => ?_))
    · refine (ev_tswIn (k := 37) rfl (by rw [s3_37]; decide) rfl).trans ?_
      refine (ev_aload rfl rfl).trans ?_
      refine (ev_aloadS rfl rfl).trans ?_
      refine (ev_iload rfl rfl).trans ?_
      refine (ev_const0 (v := (1 : Int32)) rfl am_ci_1).trans ?_
      refine (ev_iadd rfl).trans ?_
      refine (ev_iaS rfl (by decide)).trans (am_itn (fun g4 => ?_))
      refine (ev_aloadS rfl rfl).trans ?_
      refine (ev_iload rfl rfl).trans ?_
      refine (ev_const0 (v := (2 : Int32)) rfl am_ci_2).trans ?_
      refine (ev_iadd rfl).trans ?_
      refine (ev_iaS rfl (by decide)).trans (am_itn (fun g5 => ?_))
      exact ev_invv (as := [.int ((X 2).2 (x1 + (2 : Int32)).toNatClampNeg), .int ((X 2).2 (x1 + (1 : Int32)).toNatClampNeg)]) rfl (by decide) am_K_0 rfl (by simp [Value.category])
    refine (am_dec ((((X 2).2 x1.toNatClampNeg) &&& (63 : Int32)) = (38 : Int32))).trans (am_ite (fun s3_38 => ?_) (fun s3_38 => ?_))
    · refine (ev_tswIn (k := 38) rfl (by rw [s3_38]; decide) rfl).trans ?_
      refine (ev_aload rfl rfl).trans ?_
      refine (ev_aloadS rfl rfl).trans ?_
      refine (ev_iload rfl rfl).trans ?_
      refine (ev_const0 (v := (1 : Int32)) rfl am_ci_1).trans ?_
      refine (ev_iadd rfl).trans ?_
      refine (ev_iaS rfl (by decide)).trans (am_itn (fun g4 => ?_))
      refine (ev_aloadS rfl rfl).trans ?_
      refine (ev_iload rfl rfl).trans ?_
      refine (ev_const0 (v := (2 : Int32)) rfl am_ci_2).trans ?_
      refine (ev_iadd rfl).trans ?_
      refine (ev_iaS rfl (by decide)).trans (am_itn (fun g5 => ?_))
      exact ev_invv (as := [.int ((X 2).2 (x1 + (2 : Int32)).toNatClampNeg), .int ((X 2).2 (x1 + (1 : Int32)).toNatClampNeg)]) rfl (by decide) am_K_0 rfl (by simp [Value.category])
    refine (am_dec ((((X 2).2 x1.toNatClampNeg) &&& (63 : Int32)) = (39 : Int32))).trans (am_ite (fun s3_39 => ?_) (fun s3_39 => ?_))
    · refine (ev_tswIn (k := 39) rfl (by rw [s3_39]; decide) rfl).trans ?_
      refine (ev_aload rfl rfl).trans ?_
      refine (ev_aloadS rfl rfl).trans ?_
      refine (ev_iload rfl rfl).trans ?_
      refine (ev_const0 (v := (1 : Int32)) rfl am_ci_1).trans ?_
      refine (ev_iadd rfl).trans ?_
      refine (ev_iaS rfl (by decide)).trans (am_itn (fun g4 => ?_))
      exact ev_invv (as := [.int ((X 2).2 (x1 + (1 : Int32)).toNatClampNeg)]) rfl (by decide) am_K_0 rfl (by simp [Value.category])
    refine (am_dec ((((X 2).2 x1.toNatClampNeg) &&& (63 : Int32)) = (40 : Int32))).trans (am_ite (fun s3_40 => ?_) (fun s3_40 => ?_))
    · refine (ev_tswIn (k := 40) rfl (by rw [s3_40]; decide) rfl).trans ?_
      refine (ev_aload rfl rfl).trans ?_
      refine (ev_aloadS rfl rfl).trans ?_
      refine (ev_iload rfl rfl).trans ?_
      refine (ev_const0 (v := (1 : Int32)) rfl am_ci_1).trans ?_
      refine (ev_iadd rfl).trans ?_
      refine (ev_iaS rfl (by decide)).trans (am_itn (fun g4 => ?_))
      exact ev_invv (as := [.int ((X 2).2 (x1 + (1 : Int32)).toNatClampNeg)]) rfl (by decide) am_K_0 rfl (by simp [Value.category])
    refine (am_dec ((((X 2).2 x1.toNatClampNeg) &&& (63 : Int32)) = (41 : Int32))).trans (am_ite (fun s3_41 => ?_) (fun s3_41 => ?_))
    · refine (ev_tswIn (k := 41) rfl (by rw [s3_41]; decide) rfl).trans ?_
      refine (ev_aload rfl rfl).trans ?_
      refine (ev_aloadS rfl rfl).trans ?_
      refine (ev_iload rfl rfl).trans ?_
      refine (ev_const0 (v := (1 : Int32)) rfl am_ci_1).trans ?_
      refine (ev_iadd rfl).trans ?_
      refine (ev_iaS rfl (by decide)).trans (am_itn (fun g4 => ?_))
      exact ev_invv (as := [.int ((X 2).2 (x1 + (1 : Int32)).toNatClampNeg)]) rfl (by decide) am_K_0 rfl (by simp [Value.category])
    refine (am_dec ((((X 2).2 x1.toNatClampNeg) &&& (63 : Int32)) = (42 : Int32))).trans (am_ite (fun s3_42 => ?_) (fun s3_42 => ?_))
    · refine (ev_tswIn (k := 42) rfl (by rw [s3_42]; decide) rfl).trans ?_
      refine (ev_aload rfl rfl).trans ?_
      refine (ev_aloadS rfl rfl).trans ?_
      refine (ev_iload rfl rfl).trans ?_
      refine (ev_const0 (v := (1 : Int32)) rfl am_ci_1).trans ?_
      refine (ev_iadd rfl).trans ?_
      refine (ev_iaS rfl (by decide)).trans (am_itn (fun g4 => ?_))
      refine (ev_aloadS rfl rfl).trans ?_
      refine (ev_iload rfl rfl).trans ?_
      refine (ev_const0 (v := (2 : Int32)) rfl am_ci_2).trans ?_
      refine (ev_iadd rfl).trans ?_
      refine (ev_iaS rfl (by decide)).trans (am_itn (fun g5 => ?_))
      refine (ev_aloadS rfl rfl).trans ?_
      refine (ev_iload rfl rfl).trans ?_
      refine (ev_const0 (v := (3 : Int32)) rfl am_ci_3).trans ?_
      refine (ev_iadd rfl).trans ?_
      refine (ev_iaS rfl (by decide)).trans (am_itn (fun g6 => ?_))
      exact ev_invv (as := [.int ((X 2).2 (x1 + (3 : Int32)).toNatClampNeg), .int ((X 2).2 (x1 + (2 : Int32)).toNatClampNeg), .int ((X 2).2 (x1 + (1 : Int32)).toNatClampNeg)]) rfl (by decide) am_K_0 rfl (by simp [Value.category])
    refine (am_dec ((((X 2).2 x1.toNatClampNeg) &&& (63 : Int32)) = (43 : Int32))).trans (am_ite (fun s3_43 => ?_) (fun s3_43 => ?_))
    · refine (ev_tswIn (k := 43) rfl (by rw [s3_43]; decide) rfl).trans ?_
      refine (ev_aload rfl rfl).trans ?_
      refine (ev_aloadS rfl rfl).trans ?_
      refine (ev_iload rfl rfl).trans ?_
      refine (ev_const0 (v := (1 : Int32)) rfl am_ci_1).trans ?_
      refine (ev_iadd rfl).trans ?_
      refine (ev_iaS rfl (by decide)).trans (am_itn (fun g4 => ?_))
      refine (ev_aloadS rfl rfl).trans ?_
      refine (ev_iload rfl rfl).trans ?_
      refine (ev_const0 (v := (2 : Int32)) rfl am_ci_2).trans ?_
      refine (ev_iadd rfl).trans ?_
      refine (ev_iaS rfl (by decide)).trans (am_itn (fun g5 => ?_))
      refine (ev_if0 rfl).trans (am_ite (fun c6 => ?_) (fun c6 => ?_))
      · refine (ev_const0 (v := (0 : Int32)) rfl am_ci_0).trans ?_
        exact ev_invv (as := [.int (0 : Int32), .int ((X 2).2 (x1 + (1 : Int32)).toNatClampNeg)]) rfl (by decide) am_K_0 rfl (by simp [Value.category])
      · refine (ev_const0 (v := (1 : Int32)) rfl am_ci_1).trans ?_
        refine (ev_goto rfl).trans ?_
        exact ev_invv (as := [.int (1 : Int32), .int ((X 2).2 (x1 + (1 : Int32)).toNatClampNeg)]) rfl (by decide) am_K_0 rfl (by simp [Value.category])
    refine (am_dec ((((X 2).2 x1.toNatClampNeg) &&& (63 : Int32)) = (44 : Int32))).trans (am_ite (fun s3_44 => ?_) (fun s3_44 => ?_))
    · refine (ev_tswIn (k := 44) rfl (by rw [s3_44]; decide) rfl).trans ?_
      refine (ev_aload rfl rfl).trans ?_
      refine (ev_aloadS rfl rfl).trans ?_
      refine (ev_iload rfl rfl).trans ?_
      refine (ev_const0 (v := (1 : Int32)) rfl am_ci_1).trans ?_
      refine (ev_iadd rfl).trans ?_
      refine (ev_iaS rfl (by decide)).trans (am_itn (fun g4 => ?_))
      exact ev_invv (as := [.int ((X 2).2 (x1 + (1 : Int32)).toNatClampNeg)]) rfl (by decide) am_K_0 rfl (by simp [Value.category])
    refine (am_dec ((((X 2).2 x1.toNatClampNeg) &&& (63 : Int32)) = (45 : Int32))).trans (am_ite (fun s3_45 => ?_) (fun s3_45 => ?_))
    · refine (ev_tswIn (k := 45) rfl (by rw [s3_45]; decide) rfl).trans ?_
      refine (ev_aload rfl rfl).trans ?_
      refine (ev_aloadS rfl rfl).trans ?_
      refine (ev_iload rfl rfl).trans ?_
      refine (ev_const0 (v := (1 : Int32)) rfl am_ci_1).trans ?_
      refine (ev_iadd rfl).trans ?_
      refine (ev_iaS rfl (by decide)).trans (am_itn (fun g4 => ?_))
      exact ev_invv (as := [.int ((X 2).2 (x1 + (1 : Int32)).toNatClampNeg)]) rfl (by decide) am_K_0 rfl (by simp [Value.category])
    refine (am_dec ((((X 2).2 x1.toNatClampNeg) &&& (63 : Int32)) = (46 : Int32))).trans (am_ite (fun s3_46 => ?_) (fun s3_46 => ?_))
    · refine (ev_tswIn (k := 46) rfl (by rw [s3_46]; decide) rfl).trans ?_
      refine (ev_aload rfl rfl).trans ?_
      refine (ev_aloadS rfl rfl).trans ?_
      refine (ev_iload rfl rfl).trans ?_
      refine (ev_const0 (v := (1 : Int32)) rfl am_ci_1).trans ?_
      refine (ev_iadd rfl).trans ?_
      refine (ev_iaS rfl (by decide)).trans (am_itn (fun g4 => ?_))
      exact ev_invv (as := [.int ((X 2).2 (x1 + (1 : Int32)).toNatClampNeg)]) rfl (by decide) am_K_0 rfl (by simp [Value.category])
    refine (am_dec ((((X 2).2 x1.toNatClampNeg) &&& (63 : Int32)) = (47 : Int32))).trans (am_ite (fun s3_47 => ?_) (fun s3_47 => ?_))
    · refine (ev_tswIn (k := 47) rfl (by rw [s3_47]; decide) rfl).trans ?_
      refine (ev_aload rfl rfl).trans ?_
      exact ev_invv (as := []) rfl (by decide) am_K_0 rfl (by simp [Value.category])
    refine (am_dec ((((X 2).2 x1.toNatClampNeg) &&& (63 : Int32)) = (48 : Int32))).trans (am_ite (fun s3_48 => ?_) (fun s3_48 => ?_))
    · refine (ev_tswIn (k := 48) rfl (by rw [s3_48]; decide) rfl).trans ?_
      refine (ev_aload rfl rfl).trans ?_
      refine (ev_aloadS rfl rfl).trans ?_
      refine (ev_iload rfl rfl).trans ?_
      refine (ev_const0 (v := (1 : Int32)) rfl am_ci_1).trans ?_
      refine (ev_iadd rfl).trans ?_
      refine (ev_iaS rfl (by decide)).trans (am_itn (fun g4 => ?_))
      exact ev_invv (as := [.int ((X 2).2 (x1 + (1 : Int32)).toNatClampNeg)]) rfl (by decide) am_K_0 rfl (by simp [Value.category])
    refine (am_dec ((((X 2).2 x1.toNatClampNeg) &&& (63 : Int32)) = (49 : Int32))).trans (am_ite (fun s3_49 => ?_) (fun s3_49 => ?_))
    · refine (ev_tswIn (k := 49) rfl (by rw [s3_49]; decide) rfl).trans ?_
      refine (ev_aload rfl rfl).trans ?_
      exact ev_invv (as := []) rfl (by decide) am_K_0 rfl (by simp [Value.category])
    refine (am_dec ((((X 2).2 x1.toNatClampNeg) &&& (63 : Int32)) = (50 : Int32))).trans (am_ite (fun s3_50 => ?_) (fun s3_50 => ?_))
    · refine (ev_tswIn (k := 50) rfl (by rw [s3_50]; decide) rfl).trans ?_
      refine (ev_aload rfl rfl).trans ?_
      refine (ev_aloadS rfl rfl).trans ?_
      refine (ev_iload rfl rfl).trans ?_
      refine (ev_const0 (v := (1 : Int32)) rfl am_ci_1).trans ?_
      refine (ev_iadd rfl).trans ?_
      refine (ev_iaS rfl (by decide)).trans (am_itn (fun g4 => ?_))
      exact ev_invv (as := [.int ((X 2).2 (x1 + (1 : Int32)).toNatClampNeg)]) rfl (by decide) am_K_0 rfl (by simp [Value.category])
    refine (am_dec ((((X 2).2 x1.toNatClampNeg) &&& (63 : Int32)) = (51 : Int32))).trans (am_ite (fun s3_51 => ?_) (fun s3_51 => ?_))
    · refine (ev_tswIn (k := 51) rfl (by rw [s3_51]; decide) rfl).trans ?_
      refine (ev_aload rfl rfl).trans ?_
      exact ev_invv (as := []) rfl (by decide) am_K_0 rfl (by simp [Value.category])
    refine (am_dec ((((X 2).2 x1.toNatClampNeg) &&& (63 : Int32)) = (52 : Int32))).trans (am_ite (fun s3_52 => ?_) (fun s3_52 => ?_))
    · refine (ev_tswIn (k := 52) rfl (by rw [s3_52]; decide) rfl).trans ?_
      refine (ev_aload rfl rfl).trans ?_
      refine (ev_aloadS rfl rfl).trans ?_
      refine (ev_iload rfl rfl).trans ?_
      refine (ev_const0 (v := (1 : Int32)) rfl am_ci_1).trans ?_
      refine (ev_iadd rfl).trans ?_
      refine (ev_iaS rfl (by decide)).trans (am_itn (fun g4 => ?_))
      exact ev_invv (as := [.int ((X 2).2 (x1 + (1 : Int32)).toNatClampNeg)]) rfl (by decide) am_K_0 rfl (by simp [Value.category])
    refine (ev_tswOut rfl (by have q0 := am_neT s3_0 (n := 0) (by decide); have q1 := am_neT s3_1 (n := 1) (by decide); have q2 := am_neT s3_2 (n := 2) (by decide); have q3 := am_neT s3_3 (n := 3) (by decide); have q4 := am_neT s3_4 (n := 4) (by decide); have q5 := am_neT s3_5 (n := 5) (by decide); have q6 := am_neT s3_6 (n := 6) (by decide); have q7 := am_neT s3_7 (n := 7) (by decide); have q8 := am_neT s3_8 (n := 8) (by decide); have q9 := am_neT s3_9 (n := 9) (by decide); have q10 := am_neT s3_10 (n := 10) (by decide); have q11 := am_neT s3_11 (n := 11) (by decide); have q12 := am_neT s3_12 (n := 12) (by decide); have q13 := am_neT s3_13 (n := 13) (by decide); have q14 := am_neT s3_14 (n := 14) (by decide); have q15 := am_neT s3_15 (n := 15) (by decide); have q16 := am_neT s3_16 (n := 16) (by decide); have q17 := am_neT s3_17 (n := 17) (by decide); have q18 := am_neT s3_18 (n := 18) (by decide); have q19 := am_neT s3_19 (n := 19) (by decide); have q20 := am_neT s3_20 (n := 20) (by decide); have q21 := am_neT s3_21 (n := 21) (by decide); have q22 := am_neT s3_22 (n := 22) (by decide); have q23 := am_neT s3_23 (n := 23) (by decide); have q24 := am_neT s3_24 (n := 24) (by decide); have q25 := am_neT s3_25 (n := 25) (by decide); have q26 := am_neT s3_26 (n := 26) (by decide); have q27 := am_neT s3_27 (n := 27) (by decide); have q28 := am_neT s3_28 (n := 28) (by decide); have q29 := am_neT s3_29 (n := 29) (by decide); have q30 := am_neT s3_30 (n := 30) (by decide); have q31 := am_neT s3_31 (n := 31) (by decide); have q32 := am_neT s3_32 (n := 32) (by decide); have q33 := am_neT s3_33 (n := 33) (by decide); have q34 := am_neT s3_34 (n := 34) (by decide); have q35 := am_neT s3_35 (n := 35) (by decide); have q36 := am_neT s3_36 (n := 36) (by decide); have q37 := am_neT s3_37 (n := 37) (by decide); have q38 := am_neT s3_38 (n := 38) (by decide); have q39 := am_neT s3_39 (n := 39) (by decide); have q40 := am_neT s3_40 (n := 40) (by decide); have q41 := am_neT s3_41 (n := 41) (by decide); have q42 := am_neT s3_42 (n := 42) (by decide); have q43 := am_neT s3_43 (n := 43) (by decide); have q44 := am_neT s3_44 (n := 44) (by decide); have q45 := am_neT s3_45 (n := 45) (by decide); have q46 := am_neT s3_46 (n := 46) (by decide); have q47 := am_neT s3_47 (n := 47) (by decide); have q48 := am_neT s3_48 (n := 48) (by decide); have q49 := am_neT s3_49 (n := 49) (by decide); have q50 := am_neT s3_50 (n := 50) (by decide); have q51 := am_neT s3_51 (n := 51) (by decide); have q52 := am_neT s3_52 (n := 52) (by decide); simp only [List.length_cons, List.length_nil]; omega)).trans ?_
    refine (ev_iincv (v := (6 : Int32)) (ls' := [.retAddr 2, .ref 0, .ref 139, .int (x1 + (6 : Int32))]) rfl am_ci_6 rfl rfl).trans ?_
    refine (ev_goto rfl).trans ?_
    rfl
set_option maxRecDepth 10000 in
theorem sg_362_49 (X : am_X) (I : Nat → Nat → Int32) (J : Nat → Nat → Int64) (x1 : Int32) (x2 : Int32) : am_ev X amP_362 49 [.retAddr 2, .ref 0, .ref 139, .int x1] [.int x2] (am_sh I J) = (if (x1 + (1 : Int32)) < 0 ∨ (X 2).1 ≤ (x1 + (1 : Int32)).toNatClampNeg then none else (if (x1 + (2 : Int32)) < 0 ∨ (X 2).1 ≤ (x1 + (2 : Int32)).toNatClampNeg then none else (if (x1 + (3 : Int32)) < 0 ∨ (X 2).1 ≤ (x1 + (3 : Int32)).toNatClampNeg then none else (if (x1 + (4 : Int32)) < 0 ∨ (X 2).1 ≤ (x1 + (4 : Int32)).toNatClampNeg then none else (if (x1 + (5 : Int32)) < 0 ∨ (X 2).1 ≤ (x1 + (5 : Int32)).toNatClampNeg then none else (am_do X 221 [.ref 139, .int ((X 2).2 (x1 + (1 : Int32)).toNatClampNeg), .int ((X 2).2 (x1 + (2 : Int32)).toNatClampNeg), .int ((X 2).2 (x1 + (3 : Int32)).toNatClampNeg), .int ((X 2).2 (x1 + (4 : Int32)).toNatClampNeg), .int ((X 2).2 (x1 + (5 : Int32)).toNatClampNeg)] (am_sh I J)).bind (fun q => am_ev X amP_362 76 [.retAddr 2, .ref 0, .ref 139, .int x1] (q.1.toList ++ [.int x2]) q.2)))))) := by
  refine (ev_aload rfl rfl).trans ?_
  refine (ev_aloadS rfl rfl).trans ?_
  refine (ev_iload rfl rfl).trans ?_
  refine (ev_const0 (v := (1 : Int32)) rfl am_ci_1).trans ?_
  refine (ev_iadd rfl).trans ?_
  refine (ev_iaS rfl (by decide)).trans (am_itn (fun g1 => ?_))
  refine (ev_aloadS rfl rfl).trans ?_
  refine (ev_iload rfl rfl).trans ?_
  refine (ev_const0 (v := (2 : Int32)) rfl am_ci_2).trans ?_
  refine (ev_iadd rfl).trans ?_
  refine (ev_iaS rfl (by decide)).trans (am_itn (fun g2 => ?_))
  refine (ev_aloadS rfl rfl).trans ?_
  refine (ev_iload rfl rfl).trans ?_
  refine (ev_const0 (v := (3 : Int32)) rfl am_ci_3).trans ?_
  refine (ev_iadd rfl).trans ?_
  refine (ev_iaS rfl (by decide)).trans (am_itn (fun g3 => ?_))
  refine (ev_aloadS rfl rfl).trans ?_
  refine (ev_iload rfl rfl).trans ?_
  refine (ev_const0 (v := (4 : Int32)) rfl am_ci_4).trans ?_
  refine (ev_iadd rfl).trans ?_
  refine (ev_iaS rfl (by decide)).trans (am_itn (fun g4 => ?_))
  refine (ev_aloadS rfl rfl).trans ?_
  refine (ev_iload rfl rfl).trans ?_
  refine (ev_const0 (v := (5 : Int32)) rfl am_ci_5).trans ?_
  refine (ev_iadd rfl).trans ?_
  refine (ev_iaS rfl (by decide)).trans (am_itn (fun g5 => ?_))
  exact ev_invv (as := [.int ((X 2).2 (x1 + (5 : Int32)).toNatClampNeg), .int ((X 2).2 (x1 + (4 : Int32)).toNatClampNeg), .int ((X 2).2 (x1 + (3 : Int32)).toNatClampNeg), .int ((X 2).2 (x1 + (2 : Int32)).toNatClampNeg), .int ((X 2).2 (x1 + (1 : Int32)).toNatClampNeg)]) rfl (by decide) am_K_139 rfl (by simp [Value.category])
set_option maxRecDepth 10000 in
theorem sg_362_76 (X : am_X) (I : Nat → Nat → Int32) (J : Nat → Nat → Int64) (x1 : Int32) (x2 : Int32) (x3 : Int32) : am_ev X amP_362 76 [.retAddr 2, .ref 0, .ref 139, .int x1] [.int x3, .int x2] (am_sh I J) = (if x2 = x3 then am_ev X amP_362 10 [.retAddr 2, .ref 0, .ref 139, .int (x1 + (6 : Int32))] [] (am_sh I J) else some (some (.int (0 : Int32)), am_sh I J)) := by
  refine (ev_icmp0 rfl).trans (am_ite (fun c1 => ?_) (fun c1 => ?_))
  · refine (ev_iincv (v := (6 : Int32)) (ls' := [.retAddr 2, .ref 0, .ref 139, .int (x1 + (6 : Int32))]) rfl am_ci_6 rfl rfl).trans ?_
    refine (ev_goto rfl).trans ?_
    rfl
  · refine (ev_const0 (v := (0 : Int32)) rfl am_ci_0).trans ?_
    exact ev_zret rfl (by decide)
set_option maxRecDepth 10000 in
theorem sg_362_86 (X : am_X) (I : Nat → Nat → Int32) (J : Nat → Nat → Int64) (x1 : Int32) (x2 : Int32) : am_ev X amP_362 86 [.retAddr 2, .ref 0, .ref 139, .int x1] [.int x2] (am_sh I J) = (if (x1 + (1 : Int32)) < 0 ∨ (X 2).1 ≤ (x1 + (1 : Int32)).toNatClampNeg then none else (am_do X 222 [.ref 139, .int ((X 2).2 (x1 + (1 : Int32)).toNatClampNeg)] (am_sh I J)).bind (fun q => am_ev X amP_362 93 [.retAddr 2, .ref 0, .ref 139, .int x1] (q.1.toList ++ [.int x2]) q.2)) := by
  refine (ev_aload rfl rfl).trans ?_
  refine (ev_aloadS rfl rfl).trans ?_
  refine (ev_iload rfl rfl).trans ?_
  refine (ev_const0 (v := (1 : Int32)) rfl am_ci_1).trans ?_
  refine (ev_iadd rfl).trans ?_
  refine (ev_iaS rfl (by decide)).trans (am_itn (fun g1 => ?_))
  exact ev_invv (as := [.int ((X 2).2 (x1 + (1 : Int32)).toNatClampNeg)]) rfl (by decide) am_K_139 rfl (by simp [Value.category])
set_option maxRecDepth 10000 in
theorem sg_362_93 (X : am_X) (I : Nat → Nat → Int32) (J : Nat → Nat → Int64) (x1 : Int32) (x2 : Int32) (x3 : Int32) : am_ev X amP_362 93 [.retAddr 2, .ref 0, .ref 139, .int x1] [.int x3, .int x2] (am_sh I J) = (if x2 = x3 then am_ev X amP_362 10 [.retAddr 2, .ref 0, .ref 139, .int (x1 + (6 : Int32))] [] (am_sh I J) else some (some (.int (0 : Int32)), am_sh I J)) := by
  refine (ev_icmp0 rfl).trans (am_ite (fun c1 => ?_) (fun c1 => ?_))
  · refine (ev_iincv (v := (6 : Int32)) (ls' := [.retAddr 2, .ref 0, .ref 139, .int (x1 + (6 : Int32))]) rfl am_ci_6 rfl rfl).trans ?_
    refine (ev_goto rfl).trans ?_
    rfl
  · refine (ev_const0 (v := (0 : Int32)) rfl am_ci_0).trans ?_
    exact ev_zret rfl (by decide)
set_option maxRecDepth 10000 in
theorem sg_362_98 (X : am_X) (I : Nat → Nat → Int32) (J : Nat → Nat → Int64) (x1 : Int32) (x2 : Int32) : am_ev X amP_362 98 [.retAddr 2, .ref 0, .ref 139, .int x1] [.int x2] (am_sh I J) = (am_do X 239 [.ref 139] (am_sh I J)).bind (fun q => am_ev X amP_362 100 [.retAddr 2, .ref 0, .ref 139, .int x1] (q.1.toList ++ [.int x2]) q.2) := by
  refine (ev_aload rfl rfl).trans ?_
  exact ev_invv (as := []) rfl (by decide) am_K_139 rfl (by simp [Value.category])
set_option maxRecDepth 10000 in
theorem sg_362_100 (X : am_X) (I : Nat → Nat → Int32) (J : Nat → Nat → Int64) (x1 : Int32) (x2 : Int32) (x3 : Int32) : am_ev X amP_362 100 [.retAddr 2, .ref 0, .ref 139, .int x1] [.int x3, .int x2] (am_sh I J) = (if x2 = x3 then am_ev X amP_362 10 [.retAddr 2, .ref 0, .ref 139, .int (x1 + (6 : Int32))] [] (am_sh I J) else some (some (.int (0 : Int32)), am_sh I J)) := by
  refine (ev_icmp0 rfl).trans (am_ite (fun c1 => ?_) (fun c1 => ?_))
  · refine (ev_iincv (v := (6 : Int32)) (ls' := [.retAddr 2, .ref 0, .ref 139, .int (x1 + (6 : Int32))]) rfl am_ci_6 rfl rfl).trans ?_
    refine (ev_goto rfl).trans ?_
    rfl
  · refine (ev_const0 (v := (0 : Int32)) rfl am_ci_0).trans ?_
    exact ev_zret rfl (by decide)
set_option maxRecDepth 10000 in
theorem sg_362_110 (X : am_X) (I : Nat → Nat → Int32) (J : Nat → Nat → Int64) (x1 : Int32) (x2 : Int32) : am_ev X amP_362 110 [.retAddr 2, .ref 0, .ref 139, .int x1] [.int x2] (am_sh I J) = (if (x1 + (1 : Int32)) < 0 ∨ (X 2).1 ≤ (x1 + (1 : Int32)).toNatClampNeg then none else (am_do X 240 [.ref 139, .int ((X 2).2 (x1 + (1 : Int32)).toNatClampNeg)] (am_sh I J)).bind (fun q => am_ev X amP_362 117 [.retAddr 2, .ref 0, .ref 139, .int x1] (q.1.toList ++ [.int x2]) q.2)) := by
  refine (ev_aload rfl rfl).trans ?_
  refine (ev_aloadS rfl rfl).trans ?_
  refine (ev_iload rfl rfl).trans ?_
  refine (ev_const0 (v := (1 : Int32)) rfl am_ci_1).trans ?_
  refine (ev_iadd rfl).trans ?_
  refine (ev_iaS rfl (by decide)).trans (am_itn (fun g1 => ?_))
  exact ev_invv (as := [.int ((X 2).2 (x1 + (1 : Int32)).toNatClampNeg)]) rfl (by decide) am_K_139 rfl (by simp [Value.category])
set_option maxRecDepth 10000 in
theorem sg_362_117 (X : am_X) (I : Nat → Nat → Int32) (J : Nat → Nat → Int64) (x1 : Int32) (x2 : Int32) (x3 : Int32) : am_ev X amP_362 117 [.retAddr 2, .ref 0, .ref 139, .int x1] [.int x3, .int x2] (am_sh I J) = (if x2 = x3 then am_ev X amP_362 10 [.retAddr 2, .ref 0, .ref 139, .int (x1 + (6 : Int32))] [] (am_sh I J) else some (some (.int (0 : Int32)), am_sh I J)) := by
  refine (ev_icmp0 rfl).trans (am_ite (fun c1 => ?_) (fun c1 => ?_))
  · refine (ev_iincv (v := (6 : Int32)) (ls' := [.retAddr 2, .ref 0, .ref 139, .int (x1 + (6 : Int32))]) rfl am_ci_6 rfl rfl).trans ?_
    refine (ev_goto rfl).trans ?_
    rfl
  · refine (ev_const0 (v := (0 : Int32)) rfl am_ci_0).trans ?_
    exact ev_zret rfl (by decide)
set_option maxRecDepth 10000 in
theorem sg_362_127 (X : am_X) (I : Nat → Nat → Int32) (J : Nat → Nat → Int64) (x1 : Int32) (x2 : Int32) : am_ev X amP_362 127 [.retAddr 2, .ref 0, .ref 139, .int x1] [.int x2] (am_sh I J) = (if (x1 + (1 : Int32)) < 0 ∨ (X 2).1 ≤ (x1 + (1 : Int32)).toNatClampNeg then none else (am_do X 263 [.ref 139, .int ((X 2).2 (x1 + (1 : Int32)).toNatClampNeg)] (am_sh I J)).bind (fun q => am_ev X amP_362 134 [.retAddr 2, .ref 0, .ref 139, .int x1] (q.1.toList ++ [.int x2]) q.2)) := by
  refine (ev_aload rfl rfl).trans ?_
  refine (ev_aloadS rfl rfl).trans ?_
  refine (ev_iload rfl rfl).trans ?_
  refine (ev_const0 (v := (1 : Int32)) rfl am_ci_1).trans ?_
  refine (ev_iadd rfl).trans ?_
  refine (ev_iaS rfl (by decide)).trans (am_itn (fun g1 => ?_))
  exact ev_invv (as := [.int ((X 2).2 (x1 + (1 : Int32)).toNatClampNeg)]) rfl (by decide) am_K_139 rfl (by simp [Value.category])
set_option maxRecDepth 10000 in
theorem sg_362_134 (X : am_X) (I : Nat → Nat → Int32) (J : Nat → Nat → Int64) (x1 : Int32) (x2 : Int32) (x3 : Int32) : am_ev X amP_362 134 [.retAddr 2, .ref 0, .ref 139, .int x1] [.int x3, .int x2] (am_sh I J) = (if x2 = x3 then am_ev X amP_362 10 [.retAddr 2, .ref 0, .ref 139, .int (x1 + (6 : Int32))] [] (am_sh I J) else some (some (.int (0 : Int32)), am_sh I J)) := by
  refine (ev_icmp0 rfl).trans (am_ite (fun c1 => ?_) (fun c1 => ?_))
  · refine (ev_iincv (v := (6 : Int32)) (ls' := [.retAddr 2, .ref 0, .ref 139, .int (x1 + (6 : Int32))]) rfl am_ci_6 rfl rfl).trans ?_
    refine (ev_goto rfl).trans ?_
    rfl
  · refine (ev_const0 (v := (0 : Int32)) rfl am_ci_0).trans ?_
    exact ev_zret rfl (by decide)
set_option maxRecDepth 10000 in
theorem sg_362_149 (X : am_X) (I : Nat → Nat → Int32) (J : Nat → Nat → Int64) (x1 : Int32) (x2 : Int32) : am_ev X amP_362 149 [.retAddr 2, .ref 0, .ref 139, .int x1] [.int x2] (am_sh I J) = (if (x1 + (1 : Int32)) < 0 ∨ (X 2).1 ≤ (x1 + (1 : Int32)).toNatClampNeg then none else (if (x1 + (2 : Int32)) < 0 ∨ (X 2).1 ≤ (x1 + (2 : Int32)).toNatClampNeg then none else (am_do X 264 [.ref 139, .int ((X 2).2 (x1 + (1 : Int32)).toNatClampNeg), .int ((X 2).2 (x1 + (2 : Int32)).toNatClampNeg)] (am_sh I J)).bind (fun q => am_ev X amP_362 161 [.retAddr 2, .ref 0, .ref 139, .int x1] (q.1.toList ++ [.int x2]) q.2))) := by
  refine (ev_aload rfl rfl).trans ?_
  refine (ev_aloadS rfl rfl).trans ?_
  refine (ev_iload rfl rfl).trans ?_
  refine (ev_const0 (v := (1 : Int32)) rfl am_ci_1).trans ?_
  refine (ev_iadd rfl).trans ?_
  refine (ev_iaS rfl (by decide)).trans (am_itn (fun g1 => ?_))
  refine (ev_aloadS rfl rfl).trans ?_
  refine (ev_iload rfl rfl).trans ?_
  refine (ev_const0 (v := (2 : Int32)) rfl am_ci_2).trans ?_
  refine (ev_iadd rfl).trans ?_
  refine (ev_iaS rfl (by decide)).trans (am_itn (fun g2 => ?_))
  exact ev_invv (as := [.int ((X 2).2 (x1 + (2 : Int32)).toNatClampNeg), .int ((X 2).2 (x1 + (1 : Int32)).toNatClampNeg)]) rfl (by decide) am_K_139 rfl (by simp [Value.category])
set_option maxRecDepth 10000 in
theorem sg_362_161 (X : am_X) (I : Nat → Nat → Int32) (J : Nat → Nat → Int64) (x1 : Int32) (x2 : Int32) (x3 : Int32) : am_ev X amP_362 161 [.retAddr 2, .ref 0, .ref 139, .int x1] [.int x3, .int x2] (am_sh I J) = (if x2 = x3 then am_ev X amP_362 10 [.retAddr 2, .ref 0, .ref 139, .int (x1 + (6 : Int32))] [] (am_sh I J) else some (some (.int (0 : Int32)), am_sh I J)) := by
  refine (ev_icmp0 rfl).trans (am_ite (fun c1 => ?_) (fun c1 => ?_))
  · refine (ev_iincv (v := (6 : Int32)) (ls' := [.retAddr 2, .ref 0, .ref 139, .int (x1 + (6 : Int32))]) rfl am_ci_6 rfl rfl).trans ?_
    refine (ev_goto rfl).trans ?_
    rfl
  · refine (ev_const0 (v := (0 : Int32)) rfl am_ci_0).trans ?_
    exact ev_zret rfl (by decide)
set_option maxRecDepth 10000 in
theorem sg_362_166 (X : am_X) (I : Nat → Nat → Int32) (J : Nat → Nat → Int64) (x1 : Int32) (x2 : Int32) : am_ev X amP_362 166 [.retAddr 2, .ref 0, .ref 139, .int x1] [.int x2] (am_sh I J) = (am_do X 265 [.ref 139] (am_sh I J)).bind (fun q => am_ev X amP_362 168 [.retAddr 2, .ref 0, .ref 139, .int x1] (q.1.toList ++ [.int x2]) q.2) := by
  refine (ev_aload rfl rfl).trans ?_
  exact ev_invv (as := []) rfl (by decide) am_K_139 rfl (by simp [Value.category])
set_option maxRecDepth 10000 in
theorem sg_362_168 (X : am_X) (I : Nat → Nat → Int32) (J : Nat → Nat → Int64) (x1 : Int32) (x2 : Int32) (x3 : Int32) : am_ev X amP_362 168 [.retAddr 2, .ref 0, .ref 139, .int x1] [.int x3, .int x2] (am_sh I J) = (if x2 = x3 then am_ev X amP_362 10 [.retAddr 2, .ref 0, .ref 139, .int (x1 + (6 : Int32))] [] (am_sh I J) else some (some (.int (0 : Int32)), am_sh I J)) := by
  refine (ev_icmp0 rfl).trans (am_ite (fun c1 => ?_) (fun c1 => ?_))
  · refine (ev_iincv (v := (6 : Int32)) (ls' := [.retAddr 2, .ref 0, .ref 139, .int (x1 + (6 : Int32))]) rfl am_ci_6 rfl rfl).trans ?_
    refine (ev_goto rfl).trans ?_
    rfl
  · refine (ev_const0 (v := (0 : Int32)) rfl am_ci_0).trans ?_
    exact ev_zret rfl (by decide)
set_option maxRecDepth 10000 in
theorem sg_362_183 (X : am_X) (I : Nat → Nat → Int32) (J : Nat → Nat → Int64) (x1 : Int32) (x2 : Int32) : am_ev X amP_362 183 [.retAddr 2, .ref 0, .ref 139, .int x1] [.int x2] (am_sh I J) = (if (x1 + (1 : Int32)) < 0 ∨ (X 2).1 ≤ (x1 + (1 : Int32)).toNatClampNeg then none else (if (x1 + (2 : Int32)) < 0 ∨ (X 2).1 ≤ (x1 + (2 : Int32)).toNatClampNeg then none else (am_do X 266 [.ref 139, .int ((X 2).2 (x1 + (1 : Int32)).toNatClampNeg), .int ((X 2).2 (x1 + (2 : Int32)).toNatClampNeg)] (am_sh I J)).bind (fun q => am_ev X amP_362 195 [.retAddr 2, .ref 0, .ref 139, .int x1] (q.1.toList ++ [.int x2]) q.2))) := by
  refine (ev_aload rfl rfl).trans ?_
  refine (ev_aloadS rfl rfl).trans ?_
  refine (ev_iload rfl rfl).trans ?_
  refine (ev_const0 (v := (1 : Int32)) rfl am_ci_1).trans ?_
  refine (ev_iadd rfl).trans ?_
  refine (ev_iaS rfl (by decide)).trans (am_itn (fun g1 => ?_))
  refine (ev_aloadS rfl rfl).trans ?_
  refine (ev_iload rfl rfl).trans ?_
  refine (ev_const0 (v := (2 : Int32)) rfl am_ci_2).trans ?_
  refine (ev_iadd rfl).trans ?_
  refine (ev_iaS rfl (by decide)).trans (am_itn (fun g2 => ?_))
  exact ev_invv (as := [.int ((X 2).2 (x1 + (2 : Int32)).toNatClampNeg), .int ((X 2).2 (x1 + (1 : Int32)).toNatClampNeg)]) rfl (by decide) am_K_139 rfl (by simp [Value.category])
set_option maxRecDepth 10000 in
theorem sg_362_195 (X : am_X) (I : Nat → Nat → Int32) (J : Nat → Nat → Int64) (x1 : Int32) (x2 : Int32) (x3 : Int32) : am_ev X amP_362 195 [.retAddr 2, .ref 0, .ref 139, .int x1] [.int x3, .int x2] (am_sh I J) = (if x2 = x3 then am_ev X amP_362 10 [.retAddr 2, .ref 0, .ref 139, .int (x1 + (6 : Int32))] [] (am_sh I J) else some (some (.int (0 : Int32)), am_sh I J)) := by
  refine (ev_icmp0 rfl).trans (am_ite (fun c1 => ?_) (fun c1 => ?_))
  · refine (ev_iincv (v := (6 : Int32)) (ls' := [.retAddr 2, .ref 0, .ref 139, .int (x1 + (6 : Int32))]) rfl am_ci_6 rfl rfl).trans ?_
    refine (ev_goto rfl).trans ?_
    rfl
  · refine (ev_const0 (v := (0 : Int32)) rfl am_ci_0).trans ?_
    exact ev_zret rfl (by decide)
set_option maxRecDepth 10000 in
theorem sg_362_215 (X : am_X) (I : Nat → Nat → Int32) (J : Nat → Nat → Int64) (x1 : Int32) (x2 : Int32) : am_ev X amP_362 215 [.retAddr 2, .ref 0, .ref 139, .int x1] [.int x2] (am_sh I J) = (if (x1 + (1 : Int32)) < 0 ∨ (X 2).1 ≤ (x1 + (1 : Int32)).toNatClampNeg then none else (if (x1 + (2 : Int32)) < 0 ∨ (X 2).1 ≤ (x1 + (2 : Int32)).toNatClampNeg then none else (if (x1 + (3 : Int32)) < 0 ∨ (X 2).1 ≤ (x1 + (3 : Int32)).toNatClampNeg then none else (am_do X 267 [.ref 139, .int ((X 2).2 (x1 + (1 : Int32)).toNatClampNeg), .int ((X 2).2 (x1 + (2 : Int32)).toNatClampNeg), .int ((X 2).2 (x1 + (3 : Int32)).toNatClampNeg)] (am_sh I J)).bind (fun q => am_ev X amP_362 232 [.retAddr 2, .ref 0, .ref 139, .int x1] (q.1.toList ++ [.int x2]) q.2)))) := by
  refine (ev_aload rfl rfl).trans ?_
  refine (ev_aloadS rfl rfl).trans ?_
  refine (ev_iload rfl rfl).trans ?_
  refine (ev_const0 (v := (1 : Int32)) rfl am_ci_1).trans ?_
  refine (ev_iadd rfl).trans ?_
  refine (ev_iaS rfl (by decide)).trans (am_itn (fun g1 => ?_))
  refine (ev_aloadS rfl rfl).trans ?_
  refine (ev_iload rfl rfl).trans ?_
  refine (ev_const0 (v := (2 : Int32)) rfl am_ci_2).trans ?_
  refine (ev_iadd rfl).trans ?_
  refine (ev_iaS rfl (by decide)).trans (am_itn (fun g2 => ?_))
  refine (ev_aloadS rfl rfl).trans ?_
  refine (ev_iload rfl rfl).trans ?_
  refine (ev_const0 (v := (3 : Int32)) rfl am_ci_3).trans ?_
  refine (ev_iadd rfl).trans ?_
  refine (ev_iaS rfl (by decide)).trans (am_itn (fun g3 => ?_))
  exact ev_invv (as := [.int ((X 2).2 (x1 + (3 : Int32)).toNatClampNeg), .int ((X 2).2 (x1 + (2 : Int32)).toNatClampNeg), .int ((X 2).2 (x1 + (1 : Int32)).toNatClampNeg)]) rfl (by decide) am_K_139 rfl (by simp [Value.category])
set_option maxRecDepth 10000 in
theorem sg_362_232 (X : am_X) (I : Nat → Nat → Int32) (J : Nat → Nat → Int64) (x1 : Int32) (x2 : Int32) (x3 : Int32) : am_ev X amP_362 232 [.retAddr 2, .ref 0, .ref 139, .int x1] [.int x3, .int x2] (am_sh I J) = (if x2 = x3 then am_ev X amP_362 10 [.retAddr 2, .ref 0, .ref 139, .int (x1 + (6 : Int32))] [] (am_sh I J) else some (some (.int (0 : Int32)), am_sh I J)) := by
  refine (ev_icmp0 rfl).trans (am_ite (fun c1 => ?_) (fun c1 => ?_))
  · refine (ev_iincv (v := (6 : Int32)) (ls' := [.retAddr 2, .ref 0, .ref 139, .int (x1 + (6 : Int32))]) rfl am_ci_6 rfl rfl).trans ?_
    refine (ev_goto rfl).trans ?_
    rfl
  · refine (ev_const0 (v := (0 : Int32)) rfl am_ci_0).trans ?_
    exact ev_zret rfl (by decide)
set_option maxRecDepth 10000 in
theorem sg_362_252 (X : am_X) (I : Nat → Nat → Int32) (J : Nat → Nat → Int64) (x1 : Int32) (x2 : Int32) : am_ev X amP_362 252 [.retAddr 2, .ref 0, .ref 139, .int x1] [.int x2] (am_sh I J) = (if (x1 + (1 : Int32)) < 0 ∨ (X 2).1 ≤ (x1 + (1 : Int32)).toNatClampNeg then none else (if (x1 + (2 : Int32)) < 0 ∨ (X 2).1 ≤ (x1 + (2 : Int32)).toNatClampNeg then none else (if (x1 + (3 : Int32)) < 0 ∨ (X 2).1 ≤ (x1 + (3 : Int32)).toNatClampNeg then none else (am_do X 268 [.ref 139, .int ((X 2).2 (x1 + (1 : Int32)).toNatClampNeg), .int ((X 2).2 (x1 + (2 : Int32)).toNatClampNeg), .int ((X 2).2 (x1 + (3 : Int32)).toNatClampNeg)] (am_sh I J)).bind (fun q => am_ev X amP_362 269 [.retAddr 2, .ref 0, .ref 139, .int x1] (q.1.toList ++ [.int x2]) q.2)))) := by
  refine (ev_aload rfl rfl).trans ?_
  refine (ev_aloadS rfl rfl).trans ?_
  refine (ev_iload rfl rfl).trans ?_
  refine (ev_const0 (v := (1 : Int32)) rfl am_ci_1).trans ?_
  refine (ev_iadd rfl).trans ?_
  refine (ev_iaS rfl (by decide)).trans (am_itn (fun g1 => ?_))
  refine (ev_aloadS rfl rfl).trans ?_
  refine (ev_iload rfl rfl).trans ?_
  refine (ev_const0 (v := (2 : Int32)) rfl am_ci_2).trans ?_
  refine (ev_iadd rfl).trans ?_
  refine (ev_iaS rfl (by decide)).trans (am_itn (fun g2 => ?_))
  refine (ev_aloadS rfl rfl).trans ?_
  refine (ev_iload rfl rfl).trans ?_
  refine (ev_const0 (v := (3 : Int32)) rfl am_ci_3).trans ?_
  refine (ev_iadd rfl).trans ?_
  refine (ev_iaS rfl (by decide)).trans (am_itn (fun g3 => ?_))
  exact ev_invv (as := [.int ((X 2).2 (x1 + (3 : Int32)).toNatClampNeg), .int ((X 2).2 (x1 + (2 : Int32)).toNatClampNeg), .int ((X 2).2 (x1 + (1 : Int32)).toNatClampNeg)]) rfl (by decide) am_K_139 rfl (by simp [Value.category])
set_option maxRecDepth 10000 in
theorem sg_362_269 (X : am_X) (I : Nat → Nat → Int32) (J : Nat → Nat → Int64) (x1 : Int32) (x2 : Int32) (x3 : Int32) : am_ev X amP_362 269 [.retAddr 2, .ref 0, .ref 139, .int x1] [.int x3, .int x2] (am_sh I J) = (if x2 = x3 then am_ev X amP_362 10 [.retAddr 2, .ref 0, .ref 139, .int (x1 + (6 : Int32))] [] (am_sh I J) else some (some (.int (0 : Int32)), am_sh I J)) := by
  refine (ev_icmp0 rfl).trans (am_ite (fun c1 => ?_) (fun c1 => ?_))
  · refine (ev_iincv (v := (6 : Int32)) (ls' := [.retAddr 2, .ref 0, .ref 139, .int (x1 + (6 : Int32))]) rfl am_ci_6 rfl rfl).trans ?_
    refine (ev_goto rfl).trans ?_
    rfl
  · refine (ev_const0 (v := (0 : Int32)) rfl am_ci_0).trans ?_
    exact ev_zret rfl (by decide)
set_option maxRecDepth 10000 in
theorem sg_362_289 (X : am_X) (I : Nat → Nat → Int32) (J : Nat → Nat → Int64) (x1 : Int32) (x2 : Int32) : am_ev X amP_362 289 [.retAddr 2, .ref 0, .ref 139, .int x1] [.int x2] (am_sh I J) = (if (x1 + (1 : Int32)) < 0 ∨ (X 2).1 ≤ (x1 + (1 : Int32)).toNatClampNeg then none else (if (x1 + (2 : Int32)) < 0 ∨ (X 2).1 ≤ (x1 + (2 : Int32)).toNatClampNeg then none else (if (x1 + (3 : Int32)) < 0 ∨ (X 2).1 ≤ (x1 + (3 : Int32)).toNatClampNeg then none else (am_do X 270 [.ref 139, .int ((X 2).2 (x1 + (1 : Int32)).toNatClampNeg), .int ((X 2).2 (x1 + (2 : Int32)).toNatClampNeg), .int ((X 2).2 (x1 + (3 : Int32)).toNatClampNeg)] (am_sh I J)).bind (fun q => am_ev X amP_362 306 [.retAddr 2, .ref 0, .ref 139, .int x1] (q.1.toList ++ [.int x2]) q.2)))) := by
  refine (ev_aload rfl rfl).trans ?_
  refine (ev_aloadS rfl rfl).trans ?_
  refine (ev_iload rfl rfl).trans ?_
  refine (ev_const0 (v := (1 : Int32)) rfl am_ci_1).trans ?_
  refine (ev_iadd rfl).trans ?_
  refine (ev_iaS rfl (by decide)).trans (am_itn (fun g1 => ?_))
  refine (ev_aloadS rfl rfl).trans ?_
  refine (ev_iload rfl rfl).trans ?_
  refine (ev_const0 (v := (2 : Int32)) rfl am_ci_2).trans ?_
  refine (ev_iadd rfl).trans ?_
  refine (ev_iaS rfl (by decide)).trans (am_itn (fun g2 => ?_))
  refine (ev_aloadS rfl rfl).trans ?_
  refine (ev_iload rfl rfl).trans ?_
  refine (ev_const0 (v := (3 : Int32)) rfl am_ci_3).trans ?_
  refine (ev_iadd rfl).trans ?_
  refine (ev_iaS rfl (by decide)).trans (am_itn (fun g3 => ?_))
  exact ev_invv (as := [.int ((X 2).2 (x1 + (3 : Int32)).toNatClampNeg), .int ((X 2).2 (x1 + (2 : Int32)).toNatClampNeg), .int ((X 2).2 (x1 + (1 : Int32)).toNatClampNeg)]) rfl (by decide) am_K_139 rfl (by simp [Value.category])
set_option maxRecDepth 10000 in
theorem sg_362_306 (X : am_X) (I : Nat → Nat → Int32) (J : Nat → Nat → Int64) (x1 : Int32) (x2 : Int32) (x3 : Int32) : am_ev X amP_362 306 [.retAddr 2, .ref 0, .ref 139, .int x1] [.int x3, .int x2] (am_sh I J) = (if x2 = x3 then am_ev X amP_362 10 [.retAddr 2, .ref 0, .ref 139, .int (x1 + (6 : Int32))] [] (am_sh I J) else some (some (.int (0 : Int32)), am_sh I J)) := by
  refine (ev_icmp0 rfl).trans (am_ite (fun c1 => ?_) (fun c1 => ?_))
  · refine (ev_iincv (v := (6 : Int32)) (ls' := [.retAddr 2, .ref 0, .ref 139, .int (x1 + (6 : Int32))]) rfl am_ci_6 rfl rfl).trans ?_
    refine (ev_goto rfl).trans ?_
    rfl
  · refine (ev_const0 (v := (0 : Int32)) rfl am_ci_0).trans ?_
    exact ev_zret rfl (by decide)
set_option maxRecDepth 10000 in
theorem sg_362_321 (X : am_X) (I : Nat → Nat → Int32) (J : Nat → Nat → Int64) (x1 : Int32) (x2 : Int32) : am_ev X amP_362 321 [.retAddr 2, .ref 0, .ref 139, .int x1] [.int x2] (am_sh I J) = (if (x1 + (1 : Int32)) < 0 ∨ (X 2).1 ≤ (x1 + (1 : Int32)).toNatClampNeg then none else (if (x1 + (2 : Int32)) < 0 ∨ (X 2).1 ≤ (x1 + (2 : Int32)).toNatClampNeg then none else (am_do X 276 [.ref 139, .int ((X 2).2 (x1 + (1 : Int32)).toNatClampNeg), .int ((X 2).2 (x1 + (2 : Int32)).toNatClampNeg)] (am_sh I J)).bind (fun q => am_ev X amP_362 333 [.retAddr 2, .ref 0, .ref 139, .int x1] (q.1.toList ++ [.int x2]) q.2))) := by
  refine (ev_aload rfl rfl).trans ?_
  refine (ev_aloadS rfl rfl).trans ?_
  refine (ev_iload rfl rfl).trans ?_
  refine (ev_const0 (v := (1 : Int32)) rfl am_ci_1).trans ?_
  refine (ev_iadd rfl).trans ?_
  refine (ev_iaS rfl (by decide)).trans (am_itn (fun g1 => ?_))
  refine (ev_aloadS rfl rfl).trans ?_
  refine (ev_iload rfl rfl).trans ?_
  refine (ev_const0 (v := (2 : Int32)) rfl am_ci_2).trans ?_
  refine (ev_iadd rfl).trans ?_
  refine (ev_iaS rfl (by decide)).trans (am_itn (fun g2 => ?_))
  exact ev_invv (as := [.int ((X 2).2 (x1 + (2 : Int32)).toNatClampNeg), .int ((X 2).2 (x1 + (1 : Int32)).toNatClampNeg)]) rfl (by decide) am_K_139 rfl (by simp [Value.category])
set_option maxRecDepth 10000 in
theorem sg_362_333 (X : am_X) (I : Nat → Nat → Int32) (J : Nat → Nat → Int64) (x1 : Int32) (x2 : Int32) (x3 : Int32) : am_ev X amP_362 333 [.retAddr 2, .ref 0, .ref 139, .int x1] [.int x3, .int x2] (am_sh I J) = (if x2 = x3 then am_ev X amP_362 10 [.retAddr 2, .ref 0, .ref 139, .int (x1 + (6 : Int32))] [] (am_sh I J) else some (some (.int (0 : Int32)), am_sh I J)) := by
  refine (ev_icmp0 rfl).trans (am_ite (fun c1 => ?_) (fun c1 => ?_))
  · refine (ev_iincv (v := (6 : Int32)) (ls' := [.retAddr 2, .ref 0, .ref 139, .int (x1 + (6 : Int32))]) rfl am_ci_6 rfl rfl).trans ?_
    refine (ev_goto rfl).trans ?_
    rfl
  · refine (ev_const0 (v := (0 : Int32)) rfl am_ci_0).trans ?_
    exact ev_zret rfl (by decide)
set_option maxRecDepth 10000 in
theorem sg_362_353 (X : am_X) (I : Nat → Nat → Int32) (J : Nat → Nat → Int64) (x1 : Int32) (x2 : Int32) : am_ev X amP_362 353 [.retAddr 2, .ref 0, .ref 139, .int x1] [.int x2] (am_sh I J) = (if (x1 + (1 : Int32)) < 0 ∨ (X 2).1 ≤ (x1 + (1 : Int32)).toNatClampNeg then none else (if (x1 + (2 : Int32)) < 0 ∨ (X 2).1 ≤ (x1 + (2 : Int32)).toNatClampNeg then none else (if (x1 + (3 : Int32)) < 0 ∨ (X 2).1 ≤ (x1 + (3 : Int32)).toNatClampNeg then none else (am_do X 277 [.ref 139, .int ((X 2).2 (x1 + (1 : Int32)).toNatClampNeg), .int ((X 2).2 (x1 + (2 : Int32)).toNatClampNeg), .int ((X 2).2 (x1 + (3 : Int32)).toNatClampNeg)] (am_sh I J)).bind (fun q => am_ev X amP_362 370 [.retAddr 2, .ref 0, .ref 139, .int x1] (q.1.toList ++ [.int x2]) q.2)))) := by
  refine (ev_aload rfl rfl).trans ?_
  refine (ev_aloadS rfl rfl).trans ?_
  refine (ev_iload rfl rfl).trans ?_
  refine (ev_const0 (v := (1 : Int32)) rfl am_ci_1).trans ?_
  refine (ev_iadd rfl).trans ?_
  refine (ev_iaS rfl (by decide)).trans (am_itn (fun g1 => ?_))
  refine (ev_aloadS rfl rfl).trans ?_
  refine (ev_iload rfl rfl).trans ?_
  refine (ev_const0 (v := (2 : Int32)) rfl am_ci_2).trans ?_
  refine (ev_iadd rfl).trans ?_
  refine (ev_iaS rfl (by decide)).trans (am_itn (fun g2 => ?_))
  refine (ev_aloadS rfl rfl).trans ?_
  refine (ev_iload rfl rfl).trans ?_
  refine (ev_const0 (v := (3 : Int32)) rfl am_ci_3).trans ?_
  refine (ev_iadd rfl).trans ?_
  refine (ev_iaS rfl (by decide)).trans (am_itn (fun g3 => ?_))
  exact ev_invv (as := [.int ((X 2).2 (x1 + (3 : Int32)).toNatClampNeg), .int ((X 2).2 (x1 + (2 : Int32)).toNatClampNeg), .int ((X 2).2 (x1 + (1 : Int32)).toNatClampNeg)]) rfl (by decide) am_K_139 rfl (by simp [Value.category])
set_option maxRecDepth 10000 in
theorem sg_362_370 (X : am_X) (I : Nat → Nat → Int32) (J : Nat → Nat → Int64) (x1 : Int32) (x2 : Int32) (x3 : Int32) : am_ev X amP_362 370 [.retAddr 2, .ref 0, .ref 139, .int x1] [.int x3, .int x2] (am_sh I J) = (if x2 = x3 then am_ev X amP_362 10 [.retAddr 2, .ref 0, .ref 139, .int (x1 + (6 : Int32))] [] (am_sh I J) else some (some (.int (0 : Int32)), am_sh I J)) := by
  refine (ev_icmp0 rfl).trans (am_ite (fun c1 => ?_) (fun c1 => ?_))
  · refine (ev_iincv (v := (6 : Int32)) (ls' := [.retAddr 2, .ref 0, .ref 139, .int (x1 + (6 : Int32))]) rfl am_ci_6 rfl rfl).trans ?_
    refine (ev_goto rfl).trans ?_
    rfl
  · refine (ev_const0 (v := (0 : Int32)) rfl am_ci_0).trans ?_
    exact ev_zret rfl (by decide)
set_option maxRecDepth 10000 in
theorem sg_362_390 (X : am_X) (I : Nat → Nat → Int32) (J : Nat → Nat → Int64) (x1 : Int32) (x2 : Int32) : am_ev X amP_362 390 [.retAddr 2, .ref 0, .ref 139, .int x1] [.int x2] (am_sh I J) = (if (x1 + (1 : Int32)) < 0 ∨ (X 2).1 ≤ (x1 + (1 : Int32)).toNatClampNeg then none else (if (x1 + (2 : Int32)) < 0 ∨ (X 2).1 ≤ (x1 + (2 : Int32)).toNatClampNeg then none else (if (x1 + (3 : Int32)) < 0 ∨ (X 2).1 ≤ (x1 + (3 : Int32)).toNatClampNeg then none else (am_do X 278 [.ref 139, .int ((X 2).2 (x1 + (1 : Int32)).toNatClampNeg), .int ((X 2).2 (x1 + (2 : Int32)).toNatClampNeg), .int ((X 2).2 (x1 + (3 : Int32)).toNatClampNeg)] (am_sh I J)).bind (fun q => am_ev X amP_362 407 [.retAddr 2, .ref 0, .ref 139, .int x1] (q.1.toList ++ [.int x2]) q.2)))) := by
  refine (ev_aload rfl rfl).trans ?_
  refine (ev_aloadS rfl rfl).trans ?_
  refine (ev_iload rfl rfl).trans ?_
  refine (ev_const0 (v := (1 : Int32)) rfl am_ci_1).trans ?_
  refine (ev_iadd rfl).trans ?_
  refine (ev_iaS rfl (by decide)).trans (am_itn (fun g1 => ?_))
  refine (ev_aloadS rfl rfl).trans ?_
  refine (ev_iload rfl rfl).trans ?_
  refine (ev_const0 (v := (2 : Int32)) rfl am_ci_2).trans ?_
  refine (ev_iadd rfl).trans ?_
  refine (ev_iaS rfl (by decide)).trans (am_itn (fun g2 => ?_))
  refine (ev_aloadS rfl rfl).trans ?_
  refine (ev_iload rfl rfl).trans ?_
  refine (ev_const0 (v := (3 : Int32)) rfl am_ci_3).trans ?_
  refine (ev_iadd rfl).trans ?_
  refine (ev_iaS rfl (by decide)).trans (am_itn (fun g3 => ?_))
  exact ev_invv (as := [.int ((X 2).2 (x1 + (3 : Int32)).toNatClampNeg), .int ((X 2).2 (x1 + (2 : Int32)).toNatClampNeg), .int ((X 2).2 (x1 + (1 : Int32)).toNatClampNeg)]) rfl (by decide) am_K_139 rfl (by simp [Value.category])
set_option maxRecDepth 10000 in
theorem sg_362_407 (X : am_X) (I : Nat → Nat → Int32) (J : Nat → Nat → Int64) (x1 : Int32) (x2 : Int32) (x3 : Int32) : am_ev X amP_362 407 [.retAddr 2, .ref 0, .ref 139, .int x1] [.int x3, .int x2] (am_sh I J) = (if x2 = x3 then am_ev X amP_362 10 [.retAddr 2, .ref 0, .ref 139, .int (x1 + (6 : Int32))] [] (am_sh I J) else some (some (.int (0 : Int32)), am_sh I J)) := by
  refine (ev_icmp0 rfl).trans (am_ite (fun c1 => ?_) (fun c1 => ?_))
  · refine (ev_iincv (v := (6 : Int32)) (ls' := [.retAddr 2, .ref 0, .ref 139, .int (x1 + (6 : Int32))]) rfl am_ci_6 rfl rfl).trans ?_
    refine (ev_goto rfl).trans ?_
    rfl
  · refine (ev_const0 (v := (0 : Int32)) rfl am_ci_0).trans ?_
    exact ev_zret rfl (by decide)
set_option maxRecDepth 10000 in
theorem sg_362_427 (X : am_X) (I : Nat → Nat → Int32) (J : Nat → Nat → Int64) (x1 : Int32) (x2 : Int32) : am_ev X amP_362 427 [.retAddr 2, .ref 0, .ref 139, .int x1] [.int x2] (am_sh I J) = (if (x1 + (1 : Int32)) < 0 ∨ (X 2).1 ≤ (x1 + (1 : Int32)).toNatClampNeg then none else (if (x1 + (2 : Int32)) < 0 ∨ (X 2).1 ≤ (x1 + (2 : Int32)).toNatClampNeg then none else (if (x1 + (3 : Int32)) < 0 ∨ (X 2).1 ≤ (x1 + (3 : Int32)).toNatClampNeg then none else (am_do X 279 [.ref 139, .int ((X 2).2 (x1 + (1 : Int32)).toNatClampNeg), .int ((X 2).2 (x1 + (2 : Int32)).toNatClampNeg), .int ((X 2).2 (x1 + (3 : Int32)).toNatClampNeg)] (am_sh I J)).bind (fun q => am_ev X amP_362 444 [.retAddr 2, .ref 0, .ref 139, .int x1] (q.1.toList ++ [.int x2]) q.2)))) := by
  refine (ev_aload rfl rfl).trans ?_
  refine (ev_aloadS rfl rfl).trans ?_
  refine (ev_iload rfl rfl).trans ?_
  refine (ev_const0 (v := (1 : Int32)) rfl am_ci_1).trans ?_
  refine (ev_iadd rfl).trans ?_
  refine (ev_iaS rfl (by decide)).trans (am_itn (fun g1 => ?_))
  refine (ev_aloadS rfl rfl).trans ?_
  refine (ev_iload rfl rfl).trans ?_
  refine (ev_const0 (v := (2 : Int32)) rfl am_ci_2).trans ?_
  refine (ev_iadd rfl).trans ?_
  refine (ev_iaS rfl (by decide)).trans (am_itn (fun g2 => ?_))
  refine (ev_aloadS rfl rfl).trans ?_
  refine (ev_iload rfl rfl).trans ?_
  refine (ev_const0 (v := (3 : Int32)) rfl am_ci_3).trans ?_
  refine (ev_iadd rfl).trans ?_
  refine (ev_iaS rfl (by decide)).trans (am_itn (fun g3 => ?_))
  exact ev_invv (as := [.int ((X 2).2 (x1 + (3 : Int32)).toNatClampNeg), .int ((X 2).2 (x1 + (2 : Int32)).toNatClampNeg), .int ((X 2).2 (x1 + (1 : Int32)).toNatClampNeg)]) rfl (by decide) am_K_139 rfl (by simp [Value.category])
set_option maxRecDepth 10000 in
theorem sg_362_444 (X : am_X) (I : Nat → Nat → Int32) (J : Nat → Nat → Int64) (x1 : Int32) (x2 : Int32) (x3 : Int32) : am_ev X amP_362 444 [.retAddr 2, .ref 0, .ref 139, .int x1] [.int x3, .int x2] (am_sh I J) = (if x2 = x3 then am_ev X amP_362 10 [.retAddr 2, .ref 0, .ref 139, .int (x1 + (6 : Int32))] [] (am_sh I J) else some (some (.int (0 : Int32)), am_sh I J)) := by
  refine (ev_icmp0 rfl).trans (am_ite (fun c1 => ?_) (fun c1 => ?_))
  · refine (ev_iincv (v := (6 : Int32)) (ls' := [.retAddr 2, .ref 0, .ref 139, .int (x1 + (6 : Int32))]) rfl am_ci_6 rfl rfl).trans ?_
    refine (ev_goto rfl).trans ?_
    rfl
  · refine (ev_const0 (v := (0 : Int32)) rfl am_ci_0).trans ?_
    exact ev_zret rfl (by decide)
set_option maxRecDepth 10000 in
theorem sg_362_469 (X : am_X) (I : Nat → Nat → Int32) (J : Nat → Nat → Int64) (x1 : Int32) (x2 : Int32) : am_ev X amP_362 469 [.retAddr 2, .ref 0, .ref 139, .int x1] [.int x2] (am_sh I J) = (if (x1 + (1 : Int32)) < 0 ∨ (X 2).1 ≤ (x1 + (1 : Int32)).toNatClampNeg then none else (if (x1 + (2 : Int32)) < 0 ∨ (X 2).1 ≤ (x1 + (2 : Int32)).toNatClampNeg then none else (if (x1 + (3 : Int32)) < 0 ∨ (X 2).1 ≤ (x1 + (3 : Int32)).toNatClampNeg then none else (if (x1 + (4 : Int32)) < 0 ∨ (X 2).1 ≤ (x1 + (4 : Int32)).toNatClampNeg then none else (am_do X 282 [.ref 139, .int ((X 2).2 (x1 + (1 : Int32)).toNatClampNeg), .int ((X 2).2 (x1 + (2 : Int32)).toNatClampNeg), .int ((X 2).2 (x1 + (3 : Int32)).toNatClampNeg), .int ((X 2).2 (x1 + (4 : Int32)).toNatClampNeg)] (am_sh I J)).bind (fun q => am_ev X amP_362 491 [.retAddr 2, .ref 0, .ref 139, .int x1] (q.1.toList ++ [.int x2]) q.2))))) := by
  refine (ev_aload rfl rfl).trans ?_
  refine (ev_aloadS rfl rfl).trans ?_
  refine (ev_iload rfl rfl).trans ?_
  refine (ev_const0 (v := (1 : Int32)) rfl am_ci_1).trans ?_
  refine (ev_iadd rfl).trans ?_
  refine (ev_iaS rfl (by decide)).trans (am_itn (fun g1 => ?_))
  refine (ev_aloadS rfl rfl).trans ?_
  refine (ev_iload rfl rfl).trans ?_
  refine (ev_const0 (v := (2 : Int32)) rfl am_ci_2).trans ?_
  refine (ev_iadd rfl).trans ?_
  refine (ev_iaS rfl (by decide)).trans (am_itn (fun g2 => ?_))
  refine (ev_aloadS rfl rfl).trans ?_
  refine (ev_iload rfl rfl).trans ?_
  refine (ev_const0 (v := (3 : Int32)) rfl am_ci_3).trans ?_
  refine (ev_iadd rfl).trans ?_
  refine (ev_iaS rfl (by decide)).trans (am_itn (fun g3 => ?_))
  refine (ev_aloadS rfl rfl).trans ?_
  refine (ev_iload rfl rfl).trans ?_
  refine (ev_const0 (v := (4 : Int32)) rfl am_ci_4).trans ?_
  refine (ev_iadd rfl).trans ?_
  refine (ev_iaS rfl (by decide)).trans (am_itn (fun g4 => ?_))
  exact ev_invv (as := [.int ((X 2).2 (x1 + (4 : Int32)).toNatClampNeg), .int ((X 2).2 (x1 + (3 : Int32)).toNatClampNeg), .int ((X 2).2 (x1 + (2 : Int32)).toNatClampNeg), .int ((X 2).2 (x1 + (1 : Int32)).toNatClampNeg)]) rfl (by decide) am_K_139 rfl (by simp [Value.category])
set_option maxRecDepth 10000 in
theorem sg_362_491 (X : am_X) (I : Nat → Nat → Int32) (J : Nat → Nat → Int64) (x1 : Int32) (x2 : Int32) (x3 : Int32) : am_ev X amP_362 491 [.retAddr 2, .ref 0, .ref 139, .int x1] [.int x3, .int x2] (am_sh I J) = (if x2 = x3 then am_ev X amP_362 10 [.retAddr 2, .ref 0, .ref 139, .int (x1 + (6 : Int32))] [] (am_sh I J) else some (some (.int (0 : Int32)), am_sh I J)) := by
  refine (ev_icmp0 rfl).trans (am_ite (fun c1 => ?_) (fun c1 => ?_))
  · refine (ev_iincv (v := (6 : Int32)) (ls' := [.retAddr 2, .ref 0, .ref 139, .int (x1 + (6 : Int32))]) rfl am_ci_6 rfl rfl).trans ?_
    refine (ev_goto rfl).trans ?_
    rfl
  · refine (ev_const0 (v := (0 : Int32)) rfl am_ci_0).trans ?_
    exact ev_zret rfl (by decide)
set_option maxRecDepth 10000 in
theorem sg_362_516 (X : am_X) (I : Nat → Nat → Int32) (J : Nat → Nat → Int64) (x1 : Int32) (x2 : Int32) : am_ev X amP_362 516 [.retAddr 2, .ref 0, .ref 139, .int x1] [.int x2] (am_sh I J) = (if (x1 + (1 : Int32)) < 0 ∨ (X 2).1 ≤ (x1 + (1 : Int32)).toNatClampNeg then none else (if (x1 + (2 : Int32)) < 0 ∨ (X 2).1 ≤ (x1 + (2 : Int32)).toNatClampNeg then none else (if (x1 + (3 : Int32)) < 0 ∨ (X 2).1 ≤ (x1 + (3 : Int32)).toNatClampNeg then none else (if (x1 + (4 : Int32)) < 0 ∨ (X 2).1 ≤ (x1 + (4 : Int32)).toNatClampNeg then none else (am_do X 283 [.ref 139, .int ((X 2).2 (x1 + (1 : Int32)).toNatClampNeg), .int ((X 2).2 (x1 + (2 : Int32)).toNatClampNeg), .int ((X 2).2 (x1 + (3 : Int32)).toNatClampNeg), .int ((X 2).2 (x1 + (4 : Int32)).toNatClampNeg)] (am_sh I J)).bind (fun q => am_ev X amP_362 538 [.retAddr 2, .ref 0, .ref 139, .int x1] (q.1.toList ++ [.int x2]) q.2))))) := by
  refine (ev_aload rfl rfl).trans ?_
  refine (ev_aloadS rfl rfl).trans ?_
  refine (ev_iload rfl rfl).trans ?_
  refine (ev_const0 (v := (1 : Int32)) rfl am_ci_1).trans ?_
  refine (ev_iadd rfl).trans ?_
  refine (ev_iaS rfl (by decide)).trans (am_itn (fun g1 => ?_))
  refine (ev_aloadS rfl rfl).trans ?_
  refine (ev_iload rfl rfl).trans ?_
  refine (ev_const0 (v := (2 : Int32)) rfl am_ci_2).trans ?_
  refine (ev_iadd rfl).trans ?_
  refine (ev_iaS rfl (by decide)).trans (am_itn (fun g2 => ?_))
  refine (ev_aloadS rfl rfl).trans ?_
  refine (ev_iload rfl rfl).trans ?_
  refine (ev_const0 (v := (3 : Int32)) rfl am_ci_3).trans ?_
  refine (ev_iadd rfl).trans ?_
  refine (ev_iaS rfl (by decide)).trans (am_itn (fun g3 => ?_))
  refine (ev_aloadS rfl rfl).trans ?_
  refine (ev_iload rfl rfl).trans ?_
  refine (ev_const0 (v := (4 : Int32)) rfl am_ci_4).trans ?_
  refine (ev_iadd rfl).trans ?_
  refine (ev_iaS rfl (by decide)).trans (am_itn (fun g4 => ?_))
  exact ev_invv (as := [.int ((X 2).2 (x1 + (4 : Int32)).toNatClampNeg), .int ((X 2).2 (x1 + (3 : Int32)).toNatClampNeg), .int ((X 2).2 (x1 + (2 : Int32)).toNatClampNeg), .int ((X 2).2 (x1 + (1 : Int32)).toNatClampNeg)]) rfl (by decide) am_K_139 rfl (by simp [Value.category])
set_option maxRecDepth 10000 in
theorem sg_362_538 (X : am_X) (I : Nat → Nat → Int32) (J : Nat → Nat → Int64) (x1 : Int32) (x2 : Int32) (x3 : Int32) : am_ev X amP_362 538 [.retAddr 2, .ref 0, .ref 139, .int x1] [.int x3, .int x2] (am_sh I J) = (if x2 = x3 then am_ev X amP_362 10 [.retAddr 2, .ref 0, .ref 139, .int (x1 + (6 : Int32))] [] (am_sh I J) else some (some (.int (0 : Int32)), am_sh I J)) := by
  refine (ev_icmp0 rfl).trans (am_ite (fun c1 => ?_) (fun c1 => ?_))
  · refine (ev_iincv (v := (6 : Int32)) (ls' := [.retAddr 2, .ref 0, .ref 139, .int (x1 + (6 : Int32))]) rfl am_ci_6 rfl rfl).trans ?_
    refine (ev_goto rfl).trans ?_
    rfl
  · refine (ev_const0 (v := (0 : Int32)) rfl am_ci_0).trans ?_
    exact ev_zret rfl (by decide)
set_option maxRecDepth 10000 in
theorem sg_362_553 (X : am_X) (I : Nat → Nat → Int32) (J : Nat → Nat → Int64) (x1 : Int32) (x2 : Int32) : am_ev X amP_362 553 [.retAddr 2, .ref 0, .ref 139, .int x1] [.int x2] (am_sh I J) = (if (x1 + (1 : Int32)) < 0 ∨ (X 2).1 ≤ (x1 + (1 : Int32)).toNatClampNeg then none else (if (x1 + (2 : Int32)) < 0 ∨ (X 2).1 ≤ (x1 + (2 : Int32)).toNatClampNeg then none else (am_do X 285 [.ref 139, .int ((X 2).2 (x1 + (1 : Int32)).toNatClampNeg), .int ((X 2).2 (x1 + (2 : Int32)).toNatClampNeg)] (am_sh I J)).bind (fun q => am_ev X amP_362 565 [.retAddr 2, .ref 0, .ref 139, .int x1] (q.1.toList ++ [.int x2]) q.2))) := by
  refine (ev_aload rfl rfl).trans ?_
  refine (ev_aloadS rfl rfl).trans ?_
  refine (ev_iload rfl rfl).trans ?_
  refine (ev_const0 (v := (1 : Int32)) rfl am_ci_1).trans ?_
  refine (ev_iadd rfl).trans ?_
  refine (ev_iaS rfl (by decide)).trans (am_itn (fun g1 => ?_))
  refine (ev_aloadS rfl rfl).trans ?_
  refine (ev_iload rfl rfl).trans ?_
  refine (ev_const0 (v := (2 : Int32)) rfl am_ci_2).trans ?_
  refine (ev_iadd rfl).trans ?_
  refine (ev_iaS rfl (by decide)).trans (am_itn (fun g2 => ?_))
  exact ev_invv (as := [.int ((X 2).2 (x1 + (2 : Int32)).toNatClampNeg), .int ((X 2).2 (x1 + (1 : Int32)).toNatClampNeg)]) rfl (by decide) am_K_139 rfl (by simp [Value.category])
set_option maxRecDepth 10000 in
theorem sg_362_565 (X : am_X) (I : Nat → Nat → Int32) (J : Nat → Nat → Int64) (x1 : Int32) (x2 : Int32) (x3 : Int32) : am_ev X amP_362 565 [.retAddr 2, .ref 0, .ref 139, .int x1] [.int x3, .int x2] (am_sh I J) = (if x2 = x3 then am_ev X amP_362 10 [.retAddr 2, .ref 0, .ref 139, .int (x1 + (6 : Int32))] [] (am_sh I J) else some (some (.int (0 : Int32)), am_sh I J)) := by
  refine (ev_icmp0 rfl).trans (am_ite (fun c1 => ?_) (fun c1 => ?_))
  · refine (ev_iincv (v := (6 : Int32)) (ls' := [.retAddr 2, .ref 0, .ref 139, .int (x1 + (6 : Int32))]) rfl am_ci_6 rfl rfl).trans ?_
    refine (ev_goto rfl).trans ?_
    rfl
  · refine (ev_const0 (v := (0 : Int32)) rfl am_ci_0).trans ?_
    exact ev_zret rfl (by decide)
set_option maxRecDepth 10000 in
theorem sg_362_590 (X : am_X) (I : Nat → Nat → Int32) (J : Nat → Nat → Int64) (x1 : Int32) (x2 : Int32) : am_ev X amP_362 590 [.retAddr 2, .ref 0, .ref 139, .int x1] [.int x2] (am_sh I J) = (if (x1 + (1 : Int32)) < 0 ∨ (X 2).1 ≤ (x1 + (1 : Int32)).toNatClampNeg then none else (if (x1 + (2 : Int32)) < 0 ∨ (X 2).1 ≤ (x1 + (2 : Int32)).toNatClampNeg then none else (if (x1 + (3 : Int32)) < 0 ∨ (X 2).1 ≤ (x1 + (3 : Int32)).toNatClampNeg then none else (if (x1 + (4 : Int32)) < 0 ∨ (X 2).1 ≤ (x1 + (4 : Int32)).toNatClampNeg then none else (am_do X 286 [.ref 139, .int ((X 2).2 (x1 + (1 : Int32)).toNatClampNeg), .int ((X 2).2 (x1 + (2 : Int32)).toNatClampNeg), .int ((X 2).2 (x1 + (3 : Int32)).toNatClampNeg), .int ((X 2).2 (x1 + (4 : Int32)).toNatClampNeg)] (am_sh I J)).bind (fun q => am_ev X amP_362 612 [.retAddr 2, .ref 0, .ref 139, .int x1] (q.1.toList ++ [.int x2]) q.2))))) := by
  refine (ev_aload rfl rfl).trans ?_
  refine (ev_aloadS rfl rfl).trans ?_
  refine (ev_iload rfl rfl).trans ?_
  refine (ev_const0 (v := (1 : Int32)) rfl am_ci_1).trans ?_
  refine (ev_iadd rfl).trans ?_
  refine (ev_iaS rfl (by decide)).trans (am_itn (fun g1 => ?_))
  refine (ev_aloadS rfl rfl).trans ?_
  refine (ev_iload rfl rfl).trans ?_
  refine (ev_const0 (v := (2 : Int32)) rfl am_ci_2).trans ?_
  refine (ev_iadd rfl).trans ?_
  refine (ev_iaS rfl (by decide)).trans (am_itn (fun g2 => ?_))
  refine (ev_aloadS rfl rfl).trans ?_
  refine (ev_iload rfl rfl).trans ?_
  refine (ev_const0 (v := (3 : Int32)) rfl am_ci_3).trans ?_
  refine (ev_iadd rfl).trans ?_
  refine (ev_iaS rfl (by decide)).trans (am_itn (fun g3 => ?_))
  refine (ev_aloadS rfl rfl).trans ?_
  refine (ev_iload rfl rfl).trans ?_
  refine (ev_const0 (v := (4 : Int32)) rfl am_ci_4).trans ?_
  refine (ev_iadd rfl).trans ?_
  refine (ev_iaS rfl (by decide)).trans (am_itn (fun g4 => ?_))
  exact ev_invv (as := [.int ((X 2).2 (x1 + (4 : Int32)).toNatClampNeg), .int ((X 2).2 (x1 + (3 : Int32)).toNatClampNeg), .int ((X 2).2 (x1 + (2 : Int32)).toNatClampNeg), .int ((X 2).2 (x1 + (1 : Int32)).toNatClampNeg)]) rfl (by decide) am_K_139 rfl (by simp [Value.category])
set_option maxRecDepth 10000 in
theorem sg_362_612 (X : am_X) (I : Nat → Nat → Int32) (J : Nat → Nat → Int64) (x1 : Int32) (x2 : Int32) (x3 : Int32) : am_ev X amP_362 612 [.retAddr 2, .ref 0, .ref 139, .int x1] [.int x3, .int x2] (am_sh I J) = (if x2 = x3 then am_ev X amP_362 10 [.retAddr 2, .ref 0, .ref 139, .int (x1 + (6 : Int32))] [] (am_sh I J) else some (some (.int (0 : Int32)), am_sh I J)) := by
  refine (ev_icmp0 rfl).trans (am_ite (fun c1 => ?_) (fun c1 => ?_))
  · refine (ev_iincv (v := (6 : Int32)) (ls' := [.retAddr 2, .ref 0, .ref 139, .int (x1 + (6 : Int32))]) rfl am_ci_6 rfl rfl).trans ?_
    refine (ev_goto rfl).trans ?_
    rfl
  · refine (ev_const0 (v := (0 : Int32)) rfl am_ci_0).trans ?_
    exact ev_zret rfl (by decide)
set_option maxRecDepth 10000 in
theorem sg_362_627 (X : am_X) (I : Nat → Nat → Int32) (J : Nat → Nat → Int64) (x1 : Int32) (x2 : Int32) : am_ev X amP_362 627 [.retAddr 2, .ref 0, .ref 139, .int x1] [.int x2] (am_sh I J) = (if (x1 + (1 : Int32)) < 0 ∨ (X 2).1 ≤ (x1 + (1 : Int32)).toNatClampNeg then none else (if (x1 + (2 : Int32)) < 0 ∨ (X 2).1 ≤ (x1 + (2 : Int32)).toNatClampNeg then none else (am_do X 288 [.ref 139, .int ((X 2).2 (x1 + (1 : Int32)).toNatClampNeg), .int ((X 2).2 (x1 + (2 : Int32)).toNatClampNeg)] (am_sh I J)).bind (fun q => am_ev X amP_362 639 [.retAddr 2, .ref 0, .ref 139, .int x1] (q.1.toList ++ [.int x2]) q.2))) := by
  refine (ev_aload rfl rfl).trans ?_
  refine (ev_aloadS rfl rfl).trans ?_
  refine (ev_iload rfl rfl).trans ?_
  refine (ev_const0 (v := (1 : Int32)) rfl am_ci_1).trans ?_
  refine (ev_iadd rfl).trans ?_
  refine (ev_iaS rfl (by decide)).trans (am_itn (fun g1 => ?_))
  refine (ev_aloadS rfl rfl).trans ?_
  refine (ev_iload rfl rfl).trans ?_
  refine (ev_const0 (v := (2 : Int32)) rfl am_ci_2).trans ?_
  refine (ev_iadd rfl).trans ?_
  refine (ev_iaS rfl (by decide)).trans (am_itn (fun g2 => ?_))
  exact ev_invv (as := [.int ((X 2).2 (x1 + (2 : Int32)).toNatClampNeg), .int ((X 2).2 (x1 + (1 : Int32)).toNatClampNeg)]) rfl (by decide) am_K_139 rfl (by simp [Value.category])
set_option maxRecDepth 10000 in
theorem sg_362_639 (X : am_X) (I : Nat → Nat → Int32) (J : Nat → Nat → Int64) (x1 : Int32) (x2 : Int32) (x3 : Int32) : am_ev X amP_362 639 [.retAddr 2, .ref 0, .ref 139, .int x1] [.int x3, .int x2] (am_sh I J) = (if x2 = x3 then am_ev X amP_362 10 [.retAddr 2, .ref 0, .ref 139, .int (x1 + (6 : Int32))] [] (am_sh I J) else some (some (.int (0 : Int32)), am_sh I J)) := by
  refine (ev_icmp0 rfl).trans (am_ite (fun c1 => ?_) (fun c1 => ?_))
  · refine (ev_iincv (v := (6 : Int32)) (ls' := [.retAddr 2, .ref 0, .ref 139, .int (x1 + (6 : Int32))]) rfl am_ci_6 rfl rfl).trans ?_
    refine (ev_goto rfl).trans ?_
    rfl
  · refine (ev_const0 (v := (0 : Int32)) rfl am_ci_0).trans ?_
    exact ev_zret rfl (by decide)
set_option maxRecDepth 10000 in
theorem sg_362_649 (X : am_X) (I : Nat → Nat → Int32) (J : Nat → Nat → Int64) (x1 : Int32) (x2 : Int32) : am_ev X amP_362 649 [.retAddr 2, .ref 0, .ref 139, .int x1] [.int x2] (am_sh I J) = (if (x1 + (1 : Int32)) < 0 ∨ (X 2).1 ≤ (x1 + (1 : Int32)).toNatClampNeg then none else (am_do X 289 [.ref 139, .int ((X 2).2 (x1 + (1 : Int32)).toNatClampNeg)] (am_sh I J)).bind (fun q => am_ev X amP_362 656 [.retAddr 2, .ref 0, .ref 139, .int x1] (q.1.toList ++ [.int x2]) q.2)) := by
  refine (ev_aload rfl rfl).trans ?_
  refine (ev_aloadS rfl rfl).trans ?_
  refine (ev_iload rfl rfl).trans ?_
  refine (ev_const0 (v := (1 : Int32)) rfl am_ci_1).trans ?_
  refine (ev_iadd rfl).trans ?_
  refine (ev_iaS rfl (by decide)).trans (am_itn (fun g1 => ?_))
  exact ev_invv (as := [.int ((X 2).2 (x1 + (1 : Int32)).toNatClampNeg)]) rfl (by decide) am_K_139 rfl (by simp [Value.category])
set_option maxRecDepth 10000 in
theorem sg_362_656 (X : am_X) (I : Nat → Nat → Int32) (J : Nat → Nat → Int64) (x1 : Int32) (x2 : Int32) (x3 : Int32) : am_ev X amP_362 656 [.retAddr 2, .ref 0, .ref 139, .int x1] [.int x3, .int x2] (am_sh I J) = (if x2 = x3 then am_ev X amP_362 10 [.retAddr 2, .ref 0, .ref 139, .int (x1 + (6 : Int32))] [] (am_sh I J) else some (some (.int (0 : Int32)), am_sh I J)) := by
  refine (ev_icmp0 rfl).trans (am_ite (fun c1 => ?_) (fun c1 => ?_))
  · refine (ev_iincv (v := (6 : Int32)) (ls' := [.retAddr 2, .ref 0, .ref 139, .int (x1 + (6 : Int32))]) rfl am_ci_6 rfl rfl).trans ?_
    refine (ev_goto rfl).trans ?_
    rfl
  · refine (ev_const0 (v := (0 : Int32)) rfl am_ci_0).trans ?_
    exact ev_zret rfl (by decide)
set_option maxRecDepth 10000 in
theorem sg_362_666 (X : am_X) (I : Nat → Nat → Int32) (J : Nat → Nat → Int64) (x1 : Int32) (x2 : Int32) : am_ev X amP_362 666 [.retAddr 2, .ref 0, .ref 139, .int x1] [.int x2] (am_sh I J) = (if (x1 + (1 : Int32)) < 0 ∨ (X 2).1 ≤ (x1 + (1 : Int32)).toNatClampNeg then none else (am_do X 291 [.ref 139, .int ((X 2).2 (x1 + (1 : Int32)).toNatClampNeg)] (am_sh I J)).bind (fun q => am_ev X amP_362 673 [.retAddr 2, .ref 0, .ref 139, .int x1] (q.1.toList ++ [.int x2]) q.2)) := by
  refine (ev_aload rfl rfl).trans ?_
  refine (ev_aloadS rfl rfl).trans ?_
  refine (ev_iload rfl rfl).trans ?_
  refine (ev_const0 (v := (1 : Int32)) rfl am_ci_1).trans ?_
  refine (ev_iadd rfl).trans ?_
  refine (ev_iaS rfl (by decide)).trans (am_itn (fun g1 => ?_))
  exact ev_invv (as := [.int ((X 2).2 (x1 + (1 : Int32)).toNatClampNeg)]) rfl (by decide) am_K_139 rfl (by simp [Value.category])
set_option maxRecDepth 10000 in
theorem sg_362_673 (X : am_X) (I : Nat → Nat → Int32) (J : Nat → Nat → Int64) (x1 : Int32) (x2 : Int32) (x3 : Int32) : am_ev X amP_362 673 [.retAddr 2, .ref 0, .ref 139, .int x1] [.int x3, .int x2] (am_sh I J) = (if x2 = x3 then am_ev X amP_362 10 [.retAddr 2, .ref 0, .ref 139, .int (x1 + (6 : Int32))] [] (am_sh I J) else some (some (.int (0 : Int32)), am_sh I J)) := by
  refine (ev_icmp0 rfl).trans (am_ite (fun c1 => ?_) (fun c1 => ?_))
  · refine (ev_iincv (v := (6 : Int32)) (ls' := [.retAddr 2, .ref 0, .ref 139, .int (x1 + (6 : Int32))]) rfl am_ci_6 rfl rfl).trans ?_
    refine (ev_goto rfl).trans ?_
    rfl
  · refine (ev_const0 (v := (0 : Int32)) rfl am_ci_0).trans ?_
    exact ev_zret rfl (by decide)
set_option maxRecDepth 10000 in
theorem sg_362_683 (X : am_X) (I : Nat → Nat → Int32) (J : Nat → Nat → Int64) (x1 : Int32) (x2 : Int32) : am_ev X amP_362 683 [.retAddr 2, .ref 0, .ref 139, .int x1] [.int x2] (am_sh I J) = (if (x1 + (1 : Int32)) < 0 ∨ (X 2).1 ≤ (x1 + (1 : Int32)).toNatClampNeg then none else (am_do X 293 [.ref 139, .int ((X 2).2 (x1 + (1 : Int32)).toNatClampNeg)] (am_sh I J)).bind (fun q => am_ev X amP_362 690 [.retAddr 2, .ref 0, .ref 139, .int x1] (q.1.toList ++ [.int x2]) q.2)) := by
  refine (ev_aload rfl rfl).trans ?_
  refine (ev_aloadS rfl rfl).trans ?_
  refine (ev_iload rfl rfl).trans ?_
  refine (ev_const0 (v := (1 : Int32)) rfl am_ci_1).trans ?_
  refine (ev_iadd rfl).trans ?_
  refine (ev_iaS rfl (by decide)).trans (am_itn (fun g1 => ?_))
  exact ev_invv (as := [.int ((X 2).2 (x1 + (1 : Int32)).toNatClampNeg)]) rfl (by decide) am_K_139 rfl (by simp [Value.category])
set_option maxRecDepth 10000 in
theorem sg_362_690 (X : am_X) (I : Nat → Nat → Int32) (J : Nat → Nat → Int64) (x1 : Int32) (x2 : Int32) (x3 : Int32) : am_ev X amP_362 690 [.retAddr 2, .ref 0, .ref 139, .int x1] [.int x3, .int x2] (am_sh I J) = (if x2 = x3 then am_ev X amP_362 10 [.retAddr 2, .ref 0, .ref 139, .int (x1 + (6 : Int32))] [] (am_sh I J) else some (some (.int (0 : Int32)), am_sh I J)) := by
  refine (ev_icmp0 rfl).trans (am_ite (fun c1 => ?_) (fun c1 => ?_))
  · refine (ev_iincv (v := (6 : Int32)) (ls' := [.retAddr 2, .ref 0, .ref 139, .int (x1 + (6 : Int32))]) rfl am_ci_6 rfl rfl).trans ?_
    refine (ev_goto rfl).trans ?_
    rfl
  · refine (ev_const0 (v := (0 : Int32)) rfl am_ci_0).trans ?_
    exact ev_zret rfl (by decide)
set_option maxRecDepth 10000 in
theorem sg_362_715 (X : am_X) (I : Nat → Nat → Int32) (J : Nat → Nat → Int64) (x1 : Int32) (x2 : Int32) : am_ev X amP_362 715 [.retAddr 2, .ref 0, .ref 139, .int x1] [.int x2] (am_sh I J) = (if (x1 + (1 : Int32)) < 0 ∨ (X 2).1 ≤ (x1 + (1 : Int32)).toNatClampNeg then none else (if (x1 + (2 : Int32)) < 0 ∨ (X 2).1 ≤ (x1 + (2 : Int32)).toNatClampNeg then none else (if (x1 + (3 : Int32)) < 0 ∨ (X 2).1 ≤ (x1 + (3 : Int32)).toNatClampNeg then none else (if (x1 + (4 : Int32)) < 0 ∨ (X 2).1 ≤ (x1 + (4 : Int32)).toNatClampNeg then none else (am_do X 296 [.ref 139, .int ((X 2).2 (x1 + (1 : Int32)).toNatClampNeg), .int ((X 2).2 (x1 + (2 : Int32)).toNatClampNeg), .int ((X 2).2 (x1 + (3 : Int32)).toNatClampNeg), .int ((X 2).2 (x1 + (4 : Int32)).toNatClampNeg)] (am_sh I J)).bind (fun q => am_ev X amP_362 737 [.retAddr 2, .ref 0, .ref 139, .int x1] (q.1.toList ++ [.int x2]) q.2))))) := by
  refine (ev_aload rfl rfl).trans ?_
  refine (ev_aloadS rfl rfl).trans ?_
  refine (ev_iload rfl rfl).trans ?_
  refine (ev_const0 (v := (1 : Int32)) rfl am_ci_1).trans ?_
  refine (ev_iadd rfl).trans ?_
  refine (ev_iaS rfl (by decide)).trans (am_itn (fun g1 => ?_))
  refine (ev_aloadS rfl rfl).trans ?_
  refine (ev_iload rfl rfl).trans ?_
  refine (ev_const0 (v := (2 : Int32)) rfl am_ci_2).trans ?_
  refine (ev_iadd rfl).trans ?_
  refine (ev_iaS rfl (by decide)).trans (am_itn (fun g2 => ?_))
  refine (ev_aloadS rfl rfl).trans ?_
  refine (ev_iload rfl rfl).trans ?_
  refine (ev_const0 (v := (3 : Int32)) rfl am_ci_3).trans ?_
  refine (ev_iadd rfl).trans ?_
  refine (ev_iaS rfl (by decide)).trans (am_itn (fun g3 => ?_))
  refine (ev_aloadS rfl rfl).trans ?_
  refine (ev_iload rfl rfl).trans ?_
  refine (ev_const0 (v := (4 : Int32)) rfl am_ci_4).trans ?_
  refine (ev_iadd rfl).trans ?_
  refine (ev_iaS rfl (by decide)).trans (am_itn (fun g4 => ?_))
  exact ev_invv (as := [.int ((X 2).2 (x1 + (4 : Int32)).toNatClampNeg), .int ((X 2).2 (x1 + (3 : Int32)).toNatClampNeg), .int ((X 2).2 (x1 + (2 : Int32)).toNatClampNeg), .int ((X 2).2 (x1 + (1 : Int32)).toNatClampNeg)]) rfl (by decide) am_K_139 rfl (by simp [Value.category])
set_option maxRecDepth 10000 in
theorem sg_362_737 (X : am_X) (I : Nat → Nat → Int32) (J : Nat → Nat → Int64) (x1 : Int32) (x2 : Int32) (x3 : Int32) : am_ev X amP_362 737 [.retAddr 2, .ref 0, .ref 139, .int x1] [.int x3, .int x2] (am_sh I J) = (if x2 = x3 then am_ev X amP_362 10 [.retAddr 2, .ref 0, .ref 139, .int (x1 + (6 : Int32))] [] (am_sh I J) else some (some (.int (0 : Int32)), am_sh I J)) := by
  refine (ev_icmp0 rfl).trans (am_ite (fun c1 => ?_) (fun c1 => ?_))
  · refine (ev_iincv (v := (6 : Int32)) (ls' := [.retAddr 2, .ref 0, .ref 139, .int (x1 + (6 : Int32))]) rfl am_ci_6 rfl rfl).trans ?_
    refine (ev_goto rfl).trans ?_
    rfl
  · refine (ev_const0 (v := (0 : Int32)) rfl am_ci_0).trans ?_
    exact ev_zret rfl (by decide)
set_option maxRecDepth 10000 in
theorem sg_362_752 (X : am_X) (I : Nat → Nat → Int32) (J : Nat → Nat → Int64) (x1 : Int32) (x2 : Int32) : am_ev X amP_362 752 [.retAddr 2, .ref 0, .ref 139, .int x1] [.int x2] (am_sh I J) = (if (x1 + (1 : Int32)) < 0 ∨ (X 2).1 ≤ (x1 + (1 : Int32)).toNatClampNeg then none else (if (x1 + (2 : Int32)) < 0 ∨ (X 2).1 ≤ (x1 + (2 : Int32)).toNatClampNeg then none else (am_do X 297 [.ref 139, .int ((X 2).2 (x1 + (1 : Int32)).toNatClampNeg), .int ((X 2).2 (x1 + (2 : Int32)).toNatClampNeg)] (am_sh I J)).bind (fun q => am_ev X amP_362 764 [.retAddr 2, .ref 0, .ref 139, .int x1] (q.1.toList ++ [.int x2]) q.2))) := by
  refine (ev_aload rfl rfl).trans ?_
  refine (ev_aloadS rfl rfl).trans ?_
  refine (ev_iload rfl rfl).trans ?_
  refine (ev_const0 (v := (1 : Int32)) rfl am_ci_1).trans ?_
  refine (ev_iadd rfl).trans ?_
  refine (ev_iaS rfl (by decide)).trans (am_itn (fun g1 => ?_))
  refine (ev_aloadS rfl rfl).trans ?_
  refine (ev_iload rfl rfl).trans ?_
  refine (ev_const0 (v := (2 : Int32)) rfl am_ci_2).trans ?_
  refine (ev_iadd rfl).trans ?_
  refine (ev_iaS rfl (by decide)).trans (am_itn (fun g2 => ?_))
  exact ev_invv (as := [.int ((X 2).2 (x1 + (2 : Int32)).toNatClampNeg), .int ((X 2).2 (x1 + (1 : Int32)).toNatClampNeg)]) rfl (by decide) am_K_139 rfl (by simp [Value.category])
set_option maxRecDepth 10000 in
theorem sg_362_764 (X : am_X) (I : Nat → Nat → Int32) (J : Nat → Nat → Int64) (x1 : Int32) (x2 : Int32) (x3 : Int32) : am_ev X amP_362 764 [.retAddr 2, .ref 0, .ref 139, .int x1] [.int x3, .int x2] (am_sh I J) = (if x2 = x3 then am_ev X amP_362 10 [.retAddr 2, .ref 0, .ref 139, .int (x1 + (6 : Int32))] [] (am_sh I J) else some (some (.int (0 : Int32)), am_sh I J)) := by
  refine (ev_icmp0 rfl).trans (am_ite (fun c1 => ?_) (fun c1 => ?_))
  · refine (ev_iincv (v := (6 : Int32)) (ls' := [.retAddr 2, .ref 0, .ref 139, .int (x1 + (6 : Int32))]) rfl am_ci_6 rfl rfl).trans ?_
    refine (ev_goto rfl).trans ?_
    rfl
  · refine (ev_const0 (v := (0 : Int32)) rfl am_ci_0).trans ?_
    exact ev_zret rfl (by decide)
set_option maxRecDepth 10000 in
theorem sg_362_779 (X : am_X) (I : Nat → Nat → Int32) (J : Nat → Nat → Int64) (x1 : Int32) (x2 : Int32) : am_ev X amP_362 779 [.retAddr 2, .ref 0, .ref 139, .int x1] [.int x2] (am_sh I J) = (if (x1 + (1 : Int32)) < 0 ∨ (X 2).1 ≤ (x1 + (1 : Int32)).toNatClampNeg then none else (if (x1 + (2 : Int32)) < 0 ∨ (X 2).1 ≤ (x1 + (2 : Int32)).toNatClampNeg then none else (am_do X 298 [.ref 139, .int ((X 2).2 (x1 + (1 : Int32)).toNatClampNeg), .int ((X 2).2 (x1 + (2 : Int32)).toNatClampNeg)] (am_sh I J)).bind (fun q => am_ev X amP_362 791 [.retAddr 2, .ref 0, .ref 139, .int x1] (q.1.toList ++ [.int x2]) q.2))) := by
  refine (ev_aload rfl rfl).trans ?_
  refine (ev_aloadS rfl rfl).trans ?_
  refine (ev_iload rfl rfl).trans ?_
  refine (ev_const0 (v := (1 : Int32)) rfl am_ci_1).trans ?_
  refine (ev_iadd rfl).trans ?_
  refine (ev_iaS rfl (by decide)).trans (am_itn (fun g1 => ?_))
  refine (ev_aloadS rfl rfl).trans ?_
  refine (ev_iload rfl rfl).trans ?_
  refine (ev_const0 (v := (2 : Int32)) rfl am_ci_2).trans ?_
  refine (ev_iadd rfl).trans ?_
  refine (ev_iaS rfl (by decide)).trans (am_itn (fun g2 => ?_))
  exact ev_invv (as := [.int ((X 2).2 (x1 + (2 : Int32)).toNatClampNeg), .int ((X 2).2 (x1 + (1 : Int32)).toNatClampNeg)]) rfl (by decide) am_K_139 rfl (by simp [Value.category])
set_option maxRecDepth 10000 in
theorem sg_362_791 (X : am_X) (I : Nat → Nat → Int32) (J : Nat → Nat → Int64) (x1 : Int32) (x2 : Int32) (x3 : Int32) : am_ev X amP_362 791 [.retAddr 2, .ref 0, .ref 139, .int x1] [.int x3, .int x2] (am_sh I J) = (if x2 = x3 then am_ev X amP_362 10 [.retAddr 2, .ref 0, .ref 139, .int (x1 + (6 : Int32))] [] (am_sh I J) else some (some (.int (0 : Int32)), am_sh I J)) := by
  refine (ev_icmp0 rfl).trans (am_ite (fun c1 => ?_) (fun c1 => ?_))
  · refine (ev_iincv (v := (6 : Int32)) (ls' := [.retAddr 2, .ref 0, .ref 139, .int (x1 + (6 : Int32))]) rfl am_ci_6 rfl rfl).trans ?_
    refine (ev_goto rfl).trans ?_
    rfl
  · refine (ev_const0 (v := (0 : Int32)) rfl am_ci_0).trans ?_
    exact ev_zret rfl (by decide)
set_option maxRecDepth 10000 in
theorem sg_362_806 (X : am_X) (I : Nat → Nat → Int32) (J : Nat → Nat → Int64) (x1 : Int32) (x2 : Int32) : am_ev X amP_362 806 [.retAddr 2, .ref 0, .ref 139, .int x1] [.int x2] (am_sh I J) = (if (x1 + (1 : Int32)) < 0 ∨ (X 2).1 ≤ (x1 + (1 : Int32)).toNatClampNeg then none else (if (x1 + (2 : Int32)) < 0 ∨ (X 2).1 ≤ (x1 + (2 : Int32)).toNatClampNeg then none else (am_do X 299 [.ref 139, .int ((X 2).2 (x1 + (1 : Int32)).toNatClampNeg), .int ((X 2).2 (x1 + (2 : Int32)).toNatClampNeg)] (am_sh I J)).bind (fun q => am_ev X amP_362 818 [.retAddr 2, .ref 0, .ref 139, .int x1] (q.1.toList ++ [.int x2]) q.2))) := by
  refine (ev_aload rfl rfl).trans ?_
  refine (ev_aloadS rfl rfl).trans ?_
  refine (ev_iload rfl rfl).trans ?_
  refine (ev_const0 (v := (1 : Int32)) rfl am_ci_1).trans ?_
  refine (ev_iadd rfl).trans ?_
  refine (ev_iaS rfl (by decide)).trans (am_itn (fun g1 => ?_))
  refine (ev_aloadS rfl rfl).trans ?_
  refine (ev_iload rfl rfl).trans ?_
  refine (ev_const0 (v := (2 : Int32)) rfl am_ci_2).trans ?_
  refine (ev_iadd rfl).trans ?_
  refine (ev_iaS rfl (by decide)).trans (am_itn (fun g2 => ?_))
  exact ev_invv (as := [.int ((X 2).2 (x1 + (2 : Int32)).toNatClampNeg), .int ((X 2).2 (x1 + (1 : Int32)).toNatClampNeg)]) rfl (by decide) am_K_139 rfl (by simp [Value.category])
set_option maxRecDepth 10000 in
theorem sg_362_818 (X : am_X) (I : Nat → Nat → Int32) (J : Nat → Nat → Int64) (x1 : Int32) (x2 : Int32) (x3 : Int32) : am_ev X amP_362 818 [.retAddr 2, .ref 0, .ref 139, .int x1] [.int x3, .int x2] (am_sh I J) = (if x2 = x3 then am_ev X amP_362 10 [.retAddr 2, .ref 0, .ref 139, .int (x1 + (6 : Int32))] [] (am_sh I J) else some (some (.int (0 : Int32)), am_sh I J)) := by
  refine (ev_icmp0 rfl).trans (am_ite (fun c1 => ?_) (fun c1 => ?_))
  · refine (ev_iincv (v := (6 : Int32)) (ls' := [.retAddr 2, .ref 0, .ref 139, .int (x1 + (6 : Int32))]) rfl am_ci_6 rfl rfl).trans ?_
    refine (ev_goto rfl).trans ?_
    rfl
  · refine (ev_const0 (v := (0 : Int32)) rfl am_ci_0).trans ?_
    exact ev_zret rfl (by decide)
set_option maxRecDepth 10000 in
theorem sg_362_828 (X : am_X) (I : Nat → Nat → Int32) (J : Nat → Nat → Int64) (x1 : Int32) (x2 : Int32) : am_ev X amP_362 828 [.retAddr 2, .ref 0, .ref 139, .int x1] [.int x2] (am_sh I J) = (if (x1 + (1 : Int32)) < 0 ∨ (X 2).1 ≤ (x1 + (1 : Int32)).toNatClampNeg then none else (am_do X 301 [.ref 139, .int ((X 2).2 (x1 + (1 : Int32)).toNatClampNeg)] (am_sh I J)).bind (fun q => am_ev X amP_362 835 [.retAddr 2, .ref 0, .ref 139, .int x1] (q.1.toList ++ [.int x2]) q.2)) := by
  refine (ev_aload rfl rfl).trans ?_
  refine (ev_aloadS rfl rfl).trans ?_
  refine (ev_iload rfl rfl).trans ?_
  refine (ev_const0 (v := (1 : Int32)) rfl am_ci_1).trans ?_
  refine (ev_iadd rfl).trans ?_
  refine (ev_iaS rfl (by decide)).trans (am_itn (fun g1 => ?_))
  exact ev_invv (as := [.int ((X 2).2 (x1 + (1 : Int32)).toNatClampNeg)]) rfl (by decide) am_K_139 rfl (by simp [Value.category])
set_option maxRecDepth 10000 in
theorem sg_362_835 (X : am_X) (I : Nat → Nat → Int32) (J : Nat → Nat → Int64) (x1 : Int32) (x2 : Int32) (x3 : Int32) : am_ev X amP_362 835 [.retAddr 2, .ref 0, .ref 139, .int x1] [.int x3, .int x2] (am_sh I J) = (if x2 = x3 then am_ev X amP_362 10 [.retAddr 2, .ref 0, .ref 139, .int (x1 + (6 : Int32))] [] (am_sh I J) else some (some (.int (0 : Int32)), am_sh I J)) := by
  refine (ev_icmp0 rfl).trans (am_ite (fun c1 => ?_) (fun c1 => ?_))
  · refine (ev_iincv (v := (6 : Int32)) (ls' := [.retAddr 2, .ref 0, .ref 139, .int (x1 + (6 : Int32))]) rfl am_ci_6 rfl rfl).trans ?_
    refine (ev_goto rfl).trans ?_
    rfl
  · refine (ev_const0 (v := (0 : Int32)) rfl am_ci_0).trans ?_
    exact ev_zret rfl (by decide)
set_option maxRecDepth 10000 in
theorem sg_362_845 (X : am_X) (I : Nat → Nat → Int32) (J : Nat → Nat → Int64) (x1 : Int32) (x2 : Int32) : am_ev X amP_362 845 [.retAddr 2, .ref 0, .ref 139, .int x1] [.int x2] (am_sh I J) = (if (x1 + (1 : Int32)) < 0 ∨ (X 2).1 ≤ (x1 + (1 : Int32)).toNatClampNeg then none else (am_do X 302 [.ref 139, .int ((X 2).2 (x1 + (1 : Int32)).toNatClampNeg)] (am_sh I J)).bind (fun q => am_ev X amP_362 852 [.retAddr 2, .ref 0, .ref 139, .int x1] (q.1.toList ++ [.int x2]) q.2)) := by
  refine (ev_aload rfl rfl).trans ?_
  refine (ev_aloadS rfl rfl).trans ?_
  refine (ev_iload rfl rfl).trans ?_
  refine (ev_const0 (v := (1 : Int32)) rfl am_ci_1).trans ?_
  refine (ev_iadd rfl).trans ?_
  refine (ev_iaS rfl (by decide)).trans (am_itn (fun g1 => ?_))
  exact ev_invv (as := [.int ((X 2).2 (x1 + (1 : Int32)).toNatClampNeg)]) rfl (by decide) am_K_139 rfl (by simp [Value.category])
set_option maxRecDepth 10000 in
theorem sg_362_852 (X : am_X) (I : Nat → Nat → Int32) (J : Nat → Nat → Int64) (x1 : Int32) (x2 : Int32) (x3 : Int32) : am_ev X amP_362 852 [.retAddr 2, .ref 0, .ref 139, .int x1] [.int x3, .int x2] (am_sh I J) = (if x2 = x3 then am_ev X amP_362 10 [.retAddr 2, .ref 0, .ref 139, .int (x1 + (6 : Int32))] [] (am_sh I J) else some (some (.int (0 : Int32)), am_sh I J)) := by
  refine (ev_icmp0 rfl).trans (am_ite (fun c1 => ?_) (fun c1 => ?_))
  · refine (ev_iincv (v := (6 : Int32)) (ls' := [.retAddr 2, .ref 0, .ref 139, .int (x1 + (6 : Int32))]) rfl am_ci_6 rfl rfl).trans ?_
    refine (ev_goto rfl).trans ?_
    rfl
  · refine (ev_const0 (v := (0 : Int32)) rfl am_ci_0).trans ?_
    exact ev_zret rfl (by decide)
set_option maxRecDepth 10000 in
theorem sg_362_867 (X : am_X) (I : Nat → Nat → Int32) (J : Nat → Nat → Int64) (x1 : Int32) (x2 : Int32) : am_ev X amP_362 867 [.retAddr 2, .ref 0, .ref 139, .int x1] [.int x2] (am_sh I J) = (if (x1 + (1 : Int32)) < 0 ∨ (X 2).1 ≤ (x1 + (1 : Int32)).toNatClampNeg then none else (if (x1 + (2 : Int32)) < 0 ∨ (X 2).1 ≤ (x1 + (2 : Int32)).toNatClampNeg then none else (am_do X 306 [.ref 139, .int ((X 2).2 (x1 + (1 : Int32)).toNatClampNeg), .int ((X 2).2 (x1 + (2 : Int32)).toNatClampNeg)] (am_sh I J)).bind (fun q => am_ev X amP_362 879 [.retAddr 2, .ref 0, .ref 139, .int x1] (q.1.toList ++ [.int x2]) q.2))) := by
  refine (ev_aload rfl rfl).trans ?_
  refine (ev_aloadS rfl rfl).trans ?_
  refine (ev_iload rfl rfl).trans ?_
  refine (ev_const0 (v := (1 : Int32)) rfl am_ci_1).trans ?_
  refine (ev_iadd rfl).trans ?_
  refine (ev_iaS rfl (by decide)).trans (am_itn (fun g1 => ?_))
  refine (ev_aloadS rfl rfl).trans ?_
  refine (ev_iload rfl rfl).trans ?_
  refine (ev_const0 (v := (2 : Int32)) rfl am_ci_2).trans ?_
  refine (ev_iadd rfl).trans ?_
  refine (ev_iaS rfl (by decide)).trans (am_itn (fun g2 => ?_))
  exact ev_invv (as := [.int ((X 2).2 (x1 + (2 : Int32)).toNatClampNeg), .int ((X 2).2 (x1 + (1 : Int32)).toNatClampNeg)]) rfl (by decide) am_K_139 rfl (by simp [Value.category])
set_option maxRecDepth 10000 in
theorem sg_362_879 (X : am_X) (I : Nat → Nat → Int32) (J : Nat → Nat → Int64) (x1 : Int32) (x2 : Int32) (x3 : Int32) : am_ev X amP_362 879 [.retAddr 2, .ref 0, .ref 139, .int x1] [.int x3, .int x2] (am_sh I J) = (if x2 = x3 then am_ev X amP_362 10 [.retAddr 2, .ref 0, .ref 139, .int (x1 + (6 : Int32))] [] (am_sh I J) else some (some (.int (0 : Int32)), am_sh I J)) := by
  refine (ev_icmp0 rfl).trans (am_ite (fun c1 => ?_) (fun c1 => ?_))
  · refine (ev_iincv (v := (6 : Int32)) (ls' := [.retAddr 2, .ref 0, .ref 139, .int (x1 + (6 : Int32))]) rfl am_ci_6 rfl rfl).trans ?_
    refine (ev_goto rfl).trans ?_
    rfl
  · refine (ev_const0 (v := (0 : Int32)) rfl am_ci_0).trans ?_
    exact ev_zret rfl (by decide)
set_option maxRecDepth 10000 in
theorem sg_362_889 (X : am_X) (I : Nat → Nat → Int32) (J : Nat → Nat → Int64) (x1 : Int32) (x2 : Int32) : am_ev X amP_362 889 [.retAddr 2, .ref 0, .ref 139, .int x1] [.int x2] (am_sh I J) = (if (x1 + (1 : Int32)) < 0 ∨ (X 2).1 ≤ (x1 + (1 : Int32)).toNatClampNeg then none else (am_do X 307 [.ref 139, .int ((X 2).2 (x1 + (1 : Int32)).toNatClampNeg)] (am_sh I J)).bind (fun q => am_ev X amP_362 896 [.retAddr 2, .ref 0, .ref 139, .int x1] (q.1.toList ++ [.int x2]) q.2)) := by
  refine (ev_aload rfl rfl).trans ?_
  refine (ev_aloadS rfl rfl).trans ?_
  refine (ev_iload rfl rfl).trans ?_
  refine (ev_const0 (v := (1 : Int32)) rfl am_ci_1).trans ?_
  refine (ev_iadd rfl).trans ?_
  refine (ev_iaS rfl (by decide)).trans (am_itn (fun g1 => ?_))
  exact ev_invv (as := [.int ((X 2).2 (x1 + (1 : Int32)).toNatClampNeg)]) rfl (by decide) am_K_139 rfl (by simp [Value.category])
set_option maxRecDepth 10000 in
theorem sg_362_896 (X : am_X) (I : Nat → Nat → Int32) (J : Nat → Nat → Int64) (x1 : Int32) (x2 : Int32) (x3 : Int32) : am_ev X amP_362 896 [.retAddr 2, .ref 0, .ref 139, .int x1] [.int x3, .int x2] (am_sh I J) = (if x2 = x3 then am_ev X amP_362 10 [.retAddr 2, .ref 0, .ref 139, .int (x1 + (6 : Int32))] [] (am_sh I J) else some (some (.int (0 : Int32)), am_sh I J)) := by
  refine (ev_icmp0 rfl).trans (am_ite (fun c1 => ?_) (fun c1 => ?_))
  · refine (ev_iincv (v := (6 : Int32)) (ls' := [.retAddr 2, .ref 0, .ref 139, .int (x1 + (6 : Int32))]) rfl am_ci_6 rfl rfl).trans ?_
    refine (ev_goto rfl).trans ?_
    rfl
  · refine (ev_const0 (v := (0 : Int32)) rfl am_ci_0).trans ?_
    exact ev_zret rfl (by decide)
set_option maxRecDepth 10000 in
theorem sg_362_906 (X : am_X) (I : Nat → Nat → Int32) (J : Nat → Nat → Int64) (x1 : Int32) (x2 : Int32) : am_ev X amP_362 906 [.retAddr 2, .ref 0, .ref 139, .int x1] [.int x2] (am_sh I J) = (if (x1 + (1 : Int32)) < 0 ∨ (X 2).1 ≤ (x1 + (1 : Int32)).toNatClampNeg then none else (am_do X 308 [.ref 139, .int ((X 2).2 (x1 + (1 : Int32)).toNatClampNeg)] (am_sh I J)).bind (fun q => am_ev X amP_362 913 [.retAddr 2, .ref 0, .ref 139, .int x1] (q.1.toList ++ [.int x2]) q.2)) := by
  refine (ev_aload rfl rfl).trans ?_
  refine (ev_aloadS rfl rfl).trans ?_
  refine (ev_iload rfl rfl).trans ?_
  refine (ev_const0 (v := (1 : Int32)) rfl am_ci_1).trans ?_
  refine (ev_iadd rfl).trans ?_
  refine (ev_iaS rfl (by decide)).trans (am_itn (fun g1 => ?_))
  exact ev_invv (as := [.int ((X 2).2 (x1 + (1 : Int32)).toNatClampNeg)]) rfl (by decide) am_K_139 rfl (by simp [Value.category])
set_option maxRecDepth 10000 in
theorem sg_362_913 (X : am_X) (I : Nat → Nat → Int32) (J : Nat → Nat → Int64) (x1 : Int32) (x2 : Int32) (x3 : Int32) : am_ev X amP_362 913 [.retAddr 2, .ref 0, .ref 139, .int x1] [.int x3, .int x2] (am_sh I J) = (if x2 = x3 then am_ev X amP_362 10 [.retAddr 2, .ref 0, .ref 139, .int (x1 + (6 : Int32))] [] (am_sh I J) else some (some (.int (0 : Int32)), am_sh I J)) := by
  refine (ev_icmp0 rfl).trans (am_ite (fun c1 => ?_) (fun c1 => ?_))
  · refine (ev_iincv (v := (6 : Int32)) (ls' := [.retAddr 2, .ref 0, .ref 139, .int (x1 + (6 : Int32))]) rfl am_ci_6 rfl rfl).trans ?_
    refine (ev_goto rfl).trans ?_
    rfl
  · refine (ev_const0 (v := (0 : Int32)) rfl am_ci_0).trans ?_
    exact ev_zret rfl (by decide)
set_option maxRecDepth 10000 in
theorem sg_362_928 (X : am_X) (I : Nat → Nat → Int32) (J : Nat → Nat → Int64) (x1 : Int32) (x2 : Int32) : am_ev X amP_362 928 [.retAddr 2, .ref 0, .ref 139, .int x1] [.int x2] (am_sh I J) = (if (x1 + (1 : Int32)) < 0 ∨ (X 2).1 ≤ (x1 + (1 : Int32)).toNatClampNeg then none else (if (x1 + (2 : Int32)) < 0 ∨ (X 2).1 ≤ (x1 + (2 : Int32)).toNatClampNeg then none else (am_do X 310 [.ref 139, .int ((X 2).2 (x1 + (1 : Int32)).toNatClampNeg), .int ((X 2).2 (x1 + (2 : Int32)).toNatClampNeg)] (am_sh I J)).bind (fun q => am_ev X amP_362 940 [.retAddr 2, .ref 0, .ref 139, .int x1] (q.1.toList ++ [.int x2]) q.2))) := by
  refine (ev_aload rfl rfl).trans ?_
  refine (ev_aloadS rfl rfl).trans ?_
  refine (ev_iload rfl rfl).trans ?_
  refine (ev_const0 (v := (1 : Int32)) rfl am_ci_1).trans ?_
  refine (ev_iadd rfl).trans ?_
  refine (ev_iaS rfl (by decide)).trans (am_itn (fun g1 => ?_))
  refine (ev_aloadS rfl rfl).trans ?_
  refine (ev_iload rfl rfl).trans ?_
  refine (ev_const0 (v := (2 : Int32)) rfl am_ci_2).trans ?_
  refine (ev_iadd rfl).trans ?_
  refine (ev_iaS rfl (by decide)).trans (am_itn (fun g2 => ?_))
  exact ev_invv (as := [.int ((X 2).2 (x1 + (2 : Int32)).toNatClampNeg), .int ((X 2).2 (x1 + (1 : Int32)).toNatClampNeg)]) rfl (by decide) am_K_139 rfl (by simp [Value.category])
set_option maxRecDepth 10000 in
theorem sg_362_940 (X : am_X) (I : Nat → Nat → Int32) (J : Nat → Nat → Int64) (x1 : Int32) (x2 : Int32) (x3 : Int32) : am_ev X amP_362 940 [.retAddr 2, .ref 0, .ref 139, .int x1] [.int x3, .int x2] (am_sh I J) = (if x2 = x3 then am_ev X amP_362 10 [.retAddr 2, .ref 0, .ref 139, .int (x1 + (6 : Int32))] [] (am_sh I J) else some (some (.int (0 : Int32)), am_sh I J)) := by
  refine (ev_icmp0 rfl).trans (am_ite (fun c1 => ?_) (fun c1 => ?_))
  · refine (ev_iincv (v := (6 : Int32)) (ls' := [.retAddr 2, .ref 0, .ref 139, .int (x1 + (6 : Int32))]) rfl am_ci_6 rfl rfl).trans ?_
    refine (ev_goto rfl).trans ?_
    rfl
  · refine (ev_const0 (v := (0 : Int32)) rfl am_ci_0).trans ?_
    exact ev_zret rfl (by decide)
set_option maxRecDepth 10000 in
theorem sg_362_955 (X : am_X) (I : Nat → Nat → Int32) (J : Nat → Nat → Int64) (x1 : Int32) (x2 : Int32) : am_ev X amP_362 955 [.retAddr 2, .ref 0, .ref 139, .int x1] [.int x2] (am_sh I J) = (if (x1 + (1 : Int32)) < 0 ∨ (X 2).1 ≤ (x1 + (1 : Int32)).toNatClampNeg then none else (if (x1 + (2 : Int32)) < 0 ∨ (X 2).1 ≤ (x1 + (2 : Int32)).toNatClampNeg then none else (am_do X 320 [.ref 139, .int ((X 2).2 (x1 + (1 : Int32)).toNatClampNeg), .int ((X 2).2 (x1 + (2 : Int32)).toNatClampNeg)] (am_sh I J)).bind (fun q => am_ev X amP_362 967 [.retAddr 2, .ref 0, .ref 139, .int x1] (q.1.toList ++ [.int x2]) q.2))) := by
  refine (ev_aload rfl rfl).trans ?_
  refine (ev_aloadS rfl rfl).trans ?_
  refine (ev_iload rfl rfl).trans ?_
  refine (ev_const0 (v := (1 : Int32)) rfl am_ci_1).trans ?_
  refine (ev_iadd rfl).trans ?_
  refine (ev_iaS rfl (by decide)).trans (am_itn (fun g1 => ?_))
  refine (ev_aloadS rfl rfl).trans ?_
  refine (ev_iload rfl rfl).trans ?_
  refine (ev_const0 (v := (2 : Int32)) rfl am_ci_2).trans ?_
  refine (ev_iadd rfl).trans ?_
  refine (ev_iaS rfl (by decide)).trans (am_itn (fun g2 => ?_))
  exact ev_invv (as := [.int ((X 2).2 (x1 + (2 : Int32)).toNatClampNeg), .int ((X 2).2 (x1 + (1 : Int32)).toNatClampNeg)]) rfl (by decide) am_K_139 rfl (by simp [Value.category])
set_option maxRecDepth 10000 in
theorem sg_362_967 (X : am_X) (I : Nat → Nat → Int32) (J : Nat → Nat → Int64) (x1 : Int32) (x2 : Int32) (x3 : Int32) : am_ev X amP_362 967 [.retAddr 2, .ref 0, .ref 139, .int x1] [.int x3, .int x2] (am_sh I J) = (if x2 = x3 then am_ev X amP_362 10 [.retAddr 2, .ref 0, .ref 139, .int (x1 + (6 : Int32))] [] (am_sh I J) else some (some (.int (0 : Int32)), am_sh I J)) := by
  refine (ev_icmp0 rfl).trans (am_ite (fun c1 => ?_) (fun c1 => ?_))
  · refine (ev_iincv (v := (6 : Int32)) (ls' := [.retAddr 2, .ref 0, .ref 139, .int (x1 + (6 : Int32))]) rfl am_ci_6 rfl rfl).trans ?_
    refine (ev_goto rfl).trans ?_
    rfl
  · refine (ev_const0 (v := (0 : Int32)) rfl am_ci_0).trans ?_
    exact ev_zret rfl (by decide)
set_option maxRecDepth 10000 in
theorem sg_362_987 (X : am_X) (I : Nat → Nat → Int32) (J : Nat → Nat → Int64) (x1 : Int32) (x2 : Int32) : am_ev X amP_362 987 [.retAddr 2, .ref 0, .ref 139, .int x1] [.int x2] (am_sh I J) = (if (x1 + (1 : Int32)) < 0 ∨ (X 2).1 ≤ (x1 + (1 : Int32)).toNatClampNeg then none else (if (x1 + (2 : Int32)) < 0 ∨ (X 2).1 ≤ (x1 + (2 : Int32)).toNatClampNeg then none else (if (x1 + (3 : Int32)) < 0 ∨ (X 2).1 ≤ (x1 + (3 : Int32)).toNatClampNeg then none else (am_do X 316 [.ref 139, .int ((X 2).2 (x1 + (1 : Int32)).toNatClampNeg), .int ((X 2).2 (x1 + (2 : Int32)).toNatClampNeg), .int ((X 2).2 (x1 + (3 : Int32)).toNatClampNeg)] (am_sh I J)).bind (fun q => am_ev X amP_362 1004 [.retAddr 2, .ref 0, .ref 139, .int x1] (q.1.toList ++ [.int x2]) q.2)))) := by
  refine (ev_aload rfl rfl).trans ?_
  refine (ev_aloadS rfl rfl).trans ?_
  refine (ev_iload rfl rfl).trans ?_
  refine (ev_const0 (v := (1 : Int32)) rfl am_ci_1).trans ?_
  refine (ev_iadd rfl).trans ?_
  refine (ev_iaS rfl (by decide)).trans (am_itn (fun g1 => ?_))
  refine (ev_aloadS rfl rfl).trans ?_
  refine (ev_iload rfl rfl).trans ?_
  refine (ev_const0 (v := (2 : Int32)) rfl am_ci_2).trans ?_
  refine (ev_iadd rfl).trans ?_
  refine (ev_iaS rfl (by decide)).trans (am_itn (fun g2 => ?_))
  refine (ev_aloadS rfl rfl).trans ?_
  refine (ev_iload rfl rfl).trans ?_
  refine (ev_const0 (v := (3 : Int32)) rfl am_ci_3).trans ?_
  refine (ev_iadd rfl).trans ?_
  refine (ev_iaS rfl (by decide)).trans (am_itn (fun g3 => ?_))
  exact ev_invv (as := [.int ((X 2).2 (x1 + (3 : Int32)).toNatClampNeg), .int ((X 2).2 (x1 + (2 : Int32)).toNatClampNeg), .int ((X 2).2 (x1 + (1 : Int32)).toNatClampNeg)]) rfl (by decide) am_K_139 rfl (by simp [Value.category])
set_option maxRecDepth 10000 in
theorem sg_362_1004 (X : am_X) (I : Nat → Nat → Int32) (J : Nat → Nat → Int64) (x1 : Int32) (x2 : Int32) (x3 : Int32) : am_ev X amP_362 1004 [.retAddr 2, .ref 0, .ref 139, .int x1] [.int x3, .int x2] (am_sh I J) = (if x2 = x3 then am_ev X amP_362 10 [.retAddr 2, .ref 0, .ref 139, .int (x1 + (6 : Int32))] [] (am_sh I J) else some (some (.int (0 : Int32)), am_sh I J)) := by
  refine (ev_icmp0 rfl).trans (am_ite (fun c1 => ?_) (fun c1 => ?_))
  · refine (ev_iincv (v := (6 : Int32)) (ls' := [.retAddr 2, .ref 0, .ref 139, .int (x1 + (6 : Int32))]) rfl am_ci_6 rfl rfl).trans ?_
    refine (ev_goto rfl).trans ?_
    rfl
  · refine (ev_const0 (v := (0 : Int32)) rfl am_ci_0).trans ?_
    exact ev_zret rfl (by decide)
set_option maxRecDepth 10000 in
theorem sg_362_1019 (X : am_X) (I : Nat → Nat → Int32) (J : Nat → Nat → Int64) (x1 : Int32) (x2 : Int32) : am_ev X amP_362 1019 [.retAddr 2, .ref 0, .ref 139, .int x1] [.int x2] (am_sh I J) = (if (x1 + (1 : Int32)) < 0 ∨ (X 2).1 ≤ (x1 + (1 : Int32)).toNatClampNeg then none else (if (x1 + (2 : Int32)) < 0 ∨ (X 2).1 ≤ (x1 + (2 : Int32)).toNatClampNeg then none else (am_do X 321 [.ref 139, .int ((X 2).2 (x1 + (1 : Int32)).toNatClampNeg), .int ((X 2).2 (x1 + (2 : Int32)).toNatClampNeg)] (am_sh I J)).bind (fun q => am_ev X amP_362 1031 [.retAddr 2, .ref 0, .ref 139, .int x1] (q.1.toList ++ [.int x2]) q.2))) := by
  refine (ev_aload rfl rfl).trans ?_
  refine (ev_aloadS rfl rfl).trans ?_
  refine (ev_iload rfl rfl).trans ?_
  refine (ev_const0 (v := (1 : Int32)) rfl am_ci_1).trans ?_
  refine (ev_iadd rfl).trans ?_
  refine (ev_iaS rfl (by decide)).trans (am_itn (fun g1 => ?_))
  refine (ev_aloadS rfl rfl).trans ?_
  refine (ev_iload rfl rfl).trans ?_
  refine (ev_const0 (v := (2 : Int32)) rfl am_ci_2).trans ?_
  refine (ev_iadd rfl).trans ?_
  refine (ev_iaS rfl (by decide)).trans (am_itn (fun g2 => ?_))
  exact ev_invv (as := [.int ((X 2).2 (x1 + (2 : Int32)).toNatClampNeg), .int ((X 2).2 (x1 + (1 : Int32)).toNatClampNeg)]) rfl (by decide) am_K_139 rfl (by simp [Value.category])
set_option maxRecDepth 10000 in
theorem sg_362_1031 (X : am_X) (I : Nat → Nat → Int32) (J : Nat → Nat → Int64) (x1 : Int32) (x2 : Int32) (x3 : Int32) : am_ev X amP_362 1031 [.retAddr 2, .ref 0, .ref 139, .int x1] [.int x3, .int x2] (am_sh I J) = (if x2 = x3 then am_ev X amP_362 10 [.retAddr 2, .ref 0, .ref 139, .int (x1 + (6 : Int32))] [] (am_sh I J) else some (some (.int (0 : Int32)), am_sh I J)) := by
  refine (ev_icmp0 rfl).trans (am_ite (fun c1 => ?_) (fun c1 => ?_))
  · refine (ev_iincv (v := (6 : Int32)) (ls' := [.retAddr 2, .ref 0, .ref 139, .int (x1 + (6 : Int32))]) rfl am_ci_6 rfl rfl).trans ?_
    refine (ev_goto rfl).trans ?_
    rfl
  · refine (ev_const0 (v := (0 : Int32)) rfl am_ci_0).trans ?_
    exact ev_zret rfl (by decide)
set_option maxRecDepth 10000 in
theorem sg_362_1041 (X : am_X) (I : Nat → Nat → Int32) (J : Nat → Nat → Int64) (x1 : Int32) (x2 : Int32) : am_ev X amP_362 1041 [.retAddr 2, .ref 0, .ref 139, .int x1] [.int x2] (am_sh I J) = (if (x1 + (1 : Int32)) < 0 ∨ (X 2).1 ≤ (x1 + (1 : Int32)).toNatClampNeg then none else (am_do X 322 [.ref 139, .int ((X 2).2 (x1 + (1 : Int32)).toNatClampNeg)] (am_sh I J)).bind (fun q => am_ev X amP_362 1048 [.retAddr 2, .ref 0, .ref 139, .int x1] (q.1.toList ++ [.int x2]) q.2)) := by
  refine (ev_aload rfl rfl).trans ?_
  refine (ev_aloadS rfl rfl).trans ?_
  refine (ev_iload rfl rfl).trans ?_
  refine (ev_const0 (v := (1 : Int32)) rfl am_ci_1).trans ?_
  refine (ev_iadd rfl).trans ?_
  refine (ev_iaS rfl (by decide)).trans (am_itn (fun g1 => ?_))
  exact ev_invv (as := [.int ((X 2).2 (x1 + (1 : Int32)).toNatClampNeg)]) rfl (by decide) am_K_139 rfl (by simp [Value.category])
set_option maxRecDepth 10000 in
theorem sg_362_1048 (X : am_X) (I : Nat → Nat → Int32) (J : Nat → Nat → Int64) (x1 : Int32) (x2 : Int32) (x3 : Int32) : am_ev X amP_362 1048 [.retAddr 2, .ref 0, .ref 139, .int x1] [.int x3, .int x2] (am_sh I J) = (if x2 = x3 then am_ev X amP_362 10 [.retAddr 2, .ref 0, .ref 139, .int (x1 + (6 : Int32))] [] (am_sh I J) else some (some (.int (0 : Int32)), am_sh I J)) := by
  refine (ev_icmp0 rfl).trans (am_ite (fun c1 => ?_) (fun c1 => ?_))
  · refine (ev_iincv (v := (6 : Int32)) (ls' := [.retAddr 2, .ref 0, .ref 139, .int (x1 + (6 : Int32))]) rfl am_ci_6 rfl rfl).trans ?_
    refine (ev_goto rfl).trans ?_
    rfl
  · refine (ev_const0 (v := (0 : Int32)) rfl am_ci_0).trans ?_
    exact ev_zret rfl (by decide)
set_option maxRecDepth 10000 in
theorem sg_362_1063 (X : am_X) (I : Nat → Nat → Int32) (J : Nat → Nat → Int64) (x1 : Int32) (x2 : Int32) : am_ev X amP_362 1063 [.retAddr 2, .ref 0, .ref 139, .int x1] [.int x2] (am_sh I J) = (if (x1 + (1 : Int32)) < 0 ∨ (X 2).1 ≤ (x1 + (1 : Int32)).toNatClampNeg then none else (if (x1 + (2 : Int32)) < 0 ∨ (X 2).1 ≤ (x1 + (2 : Int32)).toNatClampNeg then none else (am_do X 324 [.ref 139, .int ((X 2).2 (x1 + (1 : Int32)).toNatClampNeg), .int ((X 2).2 (x1 + (2 : Int32)).toNatClampNeg)] (am_sh I J)).bind (fun q => am_ev X amP_362 1075 [.retAddr 2, .ref 0, .ref 139, .int x1] (q.1.toList ++ [.int x2]) q.2))) := by
  refine (ev_aload rfl rfl).trans ?_
  refine (ev_aloadS rfl rfl).trans ?_
  refine (ev_iload rfl rfl).trans ?_
  refine (ev_const0 (v := (1 : Int32)) rfl am_ci_1).trans ?_
  refine (ev_iadd rfl).trans ?_
  refine (ev_iaS rfl (by decide)).trans (am_itn (fun g1 => ?_))
  refine (ev_aloadS rfl rfl).trans ?_
  refine (ev_iload rfl rfl).trans ?_
  refine (ev_const0 (v := (2 : Int32)) rfl am_ci_2).trans ?_
  refine (ev_iadd rfl).trans ?_
  refine (ev_iaS rfl (by decide)).trans (am_itn (fun g2 => ?_))
  exact ev_invv (as := [.int ((X 2).2 (x1 + (2 : Int32)).toNatClampNeg), .int ((X 2).2 (x1 + (1 : Int32)).toNatClampNeg)]) rfl (by decide) am_K_139 rfl (by simp [Value.category])
set_option maxRecDepth 10000 in
theorem sg_362_1075 (X : am_X) (I : Nat → Nat → Int32) (J : Nat → Nat → Int64) (x1 : Int32) (x2 : Int32) (x3 : Int32) : am_ev X amP_362 1075 [.retAddr 2, .ref 0, .ref 139, .int x1] [.int x3, .int x2] (am_sh I J) = (if x2 = x3 then am_ev X amP_362 10 [.retAddr 2, .ref 0, .ref 139, .int (x1 + (6 : Int32))] [] (am_sh I J) else some (some (.int (0 : Int32)), am_sh I J)) := by
  refine (ev_icmp0 rfl).trans (am_ite (fun c1 => ?_) (fun c1 => ?_))
  · refine (ev_iincv (v := (6 : Int32)) (ls' := [.retAddr 2, .ref 0, .ref 139, .int (x1 + (6 : Int32))]) rfl am_ci_6 rfl rfl).trans ?_
    refine (ev_goto rfl).trans ?_
    rfl
  · refine (ev_const0 (v := (0 : Int32)) rfl am_ci_0).trans ?_
    exact ev_zret rfl (by decide)
set_option maxRecDepth 10000 in
theorem sg_362_1090 (X : am_X) (I : Nat → Nat → Int32) (J : Nat → Nat → Int64) (x1 : Int32) (x2 : Int32) : am_ev X amP_362 1090 [.retAddr 2, .ref 0, .ref 139, .int x1] [.int x2] (am_sh I J) = (if (x1 + (1 : Int32)) < 0 ∨ (X 2).1 ≤ (x1 + (1 : Int32)).toNatClampNeg then none else (if (x1 + (2 : Int32)) < 0 ∨ (X 2).1 ≤ (x1 + (2 : Int32)).toNatClampNeg then none else (am_do X 325 [.ref 139, .int ((X 2).2 (x1 + (1 : Int32)).toNatClampNeg), .int ((X 2).2 (x1 + (2 : Int32)).toNatClampNeg)] (am_sh I J)).bind (fun q => am_ev X amP_362 1102 [.retAddr 2, .ref 0, .ref 139, .int x1] (q.1.toList ++ [.int x2]) q.2))) := by
  refine (ev_aload rfl rfl).trans ?_
  refine (ev_aloadS rfl rfl).trans ?_
  refine (ev_iload rfl rfl).trans ?_
  refine (ev_const0 (v := (1 : Int32)) rfl am_ci_1).trans ?_
  refine (ev_iadd rfl).trans ?_
  refine (ev_iaS rfl (by decide)).trans (am_itn (fun g1 => ?_))
  refine (ev_aloadS rfl rfl).trans ?_
  refine (ev_iload rfl rfl).trans ?_
  refine (ev_const0 (v := (2 : Int32)) rfl am_ci_2).trans ?_
  refine (ev_iadd rfl).trans ?_
  refine (ev_iaS rfl (by decide)).trans (am_itn (fun g2 => ?_))
  exact ev_invv (as := [.int ((X 2).2 (x1 + (2 : Int32)).toNatClampNeg), .int ((X 2).2 (x1 + (1 : Int32)).toNatClampNeg)]) rfl (by decide) am_K_139 rfl (by simp [Value.category])
set_option maxRecDepth 10000 in
theorem sg_362_1102 (X : am_X) (I : Nat → Nat → Int32) (J : Nat → Nat → Int64) (x1 : Int32) (x2 : Int32) (x3 : Int32) : am_ev X amP_362 1102 [.retAddr 2, .ref 0, .ref 139, .int x1] [.int x3, .int x2] (am_sh I J) = (if x2 = x3 then am_ev X amP_362 10 [.retAddr 2, .ref 0, .ref 139, .int (x1 + (6 : Int32))] [] (am_sh I J) else some (some (.int (0 : Int32)), am_sh I J)) := by
  refine (ev_icmp0 rfl).trans (am_ite (fun c1 => ?_) (fun c1 => ?_))
  · refine (ev_iincv (v := (6 : Int32)) (ls' := [.retAddr 2, .ref 0, .ref 139, .int (x1 + (6 : Int32))]) rfl am_ci_6 rfl rfl).trans ?_
    refine (ev_goto rfl).trans ?_
    rfl
  · refine (ev_const0 (v := (0 : Int32)) rfl am_ci_0).trans ?_
    exact ev_zret rfl (by decide)
set_option maxRecDepth 10000 in
theorem sg_362_1112 (X : am_X) (I : Nat → Nat → Int32) (J : Nat → Nat → Int64) (x1 : Int32) (x2 : Int32) : am_ev X amP_362 1112 [.retAddr 2, .ref 0, .ref 139, .int x1] [.int x2] (am_sh I J) = (if (x1 + (1 : Int32)) < 0 ∨ (X 2).1 ≤ (x1 + (1 : Int32)).toNatClampNeg then none else (am_do X 326 [.ref 139, .int ((X 2).2 (x1 + (1 : Int32)).toNatClampNeg)] (am_sh I J)).bind (fun q => am_ev X amP_362 1119 [.retAddr 2, .ref 0, .ref 139, .int x1] (q.1.toList ++ [.int x2]) q.2)) := by
  refine (ev_aload rfl rfl).trans ?_
  refine (ev_aloadS rfl rfl).trans ?_
  refine (ev_iload rfl rfl).trans ?_
  refine (ev_const0 (v := (1 : Int32)) rfl am_ci_1).trans ?_
  refine (ev_iadd rfl).trans ?_
  refine (ev_iaS rfl (by decide)).trans (am_itn (fun g1 => ?_))
  exact ev_invv (as := [.int ((X 2).2 (x1 + (1 : Int32)).toNatClampNeg)]) rfl (by decide) am_K_139 rfl (by simp [Value.category])
set_option maxRecDepth 10000 in
theorem sg_362_1119 (X : am_X) (I : Nat → Nat → Int32) (J : Nat → Nat → Int64) (x1 : Int32) (x2 : Int32) (x3 : Int32) : am_ev X amP_362 1119 [.retAddr 2, .ref 0, .ref 139, .int x1] [.int x3, .int x2] (am_sh I J) = (if x2 = x3 then am_ev X amP_362 10 [.retAddr 2, .ref 0, .ref 139, .int (x1 + (6 : Int32))] [] (am_sh I J) else some (some (.int (0 : Int32)), am_sh I J)) := by
  refine (ev_icmp0 rfl).trans (am_ite (fun c1 => ?_) (fun c1 => ?_))
  · refine (ev_iincv (v := (6 : Int32)) (ls' := [.retAddr 2, .ref 0, .ref 139, .int (x1 + (6 : Int32))]) rfl am_ci_6 rfl rfl).trans ?_
    refine (ev_goto rfl).trans ?_
    rfl
  · refine (ev_const0 (v := (0 : Int32)) rfl am_ci_0).trans ?_
    exact ev_zret rfl (by decide)
set_option maxRecDepth 10000 in
theorem sg_362_1129 (X : am_X) (I : Nat → Nat → Int32) (J : Nat → Nat → Int64) (x1 : Int32) (x2 : Int32) : am_ev X amP_362 1129 [.retAddr 2, .ref 0, .ref 139, .int x1] [.int x2] (am_sh I J) = (if (x1 + (1 : Int32)) < 0 ∨ (X 2).1 ≤ (x1 + (1 : Int32)).toNatClampNeg then none else (am_do X 329 [.ref 139, .int ((X 2).2 (x1 + (1 : Int32)).toNatClampNeg)] (am_sh I J)).bind (fun q => am_ev X amP_362 1136 [.retAddr 2, .ref 0, .ref 139, .int x1] (q.1.toList ++ [.int x2]) q.2)) := by
  refine (ev_aload rfl rfl).trans ?_
  refine (ev_aloadS rfl rfl).trans ?_
  refine (ev_iload rfl rfl).trans ?_
  refine (ev_const0 (v := (1 : Int32)) rfl am_ci_1).trans ?_
  refine (ev_iadd rfl).trans ?_
  refine (ev_iaS rfl (by decide)).trans (am_itn (fun g1 => ?_))
  exact ev_invv (as := [.int ((X 2).2 (x1 + (1 : Int32)).toNatClampNeg)]) rfl (by decide) am_K_139 rfl (by simp [Value.category])
set_option maxRecDepth 10000 in
theorem sg_362_1136 (X : am_X) (I : Nat → Nat → Int32) (J : Nat → Nat → Int64) (x1 : Int32) (x2 : Int32) (x3 : Int32) : am_ev X amP_362 1136 [.retAddr 2, .ref 0, .ref 139, .int x1] [.int x3, .int x2] (am_sh I J) = (if x2 = x3 then am_ev X amP_362 10 [.retAddr 2, .ref 0, .ref 139, .int (x1 + (6 : Int32))] [] (am_sh I J) else some (some (.int (0 : Int32)), am_sh I J)) := by
  refine (ev_icmp0 rfl).trans (am_ite (fun c1 => ?_) (fun c1 => ?_))
  · refine (ev_iincv (v := (6 : Int32)) (ls' := [.retAddr 2, .ref 0, .ref 139, .int (x1 + (6 : Int32))]) rfl am_ci_6 rfl rfl).trans ?_
    refine (ev_goto rfl).trans ?_
    rfl
  · refine (ev_const0 (v := (0 : Int32)) rfl am_ci_0).trans ?_
    exact ev_zret rfl (by decide)
set_option maxRecDepth 10000 in
theorem sg_362_1146 (X : am_X) (I : Nat → Nat → Int32) (J : Nat → Nat → Int64) (x1 : Int32) (x2 : Int32) : am_ev X amP_362 1146 [.retAddr 2, .ref 0, .ref 139, .int x1] [.int x2] (am_sh I J) = (if (x1 + (1 : Int32)) < 0 ∨ (X 2).1 ≤ (x1 + (1 : Int32)).toNatClampNeg then none else (am_do X 331 [.ref 139, .int ((X 2).2 (x1 + (1 : Int32)).toNatClampNeg)] (am_sh I J)).bind (fun q => am_ev X amP_362 1153 [.retAddr 2, .ref 0, .ref 139, .int x1] (q.1.toList ++ [.int x2]) q.2)) := by
  refine (ev_aload rfl rfl).trans ?_
  refine (ev_aloadS rfl rfl).trans ?_
  refine (ev_iload rfl rfl).trans ?_
  refine (ev_const0 (v := (1 : Int32)) rfl am_ci_1).trans ?_
  refine (ev_iadd rfl).trans ?_
  refine (ev_iaS rfl (by decide)).trans (am_itn (fun g1 => ?_))
  exact ev_invv (as := [.int ((X 2).2 (x1 + (1 : Int32)).toNatClampNeg)]) rfl (by decide) am_K_139 rfl (by simp [Value.category])
set_option maxRecDepth 10000 in
theorem sg_362_1153 (X : am_X) (I : Nat → Nat → Int32) (J : Nat → Nat → Int64) (x1 : Int32) (x2 : Int32) (x3 : Int32) : am_ev X amP_362 1153 [.retAddr 2, .ref 0, .ref 139, .int x1] [.int x3, .int x2] (am_sh I J) = (if x2 = x3 then am_ev X amP_362 10 [.retAddr 2, .ref 0, .ref 139, .int (x1 + (6 : Int32))] [] (am_sh I J) else some (some (.int (0 : Int32)), am_sh I J)) := by
  refine (ev_icmp0 rfl).trans (am_ite (fun c1 => ?_) (fun c1 => ?_))
  · refine (ev_iincv (v := (6 : Int32)) (ls' := [.retAddr 2, .ref 0, .ref 139, .int (x1 + (6 : Int32))]) rfl am_ci_6 rfl rfl).trans ?_
    refine (ev_goto rfl).trans ?_
    rfl
  · refine (ev_const0 (v := (0 : Int32)) rfl am_ci_0).trans ?_
    exact ev_zret rfl (by decide)
set_option maxRecDepth 10000 in
theorem sg_362_1173 (X : am_X) (I : Nat → Nat → Int32) (J : Nat → Nat → Int64) (x1 : Int32) (x2 : Int32) : am_ev X amP_362 1173 [.retAddr 2, .ref 0, .ref 139, .int x1] [.int x2] (am_sh I J) = (if (x1 + (1 : Int32)) < 0 ∨ (X 2).1 ≤ (x1 + (1 : Int32)).toNatClampNeg then none else (if (x1 + (2 : Int32)) < 0 ∨ (X 2).1 ≤ (x1 + (2 : Int32)).toNatClampNeg then none else (if (x1 + (3 : Int32)) < 0 ∨ (X 2).1 ≤ (x1 + (3 : Int32)).toNatClampNeg then none else (am_do X 332 [.ref 139, .int ((X 2).2 (x1 + (1 : Int32)).toNatClampNeg), .int ((X 2).2 (x1 + (2 : Int32)).toNatClampNeg), .int ((X 2).2 (x1 + (3 : Int32)).toNatClampNeg)] (am_sh I J)).bind (fun q => am_ev X amP_362 1190 [.retAddr 2, .ref 0, .ref 139, .int x1] (q.1.toList ++ [.int x2]) q.2)))) := by
  refine (ev_aload rfl rfl).trans ?_
  refine (ev_aloadS rfl rfl).trans ?_
  refine (ev_iload rfl rfl).trans ?_
  refine (ev_const0 (v := (1 : Int32)) rfl am_ci_1).trans ?_
  refine (ev_iadd rfl).trans ?_
  refine (ev_iaS rfl (by decide)).trans (am_itn (fun g1 => ?_))
  refine (ev_aloadS rfl rfl).trans ?_
  refine (ev_iload rfl rfl).trans ?_
  refine (ev_const0 (v := (2 : Int32)) rfl am_ci_2).trans ?_
  refine (ev_iadd rfl).trans ?_
  refine (ev_iaS rfl (by decide)).trans (am_itn (fun g2 => ?_))
  refine (ev_aloadS rfl rfl).trans ?_
  refine (ev_iload rfl rfl).trans ?_
  refine (ev_const0 (v := (3 : Int32)) rfl am_ci_3).trans ?_
  refine (ev_iadd rfl).trans ?_
  refine (ev_iaS rfl (by decide)).trans (am_itn (fun g3 => ?_))
  exact ev_invv (as := [.int ((X 2).2 (x1 + (3 : Int32)).toNatClampNeg), .int ((X 2).2 (x1 + (2 : Int32)).toNatClampNeg), .int ((X 2).2 (x1 + (1 : Int32)).toNatClampNeg)]) rfl (by decide) am_K_139 rfl (by simp [Value.category])
set_option maxRecDepth 10000 in
theorem sg_362_1190 (X : am_X) (I : Nat → Nat → Int32) (J : Nat → Nat → Int64) (x1 : Int32) (x2 : Int32) (x3 : Int32) : am_ev X amP_362 1190 [.retAddr 2, .ref 0, .ref 139, .int x1] [.int x3, .int x2] (am_sh I J) = (if x2 = x3 then am_ev X amP_362 10 [.retAddr 2, .ref 0, .ref 139, .int (x1 + (6 : Int32))] [] (am_sh I J) else some (some (.int (0 : Int32)), am_sh I J)) := by
  refine (ev_icmp0 rfl).trans (am_ite (fun c1 => ?_) (fun c1 => ?_))
  · refine (ev_iincv (v := (6 : Int32)) (ls' := [.retAddr 2, .ref 0, .ref 139, .int (x1 + (6 : Int32))]) rfl am_ci_6 rfl rfl).trans ?_
    refine (ev_goto rfl).trans ?_
    rfl
  · refine (ev_const0 (v := (0 : Int32)) rfl am_ci_0).trans ?_
    exact ev_zret rfl (by decide)
set_option maxRecDepth 10000 in
theorem sg_362_1209 (X : am_X) (I : Nat → Nat → Int32) (J : Nat → Nat → Int64) (x1 : Int32) (x2 : Int32) : am_ev X amP_362 1209 [.retAddr 2, .ref 0, .ref 139, .int x1] [.int x2] (am_sh I J) = (if (x1 + (1 : Int32)) < 0 ∨ (X 2).1 ≤ (x1 + (1 : Int32)).toNatClampNeg then none else (if (x1 + (2 : Int32)) < 0 ∨ (X 2).1 ≤ (x1 + (2 : Int32)).toNatClampNeg then none else (if ((X 2).2 (x1 + (2 : Int32)).toNatClampNeg) = 0 then (am_do X 333 [.ref 139, .int ((X 2).2 (x1 + (1 : Int32)).toNatClampNeg), .int (0 : Int32)] (am_sh I J)).bind (fun q => am_ev X amP_362 1225 [.retAddr 2, .ref 0, .ref 139, .int x1] (q.1.toList ++ [.int x2]) q.2) else (am_do X 333 [.ref 139, .int ((X 2).2 (x1 + (1 : Int32)).toNatClampNeg), .int (1 : Int32)] (am_sh I J)).bind (fun q => am_ev X amP_362 1225 [.retAddr 2, .ref 0, .ref 139, .int x1] (q.1.toList ++ [.int x2]) q.2)))) := by
  refine (ev_aload rfl rfl).trans ?_
  refine (ev_aloadS rfl rfl).trans ?_
  refine (ev_iload rfl rfl).trans ?_
  refine (ev_const0 (v := (1 : Int32)) rfl am_ci_1).trans ?_
  refine (ev_iadd rfl).trans ?_
  refine (ev_iaS rfl (by decide)).trans (am_itn (fun g1 => ?_))
  refine (ev_aloadS rfl rfl).trans ?_
  refine (ev_iload rfl rfl).trans ?_
  refine (ev_const0 (v := (2 : Int32)) rfl am_ci_2).trans ?_
  refine (ev_iadd rfl).trans ?_
  refine (ev_iaS rfl (by decide)).trans (am_itn (fun g2 => ?_))
  refine (ev_if0 rfl).trans (am_ite (fun c3 => ?_) (fun c3 => ?_))
  · refine (ev_const0 (v := (0 : Int32)) rfl am_ci_0).trans ?_
    exact ev_invv (as := [.int (0 : Int32), .int ((X 2).2 (x1 + (1 : Int32)).toNatClampNeg)]) rfl (by decide) am_K_139 rfl (by simp [Value.category])
  · refine (ev_const0 (v := (1 : Int32)) rfl am_ci_1).trans ?_
    refine (ev_goto rfl).trans ?_
    exact ev_invv (as := [.int (1 : Int32), .int ((X 2).2 (x1 + (1 : Int32)).toNatClampNeg)]) rfl (by decide) am_K_139 rfl (by simp [Value.category])
set_option maxRecDepth 10000 in
theorem sg_362_1225 (X : am_X) (I : Nat → Nat → Int32) (J : Nat → Nat → Int64) (x1 : Int32) (x2 : Int32) (x3 : Int32) : am_ev X amP_362 1225 [.retAddr 2, .ref 0, .ref 139, .int x1] [.int x3, .int x2] (am_sh I J) = (if x2 = x3 then am_ev X amP_362 10 [.retAddr 2, .ref 0, .ref 139, .int (x1 + (6 : Int32))] [] (am_sh I J) else some (some (.int (0 : Int32)), am_sh I J)) := by
  refine (ev_icmp0 rfl).trans (am_ite (fun c1 => ?_) (fun c1 => ?_))
  · refine (ev_iincv (v := (6 : Int32)) (ls' := [.retAddr 2, .ref 0, .ref 139, .int (x1 + (6 : Int32))]) rfl am_ci_6 rfl rfl).trans ?_
    refine (ev_goto rfl).trans ?_
    rfl
  · refine (ev_const0 (v := (0 : Int32)) rfl am_ci_0).trans ?_
    exact ev_zret rfl (by decide)
set_option maxRecDepth 10000 in
theorem sg_362_1235 (X : am_X) (I : Nat → Nat → Int32) (J : Nat → Nat → Int64) (x1 : Int32) (x2 : Int32) : am_ev X amP_362 1235 [.retAddr 2, .ref 0, .ref 139, .int x1] [.int x2] (am_sh I J) = (if (x1 + (1 : Int32)) < 0 ∨ (X 2).1 ≤ (x1 + (1 : Int32)).toNatClampNeg then none else (am_do X 334 [.ref 139, .int ((X 2).2 (x1 + (1 : Int32)).toNatClampNeg)] (am_sh I J)).bind (fun q => am_ev X amP_362 1242 [.retAddr 2, .ref 0, .ref 139, .int x1] (q.1.toList ++ [.int x2]) q.2)) := by
  refine (ev_aload rfl rfl).trans ?_
  refine (ev_aloadS rfl rfl).trans ?_
  refine (ev_iload rfl rfl).trans ?_
  refine (ev_const0 (v := (1 : Int32)) rfl am_ci_1).trans ?_
  refine (ev_iadd rfl).trans ?_
  refine (ev_iaS rfl (by decide)).trans (am_itn (fun g1 => ?_))
  exact ev_invv (as := [.int ((X 2).2 (x1 + (1 : Int32)).toNatClampNeg)]) rfl (by decide) am_K_139 rfl (by simp [Value.category])
set_option maxRecDepth 10000 in
theorem sg_362_1242 (X : am_X) (I : Nat → Nat → Int32) (J : Nat → Nat → Int64) (x1 : Int32) (x2 : Int32) (x3 : Int32) : am_ev X amP_362 1242 [.retAddr 2, .ref 0, .ref 139, .int x1] [.int x3, .int x2] (am_sh I J) = (if x2 = x3 then am_ev X amP_362 10 [.retAddr 2, .ref 0, .ref 139, .int (x1 + (6 : Int32))] [] (am_sh I J) else some (some (.int (0 : Int32)), am_sh I J)) := by
  refine (ev_icmp0 rfl).trans (am_ite (fun c1 => ?_) (fun c1 => ?_))
  · refine (ev_iincv (v := (6 : Int32)) (ls' := [.retAddr 2, .ref 0, .ref 139, .int (x1 + (6 : Int32))]) rfl am_ci_6 rfl rfl).trans ?_
    refine (ev_goto rfl).trans ?_
    rfl
  · refine (ev_const0 (v := (0 : Int32)) rfl am_ci_0).trans ?_
    exact ev_zret rfl (by decide)
set_option maxRecDepth 10000 in
theorem sg_362_1252 (X : am_X) (I : Nat → Nat → Int32) (J : Nat → Nat → Int64) (x1 : Int32) (x2 : Int32) : am_ev X amP_362 1252 [.retAddr 2, .ref 0, .ref 139, .int x1] [.int x2] (am_sh I J) = (if (x1 + (1 : Int32)) < 0 ∨ (X 2).1 ≤ (x1 + (1 : Int32)).toNatClampNeg then none else (am_do X 336 [.ref 139, .int ((X 2).2 (x1 + (1 : Int32)).toNatClampNeg)] (am_sh I J)).bind (fun q => am_ev X amP_362 1259 [.retAddr 2, .ref 0, .ref 139, .int x1] (q.1.toList ++ [.int x2]) q.2)) := by
  refine (ev_aload rfl rfl).trans ?_
  refine (ev_aloadS rfl rfl).trans ?_
  refine (ev_iload rfl rfl).trans ?_
  refine (ev_const0 (v := (1 : Int32)) rfl am_ci_1).trans ?_
  refine (ev_iadd rfl).trans ?_
  refine (ev_iaS rfl (by decide)).trans (am_itn (fun g1 => ?_))
  exact ev_invv (as := [.int ((X 2).2 (x1 + (1 : Int32)).toNatClampNeg)]) rfl (by decide) am_K_139 rfl (by simp [Value.category])
set_option maxRecDepth 10000 in
theorem sg_362_1259 (X : am_X) (I : Nat → Nat → Int32) (J : Nat → Nat → Int64) (x1 : Int32) (x2 : Int32) (x3 : Int32) : am_ev X amP_362 1259 [.retAddr 2, .ref 0, .ref 139, .int x1] [.int x3, .int x2] (am_sh I J) = (if x2 = x3 then am_ev X amP_362 10 [.retAddr 2, .ref 0, .ref 139, .int (x1 + (6 : Int32))] [] (am_sh I J) else some (some (.int (0 : Int32)), am_sh I J)) := by
  refine (ev_icmp0 rfl).trans (am_ite (fun c1 => ?_) (fun c1 => ?_))
  · refine (ev_iincv (v := (6 : Int32)) (ls' := [.retAddr 2, .ref 0, .ref 139, .int (x1 + (6 : Int32))]) rfl am_ci_6 rfl rfl).trans ?_
    refine (ev_goto rfl).trans ?_
    rfl
  · refine (ev_const0 (v := (0 : Int32)) rfl am_ci_0).trans ?_
    exact ev_zret rfl (by decide)
set_option maxRecDepth 10000 in
theorem sg_362_1269 (X : am_X) (I : Nat → Nat → Int32) (J : Nat → Nat → Int64) (x1 : Int32) (x2 : Int32) : am_ev X amP_362 1269 [.retAddr 2, .ref 0, .ref 139, .int x1] [.int x2] (am_sh I J) = (if (x1 + (1 : Int32)) < 0 ∨ (X 2).1 ≤ (x1 + (1 : Int32)).toNatClampNeg then none else (am_do X 338 [.ref 139, .int ((X 2).2 (x1 + (1 : Int32)).toNatClampNeg)] (am_sh I J)).bind (fun q => am_ev X amP_362 1276 [.retAddr 2, .ref 0, .ref 139, .int x1] (q.1.toList ++ [.int x2]) q.2)) := by
  refine (ev_aload rfl rfl).trans ?_
  refine (ev_aloadS rfl rfl).trans ?_
  refine (ev_iload rfl rfl).trans ?_
  refine (ev_const0 (v := (1 : Int32)) rfl am_ci_1).trans ?_
  refine (ev_iadd rfl).trans ?_
  refine (ev_iaS rfl (by decide)).trans (am_itn (fun g1 => ?_))
  exact ev_invv (as := [.int ((X 2).2 (x1 + (1 : Int32)).toNatClampNeg)]) rfl (by decide) am_K_139 rfl (by simp [Value.category])
set_option maxRecDepth 10000 in
theorem sg_362_1276 (X : am_X) (I : Nat → Nat → Int32) (J : Nat → Nat → Int64) (x1 : Int32) (x2 : Int32) (x3 : Int32) : am_ev X amP_362 1276 [.retAddr 2, .ref 0, .ref 139, .int x1] [.int x3, .int x2] (am_sh I J) = (if x2 = x3 then am_ev X amP_362 10 [.retAddr 2, .ref 0, .ref 139, .int (x1 + (6 : Int32))] [] (am_sh I J) else some (some (.int (0 : Int32)), am_sh I J)) := by
  refine (ev_icmp0 rfl).trans (am_ite (fun c1 => ?_) (fun c1 => ?_))
  · refine (ev_iincv (v := (6 : Int32)) (ls' := [.retAddr 2, .ref 0, .ref 139, .int (x1 + (6 : Int32))]) rfl am_ci_6 rfl rfl).trans ?_
    refine (ev_goto rfl).trans ?_
    rfl
  · refine (ev_const0 (v := (0 : Int32)) rfl am_ci_0).trans ?_
    exact ev_zret rfl (by decide)
set_option maxRecDepth 10000 in
theorem sg_362_1281 (X : am_X) (I : Nat → Nat → Int32) (J : Nat → Nat → Int64) (x1 : Int32) (x2 : Int32) : am_ev X amP_362 1281 [.retAddr 2, .ref 0, .ref 139, .int x1] [.int x2] (am_sh I J) = (am_do X 339 [.ref 139] (am_sh I J)).bind (fun q => am_ev X amP_362 1283 [.retAddr 2, .ref 0, .ref 139, .int x1] (q.1.toList ++ [.int x2]) q.2) := by
  refine (ev_aload rfl rfl).trans ?_
  exact ev_invv (as := []) rfl (by decide) am_K_139 rfl (by simp [Value.category])
set_option maxRecDepth 10000 in
theorem sg_362_1283 (X : am_X) (I : Nat → Nat → Int32) (J : Nat → Nat → Int64) (x1 : Int32) (x2 : Int32) (x3 : Int32) : am_ev X amP_362 1283 [.retAddr 2, .ref 0, .ref 139, .int x1] [.int x3, .int x2] (am_sh I J) = (if x2 = x3 then am_ev X amP_362 10 [.retAddr 2, .ref 0, .ref 139, .int (x1 + (6 : Int32))] [] (am_sh I J) else some (some (.int (0 : Int32)), am_sh I J)) := by
  refine (ev_icmp0 rfl).trans (am_ite (fun c1 => ?_) (fun c1 => ?_))
  · refine (ev_iincv (v := (6 : Int32)) (ls' := [.retAddr 2, .ref 0, .ref 139, .int (x1 + (6 : Int32))]) rfl am_ci_6 rfl rfl).trans ?_
    refine (ev_goto rfl).trans ?_
    rfl
  · refine (ev_const0 (v := (0 : Int32)) rfl am_ci_0).trans ?_
    exact ev_zret rfl (by decide)
set_option maxRecDepth 10000 in
theorem sg_362_1293 (X : am_X) (I : Nat → Nat → Int32) (J : Nat → Nat → Int64) (x1 : Int32) (x2 : Int32) : am_ev X amP_362 1293 [.retAddr 2, .ref 0, .ref 139, .int x1] [.int x2] (am_sh I J) = (if (x1 + (1 : Int32)) < 0 ∨ (X 2).1 ≤ (x1 + (1 : Int32)).toNatClampNeg then none else (am_do X 340 [.ref 139, .int ((X 2).2 (x1 + (1 : Int32)).toNatClampNeg)] (am_sh I J)).bind (fun q => am_ev X amP_362 1300 [.retAddr 2, .ref 0, .ref 139, .int x1] (q.1.toList ++ [.int x2]) q.2)) := by
  refine (ev_aload rfl rfl).trans ?_
  refine (ev_aloadS rfl rfl).trans ?_
  refine (ev_iload rfl rfl).trans ?_
  refine (ev_const0 (v := (1 : Int32)) rfl am_ci_1).trans ?_
  refine (ev_iadd rfl).trans ?_
  refine (ev_iaS rfl (by decide)).trans (am_itn (fun g1 => ?_))
  exact ev_invv (as := [.int ((X 2).2 (x1 + (1 : Int32)).toNatClampNeg)]) rfl (by decide) am_K_139 rfl (by simp [Value.category])
set_option maxRecDepth 10000 in
theorem sg_362_1300 (X : am_X) (I : Nat → Nat → Int32) (J : Nat → Nat → Int64) (x1 : Int32) (x2 : Int32) (x3 : Int32) : am_ev X amP_362 1300 [.retAddr 2, .ref 0, .ref 139, .int x1] [.int x3, .int x2] (am_sh I J) = (if x2 = x3 then am_ev X amP_362 10 [.retAddr 2, .ref 0, .ref 139, .int (x1 + (6 : Int32))] [] (am_sh I J) else some (some (.int (0 : Int32)), am_sh I J)) := by
  refine (ev_icmp0 rfl).trans (am_ite (fun c1 => ?_) (fun c1 => ?_))
  · refine (ev_iincv (v := (6 : Int32)) (ls' := [.retAddr 2, .ref 0, .ref 139, .int (x1 + (6 : Int32))]) rfl am_ci_6 rfl rfl).trans ?_
    refine (ev_goto rfl).trans ?_
    rfl
  · refine (ev_const0 (v := (0 : Int32)) rfl am_ci_0).trans ?_
    exact ev_zret rfl (by decide)
set_option maxRecDepth 10000 in
theorem sg_362_1305 (X : am_X) (I : Nat → Nat → Int32) (J : Nat → Nat → Int64) (x1 : Int32) (x2 : Int32) : am_ev X amP_362 1305 [.retAddr 2, .ref 0, .ref 139, .int x1] [.int x2] (am_sh I J) = (am_do X 342 [.ref 139] (am_sh I J)).bind (fun q => am_ev X amP_362 1307 [.retAddr 2, .ref 0, .ref 139, .int x1] (q.1.toList ++ [.int x2]) q.2) := by
  refine (ev_aload rfl rfl).trans ?_
  exact ev_invv (as := []) rfl (by decide) am_K_139 rfl (by simp [Value.category])
set_option maxRecDepth 10000 in
theorem sg_362_1307 (X : am_X) (I : Nat → Nat → Int32) (J : Nat → Nat → Int64) (x1 : Int32) (x2 : Int32) (x3 : Int32) : am_ev X amP_362 1307 [.retAddr 2, .ref 0, .ref 139, .int x1] [.int x3, .int x2] (am_sh I J) = (if x2 = x3 then am_ev X amP_362 10 [.retAddr 2, .ref 0, .ref 139, .int (x1 + (6 : Int32))] [] (am_sh I J) else some (some (.int (0 : Int32)), am_sh I J)) := by
  refine (ev_icmp0 rfl).trans (am_ite (fun c1 => ?_) (fun c1 => ?_))
  · refine (ev_iincv (v := (6 : Int32)) (ls' := [.retAddr 2, .ref 0, .ref 139, .int (x1 + (6 : Int32))]) rfl am_ci_6 rfl rfl).trans ?_
    refine (ev_goto rfl).trans ?_
    rfl
  · refine (ev_const0 (v := (0 : Int32)) rfl am_ci_0).trans ?_
    exact ev_zret rfl (by decide)
set_option maxRecDepth 10000 in
theorem sg_362_1317 (X : am_X) (I : Nat → Nat → Int32) (J : Nat → Nat → Int64) (x1 : Int32) (x2 : Int32) : am_ev X amP_362 1317 [.retAddr 2, .ref 0, .ref 139, .int x1] [.int x2] (am_sh I J) = (if (x1 + (1 : Int32)) < 0 ∨ (X 2).1 ≤ (x1 + (1 : Int32)).toNatClampNeg then none else (am_do X 343 [.ref 139, .int ((X 2).2 (x1 + (1 : Int32)).toNatClampNeg)] (am_sh I J)).bind (fun q => am_ev X amP_362 1324 [.retAddr 2, .ref 0, .ref 139, .int x1] (q.1.toList ++ [.int x2]) q.2)) := by
  refine (ev_aload rfl rfl).trans ?_
  refine (ev_aloadS rfl rfl).trans ?_
  refine (ev_iload rfl rfl).trans ?_
  refine (ev_const0 (v := (1 : Int32)) rfl am_ci_1).trans ?_
  refine (ev_iadd rfl).trans ?_
  refine (ev_iaS rfl (by decide)).trans (am_itn (fun g1 => ?_))
  exact ev_invv (as := [.int ((X 2).2 (x1 + (1 : Int32)).toNatClampNeg)]) rfl (by decide) am_K_139 rfl (by simp [Value.category])
set_option maxRecDepth 10000 in
theorem sg_362_1324 (X : am_X) (I : Nat → Nat → Int32) (J : Nat → Nat → Int64) (x1 : Int32) (x2 : Int32) (x3 : Int32) : am_ev X amP_362 1324 [.retAddr 2, .ref 0, .ref 139, .int x1] [.int x3, .int x2] (am_sh I J) = (if x2 = x3 then am_ev X amP_362 10 [.retAddr 2, .ref 0, .ref 139, .int (x1 + (6 : Int32))] [] (am_sh I J) else some (some (.int (0 : Int32)), am_sh I J)) := by
  refine (ev_icmp0 rfl).trans (am_ite (fun c1 => ?_) (fun c1 => ?_))
  · refine (ev_iincv (v := (6 : Int32)) (ls' := [.retAddr 2, .ref 0, .ref 139, .int (x1 + (6 : Int32))]) rfl am_ci_6 rfl rfl).trans ?_
    refine (ev_goto rfl).trans ?_
    rfl
  · refine (ev_const0 (v := (0 : Int32)) rfl am_ci_0).trans ?_
    exact ev_zret rfl (by decide)
set_option maxRecDepth 10000 in
theorem sg_362_1329 (X : am_X) (I : Nat → Nat → Int32) (J : Nat → Nat → Int64) (x1 : Int32) (x2 : Int32) : am_ev X amP_362 1329 [.retAddr 2, .ref 0, .ref 139, .int x1] [.int x2] (am_sh I J) = (am_do X 346 [.ref 139] (am_sh I J)).bind (fun q => am_ev X amP_362 1331 [.retAddr 2, .ref 0, .ref 139, .int x1] (q.1.toList ++ [.int x2]) q.2) := by
  refine (ev_aload rfl rfl).trans ?_
  exact ev_invv (as := []) rfl (by decide) am_K_139 rfl (by simp [Value.category])
set_option maxRecDepth 10000 in
theorem sg_362_1331 (X : am_X) (I : Nat → Nat → Int32) (J : Nat → Nat → Int64) (x1 : Int32) (x2 : Int32) (x3 : Int32) : am_ev X amP_362 1331 [.retAddr 2, .ref 0, .ref 139, .int x1] [.int x3, .int x2] (am_sh I J) = (if x2 = x3 then am_ev X amP_362 10 [.retAddr 2, .ref 0, .ref 139, .int (x1 + (6 : Int32))] [] (am_sh I J) else some (some (.int (0 : Int32)), am_sh I J)) := by
  refine (ev_icmp0 rfl).trans (am_ite (fun c1 => ?_) (fun c1 => ?_))
  · refine (ev_iincv (v := (6 : Int32)) (ls' := [.retAddr 2, .ref 0, .ref 139, .int (x1 + (6 : Int32))]) rfl am_ci_6 rfl rfl).trans ?_
    refine (ev_goto rfl).trans ?_
    rfl
  · refine (ev_const0 (v := (0 : Int32)) rfl am_ci_0).trans ?_
    exact ev_zret rfl (by decide)
set_option maxRecDepth 10000 in
theorem sg_362_1341 (X : am_X) (I : Nat → Nat → Int32) (J : Nat → Nat → Int64) (x1 : Int32) (x2 : Int32) : am_ev X amP_362 1341 [.retAddr 2, .ref 0, .ref 139, .int x1] [.int x2] (am_sh I J) = (if (x1 + (1 : Int32)) < 0 ∨ (X 2).1 ≤ (x1 + (1 : Int32)).toNatClampNeg then none else (am_do X 347 [.ref 139, .int ((X 2).2 (x1 + (1 : Int32)).toNatClampNeg)] (am_sh I J)).bind (fun q => am_ev X amP_362 1348 [.retAddr 2, .ref 0, .ref 139, .int x1] (q.1.toList ++ [.int x2]) q.2)) := by
  refine (ev_aload rfl rfl).trans ?_
  refine (ev_aloadS rfl rfl).trans ?_
  refine (ev_iload rfl rfl).trans ?_
  refine (ev_const0 (v := (1 : Int32)) rfl am_ci_1).trans ?_
  refine (ev_iadd rfl).trans ?_
  refine (ev_iaS rfl (by decide)).trans (am_itn (fun g1 => ?_))
  exact ev_invv (as := [.int ((X 2).2 (x1 + (1 : Int32)).toNatClampNeg)]) rfl (by decide) am_K_139 rfl (by simp [Value.category])
set_option maxRecDepth 10000 in
theorem sg_362_1348 (X : am_X) (I : Nat → Nat → Int32) (J : Nat → Nat → Int64) (x1 : Int32) (x2 : Int32) (x3 : Int32) : am_ev X amP_362 1348 [.retAddr 2, .ref 0, .ref 139, .int x1] [.int x3, .int x2] (am_sh I J) = (if x2 = x3 then am_ev X amP_362 10 [.retAddr 2, .ref 0, .ref 139, .int (x1 + (6 : Int32))] [] (am_sh I J) else some (some (.int (0 : Int32)), am_sh I J)) := by
  refine (ev_icmp0 rfl).trans (am_ite (fun c1 => ?_) (fun c1 => ?_))
  · refine (ev_iincv (v := (6 : Int32)) (ls' := [.retAddr 2, .ref 0, .ref 139, .int (x1 + (6 : Int32))]) rfl am_ci_6 rfl rfl).trans ?_
    refine (ev_goto rfl).trans ?_
    rfl
  · refine (ev_const0 (v := (0 : Int32)) rfl am_ci_0).trans ?_
    exact ev_zret rfl (by decide)
