-- 262 X12_groups
set_option maxRecDepth 10000 in
theorem sg_262_e0 (X : am_X) (I : Nat → Nat → Int32) (J : Nat → Nat → Int64) : am_ev X amP_262 0 [.ref 139, .null, .null] [] (am_sh I J) = (am_do X 292 [.ref 139] (am_sh I J)).bind (fun q => am_ev X amP_262 2 [.ref 139, .null, .null] (q.1.toList ++ []) q.2) := by
  refine (ev_aload rfl rfl).trans ?_
  exact ev_invv (as := []) rfl (by decide) am_K_139 rfl (by simp [Value.category])
theorem cl_262 (X : am_X) (I : Nat → Nat → Int32) (J : Nat → Nat → Int64) : am_do X 262 [.ref 139] (am_sh I J) = am_ev X amP_262 0 [.ref 139, .null, .null] [] (am_sh I J) := am_do_of rfl rfl rfl
set_option maxRecDepth 10000 in
theorem sg_262_2 (X : am_X) (I : Nat → Nat → Int32) (J : Nat → Nat → Int64) (w1 : Value) (w2 : Value) (hw1 : w1.category = 1) (hw2 : w2.category = 1) : am_ev X amP_262 2 [.ref 139, w1, w2] [] (am_sh I J) = am_ev X amP_262 6 [.ref 139, .int (0 : Int32), .int (0 : Int32)] [] (am_sh I J) := by
  refine (ev_const0 (v := (0 : Int32)) rfl am_ci_0).trans ?_
  refine (ev_istore (ls' := [.ref 139, .int (0 : Int32), w2]) rfl (Nat.le_of_ble_eq_true rfl) rfl).trans ?_
  refine (ev_const0 (v := (0 : Int32)) rfl am_ci_0).trans ?_
  refine (ev_istore (ls' := [.ref 139, .int (0 : Int32), .int (0 : Int32)]) rfl (Nat.le_of_ble_eq_true rfl) rfl).trans ?_
  rfl
set_option maxRecDepth 10000 in
theorem sg_262_6 (X : am_X) (I : Nat → Nat → Int32) (J : Nat → Nat → Int64) (x1 : Int32) (x2 : Int32) : am_ev X amP_262 6 [.ref 139, .int x1, .int x2] [] (am_sh I J) = (if (I 139 1) ≤ x2 then some (some (.int x1), am_sh I J) else (am_do X 243 [.ref 139, .int x2] (am_sh I J)).bind (fun q => am_ev X amP_262 14 [.ref 139, .int x1, .int x2] (q.1.toList ++ [.int x1]) q.2)) := by
  refine (ev_iload rfl rfl).trans ?_
  refine (ev_aload rfl rfl).trans ?_
  refine (ev_getI rfl (by decide) am_K_139 (by decide) rfl).trans ?_
  refine (ev_icmp3 rfl).trans (am_ite (fun c1 => ?_) (fun c1 => ?_))
  · refine (ev_iload rfl rfl).trans ?_
    exact ev_iret rfl
  · refine (ev_iload rfl rfl).trans ?_
    refine (ev_aload rfl rfl).trans ?_
    refine (ev_iload rfl rfl).trans ?_
    exact ev_invv (as := [.int x2]) rfl (by decide) am_K_139 rfl (by simp [Value.category])
set_option maxRecDepth 10000 in
theorem sg_262_14 (X : am_X) (I : Nat → Nat → Int32) (J : Nat → Nat → Int64) (x1 : Int32) (x2 : Int32) (x3 : Int32) (x4 : Int32) : am_ev X amP_262 14 [.ref 139, .int x1, .int x2] [.int x4, .int x3] (am_sh I J) = (if x4 = 0 then am_ev X amP_262 6 [.ref 139, .int (x3 + (0 : Int32)), .int (x2 + (1 : Int32))] [] (am_sh I J) else (if x2 < 0 ∨ 10 ≤ x2.toNatClampNeg then none else (if ¬ (I 155 x2.toNatClampNeg) = x2 then am_ev X amP_262 6 [.ref 139, .int (x3 + (0 : Int32)), .int (x2 + (1 : Int32))] [] (am_sh I J) else am_ev X amP_262 6 [.ref 139, .int (x3 + (1 : Int32)), .int (x2 + (1 : Int32))] [] (am_sh I J)))) := by
  refine (ev_if0 rfl).trans (am_ite (fun c1 => ?_) (fun c1 => ?_))
  · refine (ev_const0 (v := (0 : Int32)) rfl am_ci_0).trans ?_
    refine (ev_iadd rfl).trans ?_
    refine (ev_istore (ls' := [.ref 139, .int (x3 + (0 : Int32)), .int x2]) rfl (Nat.le_of_ble_eq_true rfl) rfl).trans ?_
    refine (ev_iincv (v := (1 : Int32)) (ls' := [.ref 139, .int (x3 + (0 : Int32)), .int (x2 + (1 : Int32))]) rfl am_ci_1 rfl rfl).trans ?_
    refine (ev_goto rfl).trans ?_
    rfl
  · refine (ev_aload rfl rfl).trans ?_
    refine (ev_getR rfl (by decide) am_K_139 (by decide) rfl am_R_139_30).trans ?_
    refine (ev_iload rfl rfl).trans ?_
    refine (ev_iald rfl (by decide) am_K_155).trans (am_itn (fun g2 => ?_))
    refine (ev_iload rfl rfl).trans ?_
    refine (ev_icmp1 rfl).trans (am_ite (fun c3 => ?_) (fun c3 => ?_))
    · refine (ev_const0 (v := (0 : Int32)) rfl am_ci_0).trans ?_
      refine (ev_iadd rfl).trans ?_
      refine (ev_istore (ls' := [.ref 139, .int (x3 + (0 : Int32)), .int x2]) rfl (Nat.le_of_ble_eq_true rfl) rfl).trans ?_
      refine (ev_iincv (v := (1 : Int32)) (ls' := [.ref 139, .int (x3 + (0 : Int32)), .int (x2 + (1 : Int32))]) rfl am_ci_1 rfl rfl).trans ?_
      refine (ev_goto rfl).trans ?_
      rfl
    · refine (ev_const0 (v := (1 : Int32)) rfl am_ci_1).trans ?_
      refine (ev_goto rfl).trans ?_
      refine (ev_iadd rfl).trans ?_
      refine (ev_istore (ls' := [.ref 139, .int (x3 + (1 : Int32)), .int x2]) rfl (Nat.le_of_ble_eq_true rfl) rfl).trans ?_
      refine (ev_iincv (v := (1 : Int32)) (ls' := [.ref 139, .int (x3 + (1 : Int32)), .int (x2 + (1 : Int32))]) rfl am_ci_1 rfl rfl).trans ?_
      refine (ev_goto rfl).trans ?_
      rfl
-- 263 X12_has
set_option maxRecDepth 10000 in
theorem sg_263_e0 (X : am_X) (I : Nat → Nat → Int32) (J : Nat → Nat → Int64) (x1 : Int32) : am_ev X amP_263 0 [.ref 139, .int x1] [] (am_sh I J) = (if ¬ x1 = (7 : Int32) then (if ¬ (I 139 0) = 0 then (if x1 = (0 : Int32) then some (some (.int (I 139 1)), am_sh I J) else (if x1 = (1 : Int32) then (am_do X 259 [.ref 139] (am_sh I J)).bind (fun q => am_ev X amP_263 25 [.ref 139, .int x1] (q.1.toList ++ []) q.2) else (if x1 = (2 : Int32) then some (some (.int (I 148 0)), am_sh I J) else (if x1 = (3 : Int32) then some (some (.int (I 148 1)), am_sh I J) else (if x1 = (4 : Int32) then (am_do X 260 [.ref 139] (am_sh I J)).bind (fun q => am_ev X amP_263 38 [.ref 139, .int x1] (q.1.toList ++ []) q.2) else (if x1 = (5 : Int32) then some (some (.int (I 139 36)), am_sh I J) else (if x1 = (6 : Int32) then some (some (.int (I 139 24)), am_sh I J) else (if x1 = (7 : Int32) then some (some (.int (-1 : Int32)), am_sh I J) else (if x1 = (8 : Int32) then (am_do X 261 [.ref 139, .int (1 : Int32)] (am_sh I J)).bind (fun q => am_ev X amP_263 48 [.ref 139, .int x1] (q.1.toList ++ []) q.2) else (if x1 = (9 : Int32) then (am_do X 261 [.ref 139, .int (2 : Int32)] (am_sh I J)).bind (fun q => am_ev X amP_263 52 [.ref 139, .int x1] (q.1.toList ++ []) q.2) else (if x1 = (10 : Int32) then (am_do X 261 [.ref 139, .int (3 : Int32)] (am_sh I J)).bind (fun q => am_ev X amP_263 56 [.ref 139, .int x1] (q.1.toList ++ []) q.2) else (if x1 = (11 : Int32) then (am_do X 261 [.ref 139, .int (0 : Int32)] (am_sh I J)).bind (fun q => am_ev X amP_263 60 [.ref 139, .int x1] (q.1.toList ++ []) q.2) else (if x1 = (12 : Int32) then some (some (.int (I 148 2)), am_sh I J) else (if x1 = (13 : Int32) then some (some (.int (I 139 2)), am_sh I J) else (if x1 = (14 : Int32) then (am_do X 262 [.ref 139] (am_sh I J)).bind (fun q => am_ev X amP_263 71 [.ref 139, .int x1] (q.1.toList ++ []) q.2) else some (some (.int (-1 : Int32)), am_sh I J)))))))))))))))) else (am_do X 214 [.int x1, .int (0 : Int32), .int (14 : Int32)] (am_sh I J)).bind (fun q => am_ev X amP_263 13 [.ref 139, .int x1] (q.1.toList ++ []) q.2)) else some (some (.int (I 139 41)), am_sh I J)) := by
  refine (ev_iload rfl rfl).trans ?_
  refine (ev_const1 (v := (7 : Int32)) rfl am_ci_7).trans ?_
  refine (ev_icmp1 rfl).trans (am_ite (fun c1 => ?_) (fun c1 => ?_))
  · refine (ev_aload rfl rfl).trans ?_
    refine (ev_getI rfl (by decide) am_K_139 (by decide) rfl).trans ?_
    refine (ev_if1 rfl).trans (am_ite (fun c2 => ?_) (fun c2 => ?_))
    · refine (ev_iload rfl rfl).trans ?_
      refine (am_dec (x1 = (0 : Int32))).trans (am_ite (fun s3_0 => ?_) (fun s3_0 => ?_))
      · refine (ev_tswIn (k := 0) rfl (by rw [s3_0]; decide) rfl).trans ?_
        refine (ev_aload rfl rfl).trans ?_
        refine (ev_getI rfl (by decide) am_K_139 (by decide) rfl).trans ?_
        exact ev_iret rfl
      refine (am_dec (x1 = (1 : Int32))).trans (am_ite (fun s3_1 => ?_) (fun s3_1 => ?_))
      · refine (ev_tswIn (k := 1) rfl (by rw [s3_1]; decide) rfl).trans ?_
        refine (ev_aload rfl rfl).trans ?_
        exact ev_invv (as := []) rfl (by decide) am_K_139 rfl (by simp [Value.category])
      refine (am_dec (x1 = (2 : Int32))).trans (am_ite (fun s3_2 => ?_) (fun s3_2 => ?_))
      · refine (ev_tswIn (k := 2) rfl (by rw [s3_2]; decide) rfl).trans ?_
        refine (ev_aload rfl rfl).trans ?_
        refine (ev_getR rfl (by decide) am_K_139 (by decide) rfl am_R_139_22).trans ?_
        refine (ev_const0 (v := (0 : Int32)) rfl am_ci_0).trans ?_
        refine (ev_ialdC (jn := 0) rfl (by decide) am_K_148 (by decide) (by decide)).trans ?_
        exact ev_iret rfl
      refine (am_dec (x1 = (3 : Int32))).trans (am_ite (fun s3_3 => ?_) (fun s3_3 => ?_))
      · refine (ev_tswIn (k := 3) rfl (by rw [s3_3]; decide) rfl).trans ?_
        refine (ev_aload rfl rfl).trans ?_
        refine (ev_getR rfl (by decide) am_K_139 (by decide) rfl am_R_139_22).trans ?_
        refine (ev_const0 (v := (1 : Int32)) rfl am_ci_1).trans ?_
        refine (ev_ialdC (jn := 1) rfl (by decide) am_K_148 (by decide) (by decide)).trans ?_
        exact ev_iret rfl
      refine (am_dec (x1 = (4 : Int32))).trans (am_ite (fun s3_4 => ?_) (fun s3_4 => ?_))
      · refine (ev_tswIn (k := 4) rfl (by rw [s3_4]; decide) rfl).trans ?_
        refine (ev_aload rfl rfl).trans ?_
        exact ev_invv (as := []) rfl (by decide) am_K_139 rfl (by simp [Value.category])
      refine (am_dec (x1 = (5 : Int32))).trans (am_ite (fun s3_5 => ?_) (fun s3_5 => ?_))
      · refine (ev_tswIn (k := 5) rfl (by rw [s3_5]; decide) rfl).trans ?_
        refine (ev_aload rfl rfl).trans ?_
        refine (ev_getI rfl (by decide) am_K_139 (by decide) rfl).trans ?_
        exact ev_iret rfl
      refine (am_dec (x1 = (6 : Int32))).trans (am_ite (fun s3_6 => ?_) (fun s3_6 => ?_))
      · refine (ev_tswIn (k := 6) rfl (by rw [s3_6]; decide) rfl).trans ?_
        refine (ev_aload rfl rfl).trans ?_
        refine (ev_getI rfl (by decide) am_K_139 (by decide) rfl).trans ?_
        exact ev_iret rfl
      refine (am_dec (x1 = (7 : Int32))).trans (am_ite (fun s3_7 => ?_) (fun s3_7 => ?_))
      · refine (ev_tswIn (k := 7) rfl (by rw [s3_7]; decide) rfl).trans ?_
        refine (ev_const0 (v := (-1 : Int32)) rfl am_ci_m1).trans ?_
        exact ev_iret rfl
      refine (am_dec (x1 = (8 : Int32))).trans (am_ite (fun s3_8 => ?_) (fun s3_8 => ?_))
      · refine (ev_tswIn (k := 8) rfl (by rw [s3_8]; decide) rfl).trans ?_
        refine (ev_aload rfl rfl).trans ?_
        refine (ev_const0 (v := (1 : Int32)) rfl am_ci_1).trans ?_
        exact ev_invv (as := [.int (1 : Int32)]) rfl (by decide) am_K_139 rfl (by simp [Value.category])
      refine (am_dec (x1 = (9 : Int32))).trans (am_ite (fun s3_9 => ?_) (fun s3_9 => ?_))
      · refine (ev_tswIn (k := 9) rfl (by rw [s3_9]; decide) rfl).trans ?_
        refine (ev_aload rfl rfl).trans ?_
        refine (ev_const0 (v := (2 : Int32)) rfl am_ci_2).trans ?_
        exact ev_invv (as := [.int (2 : Int32)]) rfl (by decide) am_K_139 rfl (by simp [Value.category])
      refine (am_dec (x1 = (10 : Int32))).trans (am_ite (fun s3_10 => ?_) (fun s3_10 => ?_))
      · refine (ev_tswIn (k := 10) rfl (by rw [s3_10]; decide) rfl).trans ?_
        refine (ev_aload rfl rfl).trans ?_
        refine (ev_const0 (v := (3 : Int32)) rfl am_ci_3).trans ?_
        exact ev_invv (as := [.int (3 : Int32)]) rfl (by decide) am_K_139 rfl (by simp [Value.category])
      refine (am_dec (x1 = (11 : Int32))).trans (am_ite (fun s3_11 => ?_) (fun s3_11 => ?_))
      · refine (ev_tswIn (k := 11) rfl (by rw [s3_11]; decide) rfl).trans ?_
        refine (ev_aload rfl rfl).trans ?_
        refine (ev_const0 (v := (0 : Int32)) rfl am_ci_0).trans ?_
        exact ev_invv (as := [.int (0 : Int32)]) rfl (by decide) am_K_139 rfl (by simp [Value.category])
      refine (am_dec (x1 = (12 : Int32))).trans (am_ite (fun s3_12 => ?_) (fun s3_12 => ?_))
      · refine (ev_tswIn (k := 12) rfl (by rw [s3_12]; decide) rfl).trans ?_
        refine (ev_aload rfl rfl).trans ?_
        refine (ev_getR rfl (by decide) am_K_139 (by decide) rfl am_R_139_22).trans ?_
        refine (ev_const0 (v := (2 : Int32)) rfl am_ci_2).trans ?_
        refine (ev_ialdC (jn := 2) rfl (by decide) am_K_148 (by decide) (by decide)).trans ?_
        exact ev_iret rfl
      refine (am_dec (x1 = (13 : Int32))).trans (am_ite (fun s3_13 => ?_) (fun s3_13 => ?_))
      · refine (ev_tswIn (k := 13) rfl (by rw [s3_13]; decide) rfl).trans ?_
        refine (ev_aload rfl rfl).trans ?_
        refine (ev_getI rfl (by decide) am_K_139 (by decide) rfl).trans ?_
        exact ev_iret rfl
      refine (am_dec (x1 = (14 : Int32))).trans (am_ite (fun s3_14 => ?_) (fun s3_14 => ?_))
      · refine (ev_tswIn (k := 14) rfl (by rw [s3_14]; decide) rfl).trans ?_
        refine (ev_aload rfl rfl).trans ?_
        exact ev_invv (as := []) rfl (by decide) am_K_139 rfl (by simp [Value.category])
      refine (ev_tswOut rfl (by have q0 := am_neT s3_0 (n := 0) (by decide); have q1 := am_neT s3_1 (n := 1) (by decide); have q2 := am_neT s3_2 (n := 2) (by decide); have q3 := am_neT s3_3 (n := 3) (by decide); have q4 := am_neT s3_4 (n := 4) (by decide); have q5 := am_neT s3_5 (n := 5) (by decide); have q6 := am_neT s3_6 (n := 6) (by decide); have q7 := am_neT s3_7 (n := 7) (by decide); have q8 := am_neT s3_8 (n := 8) (by decide); have q9 := am_neT s3_9 (n := 9) (by decide); have q10 := am_neT s3_10 (n := 10) (by decide); have q11 := am_neT s3_11 (n := 11) (by decide); have q12 := am_neT s3_12 (n := 12) (by decide); have q13 := am_neT s3_13 (n := 13) (by decide); have q14 := am_neT s3_14 (n := 14) (by decide); simp only [List.length_cons, List.length_nil]; omega)).trans ?_
      refine (ev_const0 (v := (-1 : Int32)) rfl am_ci_m1).trans ?_
      exact ev_iret rfl
    · refine (ev_iload rfl rfl).trans ?_
      refine (ev_const0 (v := (0 : Int32)) rfl am_ci_0).trans ?_
      refine (ev_const1 (v := (14 : Int32)) rfl am_ci_14).trans ?_
      exact ev_invs (as := [.int (14 : Int32), .int (0 : Int32), .int x1]) rfl rfl (by simp [Value.category])
  · refine (ev_aload rfl rfl).trans ?_
    refine (ev_getI rfl (by decide) am_K_139 (by decide) rfl).trans ?_
    exact ev_iret rfl
theorem cl_263 (X : am_X) (I : Nat → Nat → Int32) (J : Nat → Nat → Int64) (x1 : Int32) : am_do X 263 [.ref 139, .int x1] (am_sh I J) = am_ev X amP_263 0 [.ref 139, .int x1] [] (am_sh I J) := am_do_of rfl rfl rfl
set_option maxRecDepth 10000 in
theorem sg_263_13 (X : am_X) (I : Nat → Nat → Int32) (J : Nat → Nat → Int64) (x1 : Int32) (x2 : Int32) : am_ev X amP_263 13 [.ref 139, .int x1] [.int x2] (am_sh I J) = (if x2 = 0 then am_ev X amP_263 17 [.ref 139, .int x1] [.int (-1 : Int32)] (am_sh I J) else am_ev X amP_263 17 [.ref 139, .int x1] [.int (0 : Int32)] (am_sh I J)) := by
  refine (ev_if0 rfl).trans (am_ite (fun c1 => ?_) (fun c1 => ?_))
  · refine (ev_const0 (v := (-1 : Int32)) rfl am_ci_m1).trans ?_
    rfl
  · refine (ev_const0 (v := (0 : Int32)) rfl am_ci_0).trans ?_
    refine (ev_goto rfl).trans ?_
    rfl
set_option maxRecDepth 10000 in
theorem sg_263_17 (X : am_X) (I : Nat → Nat → Int32) (J : Nat → Nat → Int64) (x1 : Int32) (x2 : Int32) : am_ev X amP_263 17 [.ref 139, .int x1] [.int x2] (am_sh I J) = some (some (.int x2), am_sh I J) := by
  exact ev_iret rfl
set_option maxRecDepth 10000 in
theorem sg_263_25 (X : am_X) (I : Nat → Nat → Int32) (J : Nat → Nat → Int64) (x1 : Int32) (x2 : Int32) : am_ev X amP_263 25 [.ref 139, .int x1] [.int x2] (am_sh I J) = some (some (.int x2), am_sh I J) := by
  exact ev_iret rfl
set_option maxRecDepth 10000 in
theorem sg_263_38 (X : am_X) (I : Nat → Nat → Int32) (J : Nat → Nat → Int64) (x1 : Int32) (x2 : Int32) : am_ev X amP_263 38 [.ref 139, .int x1] [.int x2] (am_sh I J) = some (some (.int x2), am_sh I J) := by
  exact ev_iret rfl
set_option maxRecDepth 10000 in
theorem sg_263_48 (X : am_X) (I : Nat → Nat → Int32) (J : Nat → Nat → Int64) (x1 : Int32) (x2 : Int32) : am_ev X amP_263 48 [.ref 139, .int x1] [.int x2] (am_sh I J) = some (some (.int x2), am_sh I J) := by
  exact ev_iret rfl
set_option maxRecDepth 10000 in
theorem sg_263_52 (X : am_X) (I : Nat → Nat → Int32) (J : Nat → Nat → Int64) (x1 : Int32) (x2 : Int32) : am_ev X amP_263 52 [.ref 139, .int x1] [.int x2] (am_sh I J) = some (some (.int x2), am_sh I J) := by
  exact ev_iret rfl
set_option maxRecDepth 10000 in
theorem sg_263_56 (X : am_X) (I : Nat → Nat → Int32) (J : Nat → Nat → Int64) (x1 : Int32) (x2 : Int32) : am_ev X amP_263 56 [.ref 139, .int x1] [.int x2] (am_sh I J) = some (some (.int x2), am_sh I J) := by
  exact ev_iret rfl
set_option maxRecDepth 10000 in
theorem sg_263_60 (X : am_X) (I : Nat → Nat → Int32) (J : Nat → Nat → Int64) (x1 : Int32) (x2 : Int32) : am_ev X amP_263 60 [.ref 139, .int x1] [.int x2] (am_sh I J) = some (some (.int x2), am_sh I J) := by
  exact ev_iret rfl
set_option maxRecDepth 10000 in
theorem sg_263_71 (X : am_X) (I : Nat → Nat → Int32) (J : Nat → Nat → Int64) (x1 : Int32) (x2 : Int32) : am_ev X amP_263 71 [.ref 139, .int x1] [.int x2] (am_sh I J) = some (some (.int x2), am_sh I J) := by
  exact ev_iret rfl
-- 264 X12_letter
set_option maxRecDepth 10000 in
theorem sg_264_e0 (X : am_X) (I : Nat → Nat → Int32) (J : Nat → Nat → Int64) (x1 : Int32) (x2 : Int32) : am_ev X amP_264 0 [.ref 139, .int x1, .int x2] [] (am_sh I J) = (am_do X 256 [.ref 139, .int x1] (am_sh I J)).bind (fun q => am_ev X amP_264 3 [.ref 139, .int x1, .int x2] (q.1.toList ++ []) q.2) := by
  refine (ev_aload rfl rfl).trans ?_
  refine (ev_iload rfl rfl).trans ?_
  exact ev_invv (as := [.int x1]) rfl (by decide) am_K_139 rfl (by simp [Value.category])
theorem cl_264 (X : am_X) (I : Nat → Nat → Int32) (J : Nat → Nat → Int64) (x1 : Int32) (x2 : Int32) : am_do X 264 [.ref 139, .int x1, .int x2] (am_sh I J) = am_ev X amP_264 0 [.ref 139, .int x1, .int x2] [] (am_sh I J) := am_do_of rfl rfl rfl
set_option maxRecDepth 10000 in
theorem sg_264_3 (X : am_X) (I : Nat → Nat → Int32) (J : Nat → Nat → Int64) (x1 : Int32) (x2 : Int32) (x3 : Int32) : am_ev X amP_264 3 [.ref 139, .int x1, .int x2] [.int x3] (am_sh I J) = (if x3 = 0 then some (some (.int (-1 : Int32)), am_sh I J) else (am_do X 214 [.int x2, .int (0 : Int32), .int (5 : Int32)] (am_sh I J)).bind (fun q => am_ev X amP_264 8 [.ref 139, .int x1, .int x2] (q.1.toList ++ []) q.2)) := by
  refine (ev_if0 rfl).trans (am_ite (fun c1 => ?_) (fun c1 => ?_))
  · refine (ev_const0 (v := (-1 : Int32)) rfl am_ci_m1).trans ?_
    exact ev_iret rfl
  · refine (ev_iload rfl rfl).trans ?_
    refine (ev_const0 (v := (0 : Int32)) rfl am_ci_0).trans ?_
    refine (ev_const0 (v := (5 : Int32)) rfl am_ci_5).trans ?_
    exact ev_invs (as := [.int (5 : Int32), .int (0 : Int32), .int x2]) rfl rfl (by simp [Value.category])
set_option maxRecDepth 10000 in
theorem sg_264_8 (X : am_X) (I : Nat → Nat → Int32) (J : Nat → Nat → Int64) (x1 : Int32) (x2 : Int32) (x3 : Int32) : am_ev X amP_264 8 [.ref 139, .int x1, .int x2] [.int x3] (am_sh I J) = (if x3 = 0 then some (some (.int (-1 : Int32)), am_sh I J) else (if (((6 : Int32) * x1) + x2) < 0 ∨ 60 ≤ (((6 : Int32) * x1) + x2).toNatClampNeg then none else some (some (.int (I 142 (((6 : Int32) * x1) + x2).toNatClampNeg)), am_sh I J))) := by
  refine (ev_if0 rfl).trans (am_ite (fun c1 => ?_) (fun c1 => ?_))
  · refine (ev_const0 (v := (-1 : Int32)) rfl am_ci_m1).trans ?_
    exact ev_iret rfl
  · refine (ev_aload rfl rfl).trans ?_
    refine (ev_getR rfl (by decide) am_K_139 (by decide) rfl am_R_139_5).trans ?_
    refine (ev_const1 (v := (6 : Int32)) rfl am_ci_6).trans ?_
    refine (ev_iload rfl rfl).trans ?_
    refine (ev_imul rfl).trans ?_
    refine (ev_iload rfl rfl).trans ?_
    refine (ev_iadd rfl).trans ?_
    refine (ev_iald rfl (by decide) am_K_142).trans (am_itn (fun g2 => ?_))
    refine (ev_goto rfl).trans ?_
    exact ev_iret rfl
-- 265 X12_named
set_option maxRecDepth 10000 in
theorem sg_265_e0 (X : am_X) (I : Nat → Nat → Int32) (J : Nat → Nat → Int64) : am_ev X amP_265 0 [.ref 139, .null] [] (am_sh I J) = (am_do X 223 [.ref 139] (am_sh I J)).bind (fun q => am_ev X amP_265 3 [.ref 139, .null] (q.1.toList ++ [.ref 139]) q.2) := by
  refine (ev_aload rfl rfl).trans ?_
  refine (ev_aload rfl rfl).trans ?_
  exact ev_invv (as := []) rfl (by decide) am_K_139 rfl (by simp [Value.category])
theorem cl_265 (X : am_X) (I : Nat → Nat → Int32) (J : Nat → Nat → Int64) : am_do X 265 [.ref 139] (am_sh I J) = am_ev X amP_265 0 [.ref 139, .null] [] (am_sh I J) := am_do_of rfl rfl rfl
set_option maxRecDepth 10000 in
theorem sg_265_3 (X : am_X) (I : Nat → Nat → Int32) (J : Nat → Nat → Int64) (w1 : Value) (x2 : Int32) (hw1 : w1.category = 1) : am_ev X amP_265 3 [.ref 139, w1] [.int x2, .ref 139] (am_sh I J) = (am_do X 214 [.int ((am_up (am_up (am_up I 139 16 x2) 139 18 (0 : Int32)) 139 17 ((am_up (am_up I 139 16 x2) 139 18 (0 : Int32)) 139 16)) 139 16), .int (1 : Int32), .int (6 : Int32)] (am_sh (am_up (am_up (am_up I 139 16 x2) 139 18 (0 : Int32)) 139 17 ((am_up (am_up I 139 16 x2) 139 18 (0 : Int32)) 139 16)) J)).bind (fun q => am_ev X amP_265 16 [.ref 139, w1] (q.1.toList ++ []) q.2) := by
  refine (ev_putI rfl (by decide) am_K_139 (by decide) rfl).trans ?_
  refine (ev_aload rfl rfl).trans ?_
  refine (ev_const0 (v := (0 : Int32)) rfl am_ci_0).trans ?_
  refine (ev_putI rfl (by decide) am_K_139 (by decide) rfl).trans ?_
  refine (ev_aload rfl rfl).trans ?_
  refine (ev_aload rfl rfl).trans ?_
  refine (ev_getI rfl (by decide) am_K_139 (by decide) rfl).trans ?_
  refine (ev_putI rfl (by decide) am_K_139 (by decide) rfl).trans ?_
  refine (ev_aload rfl rfl).trans ?_
  refine (ev_getI rfl (by decide) am_K_139 (by decide) rfl).trans ?_
  refine (ev_const0 (v := (1 : Int32)) rfl am_ci_1).trans ?_
  refine (ev_const1 (v := (6 : Int32)) rfl am_ci_6).trans ?_
  exact ev_invs (as := [.int (6 : Int32), .int (1 : Int32), .int ((am_up (am_up (am_up I 139 16 x2) 139 18 (0 : Int32)) 139 17 ((am_up (am_up I 139 16 x2) 139 18 (0 : Int32)) 139 16)) 139 16)]) rfl rfl (by simp [Value.category])
set_option maxRecDepth 10000 in
theorem sg_265_16 (X : am_X) (I : Nat → Nat → Int32) (J : Nat → Nat → Int64) (w1 : Value) (x2 : Int32) (hw1 : w1.category = 1) : am_ev X amP_265 16 [.ref 139, w1] [.int x2] (am_sh I J) = (if ¬ x2 = 0 then am_ev X amP_265 21 [.ref 139, .int (0 : Int32)] [] (am_sh I J) else some (some (.int (-1 : Int32)), am_sh I J)) := by
  refine (ev_if1 rfl).trans (am_ite (fun c1 => ?_) (fun c1 => ?_))
  · refine (ev_const0 (v := (0 : Int32)) rfl am_ci_0).trans ?_
    refine (ev_istore (ls' := [.ref 139, .int (0 : Int32)]) rfl (Nat.le_of_ble_eq_true rfl) rfl).trans ?_
    rfl
  · refine (ev_const0 (v := (-1 : Int32)) rfl am_ci_m1).trans ?_
    exact ev_iret rfl
set_option maxRecDepth 10000 in
theorem sg_265_21 (X : am_X) (I : Nat → Nat → Int32) (J : Nat → Nat → Int64) (x1 : Int32) : am_ev X amP_265 21 [.ref 139, .int x1] [] (am_sh I J) = (if (I 139 16) ≤ x1 then am_ev X amP_265 35 [.ref 139, .int (0 : Int32)] [] (am_sh I J) else (am_do X 225 [.ref 139, .int x1] (am_sh I J)).bind (fun q => am_ev X amP_265 28 [.ref 139, .int x1] (q.1.toList ++ []) q.2)) := by
  refine (ev_iload rfl rfl).trans ?_
  refine (ev_aload rfl rfl).trans ?_
  refine (ev_getI rfl (by decide) am_K_139 (by decide) rfl).trans ?_
  refine (ev_icmp3 rfl).trans (am_ite (fun c1 => ?_) (fun c1 => ?_))
  · refine (ev_const0 (v := (0 : Int32)) rfl am_ci_0).trans ?_
    refine (ev_istore (ls' := [.ref 139, .int (0 : Int32)]) rfl (Nat.le_of_ble_eq_true rfl) rfl).trans ?_
    rfl
  · refine (ev_aload rfl rfl).trans ?_
    refine (ev_iload rfl rfl).trans ?_
    exact ev_invv (as := [.int x1]) rfl (by decide) am_K_139 rfl (by simp [Value.category])
set_option maxRecDepth 10000 in
theorem sg_265_28 (X : am_X) (I : Nat → Nat → Int32) (J : Nat → Nat → Int64) (x1 : Int32) (x2 : Int32) : am_ev X amP_265 28 [.ref 139, .int x1] [.int x2] (am_sh I J) = (if ¬ x2 = 0 then am_ev X amP_265 21 [.ref 139, .int (x1 + (1 : Int32))] [] (am_sh I J) else some (some (.int (-1 : Int32)), am_sh I J)) := by
  refine (ev_if1 rfl).trans (am_ite (fun c1 => ?_) (fun c1 => ?_))
  · refine (ev_iincv (v := (1 : Int32)) (ls' := [.ref 139, .int (x1 + (1 : Int32))]) rfl am_ci_1 rfl rfl).trans ?_
    refine (ev_goto rfl).trans ?_
    rfl
  · refine (ev_const0 (v := (-1 : Int32)) rfl am_ci_m1).trans ?_
    exact ev_iret rfl
set_option maxRecDepth 10000 in
theorem sg_265_35 (X : am_X) (I : Nat → Nat → Int32) (J : Nat → Nat → Int64) (x1 : Int32) : am_ev X amP_265 35 [.ref 139, .int x1] [] (am_sh I J) = (if (I 139 1) ≤ x1 then some (some (.int (-1 : Int32)), am_sh I J) else (am_do X 235 [.ref 139, .int x1, .int (1 : Int32)] (am_sh I J)).bind (fun q => am_ev X amP_265 43 [.ref 139, .int x1] (q.1.toList ++ []) q.2)) := by
  refine (ev_iload rfl rfl).trans ?_
  refine (ev_aload rfl rfl).trans ?_
  refine (ev_getI rfl (by decide) am_K_139 (by decide) rfl).trans ?_
  refine (ev_icmp3 rfl).trans (am_ite (fun c1 => ?_) (fun c1 => ?_))
  · refine (ev_const0 (v := (-1 : Int32)) rfl am_ci_m1).trans ?_
    exact ev_iret rfl
  · refine (ev_aload rfl rfl).trans ?_
    refine (ev_iload rfl rfl).trans ?_
    refine (ev_const0 (v := (1 : Int32)) rfl am_ci_1).trans ?_
    exact ev_invv (as := [.int (1 : Int32), .int x1]) rfl (by decide) am_K_139 rfl (by simp [Value.category])
set_option maxRecDepth 10000 in
theorem sg_265_43 (X : am_X) (I : Nat → Nat → Int32) (J : Nat → Nat → Int64) (x1 : Int32) (x2 : Int32) : am_ev X amP_265 43 [.ref 139, .int x1] [.int x2] (am_sh I J) = (if x2 = 0 then am_ev X amP_265 35 [.ref 139, .int (x1 + (1 : Int32))] [] (am_sh I J) else some (some (.int x1), am_sh I J)) := by
  refine (ev_if0 rfl).trans (am_ite (fun c1 => ?_) (fun c1 => ?_))
  · refine (ev_iincv (v := (1 : Int32)) (ls' := [.ref 139, .int (x1 + (1 : Int32))]) rfl am_ci_1 rfl rfl).trans ?_
    refine (ev_goto rfl).trans ?_
    rfl
  · refine (ev_iload rfl rfl).trans ?_
    exact ev_iret rfl
-- 266 X12_body
set_option maxRecDepth 10000 in
theorem sg_266_e0 (X : am_X) (I : Nat → Nat → Int32) (J : Nat → Nat → Int64) (x1 : Int32) (x2 : Int32) : am_ev X amP_266 0 [.ref 139, .int x1, .int x2] [] (am_sh I J) = (am_do X 256 [.ref 139, .int x1] (am_sh I J)).bind (fun q => am_ev X amP_266 3 [.ref 139, .int x1, .int x2] (q.1.toList ++ []) q.2) := by
  refine (ev_aload rfl rfl).trans ?_
  refine (ev_iload rfl rfl).trans ?_
  exact ev_invv (as := [.int x1]) rfl (by decide) am_K_139 rfl (by simp [Value.category])
theorem cl_266 (X : am_X) (I : Nat → Nat → Int32) (J : Nat → Nat → Int64) (x1 : Int32) (x2 : Int32) : am_do X 266 [.ref 139, .int x1, .int x2] (am_sh I J) = am_ev X amP_266 0 [.ref 139, .int x1, .int x2] [] (am_sh I J) := am_do_of rfl rfl rfl
set_option maxRecDepth 10000 in
theorem sg_266_3 (X : am_X) (I : Nat → Nat → Int32) (J : Nat → Nat → Int64) (x1 : Int32) (x2 : Int32) (x3 : Int32) : am_ev X amP_266 3 [.ref 139, .int x1, .int x2] [.int x3] (am_sh I J) = (if ¬ x3 = 0 then (if x2 = (0 : Int32) then (am_do X 241 [.ref 139, .int x1, .int (0 : Int32)] (am_sh I J)).bind (fun q => am_ev X amP_266 12 [.ref 139, .int x1, .int x2] (q.1.toList ++ []) q.2) else (if x2 = (1 : Int32) then (am_do X 241 [.ref 139, .int x1, .int (1 : Int32)] (am_sh I J)).bind (fun q => am_ev X amP_266 17 [.ref 139, .int x1, .int x2] (q.1.toList ++ []) q.2) else (if x2 = (2 : Int32) then (if x1 < 0 ∨ 10 ≤ x1.toNatClampNeg then none else some (some (.int (I 140 x1.toNatClampNeg)), am_sh I J)) else (if x2 = (3 : Int32) then (am_do X 241 [.ref 139, .int x1, .int (2 : Int32)] (am_sh I J)).bind (fun q => am_ev X amP_266 27 [.ref 139, .int x1, .int x2] (q.1.toList ++ []) q.2) else (if x2 = (4 : Int32) then (am_do X 241 [.ref 139, .int x1, .int (3 : Int32)] (am_sh I J)).bind (fun q => am_ev X amP_266 32 [.ref 139, .int x1, .int x2] (q.1.toList ++ []) q.2) else (if x2 = (5 : Int32) then (am_do X 241 [.ref 139, .int x1, .int (4 : Int32)] (am_sh I J)).bind (fun q => am_ev X amP_266 37 [.ref 139, .int x1, .int x2] (q.1.toList ++ []) q.2) else (if x2 = (6 : Int32) then (if x1 < 0 ∨ 10 ≤ x1.toNatClampNeg then none else some (some (.int (I 141 x1.toNatClampNeg)), am_sh I J)) else (if x2 = (7 : Int32) then (am_do X 241 [.ref 139, .int x1, .int (5 : Int32)] (am_sh I J)).bind (fun q => am_ev X amP_266 47 [.ref 139, .int x1, .int x2] (q.1.toList ++ []) q.2) else (if x2 = (8 : Int32) then (am_do X 241 [.ref 139, .int x1, .int (6 : Int32)] (am_sh I J)).bind (fun q => am_ev X amP_266 52 [.ref 139, .int x1, .int x2] (q.1.toList ++ []) q.2) else some (some (.int (-1 : Int32)), am_sh I J)))))))))) else some (some (.int (-1 : Int32)), am_sh I J)) := by
  refine (ev_if1 rfl).trans (am_ite (fun c1 => ?_) (fun c1 => ?_))
  · refine (ev_iload rfl rfl).trans ?_
    refine (am_dec (x2 = (0 : Int32))).trans (am_ite (fun s2_0 => ?_) (fun s2_0 => ?_))
    · refine (ev_tswIn (k := 0) rfl (by rw [s2_0]; decide) rfl).trans ?_
      refine (ev_aload rfl rfl).trans ?_
      refine (ev_iload rfl rfl).trans ?_
      refine (ev_const0 (v := (0 : Int32)) rfl am_ci_0).trans ?_
      exact ev_invv (as := [.int (0 : Int32), .int x1]) rfl (by decide) am_K_139 rfl (by simp [Value.category])
    refine (am_dec (x2 = (1 : Int32))).trans (am_ite (fun s2_1 => ?_) (fun s2_1 => ?_))
    · refine (ev_tswIn (k := 1) rfl (by rw [s2_1]; decide) rfl).trans ?_
      refine (ev_aload rfl rfl).trans ?_
      refine (ev_iload rfl rfl).trans ?_
      refine (ev_const0 (v := (1 : Int32)) rfl am_ci_1).trans ?_
      exact ev_invv (as := [.int (1 : Int32), .int x1]) rfl (by decide) am_K_139 rfl (by simp [Value.category])
    refine (am_dec (x2 = (2 : Int32))).trans (am_ite (fun s2_2 => ?_) (fun s2_2 => ?_))
    · refine (ev_tswIn (k := 2) rfl (by rw [s2_2]; decide) rfl).trans ?_
      refine (ev_aload rfl rfl).trans ?_
      refine (ev_getR rfl (by decide) am_K_139 (by decide) rfl am_R_139_3).trans ?_
      refine (ev_iload rfl rfl).trans ?_
      refine (ev_iald rfl (by decide) am_K_140).trans (am_itn (fun g3 => ?_))
      exact ev_iret rfl
    refine (am_dec (x2 = (3 : Int32))).trans (am_ite (fun s2_3 => ?_) (fun s2_3 => ?_))
    · refine (ev_tswIn (k := 3) rfl (by rw [s2_3]; decide) rfl).trans ?_
      refine (ev_aload rfl rfl).trans ?_
      refine (ev_iload rfl rfl).trans ?_
      refine (ev_const0 (v := (2 : Int32)) rfl am_ci_2).trans ?_
      exact ev_invv (as := [.int (2 : Int32), .int x1]) rfl (by decide) am_K_139 rfl (by simp [Value.category])
    refine (am_dec (x2 = (4 : Int32))).trans (am_ite (fun s2_4 => ?_) (fun s2_4 => ?_))
    · refine (ev_tswIn (k := 4) rfl (by rw [s2_4]; decide) rfl).trans ?_
      refine (ev_aload rfl rfl).trans ?_
      refine (ev_iload rfl rfl).trans ?_
      refine (ev_const0 (v := (3 : Int32)) rfl am_ci_3).trans ?_
      exact ev_invv (as := [.int (3 : Int32), .int x1]) rfl (by decide) am_K_139 rfl (by simp [Value.category])
    refine (am_dec (x2 = (5 : Int32))).trans (am_ite (fun s2_5 => ?_) (fun s2_5 => ?_))
    · refine (ev_tswIn (k := 5) rfl (by rw [s2_5]; decide) rfl).trans ?_
      refine (ev_aload rfl rfl).trans ?_
      refine (ev_iload rfl rfl).trans ?_
      refine (ev_const0 (v := (4 : Int32)) rfl am_ci_4).trans ?_
      exact ev_invv (as := [.int (4 : Int32), .int x1]) rfl (by decide) am_K_139 rfl (by simp [Value.category])
    refine (am_dec (x2 = (6 : Int32))).trans (am_ite (fun s2_6 => ?_) (fun s2_6 => ?_))
    · refine (ev_tswIn (k := 6) rfl (by rw [s2_6]; decide) rfl).trans ?_
      refine (ev_aload rfl rfl).trans ?_
      refine (ev_getR rfl (by decide) am_K_139 (by decide) rfl am_R_139_4).trans ?_
      refine (ev_iload rfl rfl).trans ?_
      refine (ev_iald rfl (by decide) am_K_141).trans (am_itn (fun g3 => ?_))
      exact ev_iret rfl
    refine (am_dec (x2 = (7 : Int32))).trans (am_ite (fun s2_7 => ?_) (fun s2_7 => ?_))
    · refine (ev_tswIn (k := 7) rfl (by rw [s2_7]; decide) rfl).trans ?_
      refine (ev_aload rfl rfl).trans ?_
      refine (ev_iload rfl rfl).trans ?_
      refine (ev_const0 (v := (5 : Int32)) rfl am_ci_5).trans ?_
      exact ev_invv (as := [.int (5 : Int32), .int x1]) rfl (by decide) am_K_139 rfl (by simp [Value.category])
    refine (am_dec (x2 = (8 : Int32))).trans (am_ite (fun s2_8 => ?_) (fun s2_8 => ?_))
    · refine (ev_tswIn (k := 8) rfl (by rw [s2_8]; decide) rfl).trans ?_
      refine (ev_aload rfl rfl).trans ?_
      refine (ev_iload rfl rfl).trans ?_
      refine (ev_const1 (v := (6 : Int32)) rfl am_ci_6).trans ?_
      exact ev_invv (as := [.int (6 : Int32), .int x1]) rfl (by decide) am_K_139 rfl (by simp [Value.category])
    refine (ev_tswOut rfl (by have q0 := am_neT s2_0 (n := 0) (by decide); have q1 := am_neT s2_1 (n := 1) (by decide); have q2 := am_neT s2_2 (n := 2) (by decide); have q3 := am_neT s2_3 (n := 3) (by decide); have q4 := am_neT s2_4 (n := 4) (by decide); have q5 := am_neT s2_5 (n := 5) (by decide); have q6 := am_neT s2_6 (n := 6) (by decide); have q7 := am_neT s2_7 (n := 7) (by decide); have q8 := am_neT s2_8 (n := 8) (by decide); simp only [List.length_cons, List.length_nil]; omega)).trans ?_
    refine (ev_const0 (v := (-1 : Int32)) rfl am_ci_m1).trans ?_
    exact ev_iret rfl
  · refine (ev_const0 (v := (-1 : Int32)) rfl am_ci_m1).trans ?_
    exact ev_iret rfl
set_option maxRecDepth 10000 in
theorem sg_266_12 (X : am_X) (I : Nat → Nat → Int32) (J : Nat → Nat → Int64) (x1 : Int32) (x2 : Int32) (x3 : Int32) : am_ev X amP_266 12 [.ref 139, .int x1, .int x2] [.int x3] (am_sh I J) = some (some (.int x3), am_sh I J) := by
  exact ev_iret rfl
set_option maxRecDepth 10000 in
theorem sg_266_17 (X : am_X) (I : Nat → Nat → Int32) (J : Nat → Nat → Int64) (x1 : Int32) (x2 : Int32) (x3 : Int32) : am_ev X amP_266 17 [.ref 139, .int x1, .int x2] [.int x3] (am_sh I J) = some (some (.int x3), am_sh I J) := by
  exact ev_iret rfl
set_option maxRecDepth 10000 in
theorem sg_266_27 (X : am_X) (I : Nat → Nat → Int32) (J : Nat → Nat → Int64) (x1 : Int32) (x2 : Int32) (x3 : Int32) : am_ev X amP_266 27 [.ref 139, .int x1, .int x2] [.int x3] (am_sh I J) = some (some (.int x3), am_sh I J) := by
  exact ev_iret rfl
set_option maxRecDepth 10000 in
theorem sg_266_32 (X : am_X) (I : Nat → Nat → Int32) (J : Nat → Nat → Int64) (x1 : Int32) (x2 : Int32) (x3 : Int32) : am_ev X amP_266 32 [.ref 139, .int x1, .int x2] [.int x3] (am_sh I J) = some (some (.int x3), am_sh I J) := by
  exact ev_iret rfl
set_option maxRecDepth 10000 in
theorem sg_266_37 (X : am_X) (I : Nat → Nat → Int32) (J : Nat → Nat → Int64) (x1 : Int32) (x2 : Int32) (x3 : Int32) : am_ev X amP_266 37 [.ref 139, .int x1, .int x2] [.int x3] (am_sh I J) = some (some (.int x3), am_sh I J) := by
  exact ev_iret rfl
set_option maxRecDepth 10000 in
theorem sg_266_47 (X : am_X) (I : Nat → Nat → Int32) (J : Nat → Nat → Int64) (x1 : Int32) (x2 : Int32) (x3 : Int32) : am_ev X amP_266 47 [.ref 139, .int x1, .int x2] [.int x3] (am_sh I J) = some (some (.int x3), am_sh I J) := by
  exact ev_iret rfl
set_option maxRecDepth 10000 in
theorem sg_266_52 (X : am_X) (I : Nat → Nat → Int32) (J : Nat → Nat → Int64) (x1 : Int32) (x2 : Int32) (x3 : Int32) : am_ev X amP_266 52 [.ref 139, .int x1, .int x2] [.int x3] (am_sh I J) = some (some (.int x3), am_sh I J) := by
  exact ev_iret rfl
-- 267 X12_spot
set_option maxRecDepth 10000 in
theorem sg_267_e0 (X : am_X) (I : Nat → Nat → Int32) (J : Nat → Nat → Int64) (x1 : Int32) (x2 : Int32) (x3 : Int32) : am_ev X amP_267 0 [.ref 139, .int x1, .int x2, .int x3] [] (am_sh I J) = (am_do X 256 [.ref 139, .int x1] (am_sh I J)).bind (fun q => am_ev X amP_267 3 [.ref 139, .int x1, .int x2, .int x3] (q.1.toList ++ []) q.2) := by
  refine (ev_aload rfl rfl).trans ?_
  refine (ev_iload rfl rfl).trans ?_
  exact ev_invv (as := [.int x1]) rfl (by decide) am_K_139 rfl (by simp [Value.category])
theorem cl_267 (X : am_X) (I : Nat → Nat → Int32) (J : Nat → Nat → Int64) (x1 : Int32) (x2 : Int32) (x3 : Int32) : am_do X 267 [.ref 139, .int x1, .int x2, .int x3] (am_sh I J) = am_ev X amP_267 0 [.ref 139, .int x1, .int x2, .int x3] [] (am_sh I J) := am_do_of rfl rfl rfl
set_option maxRecDepth 10000 in
theorem sg_267_3 (X : am_X) (I : Nat → Nat → Int32) (J : Nat → Nat → Int64) (x1 : Int32) (x2 : Int32) (x3 : Int32) (x4 : Int32) : am_ev X amP_267 3 [.ref 139, .int x1, .int x2, .int x3] [.int x4] (am_sh I J) = (if x4 = 0 then some (some (.int (-1000000 : Int32)), am_sh I J) else (am_do X 258 [.int x2] (am_sh I J)).bind (fun q => am_ev X amP_267 6 [.ref 139, .int x1, .int x2, .int x3] (q.1.toList ++ []) q.2)) := by
  refine (ev_if0 rfl).trans (am_ite (fun c1 => ?_) (fun c1 => ?_))
  · refine (ev_const4 (v := (-1000000 : Int32)) rfl am_ci_m1000000).trans ?_
    exact ev_iret rfl
  · refine (ev_iload rfl rfl).trans ?_
    exact ev_invs (as := [.int x2]) rfl rfl (by simp [Value.category])
set_option maxRecDepth 10000 in
theorem sg_267_6 (X : am_X) (I : Nat → Nat → Int32) (J : Nat → Nat → Int64) (x1 : Int32) (x2 : Int32) (x3 : Int32) (x4 : Int32) : am_ev X amP_267 6 [.ref 139, .int x1, .int x2, .int x3] [.int x4] (am_sh I J) = (if x4 = 0 then some (some (.int (-1000000 : Int32)), am_sh I J) else (am_do X 214 [.int x3, .int (0 : Int32), .int (3 : Int32)] (am_sh I J)).bind (fun q => am_ev X amP_267 11 [.ref 139, .int x1, .int x2, .int x3] (q.1.toList ++ []) q.2)) := by
  refine (ev_if0 rfl).trans (am_ite (fun c1 => ?_) (fun c1 => ?_))
  · refine (ev_const4 (v := (-1000000 : Int32)) rfl am_ci_m1000000).trans ?_
    exact ev_iret rfl
  · refine (ev_iload rfl rfl).trans ?_
    refine (ev_const0 (v := (0 : Int32)) rfl am_ci_0).trans ?_
    refine (ev_const0 (v := (3 : Int32)) rfl am_ci_3).trans ?_
    exact ev_invs (as := [.int (3 : Int32), .int (0 : Int32), .int x3]) rfl rfl (by simp [Value.category])
set_option maxRecDepth 10000 in
theorem sg_267_11 (X : am_X) (I : Nat → Nat → Int32) (J : Nat → Nat → Int64) (x1 : Int32) (x2 : Int32) (x3 : Int32) (x4 : Int32) : am_ev X amP_267 11 [.ref 139, .int x1, .int x2, .int x3] [.int x4] (am_sh I J) = (if x4 = 0 then some (some (.int (-1000000 : Int32)), am_sh I J) else (am_do X 249 [.ref 139, .int x1, .int x2, .int x3] (am_sh I J)).bind (fun q => am_ev X amP_267 17 [.ref 139, .int x1, .int x2, .int x3] (q.1.toList ++ []) q.2)) := by
  refine (ev_if0 rfl).trans (am_ite (fun c1 => ?_) (fun c1 => ?_))
  · refine (ev_const4 (v := (-1000000 : Int32)) rfl am_ci_m1000000).trans ?_
    exact ev_iret rfl
  · refine (ev_aload rfl rfl).trans ?_
    refine (ev_iload rfl rfl).trans ?_
    refine (ev_iload rfl rfl).trans ?_
    refine (ev_iload rfl rfl).trans ?_
    exact ev_invv (as := [.int x3, .int x2, .int x1]) rfl (by decide) am_K_139 rfl (by simp [Value.category])
set_option maxRecDepth 10000 in
theorem sg_267_17 (X : am_X) (I : Nat → Nat → Int32) (J : Nat → Nat → Int64) (x1 : Int32) (x2 : Int32) (x3 : Int32) (x4 : Int32) : am_ev X amP_267 17 [.ref 139, .int x1, .int x2, .int x3] [.int x4] (am_sh I J) = some (some (.int x4), am_sh I J) := by
  refine (ev_goto rfl).trans ?_
  exact ev_iret rfl
-- 268 X12_far
set_option maxRecDepth 10000 in
theorem sg_268_e0 (X : am_X) (I : Nat → Nat → Int32) (J : Nat → Nat → Int64) (x1 : Int32) (x2 : Int32) (x3 : Int32) : am_ev X amP_268 0 [.ref 139, .int x1, .int x2, .int x3] [] (am_sh I J) = (am_do X 257 [.ref 139, .int x1, .int x2] (am_sh I J)).bind (fun q => am_ev X amP_268 4 [.ref 139, .int x1, .int x2, .int x3] (q.1.toList ++ []) q.2) := by
  refine (ev_aload rfl rfl).trans ?_
  refine (ev_iload rfl rfl).trans ?_
  refine (ev_iload rfl rfl).trans ?_
  exact ev_invv (as := [.int x2, .int x1]) rfl (by decide) am_K_139 rfl (by simp [Value.category])
theorem cl_268 (X : am_X) (I : Nat → Nat → Int32) (J : Nat → Nat → Int64) (x1 : Int32) (x2 : Int32) (x3 : Int32) : am_do X 268 [.ref 139, .int x1, .int x2, .int x3] (am_sh I J) = am_ev X amP_268 0 [.ref 139, .int x1, .int x2, .int x3] [] (am_sh I J) := am_do_of rfl rfl rfl
set_option maxRecDepth 10000 in
theorem sg_268_4 (X : am_X) (I : Nat → Nat → Int32) (J : Nat → Nat → Int64) (x1 : Int32) (x2 : Int32) (x3 : Int32) (x4 : Int32) : am_ev X amP_268 4 [.ref 139, .int x1, .int x2, .int x3] [.int x4] (am_sh I J) = (if x4 = 0 then some (some (.int (-1 : Int32)), am_sh I J) else (am_do X 258 [.int x3] (am_sh I J)).bind (fun q => am_ev X amP_268 7 [.ref 139, .int x1, .int x2, .int x3] (q.1.toList ++ []) q.2)) := by
  refine (ev_if0 rfl).trans (am_ite (fun c1 => ?_) (fun c1 => ?_))
  · refine (ev_const0 (v := (-1 : Int32)) rfl am_ci_m1).trans ?_
    exact ev_iret rfl
  · refine (ev_iload rfl rfl).trans ?_
    exact ev_invs (as := [.int x3]) rfl rfl (by simp [Value.category])
set_option maxRecDepth 10000 in
theorem sg_268_7 (X : am_X) (I : Nat → Nat → Int32) (J : Nat → Nat → Int64) (x1 : Int32) (x2 : Int32) (x3 : Int32) (x4 : Int32) : am_ev X amP_268 7 [.ref 139, .int x1, .int x2, .int x3] [.int x4] (am_sh I J) = (if x4 = 0 then some (some (.int (-1 : Int32)), am_sh I J) else (am_do X 250 [.ref 139, .int x1, .int x2, .int x3] (am_sh I J)).bind (fun q => am_ev X amP_268 13 [.ref 139, .int x1, .int x2, .int x3] (q.1.toList ++ []) q.2)) := by
  refine (ev_if0 rfl).trans (am_ite (fun c1 => ?_) (fun c1 => ?_))
  · refine (ev_const0 (v := (-1 : Int32)) rfl am_ci_m1).trans ?_
    exact ev_iret rfl
  · refine (ev_aload rfl rfl).trans ?_
    refine (ev_iload rfl rfl).trans ?_
    refine (ev_iload rfl rfl).trans ?_
    refine (ev_iload rfl rfl).trans ?_
    exact ev_invv (as := [.int x3, .int x2, .int x1]) rfl (by decide) am_K_139 rfl (by simp [Value.category])
set_option maxRecDepth 10000 in
theorem sg_268_13 (X : am_X) (I : Nat → Nat → Int32) (J : Nat → Nat → Int64) (x1 : Int32) (x2 : Int32) (x3 : Int32) (x4 : Int32) : am_ev X amP_268 13 [.ref 139, .int x1, .int x2, .int x3] [.int x4] (am_sh I J) = some (some (.int x4), am_sh I J) := by
  refine (ev_goto rfl).trans ?_
  exact ev_iret rfl
-- 269 X12_leanOf
set_option maxRecDepth 10000 in
theorem sg_269_e0 (X : am_X) (I : Nat → Nat → Int32) (J : Nat → Nat → Int64) (x1 : Int32) (x2 : Int32) (x3 : Int32) : am_ev X amP_269 0 [.ref 139, .int x1, .int x2, .int x3, .null, .null, .null] [] (am_sh I J) = (am_do X 249 [.ref 139, .int x1, .int x3, .int (0 : Int32)] (am_sh I J)).bind (fun q => am_ev X amP_269 5 [.ref 139, .int x1, .int x2, .int x3, .null, .null, .null] (q.1.toList ++ []) q.2) := by
  refine (ev_aload rfl rfl).trans ?_
  refine (ev_iload rfl rfl).trans ?_
  refine (ev_iload rfl rfl).trans ?_
  refine (ev_const0 (v := (0 : Int32)) rfl am_ci_0).trans ?_
  exact ev_invv (as := [.int (0 : Int32), .int x3, .int x1]) rfl (by decide) am_K_139 rfl (by simp [Value.category])
theorem cl_269 (X : am_X) (I : Nat → Nat → Int32) (J : Nat → Nat → Int64) (x1 : Int32) (x2 : Int32) (x3 : Int32) : am_do X 269 [.ref 139, .int x1, .int x2, .int x3] (am_sh I J) = am_ev X amP_269 0 [.ref 139, .int x1, .int x2, .int x3, .null, .null, .null] [] (am_sh I J) := am_do_of rfl rfl rfl
set_option maxRecDepth 10000 in
theorem sg_269_5 (X : am_X) (I : Nat → Nat → Int32) (J : Nat → Nat → Int64) (x1 : Int32) (x2 : Int32) (x3 : Int32) (w4 : Value) (w5 : Value) (w6 : Value) (x7 : Int32) (hw4 : w4.category = 1) (hw5 : w5.category = 1) (hw6 : w6.category = 1) : am_ev X amP_269 5 [.ref 139, .int x1, .int x2, .int x3, w4, w5, w6] [.int x7] (am_sh I J) = (am_do X 249 [.ref 139, .int x1, .int x3, .int (1 : Int32)] (am_sh I J)).bind (fun q => am_ev X amP_269 11 [.ref 139, .int x1, .int x2, .int x3, .int x7, w5, w6] (q.1.toList ++ []) q.2) := by
  refine (ev_istore (ls' := [.ref 139, .int x1, .int x2, .int x3, .int x7, w5, w6]) rfl (Nat.le_of_ble_eq_true rfl) rfl).trans ?_
  refine (ev_aload rfl rfl).trans ?_
  refine (ev_iload rfl rfl).trans ?_
  refine (ev_iload rfl rfl).trans ?_
  refine (ev_const0 (v := (1 : Int32)) rfl am_ci_1).trans ?_
  exact ev_invv (as := [.int (1 : Int32), .int x3, .int x1]) rfl (by decide) am_K_139 rfl (by simp [Value.category])
set_option maxRecDepth 10000 in
theorem sg_269_11 (X : am_X) (I : Nat → Nat → Int32) (J : Nat → Nat → Int64) (x1 : Int32) (x2 : Int32) (x3 : Int32) (x4 : Int32) (w5 : Value) (w6 : Value) (x7 : Int32) (hw5 : w5.category = 1) (hw6 : w6.category = 1) : am_ev X amP_269 11 [.ref 139, .int x1, .int x2, .int x3, .int x4, w5, w6] [.int x7] (am_sh I J) = (if x2 < 0 ∨ 10 ≤ x2.toNatClampNeg then none else (if ¬ (I 141 x2.toNatClampNeg) = 0 then (if x2 < 0 ∨ 10 ≤ x2.toNatClampNeg then none else (if ¬ (I 141 x2.toNatClampNeg) = (1 : Int32) then (if x2 < 0 ∨ 10 ≤ x2.toNatClampNeg then none else (if ¬ (I 141 x2.toNatClampNeg) = (2 : Int32) then (am_do X 241 [.ref 139, .int x2, .int (4 : Int32)] (am_sh I J)).bind (fun q => am_ev X amP_269 44 [.ref 139, .int x1, .int x2, .int x3, .int x4, .int x7, .int x4] (q.1.toList ++ [.int (16 : Int32)]) q.2) else (am_do X 241 [.ref 139, .int x2, .int (4 : Int32)] (am_sh I J)).bind (fun q => am_ev X amP_269 44 [.ref 139, .int x1, .int x2, .int x3, .int x4, .int x7, .int (-x7)] (q.1.toList ++ [.int (16 : Int32)]) q.2))) else (am_do X 241 [.ref 139, .int x2, .int (4 : Int32)] (am_sh I J)).bind (fun q => am_ev X amP_269 44 [.ref 139, .int x1, .int x2, .int x3, .int x4, .int x7, .int (-x4)] (q.1.toList ++ [.int (16 : Int32)]) q.2))) else (am_do X 241 [.ref 139, .int x2, .int (4 : Int32)] (am_sh I J)).bind (fun q => am_ev X amP_269 44 [.ref 139, .int x1, .int x2, .int x3, .int x4, .int x7, .int x7] (q.1.toList ++ [.int (16 : Int32)]) q.2))) := by
  refine (ev_istore (ls' := [.ref 139, .int x1, .int x2, .int x3, .int x4, .int x7, w6]) rfl (Nat.le_of_ble_eq_true rfl) rfl).trans ?_
  refine (ev_aload rfl rfl).trans ?_
  refine (ev_getR rfl (by decide) am_K_139 (by decide) rfl am_R_139_4).trans ?_
  refine (ev_iload rfl rfl).trans ?_
  refine (ev_iald rfl (by decide) am_K_141).trans (am_itn (fun g1 => ?_))
  refine (ev_if1 rfl).trans (am_ite (fun c2 => ?_) (fun c2 => ?_))
  · refine (ev_aload rfl rfl).trans ?_
    refine (ev_getR rfl (by decide) am_K_139 (by decide) rfl am_R_139_4).trans ?_
    refine (ev_iload rfl rfl).trans ?_
    refine (ev_iald rfl (by decide) am_K_141).trans (am_itn (fun g3 => ?_))
    refine (ev_const0 (v := (1 : Int32)) rfl am_ci_1).trans ?_
    refine (ev_icmp1 rfl).trans (am_ite (fun c4 => ?_) (fun c4 => ?_))
    · refine (ev_aload rfl rfl).trans ?_
      refine (ev_getR rfl (by decide) am_K_139 (by decide) rfl am_R_139_4).trans ?_
      refine (ev_iload rfl rfl).trans ?_
      refine (ev_iald rfl (by decide) am_K_141).trans (am_itn (fun g5 => ?_))
      refine (ev_const0 (v := (2 : Int32)) rfl am_ci_2).trans ?_
      refine (ev_icmp1 rfl).trans (am_ite (fun c6 => ?_) (fun c6 => ?_))
      · refine (ev_iload rfl rfl).trans ?_
        refine (ev_istore (ls' := [.ref 139, .int x1, .int x2, .int x3, .int x4, .int x7, .int x4]) rfl (Nat.le_of_ble_eq_true rfl) rfl).trans ?_
        refine (ev_const1 (v := (16 : Int32)) rfl am_ci_16).trans ?_
        refine (ev_aload rfl rfl).trans ?_
        refine (ev_iload rfl rfl).trans ?_
        refine (ev_const0 (v := (4 : Int32)) rfl am_ci_4).trans ?_
        exact ev_invv (as := [.int (4 : Int32), .int x2]) rfl (by decide) am_K_139 rfl (by simp [Value.category])
      · refine (ev_iload rfl rfl).trans ?_
        refine (ev_ineg rfl).trans ?_
        refine (ev_goto rfl).trans ?_
        refine (ev_istore (ls' := [.ref 139, .int x1, .int x2, .int x3, .int x4, .int x7, .int (-x7)]) rfl (Nat.le_of_ble_eq_true rfl) rfl).trans ?_
        refine (ev_const1 (v := (16 : Int32)) rfl am_ci_16).trans ?_
        refine (ev_aload rfl rfl).trans ?_
        refine (ev_iload rfl rfl).trans ?_
        refine (ev_const0 (v := (4 : Int32)) rfl am_ci_4).trans ?_
        exact ev_invv (as := [.int (4 : Int32), .int x2]) rfl (by decide) am_K_139 rfl (by simp [Value.category])
    · refine (ev_iload rfl rfl).trans ?_
      refine (ev_ineg rfl).trans ?_
      refine (ev_goto rfl).trans ?_
      refine (ev_istore (ls' := [.ref 139, .int x1, .int x2, .int x3, .int x4, .int x7, .int (-x4)]) rfl (Nat.le_of_ble_eq_true rfl) rfl).trans ?_
      refine (ev_const1 (v := (16 : Int32)) rfl am_ci_16).trans ?_
      refine (ev_aload rfl rfl).trans ?_
      refine (ev_iload rfl rfl).trans ?_
      refine (ev_const0 (v := (4 : Int32)) rfl am_ci_4).trans ?_
      exact ev_invv (as := [.int (4 : Int32), .int x2]) rfl (by decide) am_K_139 rfl (by simp [Value.category])
  · refine (ev_iload rfl rfl).trans ?_
    refine (ev_goto rfl).trans ?_
    refine (ev_istore (ls' := [.ref 139, .int x1, .int x2, .int x3, .int x4, .int x7, .int x7]) rfl (Nat.le_of_ble_eq_true rfl) rfl).trans ?_
    refine (ev_const1 (v := (16 : Int32)) rfl am_ci_16).trans ?_
    refine (ev_aload rfl rfl).trans ?_
    refine (ev_iload rfl rfl).trans ?_
    refine (ev_const0 (v := (4 : Int32)) rfl am_ci_4).trans ?_
    exact ev_invv (as := [.int (4 : Int32), .int x2]) rfl (by decide) am_K_139 rfl (by simp [Value.category])
set_option maxRecDepth 10000 in
theorem sg_269_44 (X : am_X) (I : Nat → Nat → Int32) (J : Nat → Nat → Int64) (x1 : Int32) (x2 : Int32) (x3 : Int32) (x4 : Int32) (x5 : Int32) (x6 : Int32) (x7 : Int32) (x8 : Int32) : am_ev X amP_269 44 [.ref 139, .int x1, .int x2, .int x3, .int x4, .int x5, .int x6] [.int x8, .int x7] (am_sh I J) = (am_do X 249 [.ref 139, .int x1, .int x3, .int (2 : Int32)] (am_sh I J)).bind (fun q => am_ev X amP_269 50 [.ref 139, .int x1, .int x2, .int x3, .int x4, .int x5, .int x6] (q.1.toList ++ [.int (x7 - x8)]) q.2) := by
  refine (ev_isub rfl).trans ?_
  refine (ev_aload rfl rfl).trans ?_
  refine (ev_iload rfl rfl).trans ?_
  refine (ev_iload rfl rfl).trans ?_
  refine (ev_const0 (v := (2 : Int32)) rfl am_ci_2).trans ?_
  exact ev_invv (as := [.int (2 : Int32), .int x3, .int x1]) rfl (by decide) am_K_139 rfl (by simp [Value.category])
set_option maxRecDepth 10000 in
theorem sg_269_50 (X : am_X) (I : Nat → Nat → Int32) (J : Nat → Nat → Int64) (x1 : Int32) (x2 : Int32) (x3 : Int32) (x4 : Int32) (x5 : Int32) (x6 : Int32) (x7 : Int32) (x8 : Int32) : am_ev X amP_269 50 [.ref 139, .int x1, .int x2, .int x3, .int x4, .int x5, .int x6] [.int x8, .int x7] (am_sh I J) = (am_do X 241 [.ref 139, .int x2, .int (4 : Int32)] (am_sh I J)).bind (fun q => am_ev X amP_269 55 [.ref 139, .int x1, .int x2, .int x3, .int x4, .int x5, .int x6] (q.1.toList ++ [.int (x7 * x8)]) q.2) := by
  refine (ev_imul rfl).trans ?_
  refine (ev_aload rfl rfl).trans ?_
  refine (ev_iload rfl rfl).trans ?_
  refine (ev_const0 (v := (4 : Int32)) rfl am_ci_4).trans ?_
  exact ev_invv (as := [.int (4 : Int32), .int x2]) rfl (by decide) am_K_139 rfl (by simp [Value.category])
set_option maxRecDepth 10000 in
theorem sg_269_55 (X : am_X) (I : Nat → Nat → Int32) (J : Nat → Nat → Int64) (x1 : Int32) (x2 : Int32) (x3 : Int32) (x4 : Int32) (x5 : Int32) (x6 : Int32) (x7 : Int32) (x8 : Int32) : am_ev X amP_269 55 [.ref 139, .int x1, .int x2, .int x3, .int x4, .int x5, .int x6] [.int x8, .int x7] (am_sh I J) = some (some (.int (x7 - (x8 * x6))), am_sh I J) := by
  refine (ev_iload rfl rfl).trans ?_
  refine (ev_imul rfl).trans ?_
  refine (ev_isub rfl).trans ?_
  exact ev_iret rfl
-- 270 X12_lean
set_option maxRecDepth 10000 in
theorem sg_270_e0 (X : am_X) (I : Nat → Nat → Int32) (J : Nat → Nat → Int64) (x1 : Int32) (x2 : Int32) (x3 : Int32) : am_ev X amP_270 0 [.ref 139, .int x1, .int x2, .int x3] [] (am_sh I J) = (am_do X 257 [.ref 139, .int x1, .int x2] (am_sh I J)).bind (fun q => am_ev X amP_270 4 [.ref 139, .int x1, .int x2, .int x3] (q.1.toList ++ []) q.2) := by
  refine (ev_aload rfl rfl).trans ?_
  refine (ev_iload rfl rfl).trans ?_
  refine (ev_iload rfl rfl).trans ?_
  exact ev_invv (as := [.int x2, .int x1]) rfl (by decide) am_K_139 rfl (by simp [Value.category])
theorem cl_270 (X : am_X) (I : Nat → Nat → Int32) (J : Nat → Nat → Int64) (x1 : Int32) (x2 : Int32) (x3 : Int32) : am_do X 270 [.ref 139, .int x1, .int x2, .int x3] (am_sh I J) = am_ev X amP_270 0 [.ref 139, .int x1, .int x2, .int x3] [] (am_sh I J) := am_do_of rfl rfl rfl
set_option maxRecDepth 10000 in
theorem sg_270_4 (X : am_X) (I : Nat → Nat → Int32) (J : Nat → Nat → Int64) (x1 : Int32) (x2 : Int32) (x3 : Int32) (x4 : Int32) : am_ev X amP_270 4 [.ref 139, .int x1, .int x2, .int x3] [.int x4] (am_sh I J) = (if x4 = 0 then some (some (.int (-1000000 : Int32)), am_sh I J) else (am_do X 258 [.int x3] (am_sh I J)).bind (fun q => am_ev X amP_270 7 [.ref 139, .int x1, .int x2, .int x3] (q.1.toList ++ []) q.2)) := by
  refine (ev_if0 rfl).trans (am_ite (fun c1 => ?_) (fun c1 => ?_))
  · refine (ev_const4 (v := (-1000000 : Int32)) rfl am_ci_m1000000).trans ?_
    exact ev_iret rfl
  · refine (ev_iload rfl rfl).trans ?_
    exact ev_invs (as := [.int x3]) rfl rfl (by simp [Value.category])
set_option maxRecDepth 10000 in
theorem sg_270_7 (X : am_X) (I : Nat → Nat → Int32) (J : Nat → Nat → Int64) (x1 : Int32) (x2 : Int32) (x3 : Int32) (x4 : Int32) : am_ev X amP_270 7 [.ref 139, .int x1, .int x2, .int x3] [.int x4] (am_sh I J) = (if x4 = 0 then some (some (.int (-1000000 : Int32)), am_sh I J) else (am_do X 269 [.ref 139, .int x1, .int x2, .int x3] (am_sh I J)).bind (fun q => am_ev X amP_270 13 [.ref 139, .int x1, .int x2, .int x3] (q.1.toList ++ []) q.2)) := by
  refine (ev_if0 rfl).trans (am_ite (fun c1 => ?_) (fun c1 => ?_))
  · refine (ev_const4 (v := (-1000000 : Int32)) rfl am_ci_m1000000).trans ?_
    exact ev_iret rfl
  · refine (ev_aload rfl rfl).trans ?_
    refine (ev_iload rfl rfl).trans ?_
    refine (ev_iload rfl rfl).trans ?_
    refine (ev_iload rfl rfl).trans ?_
    exact ev_invv (as := [.int x3, .int x2, .int x1]) rfl (by decide) am_K_139 rfl (by simp [Value.category])
set_option maxRecDepth 10000 in
theorem sg_270_13 (X : am_X) (I : Nat → Nat → Int32) (J : Nat → Nat → Int64) (x1 : Int32) (x2 : Int32) (x3 : Int32) (x4 : Int32) : am_ev X amP_270 13 [.ref 139, .int x1, .int x2, .int x3] [.int x4] (am_sh I J) = some (some (.int x4), am_sh I J) := by
  refine (ev_goto rfl).trans ?_
  exact ev_iret rfl
-- 271 X12_isInWindow
set_option maxRecDepth 10000 in
theorem sg_271_e0 (X : am_X) (I : Nat → Nat → Int32) (J : Nat → Nat → Int64) (x1 : Int32) (x2 : Int32) (x3 : Int32) : am_ev X amP_271 0 [.ref 139, .int x1, .int x2, .int x3, .null] [] (am_sh I J) = (am_do X 269 [.ref 139, .int x1, .int x2, .int x3] (am_sh I J)).bind (fun q => am_ev X amP_271 14 [.ref 139, .int x1, .int x2, .int x3, .int (((16 : Int32) * (I 148 0)) + (16 : Int32))] (q.1.toList ++ []) q.2) := by
  refine (ev_const1 (v := (16 : Int32)) rfl am_ci_16).trans ?_
  refine (ev_aload rfl rfl).trans ?_
  refine (ev_getR rfl (by decide) am_K_139 (by decide) rfl am_R_139_22).trans ?_
  refine (ev_const0 (v := (0 : Int32)) rfl am_ci_0).trans ?_
  refine (ev_ialdC (jn := 0) rfl (by decide) am_K_148 (by decide) (by decide)).trans ?_
  refine (ev_imul rfl).trans ?_
  refine (ev_const1 (v := (16 : Int32)) rfl am_ci_16).trans ?_
  refine (ev_iadd rfl).trans ?_
  refine (ev_istore (ls' := [.ref 139, .int x1, .int x2, .int x3, .int (((16 : Int32) * (I 148 0)) + (16 : Int32))]) rfl (Nat.le_of_ble_eq_true rfl) rfl).trans ?_
  refine (ev_aload rfl rfl).trans ?_
  refine (ev_iload rfl rfl).trans ?_
  refine (ev_iload rfl rfl).trans ?_
  refine (ev_iload rfl rfl).trans ?_
  exact ev_invv (as := [.int x3, .int x2, .int x1]) rfl (by decide) am_K_139 rfl (by simp [Value.category])
theorem cl_271 (X : am_X) (I : Nat → Nat → Int32) (J : Nat → Nat → Int64) (x1 : Int32) (x2 : Int32) (x3 : Int32) : am_do X 271 [.ref 139, .int x1, .int x2, .int x3] (am_sh I J) = am_ev X amP_271 0 [.ref 139, .int x1, .int x2, .int x3, .null] [] (am_sh I J) := am_do_of rfl rfl rfl
set_option maxRecDepth 10000 in
theorem sg_271_14 (X : am_X) (I : Nat → Nat → Int32) (J : Nat → Nat → Int64) (x1 : Int32) (x2 : Int32) (x3 : Int32) (x4 : Int32) (x5 : Int32) : am_ev X amP_271 14 [.ref 139, .int x1, .int x2, .int x3, .int x4] [.int x5] (am_sh I J) = (am_do X 214 [.int x5, .int (-x4), .int x4] (am_sh I J)).bind (fun q => am_ev X amP_271 18 [.ref 139, .int x1, .int x2, .int x3, .int x4] (q.1.toList ++ []) q.2) := by
  refine (ev_iload rfl rfl).trans ?_
  refine (ev_ineg rfl).trans ?_
  refine (ev_iload rfl rfl).trans ?_
  exact ev_invs (as := [.int x4, .int (-x4), .int x5]) rfl rfl (by simp [Value.category])
set_option maxRecDepth 10000 in
theorem sg_271_18 (X : am_X) (I : Nat → Nat → Int32) (J : Nat → Nat → Int64) (x1 : Int32) (x2 : Int32) (x3 : Int32) (x4 : Int32) (x5 : Int32) (z0 : x5 = 0 ∨ x5 = 1) : am_ev X amP_271 18 [.ref 139, .int x1, .int x2, .int x3, .int x4] [.int x5] (am_sh I J) = some (some (.int x5), am_sh I J) := by
  exact ev_zret rfl z0
-- 272 X12_areShells
set_option maxRecDepth 10000 in
theorem sg_272_e0 (X : am_X) (I : Nat → Nat → Int32) (J : Nat → Nat → Int64) (x1 : Int32) (x2 : Int32) : am_ev X amP_272 0 [.ref 139, .int x1, .int x2, .null] [] (am_sh I J) = (am_do X 241 [.ref 139, .int x2, .int (0 : Int32)] (am_sh I J)).bind (fun q => am_ev X amP_272 4 [.ref 139, .int x1, .int x2, .null] (q.1.toList ++ []) q.2) := by
  refine (ev_aload rfl rfl).trans ?_
  refine (ev_iload rfl rfl).trans ?_
  refine (ev_const0 (v := (0 : Int32)) rfl am_ci_0).trans ?_
  exact ev_invv (as := [.int (0 : Int32), .int x2]) rfl (by decide) am_K_139 rfl (by simp [Value.category])
theorem cl_272 (X : am_X) (I : Nat → Nat → Int32) (J : Nat → Nat → Int64) (x1 : Int32) (x2 : Int32) : am_do X 272 [.ref 139, .int x1, .int x2] (am_sh I J) = am_ev X amP_272 0 [.ref 139, .int x1, .int x2, .null] [] (am_sh I J) := am_do_of rfl rfl rfl
set_option maxRecDepth 10000 in
theorem sg_272_4 (X : am_X) (I : Nat → Nat → Int32) (J : Nat → Nat → Int64) (x1 : Int32) (x2 : Int32) (w3 : Value) (x4 : Int32) (hw3 : w3.category = 1) : am_ev X amP_272 4 [.ref 139, .int x1, .int x2, w3] [.int x4] (am_sh I J) = (am_do X 241 [.ref 139, .int x1, .int (1 : Int32)] (am_sh I J)).bind (fun q => am_ev X amP_272 8 [.ref 139, .int x1, .int x2, w3] (q.1.toList ++ [.int x4]) q.2) := by
  refine (ev_aload rfl rfl).trans ?_
  refine (ev_iload rfl rfl).trans ?_
  refine (ev_const0 (v := (1 : Int32)) rfl am_ci_1).trans ?_
  exact ev_invv (as := [.int (1 : Int32), .int x1]) rfl (by decide) am_K_139 rfl (by simp [Value.category])
set_option maxRecDepth 10000 in
theorem sg_272_8 (X : am_X) (I : Nat → Nat → Int32) (J : Nat → Nat → Int64) (x1 : Int32) (x2 : Int32) (w3 : Value) (x4 : Int32) (x5 : Int32) (hw3 : w3.category = 1) : am_ev X amP_272 8 [.ref 139, .int x1, .int x2, w3] [.int x5, .int x4] (am_sh I J) = (am_do X 241 [.ref 139, .int x1, .int (1 : Int32)] (am_sh I J)).bind (fun q => am_ev X amP_272 16 [.ref 139, .int x1, .int x2, .int ((x4 - x5) - (1 : Int32))] (q.1.toList ++ []) q.2) := by
  refine (ev_isub rfl).trans ?_
  refine (ev_const0 (v := (1 : Int32)) rfl am_ci_1).trans ?_
  refine (ev_isub rfl).trans ?_
  refine (ev_istore (ls' := [.ref 139, .int x1, .int x2, .int ((x4 - x5) - (1 : Int32))]) rfl (Nat.le_of_ble_eq_true rfl) rfl).trans ?_
  refine (ev_aload rfl rfl).trans ?_
  refine (ev_iload rfl rfl).trans ?_
  refine (ev_const0 (v := (1 : Int32)) rfl am_ci_1).trans ?_
  exact ev_invv (as := [.int (1 : Int32), .int x1]) rfl (by decide) am_K_139 rfl (by simp [Value.category])
set_option maxRecDepth 10000 in
theorem sg_272_16 (X : am_X) (I : Nat → Nat → Int32) (J : Nat → Nat → Int64) (x1 : Int32) (x2 : Int32) (x3 : Int32) (x4 : Int32) : am_ev X amP_272 16 [.ref 139, .int x1, .int x2, .int x3] [.int x4] (am_sh I J) = (am_do X 241 [.ref 139, .int x2, .int (0 : Int32)] (am_sh I J)).bind (fun q => am_ev X amP_272 20 [.ref 139, .int x1, .int x2, .int x3] (q.1.toList ++ [.int x4]) q.2) := by
  refine (ev_aload rfl rfl).trans ?_
  refine (ev_iload rfl rfl).trans ?_
  refine (ev_const0 (v := (0 : Int32)) rfl am_ci_0).trans ?_
  exact ev_invv (as := [.int (0 : Int32), .int x2]) rfl (by decide) am_K_139 rfl (by simp [Value.category])
set_option maxRecDepth 10000 in
theorem sg_272_20 (X : am_X) (I : Nat → Nat → Int32) (J : Nat → Nat → Int64) (x1 : Int32) (x2 : Int32) (x3 : Int32) (x4 : Int32) (x5 : Int32) : am_ev X amP_272 20 [.ref 139, .int x1, .int x2, .int x3] [.int x5, .int x4] (am_sh I J) = (if x5 ≤ x4 then some (some (.int (0 : Int32)), am_sh I J) else (am_do X 252 [.ref 139] (am_sh I J)).bind (fun q => am_ev X amP_272 27 [.ref 139, .int x1, .int x2, .int x3] (q.1.toList ++ [.int (3 : Int32), .int (x3 * x3)]) q.2)) := by
  refine (ev_icmp3 rfl).trans (am_ite (fun c1 => ?_) (fun c1 => ?_))
  · refine (ev_const0 (v := (0 : Int32)) rfl am_ci_0).trans ?_
    exact ev_zret rfl (by decide)
  · refine (ev_iload rfl rfl).trans ?_
    refine (ev_iload rfl rfl).trans ?_
    refine (ev_imul rfl).trans ?_
    refine (ev_const0 (v := (3 : Int32)) rfl am_ci_3).trans ?_
    refine (ev_aload rfl rfl).trans ?_
    exact ev_invv (as := []) rfl (by decide) am_K_139 rfl (by simp [Value.category])
set_option maxRecDepth 10000 in
theorem sg_272_27 (X : am_X) (I : Nat → Nat → Int32) (J : Nat → Nat → Int64) (x1 : Int32) (x2 : Int32) (x3 : Int32) (x4 : Int32) (x5 : Int32) (x6 : Int32) : am_ev X amP_272 27 [.ref 139, .int x1, .int x2, .int x3] [.int x6, .int x5, .int x4] (am_sh I J) = (if x4 ≤ (x5 * x6) then some (some (.int (0 : Int32)), am_sh I J) else some (some (.int (1 : Int32)), am_sh I J)) := by
  refine (ev_imul rfl).trans ?_
  refine (ev_icmp5 rfl).trans (am_ite (fun c1 => ?_) (fun c1 => ?_))
  · refine (ev_const0 (v := (0 : Int32)) rfl am_ci_0).trans ?_
    exact ev_zret rfl (by decide)
  · refine (ev_const0 (v := (1 : Int32)) rfl am_ci_1).trans ?_
    refine (ev_goto rfl).trans ?_
    exact ev_zret rfl (by decide)
-- 273 X12_windowMany
set_option maxRecDepth 10000 in
theorem sg_273_e0 (X : am_X) (I : Nat → Nat → Int32) (J : Nat → Nat → Int64) (x1 : Int32) (x2 : Int32) : am_ev X amP_273 0 [.ref 139, .int x1, .int x2, .null, .null] [] (am_sh I J) = am_ev X amP_273 4 [.ref 139, .int x1, .int x2, .int (0 : Int32), .int (0 : Int32)] [] (am_sh I J) := by
  refine (ev_const0 (v := (0 : Int32)) rfl am_ci_0).trans ?_
  refine (ev_istore (ls' := [.ref 139, .int x1, .int x2, .int (0 : Int32), .null]) rfl (Nat.le_of_ble_eq_true rfl) rfl).trans ?_
  refine (ev_const0 (v := (0 : Int32)) rfl am_ci_0).trans ?_
  refine (ev_istore (ls' := [.ref 139, .int x1, .int x2, .int (0 : Int32), .int (0 : Int32)]) rfl (Nat.le_of_ble_eq_true rfl) rfl).trans ?_
  rfl
theorem cl_273 (X : am_X) (I : Nat → Nat → Int32) (J : Nat → Nat → Int64) (x1 : Int32) (x2 : Int32) : am_do X 273 [.ref 139, .int x1, .int x2] (am_sh I J) = am_ev X amP_273 0 [.ref 139, .int x1, .int x2, .null, .null] [] (am_sh I J) := am_do_of rfl rfl rfl
set_option maxRecDepth 10000 in
theorem sg_273_4 (X : am_X) (I : Nat → Nat → Int32) (J : Nat → Nat → Int64) (x1 : Int32) (x2 : Int32) (x3 : Int32) (x4 : Int32) : am_ev X amP_273 4 [.ref 139, .int x1, .int x2, .int x3, .int x4] [] (am_sh I J) = (if x1 < 0 ∨ 10 ≤ x1.toNatClampNeg then none else (if (I 140 x1.toNatClampNeg) ≤ x4 then some (some (.int x3), am_sh I J) else (am_do X 271 [.ref 139, .int x1, .int x2, .int x4] (am_sh I J)).bind (fun q => am_ev X amP_273 16 [.ref 139, .int x1, .int x2, .int x3, .int x4] (q.1.toList ++ [.int x3]) q.2))) := by
  refine (ev_iload rfl rfl).trans ?_
  refine (ev_aload rfl rfl).trans ?_
  refine (ev_getR rfl (by decide) am_K_139 (by decide) rfl am_R_139_3).trans ?_
  refine (ev_iload rfl rfl).trans ?_
  refine (ev_iald rfl (by decide) am_K_140).trans (am_itn (fun g1 => ?_))
  refine (ev_icmp3 rfl).trans (am_ite (fun c2 => ?_) (fun c2 => ?_))
  · refine (ev_iload rfl rfl).trans ?_
    exact ev_iret rfl
  · refine (ev_iload rfl rfl).trans ?_
    refine (ev_aload rfl rfl).trans ?_
    refine (ev_iload rfl rfl).trans ?_
    refine (ev_iload rfl rfl).trans ?_
    refine (ev_iload rfl rfl).trans ?_
    exact ev_invv (as := [.int x4, .int x2, .int x1]) rfl (by decide) am_K_139 rfl (by simp [Value.category])
set_option maxRecDepth 10000 in
theorem sg_273_16 (X : am_X) (I : Nat → Nat → Int32) (J : Nat → Nat → Int64) (x1 : Int32) (x2 : Int32) (x3 : Int32) (x4 : Int32) (x5 : Int32) (x6 : Int32) : am_ev X amP_273 16 [.ref 139, .int x1, .int x2, .int x3, .int x4] [.int x6, .int x5] (am_sh I J) = (if x6 = 0 then am_ev X amP_273 4 [.ref 139, .int x1, .int x2, .int (x5 + (0 : Int32)), .int (x4 + (1 : Int32))] [] (am_sh I J) else am_ev X amP_273 4 [.ref 139, .int x1, .int x2, .int (x5 + (1 : Int32)), .int (x4 + (1 : Int32))] [] (am_sh I J)) := by
  refine (ev_if0 rfl).trans (am_ite (fun c1 => ?_) (fun c1 => ?_))
  · refine (ev_const0 (v := (0 : Int32)) rfl am_ci_0).trans ?_
    refine (ev_iadd rfl).trans ?_
    refine (ev_istore (ls' := [.ref 139, .int x1, .int x2, .int (x5 + (0 : Int32)), .int x4]) rfl (Nat.le_of_ble_eq_true rfl) rfl).trans ?_
    refine (ev_iincv (v := (1 : Int32)) (ls' := [.ref 139, .int x1, .int x2, .int (x5 + (0 : Int32)), .int (x4 + (1 : Int32))]) rfl am_ci_1 rfl rfl).trans ?_
    refine (ev_goto rfl).trans ?_
    rfl
  · refine (ev_const0 (v := (1 : Int32)) rfl am_ci_1).trans ?_
    refine (ev_goto rfl).trans ?_
    refine (ev_iadd rfl).trans ?_
    refine (ev_istore (ls' := [.ref 139, .int x1, .int x2, .int (x5 + (1 : Int32)), .int x4]) rfl (Nat.le_of_ble_eq_true rfl) rfl).trans ?_
    refine (ev_iincv (v := (1 : Int32)) (ls' := [.ref 139, .int x1, .int x2, .int (x5 + (1 : Int32)), .int (x4 + (1 : Int32))]) rfl am_ci_1 rfl rfl).trans ?_
    refine (ev_goto rfl).trans ?_
    rfl
-- 274 X12_timeMany
set_option maxRecDepth 10000 in
theorem sg_274_e0 (X : am_X) (I : Nat → Nat → Int32) (J : Nat → Nat → Int64) (x1 : Int32) (x2 : Int32) : am_ev X amP_274 0 [.ref 139, .int x1, .int x2, .null, .null] [] (am_sh I J) = am_ev X amP_274 4 [.ref 139, .int x1, .int x2, .int (0 : Int32), .int (0 : Int32)] [] (am_sh I J) := by
  refine (ev_const0 (v := (0 : Int32)) rfl am_ci_0).trans ?_
  refine (ev_istore (ls' := [.ref 139, .int x1, .int x2, .int (0 : Int32), .null]) rfl (Nat.le_of_ble_eq_true rfl) rfl).trans ?_
  refine (ev_const0 (v := (0 : Int32)) rfl am_ci_0).trans ?_
  refine (ev_istore (ls' := [.ref 139, .int x1, .int x2, .int (0 : Int32), .int (0 : Int32)]) rfl (Nat.le_of_ble_eq_true rfl) rfl).trans ?_
  rfl
theorem cl_274 (X : am_X) (I : Nat → Nat → Int32) (J : Nat → Nat → Int64) (x1 : Int32) (x2 : Int32) : am_do X 274 [.ref 139, .int x1, .int x2] (am_sh I J) = am_ev X amP_274 0 [.ref 139, .int x1, .int x2, .null, .null] [] (am_sh I J) := am_do_of rfl rfl rfl
set_option maxRecDepth 10000 in
theorem sg_274_4 (X : am_X) (I : Nat → Nat → Int32) (J : Nat → Nat → Int64) (x1 : Int32) (x2 : Int32) (x3 : Int32) (x4 : Int32) : am_ev X amP_274 4 [.ref 139, .int x1, .int x2, .int x3, .int x4] [] (am_sh I J) = (am_do X 251 [.ref 139, .int x1, .int x2] (am_sh I J)).bind (fun q => am_ev X amP_274 9 [.ref 139, .int x1, .int x2, .int x3, .int x4] (q.1.toList ++ [.int x4]) q.2) := by
  refine (ev_iload rfl rfl).trans ?_
  refine (ev_aload rfl rfl).trans ?_
  refine (ev_iload rfl rfl).trans ?_
  refine (ev_iload rfl rfl).trans ?_
  exact ev_invv (as := [.int x2, .int x1]) rfl (by decide) am_K_139 rfl (by simp [Value.category])
set_option maxRecDepth 10000 in
theorem sg_274_9 (X : am_X) (I : Nat → Nat → Int32) (J : Nat → Nat → Int64) (x1 : Int32) (x2 : Int32) (x3 : Int32) (x4 : Int32) (x5 : Int32) (x6 : Int32) : am_ev X amP_274 9 [.ref 139, .int x1, .int x2, .int x3, .int x4] [.int x6, .int x5] (am_sh I J) = (if x6 ≤ x5 then some (some (.int x3), am_sh I J) else (am_do X 271 [.ref 139, .int x1, .int x2, .int x4] (am_sh I J)).bind (fun q => am_ev X amP_274 16 [.ref 139, .int x1, .int x2, .int x3, .int x4] (q.1.toList ++ [.int x3]) q.2)) := by
  refine (ev_icmp3 rfl).trans (am_ite (fun c1 => ?_) (fun c1 => ?_))
  · refine (ev_iload rfl rfl).trans ?_
    exact ev_iret rfl
  · refine (ev_iload rfl rfl).trans ?_
    refine (ev_aload rfl rfl).trans ?_
    refine (ev_iload rfl rfl).trans ?_
    refine (ev_iload rfl rfl).trans ?_
    refine (ev_iload rfl rfl).trans ?_
    exact ev_invv (as := [.int x4, .int x2, .int x1]) rfl (by decide) am_K_139 rfl (by simp [Value.category])
set_option maxRecDepth 10000 in
theorem sg_274_16 (X : am_X) (I : Nat → Nat → Int32) (J : Nat → Nat → Int64) (x1 : Int32) (x2 : Int32) (x3 : Int32) (x4 : Int32) (x5 : Int32) (x6 : Int32) : am_ev X amP_274 16 [.ref 139, .int x1, .int x2, .int x3, .int x4] [.int x6, .int x5] (am_sh I J) = (if x6 = 0 then am_ev X amP_274 4 [.ref 139, .int x1, .int x2, .int (x5 + (0 : Int32)), .int (x4 + (1 : Int32))] [] (am_sh I J) else (am_do X 271 [.ref 139, .int x2, .int x1, .int x4] (am_sh I J)).bind (fun q => am_ev X amP_274 22 [.ref 139, .int x1, .int x2, .int x3, .int x4] (q.1.toList ++ [.int x5]) q.2)) := by
  refine (ev_if0 rfl).trans (am_ite (fun c1 => ?_) (fun c1 => ?_))
  · refine (ev_const0 (v := (0 : Int32)) rfl am_ci_0).trans ?_
    refine (ev_iadd rfl).trans ?_
    refine (ev_istore (ls' := [.ref 139, .int x1, .int x2, .int (x5 + (0 : Int32)), .int x4]) rfl (Nat.le_of_ble_eq_true rfl) rfl).trans ?_
    refine (ev_iincv (v := (1 : Int32)) (ls' := [.ref 139, .int x1, .int x2, .int (x5 + (0 : Int32)), .int (x4 + (1 : Int32))]) rfl am_ci_1 rfl rfl).trans ?_
    refine (ev_goto rfl).trans ?_
    rfl
  · refine (ev_aload rfl rfl).trans ?_
    refine (ev_iload rfl rfl).trans ?_
    refine (ev_iload rfl rfl).trans ?_
    refine (ev_iload rfl rfl).trans ?_
    exact ev_invv (as := [.int x4, .int x1, .int x2]) rfl (by decide) am_K_139 rfl (by simp [Value.category])
set_option maxRecDepth 10000 in
theorem sg_274_22 (X : am_X) (I : Nat → Nat → Int32) (J : Nat → Nat → Int64) (x1 : Int32) (x2 : Int32) (x3 : Int32) (x4 : Int32) (x5 : Int32) (x6 : Int32) : am_ev X amP_274 22 [.ref 139, .int x1, .int x2, .int x3, .int x4] [.int x6, .int x5] (am_sh I J) = (if x6 = 0 then am_ev X amP_274 4 [.ref 139, .int x1, .int x2, .int (x5 + (0 : Int32)), .int (x4 + (1 : Int32))] [] (am_sh I J) else am_ev X amP_274 4 [.ref 139, .int x1, .int x2, .int (x5 + (1 : Int32)), .int (x4 + (1 : Int32))] [] (am_sh I J)) := by
  refine (ev_if0 rfl).trans (am_ite (fun c1 => ?_) (fun c1 => ?_))
  · refine (ev_const0 (v := (0 : Int32)) rfl am_ci_0).trans ?_
    refine (ev_iadd rfl).trans ?_
    refine (ev_istore (ls' := [.ref 139, .int x1, .int x2, .int (x5 + (0 : Int32)), .int x4]) rfl (Nat.le_of_ble_eq_true rfl) rfl).trans ?_
    refine (ev_iincv (v := (1 : Int32)) (ls' := [.ref 139, .int x1, .int x2, .int (x5 + (0 : Int32)), .int (x4 + (1 : Int32))]) rfl am_ci_1 rfl rfl).trans ?_
    refine (ev_goto rfl).trans ?_
    rfl
  · refine (ev_const0 (v := (1 : Int32)) rfl am_ci_1).trans ?_
    refine (ev_goto rfl).trans ?_
    refine (ev_iadd rfl).trans ?_
    refine (ev_istore (ls' := [.ref 139, .int x1, .int x2, .int (x5 + (1 : Int32)), .int x4]) rfl (Nat.le_of_ble_eq_true rfl) rfl).trans ?_
    refine (ev_iincv (v := (1 : Int32)) (ls' := [.ref 139, .int x1, .int x2, .int (x5 + (1 : Int32)), .int (x4 + (1 : Int32))]) rfl am_ci_1 rfl rfl).trans ?_
    refine (ev_goto rfl).trans ?_
    rfl
-- 275 X12_sieveOf
set_option maxRecDepth 10000 in
theorem sg_275_e0 (X : am_X) (I : Nat → Nat → Int32) (J : Nat → Nat → Int64) (x1 : Int32) (x2 : Int32) : am_ev X amP_275 0 [.ref 139, .int x1, .int x2] [] (am_sh I J) = (am_do X 272 [.ref 139, .int x1, .int x2] (am_sh I J)).bind (fun q => am_ev X amP_275 4 [.ref 139, .int x1, .int x2] (q.1.toList ++ []) q.2) := by
  refine (ev_aload rfl rfl).trans ?_
  refine (ev_iload rfl rfl).trans ?_
  refine (ev_iload rfl rfl).trans ?_
  exact ev_invv (as := [.int x2, .int x1]) rfl (by decide) am_K_139 rfl (by simp [Value.category])
theorem cl_275 (X : am_X) (I : Nat → Nat → Int32) (J : Nat → Nat → Int64) (x1 : Int32) (x2 : Int32) : am_do X 275 [.ref 139, .int x1, .int x2] (am_sh I J) = am_ev X amP_275 0 [.ref 139, .int x1, .int x2] [] (am_sh I J) := am_do_of rfl rfl rfl
set_option maxRecDepth 10000 in
theorem sg_275_4 (X : am_X) (I : Nat → Nat → Int32) (J : Nat → Nat → Int64) (x1 : Int32) (x2 : Int32) (x3 : Int32) : am_ev X amP_275 4 [.ref 139, .int x1, .int x2] [.int x3] (am_sh I J) = (if ¬ x3 = 0 then some (some (.int (1 : Int32)), am_sh I J) else (am_do X 272 [.ref 139, .int x2, .int x1] (am_sh I J)).bind (fun q => am_ev X amP_275 9 [.ref 139, .int x1, .int x2] (q.1.toList ++ []) q.2)) := by
  refine (ev_if1 rfl).trans (am_ite (fun c1 => ?_) (fun c1 => ?_))
  · refine (ev_const0 (v := (1 : Int32)) rfl am_ci_1).trans ?_
    exact ev_iret rfl
  · refine (ev_aload rfl rfl).trans ?_
    refine (ev_iload rfl rfl).trans ?_
    refine (ev_iload rfl rfl).trans ?_
    exact ev_invv (as := [.int x1, .int x2]) rfl (by decide) am_K_139 rfl (by simp [Value.category])
set_option maxRecDepth 10000 in
theorem sg_275_9 (X : am_X) (I : Nat → Nat → Int32) (J : Nat → Nat → Int64) (x1 : Int32) (x2 : Int32) (x3 : Int32) : am_ev X amP_275 9 [.ref 139, .int x1, .int x2] [.int x3] (am_sh I J) = (if x3 = 0 then (am_do X 273 [.ref 139, .int x1, .int x2] (am_sh I J)).bind (fun q => am_ev X amP_275 16 [.ref 139, .int x1, .int x2] (q.1.toList ++ []) q.2) else some (some (.int (1 : Int32)), am_sh I J)) := by
  refine (ev_if0 rfl).trans (am_ite (fun c1 => ?_) (fun c1 => ?_))
  · refine (ev_aload rfl rfl).trans ?_
    refine (ev_iload rfl rfl).trans ?_
    refine (ev_iload rfl rfl).trans ?_
    exact ev_invv (as := [.int x2, .int x1]) rfl (by decide) am_K_139 rfl (by simp [Value.category])
  · refine (ev_const0 (v := (1 : Int32)) rfl am_ci_1).trans ?_
    exact ev_iret rfl
set_option maxRecDepth 10000 in
theorem sg_275_16 (X : am_X) (I : Nat → Nat → Int32) (J : Nat → Nat → Int64) (x1 : Int32) (x2 : Int32) (x3 : Int32) : am_ev X amP_275 16 [.ref 139, .int x1, .int x2] [.int x3] (am_sh I J) = (if x3 = 0 then some (some (.int (2 : Int32)), am_sh I J) else (am_do X 273 [.ref 139, .int x2, .int x1] (am_sh I J)).bind (fun q => am_ev X amP_275 21 [.ref 139, .int x1, .int x2] (q.1.toList ++ []) q.2)) := by
  refine (ev_if0 rfl).trans (am_ite (fun c1 => ?_) (fun c1 => ?_))
  · refine (ev_const0 (v := (2 : Int32)) rfl am_ci_2).trans ?_
    exact ev_iret rfl
  · refine (ev_aload rfl rfl).trans ?_
    refine (ev_iload rfl rfl).trans ?_
    refine (ev_iload rfl rfl).trans ?_
    exact ev_invv (as := [.int x1, .int x2]) rfl (by decide) am_K_139 rfl (by simp [Value.category])
set_option maxRecDepth 10000 in
theorem sg_275_21 (X : am_X) (I : Nat → Nat → Int32) (J : Nat → Nat → Int64) (x1 : Int32) (x2 : Int32) (x3 : Int32) : am_ev X amP_275 21 [.ref 139, .int x1, .int x2] [.int x3] (am_sh I J) = (if ¬ x3 = 0 then (am_do X 274 [.ref 139, .int x1, .int x2] (am_sh I J)).bind (fun q => am_ev X amP_275 28 [.ref 139, .int x1, .int x2] (q.1.toList ++ []) q.2) else some (some (.int (2 : Int32)), am_sh I J)) := by
  refine (ev_if1 rfl).trans (am_ite (fun c1 => ?_) (fun c1 => ?_))
  · refine (ev_aload rfl rfl).trans ?_
    refine (ev_iload rfl rfl).trans ?_
    refine (ev_iload rfl rfl).trans ?_
    exact ev_invv (as := [.int x2, .int x1]) rfl (by decide) am_K_139 rfl (by simp [Value.category])
  · refine (ev_const0 (v := (2 : Int32)) rfl am_ci_2).trans ?_
    exact ev_iret rfl
set_option maxRecDepth 10000 in
theorem sg_275_28 (X : am_X) (I : Nat → Nat → Int32) (J : Nat → Nat → Int64) (x1 : Int32) (x2 : Int32) (x3 : Int32) : am_ev X amP_275 28 [.ref 139, .int x1, .int x2] [.int x3] (am_sh I J) = (if ¬ x3 = 0 then some (some (.int (0 : Int32)), am_sh I J) else some (some (.int (3 : Int32)), am_sh I J)) := by
  refine (ev_if1 rfl).trans (am_ite (fun c1 => ?_) (fun c1 => ?_))
  · refine (ev_const0 (v := (0 : Int32)) rfl am_ci_0).trans ?_
    exact ev_iret rfl
  · refine (ev_const0 (v := (3 : Int32)) rfl am_ci_3).trans ?_
    refine (ev_goto rfl).trans ?_
    exact ev_iret rfl
-- 276 X12_sieve
set_option maxRecDepth 10000 in
theorem sg_276_e0 (X : am_X) (I : Nat → Nat → Int32) (J : Nat → Nat → Int64) (x1 : Int32) (x2 : Int32) : am_ev X amP_276 0 [.ref 139, .int x1, .int x2] [] (am_sh I J) = (am_do X 257 [.ref 139, .int x1, .int x2] (am_sh I J)).bind (fun q => am_ev X amP_276 4 [.ref 139, .int x1, .int x2] (q.1.toList ++ []) q.2) := by
  refine (ev_aload rfl rfl).trans ?_
  refine (ev_iload rfl rfl).trans ?_
  refine (ev_iload rfl rfl).trans ?_
  exact ev_invv (as := [.int x2, .int x1]) rfl (by decide) am_K_139 rfl (by simp [Value.category])
theorem cl_276 (X : am_X) (I : Nat → Nat → Int32) (J : Nat → Nat → Int64) (x1 : Int32) (x2 : Int32) : am_do X 276 [.ref 139, .int x1, .int x2] (am_sh I J) = am_ev X amP_276 0 [.ref 139, .int x1, .int x2] [] (am_sh I J) := am_do_of rfl rfl rfl
set_option maxRecDepth 10000 in
theorem sg_276_4 (X : am_X) (I : Nat → Nat → Int32) (J : Nat → Nat → Int64) (x1 : Int32) (x2 : Int32) (x3 : Int32) : am_ev X amP_276 4 [.ref 139, .int x1, .int x2] [.int x3] (am_sh I J) = (if x3 = 0 then some (some (.int (-1 : Int32)), am_sh I J) else (am_do X 275 [.ref 139, .int x1, .int x2] (am_sh I J)).bind (fun q => am_ev X amP_276 9 [.ref 139, .int x1, .int x2] (q.1.toList ++ []) q.2)) := by
  refine (ev_if0 rfl).trans (am_ite (fun c1 => ?_) (fun c1 => ?_))
  · refine (ev_const0 (v := (-1 : Int32)) rfl am_ci_m1).trans ?_
    exact ev_iret rfl
  · refine (ev_aload rfl rfl).trans ?_
    refine (ev_iload rfl rfl).trans ?_
    refine (ev_iload rfl rfl).trans ?_
    exact ev_invv (as := [.int x2, .int x1]) rfl (by decide) am_K_139 rfl (by simp [Value.category])
set_option maxRecDepth 10000 in
theorem sg_276_9 (X : am_X) (I : Nat → Nat → Int32) (J : Nat → Nat → Int64) (x1 : Int32) (x2 : Int32) (x3 : Int32) : am_ev X amP_276 9 [.ref 139, .int x1, .int x2] [.int x3] (am_sh I J) = some (some (.int x3), am_sh I J) := by
  refine (ev_goto rfl).trans ?_
  exact ev_iret rfl
-- 277 X12_window
set_option maxRecDepth 10000 in
theorem sg_277_e0 (X : am_X) (I : Nat → Nat → Int32) (J : Nat → Nat → Int64) (x1 : Int32) (x2 : Int32) (x3 : Int32) : am_ev X amP_277 0 [.ref 139, .int x1, .int x2, .int x3, .null, .null] [] (am_sh I J) = (am_do X 257 [.ref 139, .int x1, .int x2] (am_sh I J)).bind (fun q => am_ev X amP_277 4 [.ref 139, .int x1, .int x2, .int x3, .null, .null] (q.1.toList ++ []) q.2) := by
  refine (ev_aload rfl rfl).trans ?_
  refine (ev_iload rfl rfl).trans ?_
  refine (ev_iload rfl rfl).trans ?_
  exact ev_invv (as := [.int x2, .int x1]) rfl (by decide) am_K_139 rfl (by simp [Value.category])
theorem cl_277 (X : am_X) (I : Nat → Nat → Int32) (J : Nat → Nat → Int64) (x1 : Int32) (x2 : Int32) (x3 : Int32) : am_do X 277 [.ref 139, .int x1, .int x2, .int x3] (am_sh I J) = am_ev X amP_277 0 [.ref 139, .int x1, .int x2, .int x3, .null, .null] [] (am_sh I J) := am_do_of rfl rfl rfl
set_option maxRecDepth 10000 in
theorem sg_277_4 (X : am_X) (I : Nat → Nat → Int32) (J : Nat → Nat → Int64) (x1 : Int32) (x2 : Int32) (x3 : Int32) (w4 : Value) (w5 : Value) (x6 : Int32) (hw4 : w4.category = 1) (hw5 : w5.category = 1) : am_ev X amP_277 4 [.ref 139, .int x1, .int x2, .int x3, w4, w5] [.int x6] (am_sh I J) = (if x6 = 0 then some (some (.int (-1 : Int32)), am_sh I J) else (if (-1 : Int32) ≤ x3 then am_ev X amP_277 14 [.ref 139, .int x1, .int x2, .int x3, .int (0 : Int32), .int (0 : Int32)] [] (am_sh I J) else some (some (.int (-1 : Int32)), am_sh I J))) := by
  refine (ev_if0 rfl).trans (am_ite (fun c1 => ?_) (fun c1 => ?_))
  · refine (ev_const0 (v := (-1 : Int32)) rfl am_ci_m1).trans ?_
    exact ev_iret rfl
  · refine (ev_iload rfl rfl).trans ?_
    refine (ev_const0 (v := (-1 : Int32)) rfl am_ci_m1).trans ?_
    refine (ev_icmp3 rfl).trans (am_ite (fun c2 => ?_) (fun c2 => ?_))
    · refine (ev_const0 (v := (0 : Int32)) rfl am_ci_0).trans ?_
      refine (ev_istore (ls' := [.ref 139, .int x1, .int x2, .int x3, .int (0 : Int32), w5]) rfl (Nat.le_of_ble_eq_true rfl) rfl).trans ?_
      refine (ev_const0 (v := (0 : Int32)) rfl am_ci_0).trans ?_
      refine (ev_istore (ls' := [.ref 139, .int x1, .int x2, .int x3, .int (0 : Int32), .int (0 : Int32)]) rfl (Nat.le_of_ble_eq_true rfl) rfl).trans ?_
      rfl
    · refine (ev_const0 (v := (-1 : Int32)) rfl am_ci_m1).trans ?_
      exact ev_iret rfl
set_option maxRecDepth 10000 in
theorem sg_277_14 (X : am_X) (I : Nat → Nat → Int32) (J : Nat → Nat → Int64) (x1 : Int32) (x2 : Int32) (x3 : Int32) (x4 : Int32) (x5 : Int32) : am_ev X amP_277 14 [.ref 139, .int x1, .int x2, .int x3, .int x4, .int x5] [] (am_sh I J) = (if x1 < 0 ∨ 10 ≤ x1.toNatClampNeg then none else (if (I 140 x1.toNatClampNeg) ≤ x5 then (if ¬ x3 = (-1 : Int32) then some (some (.int (-1 : Int32)), am_sh I J) else some (some (.int x4), am_sh I J)) else (am_do X 271 [.ref 139, .int x1, .int x2, .int x5] (am_sh I J)).bind (fun q => am_ev X amP_277 25 [.ref 139, .int x1, .int x2, .int x3, .int x4, .int x5] (q.1.toList ++ []) q.2))) := by
  refine (ev_iload rfl rfl).trans ?_
  refine (ev_aload rfl rfl).trans ?_
  refine (ev_getR rfl (by decide) am_K_139 (by decide) rfl am_R_139_3).trans ?_
  refine (ev_iload rfl rfl).trans ?_
  refine (ev_iald rfl (by decide) am_K_140).trans (am_itn (fun g1 => ?_))
  refine (ev_icmp3 rfl).trans (am_ite (fun c2 => ?_) (fun c2 => ?_))
  · refine (ev_iload rfl rfl).trans ?_
    refine (ev_const0 (v := (-1 : Int32)) rfl am_ci_m1).trans ?_
    refine (ev_icmp1 rfl).trans (am_ite (fun c3 => ?_) (fun c3 => ?_))
    · refine (ev_const0 (v := (-1 : Int32)) rfl am_ci_m1).trans ?_
      exact ev_iret rfl
    · refine (ev_iload rfl rfl).trans ?_
      refine (ev_goto rfl).trans ?_
      exact ev_iret rfl
  · refine (ev_aload rfl rfl).trans ?_
    refine (ev_iload rfl rfl).trans ?_
    refine (ev_iload rfl rfl).trans ?_
    refine (ev_iload rfl rfl).trans ?_
    exact ev_invv (as := [.int x5, .int x2, .int x1]) rfl (by decide) am_K_139 rfl (by simp [Value.category])
set_option maxRecDepth 10000 in
theorem sg_277_25 (X : am_X) (I : Nat → Nat → Int32) (J : Nat → Nat → Int64) (x1 : Int32) (x2 : Int32) (x3 : Int32) (x4 : Int32) (x5 : Int32) (x6 : Int32) : am_ev X amP_277 25 [.ref 139, .int x1, .int x2, .int x3, .int x4, .int x5] [.int x6] (am_sh I J) = (if ¬ x6 = 0 then (if ¬ x4 = x3 then am_ev X amP_277 14 [.ref 139, .int x1, .int x2, .int x3, .int (x4 + (1 : Int32)), .int (x5 + (1 : Int32))] [] (am_sh I J) else some (some (.int x5), am_sh I J)) else am_ev X amP_277 14 [.ref 139, .int x1, .int x2, .int x3, .int x4, .int (x5 + (1 : Int32))] [] (am_sh I J)) := by
  refine (ev_if1 rfl).trans (am_ite (fun c1 => ?_) (fun c1 => ?_))
  · refine (ev_iload rfl rfl).trans ?_
    refine (ev_iload rfl rfl).trans ?_
    refine (ev_icmp1 rfl).trans (am_ite (fun c2 => ?_) (fun c2 => ?_))
    · refine (ev_iincv (v := (1 : Int32)) (ls' := [.ref 139, .int x1, .int x2, .int x3, .int (x4 + (1 : Int32)), .int x5]) rfl am_ci_1 rfl rfl).trans ?_
      refine (ev_iincv (v := (1 : Int32)) (ls' := [.ref 139, .int x1, .int x2, .int x3, .int (x4 + (1 : Int32)), .int (x5 + (1 : Int32))]) rfl am_ci_1 rfl rfl).trans ?_
      refine (ev_goto rfl).trans ?_
      rfl
    · refine (ev_iload rfl rfl).trans ?_
      exact ev_iret rfl
  · refine (ev_goto rfl).trans ?_
    refine (ev_iincv (v := (1 : Int32)) (ls' := [.ref 139, .int x1, .int x2, .int x3, .int x4, .int (x5 + (1 : Int32))]) rfl am_ci_1 rfl rfl).trans ?_
    refine (ev_goto rfl).trans ?_
    rfl
-- 278 X12_times
set_option maxRecDepth 10000 in
theorem sg_278_e0 (X : am_X) (I : Nat → Nat → Int32) (J : Nat → Nat → Int64) (x1 : Int32) (x2 : Int32) (x3 : Int32) : am_ev X amP_278 0 [.ref 139, .int x1, .int x2, .int x3, .null, .null] [] (am_sh I J) = (am_do X 257 [.ref 139, .int x1, .int x2] (am_sh I J)).bind (fun q => am_ev X amP_278 4 [.ref 139, .int x1, .int x2, .int x3, .null, .null] (q.1.toList ++ []) q.2) := by
  refine (ev_aload rfl rfl).trans ?_
  refine (ev_iload rfl rfl).trans ?_
  refine (ev_iload rfl rfl).trans ?_
  exact ev_invv (as := [.int x2, .int x1]) rfl (by decide) am_K_139 rfl (by simp [Value.category])
theorem cl_278 (X : am_X) (I : Nat → Nat → Int32) (J : Nat → Nat → Int64) (x1 : Int32) (x2 : Int32) (x3 : Int32) : am_do X 278 [.ref 139, .int x1, .int x2, .int x3] (am_sh I J) = am_ev X amP_278 0 [.ref 139, .int x1, .int x2, .int x3, .null, .null] [] (am_sh I J) := am_do_of rfl rfl rfl
set_option maxRecDepth 10000 in
theorem sg_278_4 (X : am_X) (I : Nat → Nat → Int32) (J : Nat → Nat → Int64) (x1 : Int32) (x2 : Int32) (x3 : Int32) (w4 : Value) (w5 : Value) (x6 : Int32) (hw4 : w4.category = 1) (hw5 : w5.category = 1) : am_ev X amP_278 4 [.ref 139, .int x1, .int x2, .int x3, w4, w5] [.int x6] (am_sh I J) = (if x6 = 0 then some (some (.int (-1 : Int32)), am_sh I J) else (if (-1 : Int32) ≤ x3 then am_ev X amP_278 14 [.ref 139, .int x1, .int x2, .int x3, .int (0 : Int32), .int (0 : Int32)] [] (am_sh I J) else some (some (.int (-1 : Int32)), am_sh I J))) := by
  refine (ev_if0 rfl).trans (am_ite (fun c1 => ?_) (fun c1 => ?_))
  · refine (ev_const0 (v := (-1 : Int32)) rfl am_ci_m1).trans ?_
    exact ev_iret rfl
  · refine (ev_iload rfl rfl).trans ?_
    refine (ev_const0 (v := (-1 : Int32)) rfl am_ci_m1).trans ?_
    refine (ev_icmp3 rfl).trans (am_ite (fun c2 => ?_) (fun c2 => ?_))
    · refine (ev_const0 (v := (0 : Int32)) rfl am_ci_0).trans ?_
      refine (ev_istore (ls' := [.ref 139, .int x1, .int x2, .int x3, .int (0 : Int32), w5]) rfl (Nat.le_of_ble_eq_true rfl) rfl).trans ?_
      refine (ev_const0 (v := (0 : Int32)) rfl am_ci_0).trans ?_
      refine (ev_istore (ls' := [.ref 139, .int x1, .int x2, .int x3, .int (0 : Int32), .int (0 : Int32)]) rfl (Nat.le_of_ble_eq_true rfl) rfl).trans ?_
      rfl
    · refine (ev_const0 (v := (-1 : Int32)) rfl am_ci_m1).trans ?_
      exact ev_iret rfl
set_option maxRecDepth 10000 in
theorem sg_278_14 (X : am_X) (I : Nat → Nat → Int32) (J : Nat → Nat → Int64) (x1 : Int32) (x2 : Int32) (x3 : Int32) (x4 : Int32) (x5 : Int32) : am_ev X amP_278 14 [.ref 139, .int x1, .int x2, .int x3, .int x4, .int x5] [] (am_sh I J) = (am_do X 251 [.ref 139, .int x1, .int x2] (am_sh I J)).bind (fun q => am_ev X amP_278 19 [.ref 139, .int x1, .int x2, .int x3, .int x4, .int x5] (q.1.toList ++ [.int x5]) q.2) := by
  refine (ev_iload rfl rfl).trans ?_
  refine (ev_aload rfl rfl).trans ?_
  refine (ev_iload rfl rfl).trans ?_
  refine (ev_iload rfl rfl).trans ?_
  exact ev_invv (as := [.int x2, .int x1]) rfl (by decide) am_K_139 rfl (by simp [Value.category])
set_option maxRecDepth 10000 in
theorem sg_278_19 (X : am_X) (I : Nat → Nat → Int32) (J : Nat → Nat → Int64) (x1 : Int32) (x2 : Int32) (x3 : Int32) (x4 : Int32) (x5 : Int32) (x6 : Int32) (x7 : Int32) : am_ev X amP_278 19 [.ref 139, .int x1, .int x2, .int x3, .int x4, .int x5] [.int x7, .int x6] (am_sh I J) = (if x7 ≤ x6 then (if ¬ x3 = (-1 : Int32) then some (some (.int (-1 : Int32)), am_sh I J) else some (some (.int x4), am_sh I J)) else (am_do X 271 [.ref 139, .int x1, .int x2, .int x5] (am_sh I J)).bind (fun q => am_ev X amP_278 25 [.ref 139, .int x1, .int x2, .int x3, .int x4, .int x5] (q.1.toList ++ []) q.2)) := by
  refine (ev_icmp3 rfl).trans (am_ite (fun c1 => ?_) (fun c1 => ?_))
  · refine (ev_iload rfl rfl).trans ?_
    refine (ev_const0 (v := (-1 : Int32)) rfl am_ci_m1).trans ?_
    refine (ev_icmp1 rfl).trans (am_ite (fun c2 => ?_) (fun c2 => ?_))
    · refine (ev_const0 (v := (-1 : Int32)) rfl am_ci_m1).trans ?_
      exact ev_iret rfl
    · refine (ev_iload rfl rfl).trans ?_
      refine (ev_goto rfl).trans ?_
      exact ev_iret rfl
  · refine (ev_aload rfl rfl).trans ?_
    refine (ev_iload rfl rfl).trans ?_
    refine (ev_iload rfl rfl).trans ?_
    refine (ev_iload rfl rfl).trans ?_
    exact ev_invv (as := [.int x5, .int x2, .int x1]) rfl (by decide) am_K_139 rfl (by simp [Value.category])
set_option maxRecDepth 10000 in
theorem sg_278_25 (X : am_X) (I : Nat → Nat → Int32) (J : Nat → Nat → Int64) (x1 : Int32) (x2 : Int32) (x3 : Int32) (x4 : Int32) (x5 : Int32) (x6 : Int32) : am_ev X amP_278 25 [.ref 139, .int x1, .int x2, .int x3, .int x4, .int x5] [.int x6] (am_sh I J) = (if x6 = 0 then am_ev X amP_278 14 [.ref 139, .int x1, .int x2, .int x3, .int x4, .int (x5 + (1 : Int32))] [] (am_sh I J) else (am_do X 271 [.ref 139, .int x2, .int x1, .int x5] (am_sh I J)).bind (fun q => am_ev X amP_278 31 [.ref 139, .int x1, .int x2, .int x3, .int x4, .int x5] (q.1.toList ++ []) q.2)) := by
  refine (ev_if0 rfl).trans (am_ite (fun c1 => ?_) (fun c1 => ?_))
  · refine (ev_iincv (v := (1 : Int32)) (ls' := [.ref 139, .int x1, .int x2, .int x3, .int x4, .int (x5 + (1 : Int32))]) rfl am_ci_1 rfl rfl).trans ?_
    refine (ev_goto rfl).trans ?_
    rfl
  · refine (ev_aload rfl rfl).trans ?_
    refine (ev_iload rfl rfl).trans ?_
    refine (ev_iload rfl rfl).trans ?_
    refine (ev_iload rfl rfl).trans ?_
    exact ev_invv (as := [.int x5, .int x1, .int x2]) rfl (by decide) am_K_139 rfl (by simp [Value.category])
set_option maxRecDepth 10000 in
theorem sg_278_31 (X : am_X) (I : Nat → Nat → Int32) (J : Nat → Nat → Int64) (x1 : Int32) (x2 : Int32) (x3 : Int32) (x4 : Int32) (x5 : Int32) (x6 : Int32) : am_ev X amP_278 31 [.ref 139, .int x1, .int x2, .int x3, .int x4, .int x5] [.int x6] (am_sh I J) = (if ¬ x6 = 0 then (if ¬ x4 = x3 then am_ev X amP_278 14 [.ref 139, .int x1, .int x2, .int x3, .int (x4 + (1 : Int32)), .int (x5 + (1 : Int32))] [] (am_sh I J) else some (some (.int x5), am_sh I J)) else am_ev X amP_278 14 [.ref 139, .int x1, .int x2, .int x3, .int x4, .int (x5 + (1 : Int32))] [] (am_sh I J)) := by
  refine (ev_if1 rfl).trans (am_ite (fun c1 => ?_) (fun c1 => ?_))
  · refine (ev_iload rfl rfl).trans ?_
    refine (ev_iload rfl rfl).trans ?_
    refine (ev_icmp1 rfl).trans (am_ite (fun c2 => ?_) (fun c2 => ?_))
    · refine (ev_iincv (v := (1 : Int32)) (ls' := [.ref 139, .int x1, .int x2, .int x3, .int (x4 + (1 : Int32)), .int x5]) rfl am_ci_1 rfl rfl).trans ?_
      refine (ev_iincv (v := (1 : Int32)) (ls' := [.ref 139, .int x1, .int x2, .int x3, .int (x4 + (1 : Int32)), .int (x5 + (1 : Int32))]) rfl am_ci_1 rfl rfl).trans ?_
      refine (ev_goto rfl).trans ?_
      rfl
    · refine (ev_iload rfl rfl).trans ?_
      exact ev_iret rfl
  · refine (ev_goto rfl).trans ?_
    refine (ev_iincv (v := (1 : Int32)) (ls' := [.ref 139, .int x1, .int x2, .int x3, .int x4, .int (x5 + (1 : Int32))]) rfl am_ci_1 rfl rfl).trans ?_
    refine (ev_goto rfl).trans ?_
    rfl
-- 279 X12_closest
set_option maxRecDepth 10000 in
theorem sg_279_e0 (X : am_X) (I : Nat → Nat → Int32) (J : Nat → Nat → Int64) (x1 : Int32) (x2 : Int32) (x3 : Int32) : am_ev X amP_279 0 [.ref 139, .int x1, .int x2, .int x3, .null] [] (am_sh I J) = (am_do X 257 [.ref 139, .int x1, .int x2] (am_sh I J)).bind (fun q => am_ev X amP_279 4 [.ref 139, .int x1, .int x2, .int x3, .null] (q.1.toList ++ []) q.2) := by
  refine (ev_aload rfl rfl).trans ?_
  refine (ev_iload rfl rfl).trans ?_
  refine (ev_iload rfl rfl).trans ?_
  exact ev_invv (as := [.int x2, .int x1]) rfl (by decide) am_K_139 rfl (by simp [Value.category])
theorem cl_279 (X : am_X) (I : Nat → Nat → Int32) (J : Nat → Nat → Int64) (x1 : Int32) (x2 : Int32) (x3 : Int32) : am_do X 279 [.ref 139, .int x1, .int x2, .int x3] (am_sh I J) = am_ev X amP_279 0 [.ref 139, .int x1, .int x2, .int x3, .null] [] (am_sh I J) := am_do_of rfl rfl rfl
set_option maxRecDepth 10000 in
theorem sg_279_4 (X : am_X) (I : Nat → Nat → Int32) (J : Nat → Nat → Int64) (x1 : Int32) (x2 : Int32) (x3 : Int32) (w4 : Value) (x5 : Int32) (hw4 : w4.category = 1) : am_ev X amP_279 4 [.ref 139, .int x1, .int x2, .int x3, w4] [.int x5] (am_sh I J) = (if x5 = 0 then some (some (.int (-1 : Int32)), am_sh I J) else (am_do X 214 [.int x3, .int (0 : Int32), .int (3 : Int32)] (am_sh I J)).bind (fun q => am_ev X amP_279 9 [.ref 139, .int x1, .int x2, .int x3, w4] (q.1.toList ++ []) q.2)) := by
  refine (ev_if0 rfl).trans (am_ite (fun c1 => ?_) (fun c1 => ?_))
  · refine (ev_const0 (v := (-1 : Int32)) rfl am_ci_m1).trans ?_
    exact ev_iret rfl
  · refine (ev_iload rfl rfl).trans ?_
    refine (ev_const0 (v := (0 : Int32)) rfl am_ci_0).trans ?_
    refine (ev_const0 (v := (3 : Int32)) rfl am_ci_3).trans ?_
    exact ev_invs (as := [.int (3 : Int32), .int (0 : Int32), .int x3]) rfl rfl (by simp [Value.category])
set_option maxRecDepth 10000 in
theorem sg_279_9 (X : am_X) (I : Nat → Nat → Int32) (J : Nat → Nat → Int64) (x1 : Int32) (x2 : Int32) (x3 : Int32) (w4 : Value) (x5 : Int32) (hw4 : w4.category = 1) : am_ev X amP_279 9 [.ref 139, .int x1, .int x2, .int x3, w4] [.int x5] (am_sh I J) = (if ¬ x5 = 0 then (am_do X 255 [.ref 139, .int x1, .int x2] (am_sh I J)).bind (fun q => am_ev X amP_279 16 [.ref 139, .int x1, .int x2, .int x3, w4] (q.1.toList ++ []) q.2) else some (some (.int (-1 : Int32)), am_sh I J)) := by
  refine (ev_if1 rfl).trans (am_ite (fun c1 => ?_) (fun c1 => ?_))
  · refine (ev_aload rfl rfl).trans ?_
    refine (ev_iload rfl rfl).trans ?_
    refine (ev_iload rfl rfl).trans ?_
    exact ev_invv (as := [.int x2, .int x1]) rfl (by decide) am_K_139 rfl (by simp [Value.category])
  · refine (ev_const0 (v := (-1 : Int32)) rfl am_ci_m1).trans ?_
    exact ev_iret rfl
set_option maxRecDepth 10000 in
theorem sg_279_16 (X : am_X) (I : Nat → Nat → Int32) (J : Nat → Nat → Int64) (x1 : Int32) (x2 : Int32) (x3 : Int32) (w4 : Value) (x5 : Int32) (hw4 : w4.category = 1) : am_ev X amP_279 16 [.ref 139, .int x1, .int x2, .int x3, w4] [.int x5] (am_sh I J) = (if ¬ x3 = 0 then (if ¬ x3 = (1 : Int32) then (if ¬ x3 = (2 : Int32) then (am_do X 254 [.ref 139, .int x1, .int x2] (am_sh I J)).bind (fun q => am_ev X amP_279 42 [.ref 139, .int x1, .int x2, .int x3, .int x5] (q.1.toList ++ []) q.2) else (am_do X 251 [.ref 139, .int x1, .int x2] (am_sh I J)).bind (fun q => am_ev X amP_279 37 [.ref 139, .int x1, .int x2, .int x3, .int x5] (q.1.toList ++ []) q.2)) else (am_do X 250 [.ref 139, .int x1, .int x2, .int x5] (am_sh I J)).bind (fun q => am_ev X amP_279 29 [.ref 139, .int x1, .int x2, .int x3, .int x5] (q.1.toList ++ []) q.2)) else some (some (.int x5), am_sh I J)) := by
  refine (ev_istore (ls' := [.ref 139, .int x1, .int x2, .int x3, .int x5]) rfl (Nat.le_of_ble_eq_true rfl) rfl).trans ?_
  refine (ev_iload rfl rfl).trans ?_
  refine (ev_if1 rfl).trans (am_ite (fun c1 => ?_) (fun c1 => ?_))
  · refine (ev_iload rfl rfl).trans ?_
    refine (ev_const0 (v := (1 : Int32)) rfl am_ci_1).trans ?_
    refine (ev_icmp1 rfl).trans (am_ite (fun c2 => ?_) (fun c2 => ?_))
    · refine (ev_iload rfl rfl).trans ?_
      refine (ev_const0 (v := (2 : Int32)) rfl am_ci_2).trans ?_
      refine (ev_icmp1 rfl).trans (am_ite (fun c3 => ?_) (fun c3 => ?_))
      · refine (ev_aload rfl rfl).trans ?_
        refine (ev_iload rfl rfl).trans ?_
        refine (ev_iload rfl rfl).trans ?_
        exact ev_invv (as := [.int x2, .int x1]) rfl (by decide) am_K_139 rfl (by simp [Value.category])
      · refine (ev_aload rfl rfl).trans ?_
        refine (ev_iload rfl rfl).trans ?_
        refine (ev_iload rfl rfl).trans ?_
        exact ev_invv (as := [.int x2, .int x1]) rfl (by decide) am_K_139 rfl (by simp [Value.category])
    · refine (ev_aload rfl rfl).trans ?_
      refine (ev_iload rfl rfl).trans ?_
      refine (ev_iload rfl rfl).trans ?_
      refine (ev_iload rfl rfl).trans ?_
      exact ev_invv (as := [.int x5, .int x2, .int x1]) rfl (by decide) am_K_139 rfl (by simp [Value.category])
  · refine (ev_iload rfl rfl).trans ?_
    refine (ev_goto rfl).trans ?_
    exact ev_iret rfl
set_option maxRecDepth 10000 in
theorem sg_279_29 (X : am_X) (I : Nat → Nat → Int32) (J : Nat → Nat → Int64) (x1 : Int32) (x2 : Int32) (x3 : Int32) (x4 : Int32) (x5 : Int32) : am_ev X amP_279 29 [.ref 139, .int x1, .int x2, .int x3, .int x4] [.int x5] (am_sh I J) = some (some (.int x5), am_sh I J) := by
  refine (ev_goto rfl).trans ?_
  exact ev_iret rfl
set_option maxRecDepth 10000 in
theorem sg_279_37 (X : am_X) (I : Nat → Nat → Int32) (J : Nat → Nat → Int64) (x1 : Int32) (x2 : Int32) (x3 : Int32) (x4 : Int32) (x5 : Int32) : am_ev X amP_279 37 [.ref 139, .int x1, .int x2, .int x3, .int x4] [.int x5] (am_sh I J) = some (some (.int x5), am_sh I J) := by
  refine (ev_goto rfl).trans ?_
  exact ev_iret rfl
set_option maxRecDepth 10000 in
theorem sg_279_42 (X : am_X) (I : Nat → Nat → Int32) (J : Nat → Nat → Int64) (x1 : Int32) (x2 : Int32) (x3 : Int32) (x4 : Int32) (x5 : Int32) : am_ev X amP_279 42 [.ref 139, .int x1, .int x2, .int x3, .int x4] [.int x5] (am_sh I J) = (if x5 = 0 then some (some (.int (0 : Int32)), am_sh I J) else some (some (.int (1 : Int32)), am_sh I J)) := by
  refine (ev_if0 rfl).trans (am_ite (fun c1 => ?_) (fun c1 => ?_))
  · refine (ev_const0 (v := (0 : Int32)) rfl am_ci_0).trans ?_
    exact ev_iret rfl
  · refine (ev_const0 (v := (1 : Int32)) rfl am_ci_1).trans ?_
    refine (ev_goto rfl).trans ?_
    exact ev_iret rfl
-- 280 X12_isStretch
set_option maxRecDepth 10000 in
theorem sg_280_e0 (X : am_X) (I : Nat → Nat → Int32) (J : Nat → Nat → Int64) (x1 : Int32) (x2 : Int32) : am_ev X amP_280 0 [.int x1, .int x2] [] (am_sh I J) = (am_do X 258 [.int x1] (am_sh I J)).bind (fun q => am_ev X amP_280 2 [.int x1, .int x2] (q.1.toList ++ []) q.2) := by
  refine (ev_iload rfl rfl).trans ?_
  exact ev_invs (as := [.int x1]) rfl rfl (by simp [Value.category])
theorem cl_280 (X : am_X) (I : Nat → Nat → Int32) (J : Nat → Nat → Int64) (x1 : Int32) (x2 : Int32) : am_do X 280 [.int x1, .int x2] (am_sh I J) = am_ev X amP_280 0 [.int x1, .int x2] [] (am_sh I J) := am_do_of rfl rfl rfl
set_option maxRecDepth 10000 in
theorem sg_280_2 (X : am_X) (I : Nat → Nat → Int32) (J : Nat → Nat → Int64) (x1 : Int32) (x2 : Int32) (x3 : Int32) : am_ev X amP_280 2 [.int x1, .int x2] [.int x3] (am_sh I J) = (if x3 = 0 then some (some (.int (0 : Int32)), am_sh I J) else (am_do X 258 [.int x2] (am_sh I J)).bind (fun q => am_ev X amP_280 5 [.int x1, .int x2] (q.1.toList ++ []) q.2)) := by
  refine (ev_if0 rfl).trans (am_ite (fun c1 => ?_) (fun c1 => ?_))
  · refine (ev_const0 (v := (0 : Int32)) rfl am_ci_0).trans ?_
    exact ev_zret rfl (by decide)
  · refine (ev_iload rfl rfl).trans ?_
    exact ev_invs (as := [.int x2]) rfl rfl (by simp [Value.category])
set_option maxRecDepth 10000 in
theorem sg_280_5 (X : am_X) (I : Nat → Nat → Int32) (J : Nat → Nat → Int64) (x1 : Int32) (x2 : Int32) (x3 : Int32) : am_ev X amP_280 5 [.int x1, .int x2] [.int x3] (am_sh I J) = (if x3 = 0 then some (some (.int (0 : Int32)), am_sh I J) else (if x2 < x1 then some (some (.int (0 : Int32)), am_sh I J) else (if (200 : Int32) < (x2 - x1) then some (some (.int (0 : Int32)), am_sh I J) else some (some (.int (1 : Int32)), am_sh I J)))) := by
  refine (ev_if0 rfl).trans (am_ite (fun c1 => ?_) (fun c1 => ?_))
  · refine (ev_const0 (v := (0 : Int32)) rfl am_ci_0).trans ?_
    exact ev_zret rfl (by decide)
  · refine (ev_iload rfl rfl).trans ?_
    refine (ev_iload rfl rfl).trans ?_
    refine (ev_icmp2 rfl).trans (am_ite (fun c2 => ?_) (fun c2 => ?_))
    · refine (ev_const0 (v := (0 : Int32)) rfl am_ci_0).trans ?_
      exact ev_zret rfl (by decide)
    · refine (ev_iload rfl rfl).trans ?_
      refine (ev_iload rfl rfl).trans ?_
      refine (ev_isub rfl).trans ?_
      refine (ev_const2 (v := (200 : Int32)) rfl am_ci_200).trans ?_
      refine (ev_icmp4 rfl).trans (am_ite (fun c3 => ?_) (fun c3 => ?_))
      · refine (ev_const0 (v := (0 : Int32)) rfl am_ci_0).trans ?_
        exact ev_zret rfl (by decide)
      · refine (ev_const0 (v := (1 : Int32)) rfl am_ci_1).trans ?_
        refine (ev_goto rfl).trans ?_
        exact ev_zret rfl (by decide)
-- 281 X12_edge
set_option maxRecDepth 10000 in
theorem sg_281_e0 (X : am_X) (I : Nat → Nat → Int32) (J : Nat → Nat → Int64) (x1 : Int32) (x2 : Int32) (x3 : Int32) (x4 : Int32) : am_ev X amP_281 0 [.ref 139, .int x1, .int x2, .int x3, .int x4, .null, .null] [] (am_sh I J) = (am_do X 249 [.ref 139, .int x1, .int x2, .int (x4 - x4 / (3 : Int32) * (3 : Int32))] (am_sh I J)).bind (fun q => am_ev X amP_281 7 [.ref 139, .int x1, .int x2, .int x3, .int x4, .null, .null] (q.1.toList ++ []) q.2) := by
  refine (ev_aload rfl rfl).trans ?_
  refine (ev_iload rfl rfl).trans ?_
  refine (ev_iload rfl rfl).trans ?_
  refine (ev_iload rfl rfl).trans ?_
  refine (ev_const0 (v := (3 : Int32)) rfl am_ci_3).trans ?_
  refine (ev_iremN (by decide) rfl).trans ?_
  exact ev_invv (as := [.int (x4 - x4 / (3 : Int32) * (3 : Int32)), .int x2, .int x1]) rfl (by decide) am_K_139 rfl (by simp [Value.category])
theorem cl_281 (X : am_X) (I : Nat → Nat → Int32) (J : Nat → Nat → Int64) (x1 : Int32) (x2 : Int32) (x3 : Int32) (x4 : Int32) : am_do X 281 [.ref 139, .int x1, .int x2, .int x3, .int x4] (am_sh I J) = am_ev X amP_281 0 [.ref 139, .int x1, .int x2, .int x3, .int x4, .null, .null] [] (am_sh I J) := am_do_of rfl rfl rfl
set_option maxRecDepth 10000 in
theorem sg_281_7 (X : am_X) (I : Nat → Nat → Int32) (J : Nat → Nat → Int64) (x1 : Int32) (x2 : Int32) (x3 : Int32) (x4 : Int32) (w5 : Value) (w6 : Value) (x7 : Int32) (hw5 : w5.category = 1) (hw6 : w6.category = 1) : am_ev X amP_281 7 [.ref 139, .int x1, .int x2, .int x3, .int x4, w5, w6] [.int x7] (am_sh I J) = am_ev X amP_281 10 [.ref 139, .int x1, .int x2, .int x3, .int x4, .int x7, .int x2] [] (am_sh I J) := by
  refine (ev_istore (ls' := [.ref 139, .int x1, .int x2, .int x3, .int x4, .int x7, w6]) rfl (Nat.le_of_ble_eq_true rfl) rfl).trans ?_
  refine (ev_iload rfl rfl).trans ?_
  refine (ev_istore (ls' := [.ref 139, .int x1, .int x2, .int x3, .int x4, .int x7, .int x2]) rfl (Nat.le_of_ble_eq_true rfl) rfl).trans ?_
  rfl
set_option maxRecDepth 10000 in
theorem sg_281_10 (X : am_X) (I : Nat → Nat → Int32) (J : Nat → Nat → Int64) (x1 : Int32) (x2 : Int32) (x3 : Int32) (x4 : Int32) (x5 : Int32) (x6 : Int32) : am_ev X amP_281 10 [.ref 139, .int x1, .int x2, .int x3, .int x4, .int x5, .int x6] [] (am_sh I J) = (if x3 < x6 then some (some (.int x5), am_sh I J) else (if (3 : Int32) ≤ x4 then (am_do X 249 [.ref 139, .int x1, .int x6, .int (x4 - (3 : Int32))] (am_sh I J)).bind (fun q => am_ev X amP_281 32 [.ref 139, .int x1, .int x2, .int x3, .int x4, .int x5, .int x6] (q.1.toList ++ [.int x5]) q.2) else (am_do X 249 [.ref 139, .int x1, .int x6, .int x4] (am_sh I J)).bind (fun q => am_ev X amP_281 22 [.ref 139, .int x1, .int x2, .int x3, .int x4, .int x5, .int x6] (q.1.toList ++ [.int x5]) q.2))) := by
  refine (ev_iload rfl rfl).trans ?_
  refine (ev_iload rfl rfl).trans ?_
  refine (ev_icmp4 rfl).trans (am_ite (fun c1 => ?_) (fun c1 => ?_))
  · refine (ev_iload rfl rfl).trans ?_
    exact ev_iret rfl
  · refine (ev_iload rfl rfl).trans ?_
    refine (ev_const0 (v := (3 : Int32)) rfl am_ci_3).trans ?_
    refine (ev_icmp3 rfl).trans (am_ite (fun c2 => ?_) (fun c2 => ?_))
    · refine (ev_iload rfl rfl).trans ?_
      refine (ev_aload rfl rfl).trans ?_
      refine (ev_iload rfl rfl).trans ?_
      refine (ev_iload rfl rfl).trans ?_
      refine (ev_iload rfl rfl).trans ?_
      refine (ev_const0 (v := (3 : Int32)) rfl am_ci_3).trans ?_
      refine (ev_isub rfl).trans ?_
      exact ev_invv (as := [.int (x4 - (3 : Int32)), .int x6, .int x1]) rfl (by decide) am_K_139 rfl (by simp [Value.category])
    · refine (ev_iload rfl rfl).trans ?_
      refine (ev_aload rfl rfl).trans ?_
      refine (ev_iload rfl rfl).trans ?_
      refine (ev_iload rfl rfl).trans ?_
      refine (ev_iload rfl rfl).trans ?_
      exact ev_invv (as := [.int x4, .int x6, .int x1]) rfl (by decide) am_K_139 rfl (by simp [Value.category])
set_option maxRecDepth 10000 in
theorem sg_281_22 (X : am_X) (I : Nat → Nat → Int32) (J : Nat → Nat → Int64) (x1 : Int32) (x2 : Int32) (x3 : Int32) (x4 : Int32) (x5 : Int32) (x6 : Int32) (x7 : Int32) (x8 : Int32) : am_ev X amP_281 22 [.ref 139, .int x1, .int x2, .int x3, .int x4, .int x5, .int x6] [.int x8, .int x7] (am_sh I J) = (am_do X 215 [.int x7, .int x8] (am_sh I J)).bind (fun q => am_ev X amP_281 23 [.ref 139, .int x1, .int x2, .int x3, .int x4, .int x5, .int x6] (q.1.toList ++ []) q.2) := by
  exact ev_invs (as := [.int x8, .int x7]) rfl rfl (by simp [Value.category])
set_option maxRecDepth 10000 in
theorem sg_281_23 (X : am_X) (I : Nat → Nat → Int32) (J : Nat → Nat → Int64) (x1 : Int32) (x2 : Int32) (x3 : Int32) (x4 : Int32) (x5 : Int32) (x6 : Int32) (x7 : Int32) : am_ev X amP_281 23 [.ref 139, .int x1, .int x2, .int x3, .int x4, .int x5, .int x6] [.int x7] (am_sh I J) = am_ev X amP_281 10 [.ref 139, .int x1, .int x2, .int x3, .int x4, .int x7, .int (x6 + (1 : Int32))] [] (am_sh I J) := by
  refine (ev_goto rfl).trans ?_
  refine (ev_istore (ls' := [.ref 139, .int x1, .int x2, .int x3, .int x4, .int x7, .int x6]) rfl (Nat.le_of_ble_eq_true rfl) rfl).trans ?_
  refine (ev_iincv (v := (1 : Int32)) (ls' := [.ref 139, .int x1, .int x2, .int x3, .int x4, .int x7, .int (x6 + (1 : Int32))]) rfl am_ci_1 rfl rfl).trans ?_
  refine (ev_goto rfl).trans ?_
  rfl
set_option maxRecDepth 10000 in
theorem sg_281_32 (X : am_X) (I : Nat → Nat → Int32) (J : Nat → Nat → Int64) (x1 : Int32) (x2 : Int32) (x3 : Int32) (x4 : Int32) (x5 : Int32) (x6 : Int32) (x7 : Int32) (x8 : Int32) : am_ev X amP_281 32 [.ref 139, .int x1, .int x2, .int x3, .int x4, .int x5, .int x6] [.int x8, .int x7] (am_sh I J) = (am_do X 216 [.int x7, .int x8] (am_sh I J)).bind (fun q => am_ev X amP_281 33 [.ref 139, .int x1, .int x2, .int x3, .int x4, .int x5, .int x6] (q.1.toList ++ []) q.2) := by
  exact ev_invs (as := [.int x8, .int x7]) rfl rfl (by simp [Value.category])
set_option maxRecDepth 10000 in
theorem sg_281_33 (X : am_X) (I : Nat → Nat → Int32) (J : Nat → Nat → Int64) (x1 : Int32) (x2 : Int32) (x3 : Int32) (x4 : Int32) (x5 : Int32) (x6 : Int32) (x7 : Int32) : am_ev X amP_281 33 [.ref 139, .int x1, .int x2, .int x3, .int x4, .int x5, .int x6] [.int x7] (am_sh I J) = am_ev X amP_281 10 [.ref 139, .int x1, .int x2, .int x3, .int x4, .int x7, .int (x6 + (1 : Int32))] [] (am_sh I J) := by
  refine (ev_istore (ls' := [.ref 139, .int x1, .int x2, .int x3, .int x4, .int x7, .int x6]) rfl (Nat.le_of_ble_eq_true rfl) rfl).trans ?_
  refine (ev_iincv (v := (1 : Int32)) (ls' := [.ref 139, .int x1, .int x2, .int x3, .int x4, .int x7, .int (x6 + (1 : Int32))]) rfl am_ci_1 rfl rfl).trans ?_
  refine (ev_goto rfl).trans ?_
  rfl
-- 282 X12_box
set_option maxRecDepth 10000 in
theorem sg_282_e0 (X : am_X) (I : Nat → Nat → Int32) (J : Nat → Nat → Int64) (x1 : Int32) (x2 : Int32) (x3 : Int32) (x4 : Int32) : am_ev X amP_282 0 [.ref 139, .int x1, .int x2, .int x3, .int x4] [] (am_sh I J) = (am_do X 256 [.ref 139, .int x1] (am_sh I J)).bind (fun q => am_ev X amP_282 3 [.ref 139, .int x1, .int x2, .int x3, .int x4] (q.1.toList ++ []) q.2) := by
  refine (ev_aload rfl rfl).trans ?_
  refine (ev_iload rfl rfl).trans ?_
  exact ev_invv (as := [.int x1]) rfl (by decide) am_K_139 rfl (by simp [Value.category])
theorem cl_282 (X : am_X) (I : Nat → Nat → Int32) (J : Nat → Nat → Int64) (x1 : Int32) (x2 : Int32) (x3 : Int32) (x4 : Int32) : am_do X 282 [.ref 139, .int x1, .int x2, .int x3, .int x4] (am_sh I J) = am_ev X amP_282 0 [.ref 139, .int x1, .int x2, .int x3, .int x4] [] (am_sh I J) := am_do_of rfl rfl rfl
set_option maxRecDepth 10000 in
theorem sg_282_3 (X : am_X) (I : Nat → Nat → Int32) (J : Nat → Nat → Int64) (x1 : Int32) (x2 : Int32) (x3 : Int32) (x4 : Int32) (x5 : Int32) : am_ev X amP_282 3 [.ref 139, .int x1, .int x2, .int x3, .int x4] [.int x5] (am_sh I J) = (if x5 = 0 then some (some (.int (-1000000 : Int32)), am_sh I J) else (am_do X 280 [.int x2, .int x3] (am_sh I J)).bind (fun q => am_ev X amP_282 7 [.ref 139, .int x1, .int x2, .int x3, .int x4] (q.1.toList ++ []) q.2)) := by
  refine (ev_if0 rfl).trans (am_ite (fun c1 => ?_) (fun c1 => ?_))
  · refine (ev_const4 (v := (-1000000 : Int32)) rfl am_ci_m1000000).trans ?_
    exact ev_iret rfl
  · refine (ev_iload rfl rfl).trans ?_
    refine (ev_iload rfl rfl).trans ?_
    exact ev_invs (as := [.int x3, .int x2]) rfl rfl (by simp [Value.category])
set_option maxRecDepth 10000 in
theorem sg_282_7 (X : am_X) (I : Nat → Nat → Int32) (J : Nat → Nat → Int64) (x1 : Int32) (x2 : Int32) (x3 : Int32) (x4 : Int32) (x5 : Int32) : am_ev X amP_282 7 [.ref 139, .int x1, .int x2, .int x3, .int x4] [.int x5] (am_sh I J) = (if x5 = 0 then some (some (.int (-1000000 : Int32)), am_sh I J) else (am_do X 214 [.int x4, .int (0 : Int32), .int (5 : Int32)] (am_sh I J)).bind (fun q => am_ev X amP_282 12 [.ref 139, .int x1, .int x2, .int x3, .int x4] (q.1.toList ++ []) q.2)) := by
  refine (ev_if0 rfl).trans (am_ite (fun c1 => ?_) (fun c1 => ?_))
  · refine (ev_const4 (v := (-1000000 : Int32)) rfl am_ci_m1000000).trans ?_
    exact ev_iret rfl
  · refine (ev_iload rfl rfl).trans ?_
    refine (ev_const0 (v := (0 : Int32)) rfl am_ci_0).trans ?_
    refine (ev_const0 (v := (5 : Int32)) rfl am_ci_5).trans ?_
    exact ev_invs (as := [.int (5 : Int32), .int (0 : Int32), .int x4]) rfl rfl (by simp [Value.category])
set_option maxRecDepth 10000 in
theorem sg_282_12 (X : am_X) (I : Nat → Nat → Int32) (J : Nat → Nat → Int64) (x1 : Int32) (x2 : Int32) (x3 : Int32) (x4 : Int32) (x5 : Int32) : am_ev X amP_282 12 [.ref 139, .int x1, .int x2, .int x3, .int x4] [.int x5] (am_sh I J) = (if x5 = 0 then some (some (.int (-1000000 : Int32)), am_sh I J) else (am_do X 281 [.ref 139, .int x1, .int x2, .int x3, .int x4] (am_sh I J)).bind (fun q => am_ev X amP_282 19 [.ref 139, .int x1, .int x2, .int x3, .int x4] (q.1.toList ++ []) q.2)) := by
  refine (ev_if0 rfl).trans (am_ite (fun c1 => ?_) (fun c1 => ?_))
  · refine (ev_const4 (v := (-1000000 : Int32)) rfl am_ci_m1000000).trans ?_
    exact ev_iret rfl
  · refine (ev_aload rfl rfl).trans ?_
    refine (ev_iload rfl rfl).trans ?_
    refine (ev_iload rfl rfl).trans ?_
    refine (ev_iload rfl rfl).trans ?_
    refine (ev_iload rfl rfl).trans ?_
    exact ev_invv (as := [.int x4, .int x3, .int x2, .int x1]) rfl (by decide) am_K_139 rfl (by simp [Value.category])
set_option maxRecDepth 10000 in
theorem sg_282_19 (X : am_X) (I : Nat → Nat → Int32) (J : Nat → Nat → Int64) (x1 : Int32) (x2 : Int32) (x3 : Int32) (x4 : Int32) (x5 : Int32) : am_ev X amP_282 19 [.ref 139, .int x1, .int x2, .int x3, .int x4] [.int x5] (am_sh I J) = some (some (.int x5), am_sh I J) := by
  refine (ev_goto rfl).trans ?_
  exact ev_iret rfl
-- 283 X12_apart
set_option maxRecDepth 10000 in
theorem sg_283_e0 (X : am_X) (I : Nat → Nat → Int32) (J : Nat → Nat → Int64) (x1 : Int32) (x2 : Int32) (x3 : Int32) (x4 : Int32) : am_ev X amP_283 0 [.ref 139, .int x1, .int x2, .int x3, .int x4, .null, .null, .null] [] (am_sh I J) = (am_do X 257 [.ref 139, .int x1, .int x2] (am_sh I J)).bind (fun q => am_ev X amP_283 4 [.ref 139, .int x1, .int x2, .int x3, .int x4, .null, .null, .null] (q.1.toList ++ []) q.2) := by
  refine (ev_aload rfl rfl).trans ?_
  refine (ev_iload rfl rfl).trans ?_
  refine (ev_iload rfl rfl).trans ?_
  exact ev_invv (as := [.int x2, .int x1]) rfl (by decide) am_K_139 rfl (by simp [Value.category])
theorem cl_283 (X : am_X) (I : Nat → Nat → Int32) (J : Nat → Nat → Int64) (x1 : Int32) (x2 : Int32) (x3 : Int32) (x4 : Int32) : am_do X 283 [.ref 139, .int x1, .int x2, .int x3, .int x4] (am_sh I J) = am_ev X amP_283 0 [.ref 139, .int x1, .int x2, .int x3, .int x4, .null, .null, .null] [] (am_sh I J) := am_do_of rfl rfl rfl
set_option maxRecDepth 10000 in
theorem sg_283_4 (X : am_X) (I : Nat → Nat → Int32) (J : Nat → Nat → Int64) (x1 : Int32) (x2 : Int32) (x3 : Int32) (x4 : Int32) (w5 : Value) (w6 : Value) (w7 : Value) (x8 : Int32) (hw5 : w5.category = 1) (hw6 : w6.category = 1) (hw7 : w7.category = 1) : am_ev X amP_283 4 [.ref 139, .int x1, .int x2, .int x3, .int x4, w5, w6, w7] [.int x8] (am_sh I J) = (if x8 = 0 then some (some (.int (-1 : Int32)), am_sh I J) else (am_do X 280 [.int x3, .int x4] (am_sh I J)).bind (fun q => am_ev X amP_283 8 [.ref 139, .int x1, .int x2, .int x3, .int x4, w5, w6, w7] (q.1.toList ++ []) q.2)) := by
  refine (ev_if0 rfl).trans (am_ite (fun c1 => ?_) (fun c1 => ?_))
  · refine (ev_const0 (v := (-1 : Int32)) rfl am_ci_m1).trans ?_
    exact ev_iret rfl
  · refine (ev_iload rfl rfl).trans ?_
    refine (ev_iload rfl rfl).trans ?_
    exact ev_invs (as := [.int x4, .int x3]) rfl rfl (by simp [Value.category])
set_option maxRecDepth 10000 in
theorem sg_283_8 (X : am_X) (I : Nat → Nat → Int32) (J : Nat → Nat → Int64) (x1 : Int32) (x2 : Int32) (x3 : Int32) (x4 : Int32) (w5 : Value) (w6 : Value) (w7 : Value) (x8 : Int32) (hw5 : w5.category = 1) (hw6 : w6.category = 1) (hw7 : w7.category = 1) : am_ev X amP_283 8 [.ref 139, .int x1, .int x2, .int x3, .int x4, w5, w6, w7] [.int x8] (am_sh I J) = (if ¬ x8 = 0 then am_ev X amP_283 15 [.ref 139, .int x1, .int x2, .int x3, .int x4, .int (0 : Int32), .int (0 : Int32), w7] [] (am_sh I J) else some (some (.int (-1 : Int32)), am_sh I J)) := by
  refine (ev_if1 rfl).trans (am_ite (fun c1 => ?_) (fun c1 => ?_))
  · refine (ev_const0 (v := (0 : Int32)) rfl am_ci_0).trans ?_
    refine (ev_istore (ls' := [.ref 139, .int x1, .int x2, .int x3, .int x4, .int (0 : Int32), w6, w7]) rfl (Nat.le_of_ble_eq_true rfl) rfl).trans ?_
    refine (ev_const0 (v := (0 : Int32)) rfl am_ci_0).trans ?_
    refine (ev_istore (ls' := [.ref 139, .int x1, .int x2, .int x3, .int x4, .int (0 : Int32), .int (0 : Int32), w7]) rfl (Nat.le_of_ble_eq_true rfl) rfl).trans ?_
    rfl
  · refine (ev_const0 (v := (-1 : Int32)) rfl am_ci_m1).trans ?_
    exact ev_iret rfl
set_option maxRecDepth 10000 in
theorem sg_283_15 (X : am_X) (I : Nat → Nat → Int32) (J : Nat → Nat → Int64) (x1 : Int32) (x2 : Int32) (x3 : Int32) (x4 : Int32) (x5 : Int32) (x6 : Int32) (w7 : Value) (hw7 : w7.category = 1) : am_ev X amP_283 15 [.ref 139, .int x1, .int x2, .int x3, .int x4, .int x5, .int x6, w7] [] (am_sh I J) = (if (3 : Int32) ≤ x6 then some (some (.int x5), am_sh I J) else (am_do X 281 [.ref 139, .int x1, .int x3, .int x4, .int x6] (am_sh I J)).bind (fun q => am_ev X amP_283 24 [.ref 139, .int x1, .int x2, .int x3, .int x4, .int x5, .int x6, w7] (q.1.toList ++ []) q.2)) := by
  refine (ev_iload rfl rfl).trans ?_
  refine (ev_const0 (v := (3 : Int32)) rfl am_ci_3).trans ?_
  refine (ev_icmp3 rfl).trans (am_ite (fun c1 => ?_) (fun c1 => ?_))
  · refine (ev_iload rfl rfl).trans ?_
    exact ev_iret rfl
  · refine (ev_aload rfl rfl).trans ?_
    refine (ev_iload rfl rfl).trans ?_
    refine (ev_iload rfl rfl).trans ?_
    refine (ev_iload rfl rfl).trans ?_
    refine (ev_iload rfl rfl).trans ?_
    exact ev_invv (as := [.int x6, .int x4, .int x3, .int x1]) rfl (by decide) am_K_139 rfl (by simp [Value.category])
set_option maxRecDepth 10000 in
theorem sg_283_24 (X : am_X) (I : Nat → Nat → Int32) (J : Nat → Nat → Int64) (x1 : Int32) (x2 : Int32) (x3 : Int32) (x4 : Int32) (x5 : Int32) (x6 : Int32) (w7 : Value) (x8 : Int32) (hw7 : w7.category = 1) : am_ev X amP_283 24 [.ref 139, .int x1, .int x2, .int x3, .int x4, .int x5, .int x6, w7] [.int x8] (am_sh I J) = (am_do X 281 [.ref 139, .int x2, .int x3, .int x4, .int (x6 + (3 : Int32))] (am_sh I J)).bind (fun q => am_ev X amP_283 32 [.ref 139, .int x1, .int x2, .int x3, .int x4, .int x5, .int x6, w7] (q.1.toList ++ [.int x8]) q.2) := by
  refine (ev_aload rfl rfl).trans ?_
  refine (ev_iload rfl rfl).trans ?_
  refine (ev_iload rfl rfl).trans ?_
  refine (ev_iload rfl rfl).trans ?_
  refine (ev_iload rfl rfl).trans ?_
  refine (ev_const0 (v := (3 : Int32)) rfl am_ci_3).trans ?_
  refine (ev_iadd rfl).trans ?_
  exact ev_invv (as := [.int (x6 + (3 : Int32)), .int x4, .int x3, .int x2]) rfl (by decide) am_K_139 rfl (by simp [Value.category])
set_option maxRecDepth 10000 in
theorem sg_283_32 (X : am_X) (I : Nat → Nat → Int32) (J : Nat → Nat → Int64) (x1 : Int32) (x2 : Int32) (x3 : Int32) (x4 : Int32) (x5 : Int32) (x6 : Int32) (w7 : Value) (x8 : Int32) (x9 : Int32) (hw7 : w7.category = 1) : am_ev X amP_283 32 [.ref 139, .int x1, .int x2, .int x3, .int x4, .int x5, .int x6, w7] [.int x9, .int x8] (am_sh I J) = (am_do X 281 [.ref 139, .int x2, .int x3, .int x4, .int x6] (am_sh I J)).bind (fun q => am_ev X amP_283 39 [.ref 139, .int x1, .int x2, .int x3, .int x4, .int x5, .int x6, w7] (q.1.toList ++ [.int (x8 - x9)]) q.2) := by
  refine (ev_isub rfl).trans ?_
  refine (ev_aload rfl rfl).trans ?_
  refine (ev_iload rfl rfl).trans ?_
  refine (ev_iload rfl rfl).trans ?_
  refine (ev_iload rfl rfl).trans ?_
  refine (ev_iload rfl rfl).trans ?_
  exact ev_invv (as := [.int x6, .int x4, .int x3, .int x2]) rfl (by decide) am_K_139 rfl (by simp [Value.category])
set_option maxRecDepth 10000 in
theorem sg_283_39 (X : am_X) (I : Nat → Nat → Int32) (J : Nat → Nat → Int64) (x1 : Int32) (x2 : Int32) (x3 : Int32) (x4 : Int32) (x5 : Int32) (x6 : Int32) (w7 : Value) (x8 : Int32) (x9 : Int32) (hw7 : w7.category = 1) : am_ev X amP_283 39 [.ref 139, .int x1, .int x2, .int x3, .int x4, .int x5, .int x6, w7] [.int x9, .int x8] (am_sh I J) = (am_do X 281 [.ref 139, .int x1, .int x3, .int x4, .int (x6 + (3 : Int32))] (am_sh I J)).bind (fun q => am_ev X amP_283 47 [.ref 139, .int x1, .int x2, .int x3, .int x4, .int x5, .int x6, w7] (q.1.toList ++ [.int x9, .int x8]) q.2) := by
  refine (ev_aload rfl rfl).trans ?_
  refine (ev_iload rfl rfl).trans ?_
  refine (ev_iload rfl rfl).trans ?_
  refine (ev_iload rfl rfl).trans ?_
  refine (ev_iload rfl rfl).trans ?_
  refine (ev_const0 (v := (3 : Int32)) rfl am_ci_3).trans ?_
  refine (ev_iadd rfl).trans ?_
  exact ev_invv (as := [.int (x6 + (3 : Int32)), .int x4, .int x3, .int x1]) rfl (by decide) am_K_139 rfl (by simp [Value.category])
set_option maxRecDepth 10000 in
theorem sg_283_47 (X : am_X) (I : Nat → Nat → Int32) (J : Nat → Nat → Int64) (x1 : Int32) (x2 : Int32) (x3 : Int32) (x4 : Int32) (x5 : Int32) (x6 : Int32) (w7 : Value) (x8 : Int32) (x9 : Int32) (x10 : Int32) (hw7 : w7.category = 1) : am_ev X amP_283 47 [.ref 139, .int x1, .int x2, .int x3, .int x4, .int x5, .int x6, w7] [.int x10, .int x9, .int x8] (am_sh I J) = (am_do X 216 [.int x8, .int (x9 - x10)] (am_sh I J)).bind (fun q => am_ev X amP_283 49 [.ref 139, .int x1, .int x2, .int x3, .int x4, .int x5, .int x6, w7] (q.1.toList ++ []) q.2) := by
  refine (ev_isub rfl).trans ?_
  exact ev_invs (as := [.int (x9 - x10), .int x8]) rfl rfl (by simp [Value.category])
set_option maxRecDepth 10000 in
theorem sg_283_49 (X : am_X) (I : Nat → Nat → Int32) (J : Nat → Nat → Int64) (x1 : Int32) (x2 : Int32) (x3 : Int32) (x4 : Int32) (x5 : Int32) (x6 : Int32) (w7 : Value) (x8 : Int32) (hw7 : w7.category = 1) : am_ev X amP_283 49 [.ref 139, .int x1, .int x2, .int x3, .int x4, .int x5, .int x6, w7] [.int x8] (am_sh I J) = (if x8 ≤ 0 then am_ev X amP_283 15 [.ref 139, .int x1, .int x2, .int x3, .int x4, .int (x5 + (0 : Int32)), .int (x6 + (1 : Int32)), .int x8] [] (am_sh I J) else am_ev X amP_283 15 [.ref 139, .int x1, .int x2, .int x3, .int x4, .int (x5 + (x8 * x8)), .int (x6 + (1 : Int32)), .int x8] [] (am_sh I J)) := by
  refine (ev_istore (ls' := [.ref 139, .int x1, .int x2, .int x3, .int x4, .int x5, .int x6, .int x8]) rfl (Nat.le_of_ble_eq_true rfl) rfl).trans ?_
  refine (ev_iload rfl rfl).trans ?_
  refine (ev_iload rfl rfl).trans ?_
  refine (ev_if5 rfl).trans (am_ite (fun c1 => ?_) (fun c1 => ?_))
  · refine (ev_const0 (v := (0 : Int32)) rfl am_ci_0).trans ?_
    refine (ev_iadd rfl).trans ?_
    refine (ev_istore (ls' := [.ref 139, .int x1, .int x2, .int x3, .int x4, .int (x5 + (0 : Int32)), .int x6, .int x8]) rfl (Nat.le_of_ble_eq_true rfl) rfl).trans ?_
    refine (ev_iincv (v := (1 : Int32)) (ls' := [.ref 139, .int x1, .int x2, .int x3, .int x4, .int (x5 + (0 : Int32)), .int (x6 + (1 : Int32)), .int x8]) rfl am_ci_1 rfl rfl).trans ?_
    refine (ev_goto rfl).trans ?_
    rfl
  · refine (ev_iload rfl rfl).trans ?_
    refine (ev_iload rfl rfl).trans ?_
    refine (ev_imul rfl).trans ?_
    refine (ev_goto rfl).trans ?_
    refine (ev_iadd rfl).trans ?_
    refine (ev_istore (ls' := [.ref 139, .int x1, .int x2, .int x3, .int x4, .int (x5 + (x8 * x8)), .int x6, .int x8]) rfl (Nat.le_of_ble_eq_true rfl) rfl).trans ?_
    refine (ev_iincv (v := (1 : Int32)) (ls' := [.ref 139, .int x1, .int x2, .int x3, .int x4, .int (x5 + (x8 * x8)), .int (x6 + (1 : Int32)), .int x8]) rfl am_ci_1 rfl rfl).trans ?_
    refine (ev_goto rfl).trans ?_
    rfl
-- 284 X12_isPassing
set_option maxRecDepth 10000 in
theorem sg_284_e0 (X : am_X) (I : Nat → Nat → Int32) (J : Nat → Nat → Int64) (x1 : Int32) (x2 : Int32) (x3 : Int32) : am_ev X amP_284 0 [.ref 139, .int x1, .int x2, .int x3] [] (am_sh I J) = (if x3 < 0 then some (some (.int (0 : Int32)), am_sh I J) else (am_do X 251 [.ref 139, .int x1, .int x2] (am_sh I J)).bind (fun q => am_ev X amP_284 7 [.ref 139, .int x1, .int x2, .int x3] (q.1.toList ++ [.int x3]) q.2)) := by
  refine (ev_iload rfl rfl).trans ?_
  refine (ev_if2 rfl).trans (am_ite (fun c1 => ?_) (fun c1 => ?_))
  · refine (ev_const0 (v := (0 : Int32)) rfl am_ci_0).trans ?_
    exact ev_zret rfl (by decide)
  · refine (ev_iload rfl rfl).trans ?_
    refine (ev_aload rfl rfl).trans ?_
    refine (ev_iload rfl rfl).trans ?_
    refine (ev_iload rfl rfl).trans ?_
    exact ev_invv (as := [.int x2, .int x1]) rfl (by decide) am_K_139 rfl (by simp [Value.category])
theorem cl_284 (X : am_X) (I : Nat → Nat → Int32) (J : Nat → Nat → Int64) (x1 : Int32) (x2 : Int32) (x3 : Int32) : am_do X 284 [.ref 139, .int x1, .int x2, .int x3] (am_sh I J) = am_ev X amP_284 0 [.ref 139, .int x1, .int x2, .int x3] [] (am_sh I J) := am_do_of rfl rfl rfl
set_option maxRecDepth 10000 in
theorem sg_284_7 (X : am_X) (I : Nat → Nat → Int32) (J : Nat → Nat → Int64) (x1 : Int32) (x2 : Int32) (x3 : Int32) (x4 : Int32) (x5 : Int32) : am_ev X amP_284 7 [.ref 139, .int x1, .int x2, .int x3] [.int x5, .int x4] (am_sh I J) = (if x5 ≤ x4 then some (some (.int (0 : Int32)), am_sh I J) else (am_do X 250 [.ref 139, .int x1, .int x2, .int x3] (am_sh I J)).bind (fun q => am_ev X amP_284 13 [.ref 139, .int x1, .int x2, .int x3] (q.1.toList ++ []) q.2)) := by
  refine (ev_icmp3 rfl).trans (am_ite (fun c1 => ?_) (fun c1 => ?_))
  · refine (ev_const0 (v := (0 : Int32)) rfl am_ci_0).trans ?_
    exact ev_zret rfl (by decide)
  · refine (ev_aload rfl rfl).trans ?_
    refine (ev_iload rfl rfl).trans ?_
    refine (ev_iload rfl rfl).trans ?_
    refine (ev_iload rfl rfl).trans ?_
    exact ev_invv (as := [.int x3, .int x2, .int x1]) rfl (by decide) am_K_139 rfl (by simp [Value.category])
set_option maxRecDepth 10000 in
theorem sg_284_13 (X : am_X) (I : Nat → Nat → Int32) (J : Nat → Nat → Int64) (x1 : Int32) (x2 : Int32) (x3 : Int32) (x4 : Int32) : am_ev X amP_284 13 [.ref 139, .int x1, .int x2, .int x3] [.int x4] (am_sh I J) = (am_do X 252 [.ref 139] (am_sh I J)).bind (fun q => am_ev X amP_284 15 [.ref 139, .int x1, .int x2, .int x3] (q.1.toList ++ [.int x4]) q.2) := by
  refine (ev_aload rfl rfl).trans ?_
  exact ev_invv (as := []) rfl (by decide) am_K_139 rfl (by simp [Value.category])
set_option maxRecDepth 10000 in
theorem sg_284_15 (X : am_X) (I : Nat → Nat → Int32) (J : Nat → Nat → Int64) (x1 : Int32) (x2 : Int32) (x3 : Int32) (x4 : Int32) (x5 : Int32) : am_ev X amP_284 15 [.ref 139, .int x1, .int x2, .int x3] [.int x5, .int x4] (am_sh I J) = (if x5 < x4 then some (some (.int (0 : Int32)), am_sh I J) else some (some (.int (1 : Int32)), am_sh I J)) := by
  refine (ev_icmp4 rfl).trans (am_ite (fun c1 => ?_) (fun c1 => ?_))
  · refine (ev_const0 (v := (0 : Int32)) rfl am_ci_0).trans ?_
    exact ev_zret rfl (by decide)
  · refine (ev_const0 (v := (1 : Int32)) rfl am_ci_1).trans ?_
    refine (ev_goto rfl).trans ?_
    exact ev_zret rfl (by decide)
-- 285 X12_passes
set_option maxRecDepth 10000 in
theorem sg_285_e0 (X : am_X) (I : Nat → Nat → Int32) (J : Nat → Nat → Int64) (x1 : Int32) (x2 : Int32) : am_ev X amP_285 0 [.ref 139, .int x1, .int x2, .null, .null] [] (am_sh I J) = (am_do X 257 [.ref 139, .int x1, .int x2] (am_sh I J)).bind (fun q => am_ev X amP_285 4 [.ref 139, .int x1, .int x2, .null, .null] (q.1.toList ++ []) q.2) := by
  refine (ev_aload rfl rfl).trans ?_
  refine (ev_iload rfl rfl).trans ?_
  refine (ev_iload rfl rfl).trans ?_
  exact ev_invv (as := [.int x2, .int x1]) rfl (by decide) am_K_139 rfl (by simp [Value.category])
theorem cl_285 (X : am_X) (I : Nat → Nat → Int32) (J : Nat → Nat → Int64) (x1 : Int32) (x2 : Int32) : am_do X 285 [.ref 139, .int x1, .int x2] (am_sh I J) = am_ev X amP_285 0 [.ref 139, .int x1, .int x2, .null, .null] [] (am_sh I J) := am_do_of rfl rfl rfl
set_option maxRecDepth 10000 in
theorem sg_285_4 (X : am_X) (I : Nat → Nat → Int32) (J : Nat → Nat → Int64) (x1 : Int32) (x2 : Int32) (w3 : Value) (w4 : Value) (x5 : Int32) (hw3 : w3.category = 1) (hw4 : w4.category = 1) : am_ev X amP_285 4 [.ref 139, .int x1, .int x2, w3, w4] [.int x5] (am_sh I J) = (if ¬ x5 = 0 then am_ev X amP_285 11 [.ref 139, .int x1, .int x2, .int (0 : Int32), .int (0 : Int32)] [] (am_sh I J) else some (some (.int (-1 : Int32)), am_sh I J)) := by
  refine (ev_if1 rfl).trans (am_ite (fun c1 => ?_) (fun c1 => ?_))
  · refine (ev_const0 (v := (0 : Int32)) rfl am_ci_0).trans ?_
    refine (ev_istore (ls' := [.ref 139, .int x1, .int x2, .int (0 : Int32), w4]) rfl (Nat.le_of_ble_eq_true rfl) rfl).trans ?_
    refine (ev_const0 (v := (0 : Int32)) rfl am_ci_0).trans ?_
    refine (ev_istore (ls' := [.ref 139, .int x1, .int x2, .int (0 : Int32), .int (0 : Int32)]) rfl (Nat.le_of_ble_eq_true rfl) rfl).trans ?_
    rfl
  · refine (ev_const0 (v := (-1 : Int32)) rfl am_ci_m1).trans ?_
    exact ev_iret rfl
set_option maxRecDepth 10000 in
theorem sg_285_11 (X : am_X) (I : Nat → Nat → Int32) (J : Nat → Nat → Int64) (x1 : Int32) (x2 : Int32) (x3 : Int32) (x4 : Int32) : am_ev X amP_285 11 [.ref 139, .int x1, .int x2, .int x3, .int x4] [] (am_sh I J) = (am_do X 251 [.ref 139, .int x1, .int x2] (am_sh I J)).bind (fun q => am_ev X amP_285 16 [.ref 139, .int x1, .int x2, .int x3, .int x4] (q.1.toList ++ [.int x4]) q.2) := by
  refine (ev_iload rfl rfl).trans ?_
  refine (ev_aload rfl rfl).trans ?_
  refine (ev_iload rfl rfl).trans ?_
  refine (ev_iload rfl rfl).trans ?_
  exact ev_invv (as := [.int x2, .int x1]) rfl (by decide) am_K_139 rfl (by simp [Value.category])
set_option maxRecDepth 10000 in
theorem sg_285_16 (X : am_X) (I : Nat → Nat → Int32) (J : Nat → Nat → Int64) (x1 : Int32) (x2 : Int32) (x3 : Int32) (x4 : Int32) (x5 : Int32) (x6 : Int32) : am_ev X amP_285 16 [.ref 139, .int x1, .int x2, .int x3, .int x4] [.int x6, .int x5] (am_sh I J) = (if x6 ≤ x5 then some (some (.int x3), am_sh I J) else (am_do X 284 [.ref 139, .int x1, .int x2, .int x4] (am_sh I J)).bind (fun q => am_ev X amP_285 23 [.ref 139, .int x1, .int x2, .int x3, .int x4] (q.1.toList ++ [.int x3]) q.2)) := by
  refine (ev_icmp3 rfl).trans (am_ite (fun c1 => ?_) (fun c1 => ?_))
  · refine (ev_iload rfl rfl).trans ?_
    exact ev_iret rfl
  · refine (ev_iload rfl rfl).trans ?_
    refine (ev_aload rfl rfl).trans ?_
    refine (ev_iload rfl rfl).trans ?_
    refine (ev_iload rfl rfl).trans ?_
    refine (ev_iload rfl rfl).trans ?_
    exact ev_invv (as := [.int x4, .int x2, .int x1]) rfl (by decide) am_K_139 rfl (by simp [Value.category])
set_option maxRecDepth 10000 in
theorem sg_285_23 (X : am_X) (I : Nat → Nat → Int32) (J : Nat → Nat → Int64) (x1 : Int32) (x2 : Int32) (x3 : Int32) (x4 : Int32) (x5 : Int32) (x6 : Int32) : am_ev X amP_285 23 [.ref 139, .int x1, .int x2, .int x3, .int x4] [.int x6, .int x5] (am_sh I J) = (if x6 = 0 then am_ev X amP_285 11 [.ref 139, .int x1, .int x2, .int (x5 + (0 : Int32)), .int (x4 + (1 : Int32))] [] (am_sh I J) else (am_do X 284 [.ref 139, .int x1, .int x2, .int (x4 - (1 : Int32))] (am_sh I J)).bind (fun q => am_ev X amP_285 31 [.ref 139, .int x1, .int x2, .int x3, .int x4] (q.1.toList ++ [.int x5]) q.2)) := by
  refine (ev_if0 rfl).trans (am_ite (fun c1 => ?_) (fun c1 => ?_))
  · refine (ev_const0 (v := (0 : Int32)) rfl am_ci_0).trans ?_
    refine (ev_iadd rfl).trans ?_
    refine (ev_istore (ls' := [.ref 139, .int x1, .int x2, .int (x5 + (0 : Int32)), .int x4]) rfl (Nat.le_of_ble_eq_true rfl) rfl).trans ?_
    refine (ev_iincv (v := (1 : Int32)) (ls' := [.ref 139, .int x1, .int x2, .int (x5 + (0 : Int32)), .int (x4 + (1 : Int32))]) rfl am_ci_1 rfl rfl).trans ?_
    refine (ev_goto rfl).trans ?_
    rfl
  · refine (ev_aload rfl rfl).trans ?_
    refine (ev_iload rfl rfl).trans ?_
    refine (ev_iload rfl rfl).trans ?_
    refine (ev_iload rfl rfl).trans ?_
    refine (ev_const0 (v := (1 : Int32)) rfl am_ci_1).trans ?_
    refine (ev_isub rfl).trans ?_
    exact ev_invv (as := [.int (x4 - (1 : Int32)), .int x2, .int x1]) rfl (by decide) am_K_139 rfl (by simp [Value.category])
set_option maxRecDepth 10000 in
theorem sg_285_31 (X : am_X) (I : Nat → Nat → Int32) (J : Nat → Nat → Int64) (x1 : Int32) (x2 : Int32) (x3 : Int32) (x4 : Int32) (x5 : Int32) (x6 : Int32) : am_ev X amP_285 31 [.ref 139, .int x1, .int x2, .int x3, .int x4] [.int x6, .int x5] (am_sh I J) = (if ¬ x6 = 0 then am_ev X amP_285 11 [.ref 139, .int x1, .int x2, .int (x5 + (0 : Int32)), .int (x4 + (1 : Int32))] [] (am_sh I J) else am_ev X amP_285 11 [.ref 139, .int x1, .int x2, .int (x5 + (1 : Int32)), .int (x4 + (1 : Int32))] [] (am_sh I J)) := by
  refine (ev_if1 rfl).trans (am_ite (fun c1 => ?_) (fun c1 => ?_))
  · refine (ev_const0 (v := (0 : Int32)) rfl am_ci_0).trans ?_
    refine (ev_iadd rfl).trans ?_
    refine (ev_istore (ls' := [.ref 139, .int x1, .int x2, .int (x5 + (0 : Int32)), .int x4]) rfl (Nat.le_of_ble_eq_true rfl) rfl).trans ?_
    refine (ev_iincv (v := (1 : Int32)) (ls' := [.ref 139, .int x1, .int x2, .int (x5 + (0 : Int32)), .int (x4 + (1 : Int32))]) rfl am_ci_1 rfl rfl).trans ?_
    refine (ev_goto rfl).trans ?_
    rfl
  · refine (ev_const0 (v := (1 : Int32)) rfl am_ci_1).trans ?_
    refine (ev_goto rfl).trans ?_
    refine (ev_iadd rfl).trans ?_
    refine (ev_istore (ls' := [.ref 139, .int x1, .int x2, .int (x5 + (1 : Int32)), .int x4]) rfl (Nat.le_of_ble_eq_true rfl) rfl).trans ?_
    refine (ev_iincv (v := (1 : Int32)) (ls' := [.ref 139, .int x1, .int x2, .int (x5 + (1 : Int32)), .int (x4 + (1 : Int32))]) rfl am_ci_1 rfl rfl).trans ?_
    refine (ev_goto rfl).trans ?_
    rfl
-- 286 X12_pass
set_option maxRecDepth 10000 in
theorem sg_286_e0 (X : am_X) (I : Nat → Nat → Int32) (J : Nat → Nat → Int64) (x1 : Int32) (x2 : Int32) (x3 : Int32) (x4 : Int32) : am_ev X amP_286 0 [.ref 139, .int x1, .int x2, .int x3, .int x4, .null, .null, .null, .null, .null] [] (am_sh I J) = (am_do X 214 [.int x4, .int (0 : Int32), .int (3 : Int32)] (am_sh I J)).bind (fun q => am_ev X amP_286 4 [.ref 139, .int x1, .int x2, .int x3, .int x4, .null, .null, .null, .null, .null] (q.1.toList ++ []) q.2) := by
  refine (ev_iload rfl rfl).trans ?_
  refine (ev_const0 (v := (0 : Int32)) rfl am_ci_0).trans ?_
  refine (ev_const0 (v := (3 : Int32)) rfl am_ci_3).trans ?_
  exact ev_invs (as := [.int (3 : Int32), .int (0 : Int32), .int x4]) rfl rfl (by simp [Value.category])
theorem cl_286 (X : am_X) (I : Nat → Nat → Int32) (J : Nat → Nat → Int64) (x1 : Int32) (x2 : Int32) (x3 : Int32) (x4 : Int32) : am_do X 286 [.ref 139, .int x1, .int x2, .int x3, .int x4] (am_sh I J) = am_ev X amP_286 0 [.ref 139, .int x1, .int x2, .int x3, .int x4, .null, .null, .null, .null, .null] [] (am_sh I J) := am_do_of rfl rfl rfl
set_option maxRecDepth 10000 in
theorem sg_286_4 (X : am_X) (I : Nat → Nat → Int32) (J : Nat → Nat → Int64) (x1 : Int32) (x2 : Int32) (x3 : Int32) (x4 : Int32) (w5 : Value) (w6 : Value) (w7 : Value) (w8 : Value) (w9 : Value) (x10 : Int32) (hw5 : w5.category = 1) (hw6 : w6.category = 1) (hw7 : w7.category = 1) (hw8 : w8.category = 1) (hw9 : w9.category = 1) : am_ev X amP_286 4 [.ref 139, .int x1, .int x2, .int x3, .int x4, w5, w6, w7, w8, w9] [.int x10] (am_sh I J) = (if x10 = 0 then some (some (.int (-1 : Int32)), am_sh I J) else (am_do X 285 [.ref 139, .int x1, .int x2] (am_sh I J)).bind (fun q => am_ev X amP_286 11 [.ref 139, .int x1, .int x2, .int x3, .int x4, w5, w6, w7, w8, w9] (q.1.toList ++ [.int (0 : Int32), .int x3]) q.2)) := by
  refine (ev_if0 rfl).trans (am_ite (fun c1 => ?_) (fun c1 => ?_))
  · refine (ev_const0 (v := (-1 : Int32)) rfl am_ci_m1).trans ?_
    exact ev_iret rfl
  · refine (ev_iload rfl rfl).trans ?_
    refine (ev_const0 (v := (0 : Int32)) rfl am_ci_0).trans ?_
    refine (ev_aload rfl rfl).trans ?_
    refine (ev_iload rfl rfl).trans ?_
    refine (ev_iload rfl rfl).trans ?_
    exact ev_invv (as := [.int x2, .int x1]) rfl (by decide) am_K_139 rfl (by simp [Value.category])
set_option maxRecDepth 10000 in
theorem sg_286_11 (X : am_X) (I : Nat → Nat → Int32) (J : Nat → Nat → Int64) (x1 : Int32) (x2 : Int32) (x3 : Int32) (x4 : Int32) (w5 : Value) (w6 : Value) (w7 : Value) (w8 : Value) (w9 : Value) (x10 : Int32) (x11 : Int32) (x12 : Int32) (hw5 : w5.category = 1) (hw6 : w6.category = 1) (hw7 : w7.category = 1) (hw8 : w8.category = 1) (hw9 : w9.category = 1) : am_ev X amP_286 11 [.ref 139, .int x1, .int x2, .int x3, .int x4, w5, w6, w7, w8, w9] [.int x12, .int x11, .int x10] (am_sh I J) = (am_do X 214 [.int x10, .int x11, .int (x12 - (1 : Int32))] (am_sh I J)).bind (fun q => am_ev X amP_286 14 [.ref 139, .int x1, .int x2, .int x3, .int x4, w5, w6, w7, w8, w9] (q.1.toList ++ []) q.2) := by
  refine (ev_const0 (v := (1 : Int32)) rfl am_ci_1).trans ?_
  refine (ev_isub rfl).trans ?_
  exact ev_invs (as := [.int (x12 - (1 : Int32)), .int x11, .int x10]) rfl rfl (by simp [Value.category])
set_option maxRecDepth 10000 in
theorem sg_286_14 (X : am_X) (I : Nat → Nat → Int32) (J : Nat → Nat → Int64) (x1 : Int32) (x2 : Int32) (x3 : Int32) (x4 : Int32) (w5 : Value) (w6 : Value) (w7 : Value) (w8 : Value) (w9 : Value) (x10 : Int32) (hw5 : w5.category = 1) (hw6 : w6.category = 1) (hw7 : w7.category = 1) (hw8 : w8.category = 1) (hw9 : w9.category = 1) : am_ev X amP_286 14 [.ref 139, .int x1, .int x2, .int x3, .int x4, w5, w6, w7, w8, w9] [.int x10] (am_sh I J) = (if ¬ x10 = 0 then am_ev X amP_286 21 [.ref 139, .int x1, .int x2, .int x3, .int x4, .int (0 : Int32), .int (-1 : Int32), w7, w8, w9] [] (am_sh I J) else some (some (.int (-1 : Int32)), am_sh I J)) := by
  refine (ev_if1 rfl).trans (am_ite (fun c1 => ?_) (fun c1 => ?_))
  · refine (ev_const0 (v := (0 : Int32)) rfl am_ci_0).trans ?_
    refine (ev_istore (ls' := [.ref 139, .int x1, .int x2, .int x3, .int x4, .int (0 : Int32), w6, w7, w8, w9]) rfl (Nat.le_of_ble_eq_true rfl) rfl).trans ?_
    refine (ev_const0 (v := (-1 : Int32)) rfl am_ci_m1).trans ?_
    refine (ev_istore (ls' := [.ref 139, .int x1, .int x2, .int x3, .int x4, .int (0 : Int32), .int (-1 : Int32), w7, w8, w9]) rfl (Nat.le_of_ble_eq_true rfl) rfl).trans ?_
    rfl
  · refine (ev_const0 (v := (-1 : Int32)) rfl am_ci_m1).trans ?_
    exact ev_iret rfl
set_option maxRecDepth 10000 in
theorem sg_286_21 (X : am_X) (I : Nat → Nat → Int32) (J : Nat → Nat → Int64) (x1 : Int32) (x2 : Int32) (x3 : Int32) (x4 : Int32) (x5 : Int32) (x6 : Int32) (w7 : Value) (w8 : Value) (w9 : Value) (hw7 : w7.category = 1) (hw8 : w8.category = 1) (hw9 : w9.category = 1) : am_ev X amP_286 21 [.ref 139, .int x1, .int x2, .int x3, .int x4, .int x5, .int x6, w7, w8, w9] [] (am_sh I J) = (if x3 ≤ x6 then am_ev X amP_286 54 [.ref 139, .int x1, .int x2, .int x3, .int x4, .int x5, .int x6, .int (x5 - (1 : Int32)), .int (x5 - (1 : Int32)), .int (x5 - (1 : Int32))] [] (am_sh I J) else (am_do X 284 [.ref 139, .int x1, .int x2, .int x5] (am_sh I J)).bind (fun q => am_ev X amP_286 30 [.ref 139, .int x1, .int x2, .int x3, .int x4, .int x5, .int x6, w7, w8, w9] (q.1.toList ++ [.int x6]) q.2)) := by
  refine (ev_iload rfl rfl).trans ?_
  refine (ev_iload rfl rfl).trans ?_
  refine (ev_icmp3 rfl).trans (am_ite (fun c1 => ?_) (fun c1 => ?_))
  · refine (ev_iload rfl rfl).trans ?_
    refine (ev_const0 (v := (1 : Int32)) rfl am_ci_1).trans ?_
    refine (ev_isub rfl).trans ?_
    refine (ev_istore (ls' := [.ref 139, .int x1, .int x2, .int x3, .int x4, .int x5, .int x6, .int (x5 - (1 : Int32)), w8, w9]) rfl (Nat.le_of_ble_eq_true rfl) rfl).trans ?_
    refine (ev_iload rfl rfl).trans ?_
    refine (ev_istore (ls' := [.ref 139, .int x1, .int x2, .int x3, .int x4, .int x5, .int x6, .int (x5 - (1 : Int32)), .int (x5 - (1 : Int32)), w9]) rfl (Nat.le_of_ble_eq_true rfl) rfl).trans ?_
    refine (ev_iload rfl rfl).trans ?_
    refine (ev_istore (ls' := [.ref 139, .int x1, .int x2, .int x3, .int x4, .int x5, .int x6, .int (x5 - (1 : Int32)), .int (x5 - (1 : Int32)), .int (x5 - (1 : Int32))]) rfl (Nat.le_of_ble_eq_true rfl) rfl).trans ?_
    rfl
  · refine (ev_iload rfl rfl).trans ?_
    refine (ev_aload rfl rfl).trans ?_
    refine (ev_iload rfl rfl).trans ?_
    refine (ev_iload rfl rfl).trans ?_
    refine (ev_iload rfl rfl).trans ?_
    exact ev_invv (as := [.int x5, .int x2, .int x1]) rfl (by decide) am_K_139 rfl (by simp [Value.category])
set_option maxRecDepth 10000 in
theorem sg_286_30 (X : am_X) (I : Nat → Nat → Int32) (J : Nat → Nat → Int64) (x1 : Int32) (x2 : Int32) (x3 : Int32) (x4 : Int32) (x5 : Int32) (x6 : Int32) (w7 : Value) (w8 : Value) (w9 : Value) (x10 : Int32) (x11 : Int32) (hw7 : w7.category = 1) (hw8 : w8.category = 1) (hw9 : w9.category = 1) : am_ev X amP_286 30 [.ref 139, .int x1, .int x2, .int x3, .int x4, .int x5, .int x6, w7, w8, w9] [.int x11, .int x10] (am_sh I J) = (if x11 = 0 then am_ev X amP_286 21 [.ref 139, .int x1, .int x2, .int x3, .int x4, .int (x5 + (1 : Int32)), .int (x10 + (0 : Int32)), w7, w8, w9] [] (am_sh I J) else (am_do X 284 [.ref 139, .int x1, .int x2, .int (x5 - (1 : Int32))] (am_sh I J)).bind (fun q => am_ev X amP_286 38 [.ref 139, .int x1, .int x2, .int x3, .int x4, .int x5, .int x6, w7, w8, w9] (q.1.toList ++ [.int x10]) q.2)) := by
  refine (ev_if0 rfl).trans (am_ite (fun c1 => ?_) (fun c1 => ?_))
  · refine (ev_const0 (v := (0 : Int32)) rfl am_ci_0).trans ?_
    refine (ev_iadd rfl).trans ?_
    refine (ev_istore (ls' := [.ref 139, .int x1, .int x2, .int x3, .int x4, .int x5, .int (x10 + (0 : Int32)), w7, w8, w9]) rfl (Nat.le_of_ble_eq_true rfl) rfl).trans ?_
    refine (ev_iincv (v := (1 : Int32)) (ls' := [.ref 139, .int x1, .int x2, .int x3, .int x4, .int (x5 + (1 : Int32)), .int (x10 + (0 : Int32)), w7, w8, w9]) rfl am_ci_1 rfl rfl).trans ?_
    refine (ev_goto rfl).trans ?_
    rfl
  · refine (ev_aload rfl rfl).trans ?_
    refine (ev_iload rfl rfl).trans ?_
    refine (ev_iload rfl rfl).trans ?_
    refine (ev_iload rfl rfl).trans ?_
    refine (ev_const0 (v := (1 : Int32)) rfl am_ci_1).trans ?_
    refine (ev_isub rfl).trans ?_
    exact ev_invv (as := [.int (x5 - (1 : Int32)), .int x2, .int x1]) rfl (by decide) am_K_139 rfl (by simp [Value.category])
set_option maxRecDepth 10000 in
theorem sg_286_38 (X : am_X) (I : Nat → Nat → Int32) (J : Nat → Nat → Int64) (x1 : Int32) (x2 : Int32) (x3 : Int32) (x4 : Int32) (x5 : Int32) (x6 : Int32) (w7 : Value) (w8 : Value) (w9 : Value) (x10 : Int32) (x11 : Int32) (hw7 : w7.category = 1) (hw8 : w8.category = 1) (hw9 : w9.category = 1) : am_ev X amP_286 38 [.ref 139, .int x1, .int x2, .int x3, .int x4, .int x5, .int x6, w7, w8, w9] [.int x11, .int x10] (am_sh I J) = (if ¬ x11 = 0 then am_ev X amP_286 21 [.ref 139, .int x1, .int x2, .int x3, .int x4, .int (x5 + (1 : Int32)), .int (x10 + (0 : Int32)), w7, w8, w9] [] (am_sh I J) else am_ev X amP_286 21 [.ref 139, .int x1, .int x2, .int x3, .int x4, .int (x5 + (1 : Int32)), .int (x10 + (1 : Int32)), w7, w8, w9] [] (am_sh I J)) := by
  refine (ev_if1 rfl).trans (am_ite (fun c1 => ?_) (fun c1 => ?_))
  · refine (ev_const0 (v := (0 : Int32)) rfl am_ci_0).trans ?_
    refine (ev_iadd rfl).trans ?_
    refine (ev_istore (ls' := [.ref 139, .int x1, .int x2, .int x3, .int x4, .int x5, .int (x10 + (0 : Int32)), w7, w8, w9]) rfl (Nat.le_of_ble_eq_true rfl) rfl).trans ?_
    refine (ev_iincv (v := (1 : Int32)) (ls' := [.ref 139, .int x1, .int x2, .int x3, .int x4, .int (x5 + (1 : Int32)), .int (x10 + (0 : Int32)), w7, w8, w9]) rfl am_ci_1 rfl rfl).trans ?_
    refine (ev_goto rfl).trans ?_
    rfl
  · refine (ev_const0 (v := (1 : Int32)) rfl am_ci_1).trans ?_
    refine (ev_goto rfl).trans ?_
    refine (ev_iadd rfl).trans ?_
    refine (ev_istore (ls' := [.ref 139, .int x1, .int x2, .int x3, .int x4, .int x5, .int (x10 + (1 : Int32)), w7, w8, w9]) rfl (Nat.le_of_ble_eq_true rfl) rfl).trans ?_
    refine (ev_iincv (v := (1 : Int32)) (ls' := [.ref 139, .int x1, .int x2, .int x3, .int x4, .int (x5 + (1 : Int32)), .int (x10 + (1 : Int32)), w7, w8, w9]) rfl am_ci_1 rfl rfl).trans ?_
    refine (ev_goto rfl).trans ?_
    rfl
set_option maxRecDepth 10000 in
theorem sg_286_54 (X : am_X) (I : Nat → Nat → Int32) (J : Nat → Nat → Int64) (x1 : Int32) (x2 : Int32) (x3 : Int32) (x4 : Int32) (x5 : Int32) (x6 : Int32) (x7 : Int32) (x8 : Int32) (x9 : Int32) : am_ev X amP_286 54 [.ref 139, .int x1, .int x2, .int x3, .int x4, .int x5, .int x6, .int x7, .int x8, .int x9] [] (am_sh I J) = (am_do X 284 [.ref 139, .int x1, .int x2, .int x9] (am_sh I J)).bind (fun q => am_ev X amP_286 59 [.ref 139, .int x1, .int x2, .int x3, .int x4, .int x5, .int x6, .int x7, .int x8, .int x9] (q.1.toList ++ []) q.2) := by
  refine (ev_aload rfl rfl).trans ?_
  refine (ev_iload rfl rfl).trans ?_
  refine (ev_iload rfl rfl).trans ?_
  refine (ev_iload rfl rfl).trans ?_
  exact ev_invv (as := [.int x9, .int x2, .int x1]) rfl (by decide) am_K_139 rfl (by simp [Value.category])
set_option maxRecDepth 10000 in
theorem sg_286_59 (X : am_X) (I : Nat → Nat → Int32) (J : Nat → Nat → Int64) (x1 : Int32) (x2 : Int32) (x3 : Int32) (x4 : Int32) (x5 : Int32) (x6 : Int32) (x7 : Int32) (x8 : Int32) (x9 : Int32) (x10 : Int32) : am_ev X amP_286 59 [.ref 139, .int x1, .int x2, .int x3, .int x4, .int x5, .int x6, .int x7, .int x8, .int x9] [.int x10] (am_sh I J) = (if x10 = 0 then (if ¬ x4 = 0 then (if ¬ x4 = (1 : Int32) then (if ¬ x4 = (2 : Int32) then (am_do X 250 [.ref 139, .int x1, .int x2, .int x8] (am_sh I J)).bind (fun q => am_ev X amP_286 96 [.ref 139, .int x1, .int x2, .int x3, .int x4, .int x5, .int x6, .int x7, .int x8, .int x9] (q.1.toList ++ []) q.2) else some (some (.int x8), am_sh I J)) else some (some (.int (x9 - x7)), am_sh I J)) else some (some (.int x7), am_sh I J)) else (am_do X 250 [.ref 139, .int x1, .int x2, .int x9] (am_sh I J)).bind (fun q => am_ev X amP_286 65 [.ref 139, .int x1, .int x2, .int x3, .int x4, .int x5, .int x6, .int x7, .int x8, .int x9] (q.1.toList ++ []) q.2)) := by
  refine (ev_if0 rfl).trans (am_ite (fun c1 => ?_) (fun c1 => ?_))
  · refine (ev_iload rfl rfl).trans ?_
    refine (ev_if1 rfl).trans (am_ite (fun c2 => ?_) (fun c2 => ?_))
    · refine (ev_iload rfl rfl).trans ?_
      refine (ev_const0 (v := (1 : Int32)) rfl am_ci_1).trans ?_
      refine (ev_icmp1 rfl).trans (am_ite (fun c3 => ?_) (fun c3 => ?_))
      · refine (ev_iload rfl rfl).trans ?_
        refine (ev_const0 (v := (2 : Int32)) rfl am_ci_2).trans ?_
        refine (ev_icmp1 rfl).trans (am_ite (fun c4 => ?_) (fun c4 => ?_))
        · refine (ev_aload rfl rfl).trans ?_
          refine (ev_iload rfl rfl).trans ?_
          refine (ev_iload rfl rfl).trans ?_
          refine (ev_iload rfl rfl).trans ?_
          exact ev_invv (as := [.int x8, .int x2, .int x1]) rfl (by decide) am_K_139 rfl (by simp [Value.category])
        · refine (ev_iload rfl rfl).trans ?_
          refine (ev_goto rfl).trans ?_
          exact ev_iret rfl
      · refine (ev_iload rfl rfl).trans ?_
        refine (ev_iload rfl rfl).trans ?_
        refine (ev_isub rfl).trans ?_
        refine (ev_goto rfl).trans ?_
        exact ev_iret rfl
    · refine (ev_iload rfl rfl).trans ?_
      refine (ev_goto rfl).trans ?_
      exact ev_iret rfl
  · refine (ev_aload rfl rfl).trans ?_
    refine (ev_iload rfl rfl).trans ?_
    refine (ev_iload rfl rfl).trans ?_
    refine (ev_iload rfl rfl).trans ?_
    exact ev_invv (as := [.int x9, .int x2, .int x1]) rfl (by decide) am_K_139 rfl (by simp [Value.category])
set_option maxRecDepth 10000 in
theorem sg_286_65 (X : am_X) (I : Nat → Nat → Int32) (J : Nat → Nat → Int64) (x1 : Int32) (x2 : Int32) (x3 : Int32) (x4 : Int32) (x5 : Int32) (x6 : Int32) (x7 : Int32) (x8 : Int32) (x9 : Int32) (x10 : Int32) : am_ev X amP_286 65 [.ref 139, .int x1, .int x2, .int x3, .int x4, .int x5, .int x6, .int x7, .int x8, .int x9] [.int x10] (am_sh I J) = (am_do X 250 [.ref 139, .int x1, .int x2, .int x8] (am_sh I J)).bind (fun q => am_ev X amP_286 70 [.ref 139, .int x1, .int x2, .int x3, .int x4, .int x5, .int x6, .int x7, .int x8, .int x9] (q.1.toList ++ [.int x10]) q.2) := by
  refine (ev_aload rfl rfl).trans ?_
  refine (ev_iload rfl rfl).trans ?_
  refine (ev_iload rfl rfl).trans ?_
  refine (ev_iload rfl rfl).trans ?_
  exact ev_invv (as := [.int x8, .int x2, .int x1]) rfl (by decide) am_K_139 rfl (by simp [Value.category])
set_option maxRecDepth 10000 in
theorem sg_286_70 (X : am_X) (I : Nat → Nat → Int32) (J : Nat → Nat → Int64) (x1 : Int32) (x2 : Int32) (x3 : Int32) (x4 : Int32) (x5 : Int32) (x6 : Int32) (x7 : Int32) (x8 : Int32) (x9 : Int32) (x10 : Int32) (x11 : Int32) : am_ev X amP_286 70 [.ref 139, .int x1, .int x2, .int x3, .int x4, .int x5, .int x6, .int x7, .int x8, .int x9] [.int x11, .int x10] (am_sh I J) = (if x11 ≤ x10 then am_ev X amP_286 54 [.ref 139, .int x1, .int x2, .int x3, .int x4, .int x5, .int x6, .int x7, .int x8, .int (x9 + (1 : Int32))] [] (am_sh I J) else am_ev X amP_286 54 [.ref 139, .int x1, .int x2, .int x3, .int x4, .int x5, .int x6, .int x7, .int x9, .int (x9 + (1 : Int32))] [] (am_sh I J)) := by
  refine (ev_icmp3 rfl).trans (am_ite (fun c1 => ?_) (fun c1 => ?_))
  · refine (ev_iincv (v := (1 : Int32)) (ls' := [.ref 139, .int x1, .int x2, .int x3, .int x4, .int x5, .int x6, .int x7, .int x8, .int (x9 + (1 : Int32))]) rfl am_ci_1 rfl rfl).trans ?_
    refine (ev_goto rfl).trans ?_
    rfl
  · refine (ev_iload rfl rfl).trans ?_
    refine (ev_istore (ls' := [.ref 139, .int x1, .int x2, .int x3, .int x4, .int x5, .int x6, .int x7, .int x9, .int x9]) rfl (Nat.le_of_ble_eq_true rfl) rfl).trans ?_
    refine (ev_iincv (v := (1 : Int32)) (ls' := [.ref 139, .int x1, .int x2, .int x3, .int x4, .int x5, .int x6, .int x7, .int x9, .int (x9 + (1 : Int32))]) rfl am_ci_1 rfl rfl).trans ?_
    refine (ev_goto rfl).trans ?_
    rfl
set_option maxRecDepth 10000 in
theorem sg_286_96 (X : am_X) (I : Nat → Nat → Int32) (J : Nat → Nat → Int64) (x1 : Int32) (x2 : Int32) (x3 : Int32) (x4 : Int32) (x5 : Int32) (x6 : Int32) (x7 : Int32) (x8 : Int32) (x9 : Int32) (x10 : Int32) : am_ev X amP_286 96 [.ref 139, .int x1, .int x2, .int x3, .int x4, .int x5, .int x6, .int x7, .int x8, .int x9] [.int x10] (am_sh I J) = some (some (.int x10), am_sh I J) := by
  exact ev_iret rfl
-- 287 X12_laysList
set_option maxRecDepth 10000 in
theorem sg_287_e0 (X : am_X) (I : Nat → Nat → Int32) (J : Nat → Nat → Int64) : am_ev X amP_287 0 [.ref 139, .null, .null, .null, .null, .null, .null] [] (am_sh I J) = am_ev X amP_287 4 [.ref 139, .int (0 : Int32), .int (0 : Int32), .null, .null, .null, .null] [] (am_sh I J) := by
  refine (ev_const0 (v := (0 : Int32)) rfl am_ci_0).trans ?_
  refine (ev_istore (ls' := [.ref 139, .int (0 : Int32), .null, .null, .null, .null, .null]) rfl (Nat.le_of_ble_eq_true rfl) rfl).trans ?_
  refine (ev_const0 (v := (0 : Int32)) rfl am_ci_0).trans ?_
  refine (ev_istore (ls' := [.ref 139, .int (0 : Int32), .int (0 : Int32), .null, .null, .null, .null]) rfl (Nat.le_of_ble_eq_true rfl) rfl).trans ?_
  rfl
theorem cl_287 (X : am_X) (I : Nat → Nat → Int32) (J : Nat → Nat → Int64) : am_do X 287 [.ref 139] (am_sh I J) = am_ev X amP_287 0 [.ref 139, .null, .null, .null, .null, .null, .null] [] (am_sh I J) := am_do_of rfl rfl rfl
set_option maxRecDepth 10000 in
theorem sg_287_4 (X : am_X) (I : Nat → Nat → Int32) (J : Nat → Nat → Int64) (x1 : Int32) (x2 : Int32) (w3 : Value) (w4 : Value) (w5 : Value) (w6 : Value) (hw3 : w3.category = 1) (hw4 : w4.category = 1) (hw5 : w5.category = 1) (hw6 : w6.category = 1) : am_ev X amP_287 4 [.ref 139, .int x1, .int x2, w3, w4, w5, w6] [] (am_sh I J) = (if (I 139 1) ≤ x2 then some (some (.int x1), am_sh I J) else am_ev X amP_287 12 [.ref 139, .int x1, .int x2, .int (x2 + (1 : Int32)), w4, w5, w6] [] (am_sh I J)) := by
  refine (ev_iload rfl rfl).trans ?_
  refine (ev_aload rfl rfl).trans ?_
  refine (ev_getI rfl (by decide) am_K_139 (by decide) rfl).trans ?_
  refine (ev_icmp3 rfl).trans (am_ite (fun c1 => ?_) (fun c1 => ?_))
  · refine (ev_iload rfl rfl).trans ?_
    exact ev_iret rfl
  · refine (ev_iload rfl rfl).trans ?_
    refine (ev_const0 (v := (1 : Int32)) rfl am_ci_1).trans ?_
    refine (ev_iadd rfl).trans ?_
    refine (ev_istore (ls' := [.ref 139, .int x1, .int x2, .int (x2 + (1 : Int32)), w4, w5, w6]) rfl (Nat.le_of_ble_eq_true rfl) rfl).trans ?_
    rfl
set_option maxRecDepth 10000 in
theorem sg_287_12 (X : am_X) (I : Nat → Nat → Int32) (J : Nat → Nat → Int64) (x1 : Int32) (x2 : Int32) (x3 : Int32) (w4 : Value) (w5 : Value) (w6 : Value) (hw4 : w4.category = 1) (hw5 : w5.category = 1) (hw6 : w6.category = 1) : am_ev X amP_287 12 [.ref 139, .int x1, .int x2, .int x3, w4, w5, w6] [] (am_sh I J) = (if (I 139 1) ≤ x3 then am_ev X amP_287 4 [.ref 139, .int x1, .int (x2 + (1 : Int32)), .int x3, w4, w5, w6] [] (am_sh I J) else (am_do X 254 [.ref 139, .int x2, .int x3] (am_sh I J)).bind (fun q => am_ev X amP_287 20 [.ref 139, .int x1, .int x2, .int x3, w4, w5, w6] (q.1.toList ++ []) q.2)) := by
  refine (ev_iload rfl rfl).trans ?_
  refine (ev_aload rfl rfl).trans ?_
  refine (ev_getI rfl (by decide) am_K_139 (by decide) rfl).trans ?_
  refine (ev_icmp3 rfl).trans (am_ite (fun c1 => ?_) (fun c1 => ?_))
  · refine (ev_iincv (v := (1 : Int32)) (ls' := [.ref 139, .int x1, .int (x2 + (1 : Int32)), .int x3, w4, w5, w6]) rfl am_ci_1 rfl rfl).trans ?_
    refine (ev_goto rfl).trans ?_
    rfl
  · refine (ev_aload rfl rfl).trans ?_
    refine (ev_iload rfl rfl).trans ?_
    refine (ev_iload rfl rfl).trans ?_
    exact ev_invv (as := [.int x3, .int x2]) rfl (by decide) am_K_139 rfl (by simp [Value.category])
set_option maxRecDepth 10000 in
theorem sg_287_20 (X : am_X) (I : Nat → Nat → Int32) (J : Nat → Nat → Int64) (x1 : Int32) (x2 : Int32) (x3 : Int32) (w4 : Value) (w5 : Value) (w6 : Value) (x7 : Int32) (hw4 : w4.category = 1) (hw5 : w5.category = 1) (hw6 : w6.category = 1) : am_ev X amP_287 20 [.ref 139, .int x1, .int x2, .int x3, w4, w5, w6] [.int x7] (am_sh I J) = (if ¬ x7 = 0 then (am_do X 255 [.ref 139, .int x2, .int x3] (am_sh I J)).bind (fun q => am_ev X amP_287 26 [.ref 139, .int x1, .int x2, .int x3, w4, w5, w6] (q.1.toList ++ []) q.2) else am_ev X amP_287 12 [.ref 139, .int x1, .int x2, .int (x3 + (1 : Int32)), w4, w5, w6] [] (am_sh I J)) := by
  refine (ev_if1 rfl).trans (am_ite (fun c1 => ?_) (fun c1 => ?_))
  · refine (ev_aload rfl rfl).trans ?_
    refine (ev_iload rfl rfl).trans ?_
    refine (ev_iload rfl rfl).trans ?_
    exact ev_invv (as := [.int x3, .int x2]) rfl (by decide) am_K_139 rfl (by simp [Value.category])
  · refine (ev_goto rfl).trans ?_
    refine (ev_iincv (v := (1 : Int32)) (ls' := [.ref 139, .int x1, .int x2, .int (x3 + (1 : Int32)), w4, w5, w6]) rfl am_ci_1 rfl rfl).trans ?_
    refine (ev_goto rfl).trans ?_
    rfl
set_option maxRecDepth 10000 in
theorem sg_287_26 (X : am_X) (I : Nat → Nat → Int32) (J : Nat → Nat → Int64) (x1 : Int32) (x2 : Int32) (x3 : Int32) (w4 : Value) (w5 : Value) (w6 : Value) (x7 : Int32) (hw4 : w4.category = 1) (hw5 : w5.category = 1) (hw6 : w6.category = 1) : am_ev X amP_287 26 [.ref 139, .int x1, .int x2, .int x3, w4, w5, w6] [.int x7] (am_sh I J) = (am_do X 250 [.ref 139, .int x2, .int x3, .int x7] (am_sh I J)).bind (fun q => am_ev X amP_287 32 [.ref 139, .int x1, .int x2, .int x3, .int x7, w5, w6] (q.1.toList ++ []) q.2) := by
  refine (ev_istore (ls' := [.ref 139, .int x1, .int x2, .int x3, .int x7, w5, w6]) rfl (Nat.le_of_ble_eq_true rfl) rfl).trans ?_
  refine (ev_aload rfl rfl).trans ?_
  refine (ev_iload rfl rfl).trans ?_
  refine (ev_iload rfl rfl).trans ?_
  refine (ev_iload rfl rfl).trans ?_
  exact ev_invv (as := [.int x7, .int x3, .int x2]) rfl (by decide) am_K_139 rfl (by simp [Value.category])
set_option maxRecDepth 10000 in
theorem sg_287_32 (X : am_X) (I : Nat → Nat → Int32) (J : Nat → Nat → Int64) (x1 : Int32) (x2 : Int32) (x3 : Int32) (x4 : Int32) (w5 : Value) (w6 : Value) (x7 : Int32) (hw5 : w5.category = 1) (hw6 : w6.category = 1) : am_ev X amP_287 32 [.ref 139, .int x1, .int x2, .int x3, .int x4, w5, w6] [.int x7] (am_sh I J) = am_ev X amP_287 35 [.ref 139, .int x1, .int x2, .int x3, .int x4, .int x7, .int x1] [] (am_sh I J) := by
  refine (ev_istore (ls' := [.ref 139, .int x1, .int x2, .int x3, .int x4, .int x7, w6]) rfl (Nat.le_of_ble_eq_true rfl) rfl).trans ?_
  refine (ev_iload rfl rfl).trans ?_
  refine (ev_istore (ls' := [.ref 139, .int x1, .int x2, .int x3, .int x4, .int x7, .int x1]) rfl (Nat.le_of_ble_eq_true rfl) rfl).trans ?_
  rfl
set_option maxRecDepth 10000 in
theorem sg_287_35 (X : am_X) (I : Nat → Nat → Int32) (J : Nat → Nat → Int64) (x1 : Int32) (x2 : Int32) (x3 : Int32) (x4 : Int32) (x5 : Int32) (x6 : Int32) : am_ev X amP_287 35 [.ref 139, .int x1, .int x2, .int x3, .int x4, .int x5, .int x6] [] (am_sh I J) = (if x6 ≤ 0 then (if x6 < 0 ∨ 45 ≤ x6.toNatClampNeg then none else (if x6 < 0 ∨ 45 ≤ x6.toNatClampNeg then none else (if x6 < 0 ∨ 45 ≤ x6.toNatClampNeg then none else (if x6 < 0 ∨ 45 ≤ x6.toNatClampNeg then none else am_ev X amP_287 12 [.ref 139, .int (x1 + (1 : Int32)), .int x2, .int (x3 + (1 : Int32)), .int x4, .int x5, .int x6] [] (am_sh (am_up (am_up (am_up (am_up I 151 x6.toNatClampNeg x2) 152 x6.toNatClampNeg x3) 153 x6.toNatClampNeg x4) 154 x6.toNatClampNeg x5) J))))) else (if (x6 - (1 : Int32)) < 0 ∨ 45 ≤ (x6 - (1 : Int32)).toNatClampNeg then none else (if x5 < (I 154 (x6 - (1 : Int32)).toNatClampNeg) then (if (x6 - (1 : Int32)) < 0 ∨ 45 ≤ (x6 - (1 : Int32)).toNatClampNeg then none else (if x6 < 0 ∨ 45 ≤ x6.toNatClampNeg then none else (if (x6 - (1 : Int32)) < 0 ∨ 45 ≤ (x6 - (1 : Int32)).toNatClampNeg then none else (if x6 < 0 ∨ 45 ≤ x6.toNatClampNeg then none else (if (x6 - (1 : Int32)) < 0 ∨ 45 ≤ (x6 - (1 : Int32)).toNatClampNeg then none else (if x6 < 0 ∨ 45 ≤ x6.toNatClampNeg then none else (if (x6 - (1 : Int32)) < 0 ∨ 45 ≤ (x6 - (1 : Int32)).toNatClampNeg then none else (if x6 < 0 ∨ 45 ≤ x6.toNatClampNeg then none else am_ev X amP_287 35 [.ref 139, .int x1, .int x2, .int x3, .int x4, .int x5, .int (x6 + (-1 : Int32))] [] (am_sh (am_up (am_up (am_up (am_up I 151 x6.toNatClampNeg (I 151 (x6 - (1 : Int32)).toNatClampNeg)) 152 x6.toNatClampNeg ((am_up I 151 x6.toNatClampNeg (I 151 (x6 - (1 : Int32)).toNatClampNeg)) 152 (x6 - (1 : Int32)).toNatClampNeg)) 153 x6.toNatClampNeg ((am_up (am_up I 151 x6.toNatClampNeg (I 151 (x6 - (1 : Int32)).toNatClampNeg)) 152 x6.toNatClampNeg ((am_up I 151 x6.toNatClampNeg (I 151 (x6 - (1 : Int32)).toNatClampNeg)) 152 (x6 - (1 : Int32)).toNatClampNeg)) 153 (x6 - (1 : Int32)).toNatClampNeg)) 154 x6.toNatClampNeg ((am_up (am_up (am_up I 151 x6.toNatClampNeg (I 151 (x6 - (1 : Int32)).toNatClampNeg)) 152 x6.toNatClampNeg ((am_up I 151 x6.toNatClampNeg (I 151 (x6 - (1 : Int32)).toNatClampNeg)) 152 (x6 - (1 : Int32)).toNatClampNeg)) 153 x6.toNatClampNeg ((am_up (am_up I 151 x6.toNatClampNeg (I 151 (x6 - (1 : Int32)).toNatClampNeg)) 152 x6.toNatClampNeg ((am_up I 151 x6.toNatClampNeg (I 151 (x6 - (1 : Int32)).toNatClampNeg)) 152 (x6 - (1 : Int32)).toNatClampNeg)) 153 (x6 - (1 : Int32)).toNatClampNeg)) 154 (x6 - (1 : Int32)).toNatClampNeg)) J))))))))) else (if (x6 - (1 : Int32)) < 0 ∨ 45 ≤ (x6 - (1 : Int32)).toNatClampNeg then none else (if ¬ (I 154 (x6 - (1 : Int32)).toNatClampNeg) = x5 then (if x6 < 0 ∨ 45 ≤ x6.toNatClampNeg then none else (if x6 < 0 ∨ 45 ≤ x6.toNatClampNeg then none else (if x6 < 0 ∨ 45 ≤ x6.toNatClampNeg then none else (if x6 < 0 ∨ 45 ≤ x6.toNatClampNeg then none else am_ev X amP_287 12 [.ref 139, .int (x1 + (1 : Int32)), .int x2, .int (x3 + (1 : Int32)), .int x4, .int x5, .int x6] [] (am_sh (am_up (am_up (am_up (am_up I 151 x6.toNatClampNeg x2) 152 x6.toNatClampNeg x3) 153 x6.toNatClampNeg x4) 154 x6.toNatClampNeg x5) J))))) else (if (x6 - (1 : Int32)) < 0 ∨ 45 ≤ (x6 - (1 : Int32)).toNatClampNeg then none else (if (I 153 (x6 - (1 : Int32)).toNatClampNeg) ≤ x4 then (if x6 < 0 ∨ 45 ≤ x6.toNatClampNeg then none else (if x6 < 0 ∨ 45 ≤ x6.toNatClampNeg then none else (if x6 < 0 ∨ 45 ≤ x6.toNatClampNeg then none else (if x6 < 0 ∨ 45 ≤ x6.toNatClampNeg then none else am_ev X amP_287 12 [.ref 139, .int (x1 + (1 : Int32)), .int x2, .int (x3 + (1 : Int32)), .int x4, .int x5, .int x6] [] (am_sh (am_up (am_up (am_up (am_up I 151 x6.toNatClampNeg x2) 152 x6.toNatClampNeg x3) 153 x6.toNatClampNeg x4) 154 x6.toNatClampNeg x5) J))))) else (if (x6 - (1 : Int32)) < 0 ∨ 45 ≤ (x6 - (1 : Int32)).toNatClampNeg then none else (if x6 < 0 ∨ 45 ≤ x6.toNatClampNeg then none else (if (x6 - (1 : Int32)) < 0 ∨ 45 ≤ (x6 - (1 : Int32)).toNatClampNeg then none else (if x6 < 0 ∨ 45 ≤ x6.toNatClampNeg then none else (if (x6 - (1 : Int32)) < 0 ∨ 45 ≤ (x6 - (1 : Int32)).toNatClampNeg then none else (if x6 < 0 ∨ 45 ≤ x6.toNatClampNeg then none else (if (x6 - (1 : Int32)) < 0 ∨ 45 ≤ (x6 - (1 : Int32)).toNatClampNeg then none else (if x6 < 0 ∨ 45 ≤ x6.toNatClampNeg then none else am_ev X amP_287 35 [.ref 139, .int x1, .int x2, .int x3, .int x4, .int x5, .int (x6 + (-1 : Int32))] [] (am_sh (am_up (am_up (am_up (am_up I 151 x6.toNatClampNeg (I 151 (x6 - (1 : Int32)).toNatClampNeg)) 152 x6.toNatClampNeg ((am_up I 151 x6.toNatClampNeg (I 151 (x6 - (1 : Int32)).toNatClampNeg)) 152 (x6 - (1 : Int32)).toNatClampNeg)) 153 x6.toNatClampNeg ((am_up (am_up I 151 x6.toNatClampNeg (I 151 (x6 - (1 : Int32)).toNatClampNeg)) 152 x6.toNatClampNeg ((am_up I 151 x6.toNatClampNeg (I 151 (x6 - (1 : Int32)).toNatClampNeg)) 152 (x6 - (1 : Int32)).toNatClampNeg)) 153 (x6 - (1 : Int32)).toNatClampNeg)) 154 x6.toNatClampNeg ((am_up (am_up (am_up I 151 x6.toNatClampNeg (I 151 (x6 - (1 : Int32)).toNatClampNeg)) 152 x6.toNatClampNeg ((am_up I 151 x6.toNatClampNeg (I 151 (x6 - (1 : Int32)).toNatClampNeg)) 152 (x6 - (1 : Int32)).toNatClampNeg)) 153 x6.toNatClampNeg ((am_up (am_up I 151 x6.toNatClampNeg (I 151 (x6 - (1 : Int32)).toNatClampNeg)) 152 x6.toNatClampNeg ((am_up I 151 x6.toNatClampNeg (I 151 (x6 - (1 : Int32)).toNatClampNeg)) 152 (x6 - (1 : Int32)).toNatClampNeg)) 153 (x6 - (1 : Int32)).toNatClampNeg)) 154 (x6 - (1 : Int32)).toNatClampNeg)) J)))))))))))))))) := by
  refine (ev_iload rfl rfl).trans ?_
  refine (ev_if5 rfl).trans (am_ite (fun c1 => ?_) (fun c1 => ?_))
  · refine (ev_aload rfl rfl).trans ?_
    refine (ev_getR rfl (by decide) am_K_139 (by decide) rfl am_R_139_26).trans ?_
    refine (ev_iload rfl rfl).trans ?_
    refine (ev_iload rfl rfl).trans ?_
    refine (ev_iast rfl (by decide) am_K_151).trans (am_itn (fun g2 => ?_))
    refine (ev_aload rfl rfl).trans ?_
    refine (ev_getR rfl (by decide) am_K_139 (by decide) rfl am_R_139_27).trans ?_
    refine (ev_iload rfl rfl).trans ?_
    refine (ev_iload rfl rfl).trans ?_
    refine (ev_iast rfl (by decide) am_K_152).trans (am_itn (fun g3 => ?_))
    refine (ev_aload rfl rfl).trans ?_
    refine (ev_getR rfl (by decide) am_K_139 (by decide) rfl am_R_139_28).trans ?_
    refine (ev_iload rfl rfl).trans ?_
    refine (ev_iload rfl rfl).trans ?_
    refine (ev_iast rfl (by decide) am_K_153).trans (am_itn (fun g4 => ?_))
    refine (ev_aload rfl rfl).trans ?_
    refine (ev_getR rfl (by decide) am_K_139 (by decide) rfl am_R_139_29).trans ?_
    refine (ev_iload rfl rfl).trans ?_
    refine (ev_iload rfl rfl).trans ?_
    refine (ev_iast rfl (by decide) am_K_154).trans (am_itn (fun g5 => ?_))
    refine (ev_iincv (v := (1 : Int32)) (ls' := [.ref 139, .int (x1 + (1 : Int32)), .int x2, .int x3, .int x4, .int x5, .int x6]) rfl am_ci_1 rfl rfl).trans ?_
    refine (ev_iincv (v := (1 : Int32)) (ls' := [.ref 139, .int (x1 + (1 : Int32)), .int x2, .int (x3 + (1 : Int32)), .int x4, .int x5, .int x6]) rfl am_ci_1 rfl rfl).trans ?_
    refine (ev_goto rfl).trans ?_
    rfl
  · refine (ev_aload rfl rfl).trans ?_
    refine (ev_getR rfl (by decide) am_K_139 (by decide) rfl am_R_139_29).trans ?_
    refine (ev_iload rfl rfl).trans ?_
    refine (ev_const0 (v := (1 : Int32)) rfl am_ci_1).trans ?_
    refine (ev_isub rfl).trans ?_
    refine (ev_iald rfl (by decide) am_K_154).trans (am_itn (fun g2 => ?_))
    refine (ev_iload rfl rfl).trans ?_
    refine (ev_icmp4 rfl).trans (am_ite (fun c3 => ?_) (fun c3 => ?_))
    · refine (ev_aload rfl rfl).trans ?_
      refine (ev_getR rfl (by decide) am_K_139 (by decide) rfl am_R_139_26).trans ?_
      refine (ev_iload rfl rfl).trans ?_
      refine (ev_aload rfl rfl).trans ?_
      refine (ev_getR rfl (by decide) am_K_139 (by decide) rfl am_R_139_26).trans ?_
      refine (ev_iload rfl rfl).trans ?_
      refine (ev_const0 (v := (1 : Int32)) rfl am_ci_1).trans ?_
      refine (ev_isub rfl).trans ?_
      refine (ev_iald rfl (by decide) am_K_151).trans (am_itn (fun g4 => ?_))
      refine (ev_iast rfl (by decide) am_K_151).trans (am_itn (fun g5 => ?_))
      refine (ev_aload rfl rfl).trans ?_
      refine (ev_getR rfl (by decide) am_K_139 (by decide) rfl am_R_139_27).trans ?_
      refine (ev_iload rfl rfl).trans ?_
      refine (ev_aload rfl rfl).trans ?_
      refine (ev_getR rfl (by decide) am_K_139 (by decide) rfl am_R_139_27).trans ?_
      refine (ev_iload rfl rfl).trans ?_
      refine (ev_const0 (v := (1 : Int32)) rfl am_ci_1).trans ?_
      refine (ev_isub rfl).trans ?_
      refine (ev_iald rfl (by decide) am_K_152).trans (am_itn (fun g6 => ?_))
      refine (ev_iast rfl (by decide) am_K_152).trans (am_itn (fun g7 => ?_))
      refine (ev_aload rfl rfl).trans ?_
      refine (ev_getR rfl (by decide) am_K_139 (by decide) rfl am_R_139_28).trans ?_
      refine (ev_iload rfl rfl).trans ?_
      refine (ev_aload rfl rfl).trans ?_
      refine (ev_getR rfl (by decide) am_K_139 (by decide) rfl am_R_139_28).trans ?_
      refine (ev_iload rfl rfl).trans ?_
      refine (ev_const0 (v := (1 : Int32)) rfl am_ci_1).trans ?_
      refine (ev_isub rfl).trans ?_
      refine (ev_iald rfl (by decide) am_K_153).trans (am_itn (fun g8 => ?_))
      refine (ev_iast rfl (by decide) am_K_153).trans (am_itn (fun g9 => ?_))
      refine (ev_aload rfl rfl).trans ?_
      refine (ev_getR rfl (by decide) am_K_139 (by decide) rfl am_R_139_29).trans ?_
      refine (ev_iload rfl rfl).trans ?_
      refine (ev_aload rfl rfl).trans ?_
      refine (ev_getR rfl (by decide) am_K_139 (by decide) rfl am_R_139_29).trans ?_
      refine (ev_iload rfl rfl).trans ?_
      refine (ev_const0 (v := (1 : Int32)) rfl am_ci_1).trans ?_
      refine (ev_isub rfl).trans ?_
      refine (ev_iald rfl (by decide) am_K_154).trans (am_itn (fun g10 => ?_))
      refine (ev_iast rfl (by decide) am_K_154).trans (am_itn (fun g11 => ?_))
      refine (ev_iincv (v := (-1 : Int32)) (ls' := [.ref 139, .int x1, .int x2, .int x3, .int x4, .int x5, .int (x6 + (-1 : Int32))]) rfl am_ci_m1 rfl rfl).trans ?_
      refine (ev_goto rfl).trans ?_
      rfl
    · refine (ev_aload rfl rfl).trans ?_
      refine (ev_getR rfl (by decide) am_K_139 (by decide) rfl am_R_139_29).trans ?_
      refine (ev_iload rfl rfl).trans ?_
      refine (ev_const0 (v := (1 : Int32)) rfl am_ci_1).trans ?_
      refine (ev_isub rfl).trans ?_
      refine (ev_iald rfl (by decide) am_K_154).trans (am_itn (fun g4 => ?_))
      refine (ev_iload rfl rfl).trans ?_
      refine (ev_icmp1 rfl).trans (am_ite (fun c5 => ?_) (fun c5 => ?_))
      · refine (ev_aload rfl rfl).trans ?_
        refine (ev_getR rfl (by decide) am_K_139 (by decide) rfl am_R_139_26).trans ?_
        refine (ev_iload rfl rfl).trans ?_
        refine (ev_iload rfl rfl).trans ?_
        refine (ev_iast rfl (by decide) am_K_151).trans (am_itn (fun g6 => ?_))
        refine (ev_aload rfl rfl).trans ?_
        refine (ev_getR rfl (by decide) am_K_139 (by decide) rfl am_R_139_27).trans ?_
        refine (ev_iload rfl rfl).trans ?_
        refine (ev_iload rfl rfl).trans ?_
        refine (ev_iast rfl (by decide) am_K_152).trans (am_itn (fun g7 => ?_))
        refine (ev_aload rfl rfl).trans ?_
        refine (ev_getR rfl (by decide) am_K_139 (by decide) rfl am_R_139_28).trans ?_
        refine (ev_iload rfl rfl).trans ?_
        refine (ev_iload rfl rfl).trans ?_
        refine (ev_iast rfl (by decide) am_K_153).trans (am_itn (fun g8 => ?_))
        refine (ev_aload rfl rfl).trans ?_
        refine (ev_getR rfl (by decide) am_K_139 (by decide) rfl am_R_139_29).trans ?_
        refine (ev_iload rfl rfl).trans ?_
        refine (ev_iload rfl rfl).trans ?_
        refine (ev_iast rfl (by decide) am_K_154).trans (am_itn (fun g9 => ?_))
        refine (ev_iincv (v := (1 : Int32)) (ls' := [.ref 139, .int (x1 + (1 : Int32)), .int x2, .int x3, .int x4, .int x5, .int x6]) rfl am_ci_1 rfl rfl).trans ?_
        refine (ev_iincv (v := (1 : Int32)) (ls' := [.ref 139, .int (x1 + (1 : Int32)), .int x2, .int (x3 + (1 : Int32)), .int x4, .int x5, .int x6]) rfl am_ci_1 rfl rfl).trans ?_
        refine (ev_goto rfl).trans ?_
        rfl
      · refine (ev_aload rfl rfl).trans ?_
        refine (ev_getR rfl (by decide) am_K_139 (by decide) rfl am_R_139_28).trans ?_
        refine (ev_iload rfl rfl).trans ?_
        refine (ev_const0 (v := (1 : Int32)) rfl am_ci_1).trans ?_
        refine (ev_isub rfl).trans ?_
        refine (ev_iald rfl (by decide) am_K_153).trans (am_itn (fun g6 => ?_))
        refine (ev_iload rfl rfl).trans ?_
        refine (ev_icmp5 rfl).trans (am_ite (fun c7 => ?_) (fun c7 => ?_))
        · refine (ev_aload rfl rfl).trans ?_
          refine (ev_getR rfl (by decide) am_K_139 (by decide) rfl am_R_139_26).trans ?_
          refine (ev_iload rfl rfl).trans ?_
          refine (ev_iload rfl rfl).trans ?_
          refine (ev_iast rfl (by decide) am_K_151).trans (am_itn (fun g8 => ?_))
          refine (ev_aload rfl rfl).trans ?_
          refine (ev_getR rfl (by decide) am_K_139 (by decide) rfl am_R_139_27).trans ?_
          refine (ev_iload rfl rfl).trans ?_
          refine (ev_iload rfl rfl).trans ?_
          refine (ev_iast rfl (by decide) am_K_152).trans (am_itn (fun g9 => ?_))
          refine (ev_aload rfl rfl).trans ?_
          refine (ev_getR rfl (by decide) am_K_139 (by decide) rfl am_R_139_28).trans ?_
          refine (ev_iload rfl rfl).trans ?_
          refine (ev_iload rfl rfl).trans ?_
          refine (ev_iast rfl (by decide) am_K_153).trans (am_itn (fun g10 => ?_))
          refine (ev_aload rfl rfl).trans ?_
          refine (ev_getR rfl (by decide) am_K_139 (by decide) rfl am_R_139_29).trans ?_
          refine (ev_iload rfl rfl).trans ?_
          refine (ev_iload rfl rfl).trans ?_
          refine (ev_iast rfl (by decide) am_K_154).trans (am_itn (fun g11 => ?_))
          refine (ev_iincv (v := (1 : Int32)) (ls' := [.ref 139, .int (x1 + (1 : Int32)), .int x2, .int x3, .int x4, .int x5, .int x6]) rfl am_ci_1 rfl rfl).trans ?_
          refine (ev_iincv (v := (1 : Int32)) (ls' := [.ref 139, .int (x1 + (1 : Int32)), .int x2, .int (x3 + (1 : Int32)), .int x4, .int x5, .int x6]) rfl am_ci_1 rfl rfl).trans ?_
          refine (ev_goto rfl).trans ?_
          rfl
        · refine (ev_aload rfl rfl).trans ?_
          refine (ev_getR rfl (by decide) am_K_139 (by decide) rfl am_R_139_26).trans ?_
          refine (ev_iload rfl rfl).trans ?_
          refine (ev_aload rfl rfl).trans ?_
          refine (ev_getR rfl (by decide) am_K_139 (by decide) rfl am_R_139_26).trans ?_
          refine (ev_iload rfl rfl).trans ?_
          refine (ev_const0 (v := (1 : Int32)) rfl am_ci_1).trans ?_
          refine (ev_isub rfl).trans ?_
          refine (ev_iald rfl (by decide) am_K_151).trans (am_itn (fun g8 => ?_))
          refine (ev_iast rfl (by decide) am_K_151).trans (am_itn (fun g9 => ?_))
          refine (ev_aload rfl rfl).trans ?_
          refine (ev_getR rfl (by decide) am_K_139 (by decide) rfl am_R_139_27).trans ?_
          refine (ev_iload rfl rfl).trans ?_
          refine (ev_aload rfl rfl).trans ?_
          refine (ev_getR rfl (by decide) am_K_139 (by decide) rfl am_R_139_27).trans ?_
          refine (ev_iload rfl rfl).trans ?_
          refine (ev_const0 (v := (1 : Int32)) rfl am_ci_1).trans ?_
          refine (ev_isub rfl).trans ?_
          refine (ev_iald rfl (by decide) am_K_152).trans (am_itn (fun g10 => ?_))
          refine (ev_iast rfl (by decide) am_K_152).trans (am_itn (fun g11 => ?_))
          refine (ev_aload rfl rfl).trans ?_
          refine (ev_getR rfl (by decide) am_K_139 (by decide) rfl am_R_139_28).trans ?_
          refine (ev_iload rfl rfl).trans ?_
          refine (ev_aload rfl rfl).trans ?_
          refine (ev_getR rfl (by decide) am_K_139 (by decide) rfl am_R_139_28).trans ?_
          refine (ev_iload rfl rfl).trans ?_
          refine (ev_const0 (v := (1 : Int32)) rfl am_ci_1).trans ?_
          refine (ev_isub rfl).trans ?_
          refine (ev_iald rfl (by decide) am_K_153).trans (am_itn (fun g12 => ?_))
          refine (ev_iast rfl (by decide) am_K_153).trans (am_itn (fun g13 => ?_))
          refine (ev_aload rfl rfl).trans ?_
          refine (ev_getR rfl (by decide) am_K_139 (by decide) rfl am_R_139_29).trans ?_
          refine (ev_iload rfl rfl).trans ?_
          refine (ev_aload rfl rfl).trans ?_
          refine (ev_getR rfl (by decide) am_K_139 (by decide) rfl am_R_139_29).trans ?_
          refine (ev_iload rfl rfl).trans ?_
          refine (ev_const0 (v := (1 : Int32)) rfl am_ci_1).trans ?_
          refine (ev_isub rfl).trans ?_
          refine (ev_iald rfl (by decide) am_K_154).trans (am_itn (fun g14 => ?_))
          refine (ev_iast rfl (by decide) am_K_154).trans (am_itn (fun g15 => ?_))
          refine (ev_iincv (v := (-1 : Int32)) (ls' := [.ref 139, .int x1, .int x2, .int x3, .int x4, .int x5, .int (x6 + (-1 : Int32))]) rfl am_ci_m1 rfl rfl).trans ?_
          refine (ev_goto rfl).trans ?_
          rfl
