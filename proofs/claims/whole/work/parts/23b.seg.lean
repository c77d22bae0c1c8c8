-- 36 X2_isWithin
set_option maxRecDepth 10000 in
theorem sg_36_e0 (X : am_X) (I : Nat → Nat → Int32) (J : Nat → Nat → Int64) (b1 : Nat) (x2 : Int32) (x3 : Int32) (b4 : Nat) (x5 : Int32) (hb1 : b1 < 11) (hb4 : b4 < 11) : am_ev X amP_36 0 [.ref (am_bd b1), .int x2, .int x3, .ref (am_bd b4), .int x5, .null, .null, .null] [] (am_sh I J) = (if x3 < 0 ∨ 48 ≤ x3.toNatClampNeg then none else (if x5 < 0 ∨ 48 ≤ x5.toNatClampNeg then none else (if x2 < ((I (am_bd b1 + 2) x3.toNatClampNeg) - (I (am_bd b4 + 2) x5.toNatClampNeg)) then some (some (.int (0 : Int32)), am_sh I J) else (if (-x2) ≤ ((I (am_bd b1 + 2) x3.toNatClampNeg) - (I (am_bd b4 + 2) x5.toNatClampNeg)) then (if x3 < 0 ∨ 48 ≤ x3.toNatClampNeg then none else (if x5 < 0 ∨ 48 ≤ x5.toNatClampNeg then none else (if x3 < 0 ∨ 48 ≤ x3.toNatClampNeg then none else (if x5 < 0 ∨ 48 ≤ x5.toNatClampNeg then none else (if (x2 * x2) < (((((I (am_bd b1 + 2) x3.toNatClampNeg) - (I (am_bd b4 + 2) x5.toNatClampNeg)) * ((I (am_bd b1 + 2) x3.toNatClampNeg) - (I (am_bd b4 + 2) x5.toNatClampNeg))) + (((I (am_bd b1 + 3) x3.toNatClampNeg) - (I (am_bd b4 + 3) x5.toNatClampNeg)) * ((I (am_bd b1 + 3) x3.toNatClampNeg) - (I (am_bd b4 + 3) x5.toNatClampNeg)))) + (((I (am_bd b1 + 4) x3.toNatClampNeg) - (I (am_bd b4 + 4) x5.toNatClampNeg)) * ((I (am_bd b1 + 4) x3.toNatClampNeg) - (I (am_bd b4 + 4) x5.toNatClampNeg)))) then some (some (.int (0 : Int32)), am_sh I J) else some (some (.int (1 : Int32)), am_sh I J)))))) else some (some (.int (0 : Int32)), am_sh I J))))) := by
  refine (ev_aload rfl rfl).trans ?_
  refine (ev_getR rfl (by have := am_bd_lt hb1; omega) (am_Kbd hb1) (by decide) rfl (am_Rb3 hb1)).trans ?_
  refine (ev_iload rfl rfl).trans ?_
  refine (ev_iald rfl (by have := am_bd_lt hb1; omega) (am_Kb2 hb1)).trans (am_itn (fun g1 => ?_))
  refine (ev_aload rfl rfl).trans ?_
  refine (ev_getR rfl (by have := am_bd_lt hb4; omega) (am_Kbd hb4) (by decide) rfl (am_Rb3 hb4)).trans ?_
  refine (ev_iload rfl rfl).trans ?_
  refine (ev_iald rfl (by have := am_bd_lt hb4; omega) (am_Kb2 hb4)).trans (am_itn (fun g2 => ?_))
  refine (ev_isub rfl).trans ?_
  refine (ev_istore (ls' := [.ref (am_bd b1), .int x2, .int x3, .ref (am_bd b4), .int x5, .int ((I (am_bd b1 + 2) x3.toNatClampNeg) - (I (am_bd b4 + 2) x5.toNatClampNeg)), .null, .null]) rfl (Nat.le_of_ble_eq_true rfl) rfl).trans ?_
  refine (ev_iload rfl rfl).trans ?_
  refine (ev_iload rfl rfl).trans ?_
  refine (ev_icmp4 rfl).trans (am_ite (fun c3 => ?_) (fun c3 => ?_))
  · refine (ev_const0 (v := (0 : Int32)) rfl am_ci_0).trans ?_
    exact ev_zret rfl (by decide)
  · refine (ev_iload rfl rfl).trans ?_
    refine (ev_iload rfl rfl).trans ?_
    refine (ev_ineg rfl).trans ?_
    refine (ev_icmp3 rfl).trans (am_ite (fun c4 => ?_) (fun c4 => ?_))
    · refine (ev_aload rfl rfl).trans ?_
      refine (ev_getR rfl (by have := am_bd_lt hb1; omega) (am_Kbd hb1) (by decide) rfl (am_Rb4 hb1)).trans ?_
      refine (ev_iload rfl rfl).trans ?_
      refine (ev_iald rfl (by have := am_bd_lt hb1; omega) (am_Kb3 hb1)).trans (am_itn (fun g5 => ?_))
      refine (ev_aload rfl rfl).trans ?_
      refine (ev_getR rfl (by have := am_bd_lt hb4; omega) (am_Kbd hb4) (by decide) rfl (am_Rb4 hb4)).trans ?_
      refine (ev_iload rfl rfl).trans ?_
      refine (ev_iald rfl (by have := am_bd_lt hb4; omega) (am_Kb3 hb4)).trans (am_itn (fun g6 => ?_))
      refine (ev_isub rfl).trans ?_
      refine (ev_istore (ls' := [.ref (am_bd b1), .int x2, .int x3, .ref (am_bd b4), .int x5, .int ((I (am_bd b1 + 2) x3.toNatClampNeg) - (I (am_bd b4 + 2) x5.toNatClampNeg)), .int ((I (am_bd b1 + 3) x3.toNatClampNeg) - (I (am_bd b4 + 3) x5.toNatClampNeg)), .null]) rfl (Nat.le_of_ble_eq_true rfl) rfl).trans ?_
      refine (ev_aload rfl rfl).trans ?_
      refine (ev_getR rfl (by have := am_bd_lt hb1; omega) (am_Kbd hb1) (by decide) rfl (am_Rb5 hb1)).trans ?_
      refine (ev_iload rfl rfl).trans ?_
      refine (ev_iald rfl (by have := am_bd_lt hb1; omega) (am_Kb4 hb1)).trans (am_itn (fun g7 => ?_))
      refine (ev_aload rfl rfl).trans ?_
      refine (ev_getR rfl (by have := am_bd_lt hb4; omega) (am_Kbd hb4) (by decide) rfl (am_Rb5 hb4)).trans ?_
      refine (ev_iload rfl rfl).trans ?_
      refine (ev_iald rfl (by have := am_bd_lt hb4; omega) (am_Kb4 hb4)).trans (am_itn (fun g8 => ?_))
      refine (ev_isub rfl).trans ?_
      refine (ev_istore (ls' := [.ref (am_bd b1), .int x2, .int x3, .ref (am_bd b4), .int x5, .int ((I (am_bd b1 + 2) x3.toNatClampNeg) - (I (am_bd b4 + 2) x5.toNatClampNeg)), .int ((I (am_bd b1 + 3) x3.toNatClampNeg) - (I (am_bd b4 + 3) x5.toNatClampNeg)), .int ((I (am_bd b1 + 4) x3.toNatClampNeg) - (I (am_bd b4 + 4) x5.toNatClampNeg))]) rfl (Nat.le_of_ble_eq_true rfl) rfl).trans ?_
      refine (ev_iload rfl rfl).trans ?_
      refine (ev_iload rfl rfl).trans ?_
      refine (ev_imul rfl).trans ?_
      refine (ev_iload rfl rfl).trans ?_
      refine (ev_iload rfl rfl).trans ?_
      refine (ev_imul rfl).trans ?_
      refine (ev_iadd rfl).trans ?_
      refine (ev_iload rfl rfl).trans ?_
      refine (ev_iload rfl rfl).trans ?_
      refine (ev_imul rfl).trans ?_
      refine (ev_iadd rfl).trans ?_
      refine (ev_iload rfl rfl).trans ?_
      refine (ev_iload rfl rfl).trans ?_
      refine (ev_imul rfl).trans ?_
      refine (ev_icmp4 rfl).trans (am_ite (fun c9 => ?_) (fun c9 => ?_))
      · refine (ev_const0 (v := (0 : Int32)) rfl am_ci_0).trans ?_
        exact ev_zret rfl (by decide)
      · refine (ev_const0 (v := (1 : Int32)) rfl am_ci_1).trans ?_
        refine (ev_goto rfl).trans ?_
        exact ev_zret rfl (by decide)
    · refine (ev_const0 (v := (0 : Int32)) rfl am_ci_0).trans ?_
      exact ev_zret rfl (by decide)
theorem cl_36 (X : am_X) (I : Nat → Nat → Int32) (J : Nat → Nat → Int64) (b1 : Nat) (x2 : Int32) (x3 : Int32) (b4 : Nat) (x5 : Int32) : am_do X 36 [.ref (am_bd b1), .int x2, .int x3, .ref (am_bd b4), .int x5] (am_sh I J) = am_ev X amP_36 0 [.ref (am_bd b1), .int x2, .int x3, .ref (am_bd b4), .int x5, .null, .null, .null] [] (am_sh I J) := am_do_of rfl rfl rfl
-- 37 X2_leanFrom
set_option maxRecDepth 10000 in
theorem sg_37_e0 (X : am_X) (I : Nat → Nat → Int32) (J : Nat → Nat → Int64) (b1 : Nat) (b2 : Nat) (x3 : Int32) (hb1 : b1 < 11) (hb2 : b2 < 11) : am_ev X amP_37 0 [.ref (am_bd b1), .ref (am_bd b2), .int x3, .null, .null] [] (am_sh I J) = (if (I (am_bd b2 + 1) 6) = (0 : Int32) then (if x3 < 0 ∨ 48 ≤ x3.toNatClampNeg then none else (if x3 < 0 ∨ 48 ≤ x3.toNatClampNeg then none else some (some (.int ((((16 : Int32) - (I (am_bd b2 + 1) 5)) * (I (am_bd b1 + 4) x3.toNatClampNeg)) - ((I (am_bd b2 + 1) 5) * (I (am_bd b1 + 3) x3.toNatClampNeg)))), am_sh I J))) else (if (I (am_bd b2 + 1) 6) = (1 : Int32) then (if x3 < 0 ∨ 48 ≤ x3.toNatClampNeg then none else (if x3 < 0 ∨ 48 ≤ x3.toNatClampNeg then none else some (some (.int ((((16 : Int32) - (I (am_bd b2 + 1) 5)) * (I (am_bd b1 + 4) x3.toNatClampNeg)) - ((I (am_bd b2 + 1) 5) * (-(I (am_bd b1 + 2) x3.toNatClampNeg))))), am_sh I J))) else (if (I (am_bd b2 + 1) 6) = (2 : Int32) then (if x3 < 0 ∨ 48 ≤ x3.toNatClampNeg then none else (if x3 < 0 ∨ 48 ≤ x3.toNatClampNeg then none else some (some (.int ((((16 : Int32) - (I (am_bd b2 + 1) 5)) * (I (am_bd b1 + 4) x3.toNatClampNeg)) - ((I (am_bd b2 + 1) 5) * (-(I (am_bd b1 + 3) x3.toNatClampNeg))))), am_sh I J))) else (if x3 < 0 ∨ 48 ≤ x3.toNatClampNeg then none else (if x3 < 0 ∨ 48 ≤ x3.toNatClampNeg then none else some (some (.int ((((16 : Int32) - (I (am_bd b2 + 1) 5)) * (I (am_bd b1 + 4) x3.toNatClampNeg)) - ((I (am_bd b2 + 1) 5) * (I (am_bd b1 + 2) x3.toNatClampNeg)))), am_sh I J)))))) := by
  refine (ev_aload rfl rfl).trans ?_
  refine (ev_getR rfl (by have := am_bd_lt hb2; omega) (am_Kbd hb2) (by decide) rfl (am_Rb2 hb2)).trans ?_
  refine (ev_const0 (v := (5 : Int32)) rfl am_ci_5).trans ?_
  refine (ev_ialdC (jn := 5) rfl (by have := am_bd_lt hb2; omega) (am_Kbn hb2) (by decide) (by decide)).trans ?_
  refine (ev_istore (ls' := [.ref (am_bd b1), .ref (am_bd b2), .int x3, .int (I (am_bd b2 + 1) 5), .null]) rfl (Nat.le_of_ble_eq_true rfl) rfl).trans ?_
  refine (ev_aload rfl rfl).trans ?_
  refine (ev_getR rfl (by have := am_bd_lt hb2; omega) (am_Kbd hb2) (by decide) rfl (am_Rb2 hb2)).trans ?_
  refine (ev_const1 (v := (6 : Int32)) rfl am_ci_6).trans ?_
  refine (ev_ialdC (jn := 6) rfl (by have := am_bd_lt hb2; omega) (am_Kbn hb2) (by decide) (by decide)).trans ?_
  refine (am_dec ((I (am_bd b2 + 1) 6) = (0 : Int32))).trans (am_ite (fun s1_0 => ?_) (fun s1_0 => ?_))
  · refine (ev_tswIn (k := 0) rfl (by rw [s1_0]; decide) rfl).trans ?_
    refine (ev_aload rfl rfl).trans ?_
    refine (ev_getR rfl (by have := am_bd_lt hb1; omega) (am_Kbd hb1) (by decide) rfl (am_Rb4 hb1)).trans ?_
    refine (ev_iload rfl rfl).trans ?_
    refine (ev_iald rfl (by have := am_bd_lt hb1; omega) (am_Kb3 hb1)).trans (am_itn (fun g2 => ?_))
    refine (ev_istore (ls' := [.ref (am_bd b1), .ref (am_bd b2), .int x3, .int (I (am_bd b2 + 1) 5), .int (I (am_bd b1 + 3) x3.toNatClampNeg)]) rfl (Nat.le_of_ble_eq_true rfl) rfl).trans ?_
    refine (ev_goto rfl).trans ?_
    refine (ev_const1 (v := (16 : Int32)) rfl am_ci_16).trans ?_
    refine (ev_iload rfl rfl).trans ?_
    refine (ev_isub rfl).trans ?_
    refine (ev_aload rfl rfl).trans ?_
    refine (ev_getR rfl (by have := am_bd_lt hb1; omega) (am_Kbd hb1) (by decide) rfl (am_Rb5 hb1)).trans ?_
    refine (ev_iload rfl rfl).trans ?_
    refine (ev_iald rfl (by have := am_bd_lt hb1; omega) (am_Kb4 hb1)).trans (am_itn (fun g3 => ?_))
    refine (ev_imul rfl).trans ?_
    refine (ev_iload rfl rfl).trans ?_
    refine (ev_iload rfl rfl).trans ?_
    refine (ev_imul rfl).trans ?_
    refine (ev_isub rfl).trans ?_
    exact ev_iret rfl
  refine (am_dec ((I (am_bd b2 + 1) 6) = (1 : Int32))).trans (am_ite (fun s1_1 => ?_) (fun s1_1 => ?_))
  · refine (ev_tswIn (k := 1) rfl (by rw [s1_1]; decide) rfl).trans ?_
    refine (ev_aload rfl rfl).trans ?_
    refine (ev_getR rfl (by have := am_bd_lt hb1; omega) (am_Kbd hb1) (by decide) rfl (am_Rb3 hb1)).trans ?_
    refine (ev_iload rfl rfl).trans ?_
    refine (ev_iald rfl (by have := am_bd_lt hb1; omega) (am_Kb2 hb1)).trans (am_itn (fun g2 => ?_))
    refine (ev_ineg rfl).trans ?_
    refine (ev_istore (ls' := [.ref (am_bd b1), .ref (am_bd b2), .int x3, .int (I (am_bd b2 + 1) 5), .int (-(I (am_bd b1 + 2) x3.toNatClampNeg))]) rfl (Nat.le_of_ble_eq_true rfl) rfl).trans ?_
    refine (ev_goto rfl).trans ?_
    refine (ev_const1 (v := (16 : Int32)) rfl am_ci_16).trans ?_
    refine (ev_iload rfl rfl).trans ?_
    refine (ev_isub rfl).trans ?_
    refine (ev_aload rfl rfl).trans ?_
    refine (ev_getR rfl (by have := am_bd_lt hb1; omega) (am_Kbd hb1) (by decide) rfl (am_Rb5 hb1)).trans ?_
    refine (ev_iload rfl rfl).trans ?_
    refine (ev_iald rfl (by have := am_bd_lt hb1; omega) (am_Kb4 hb1)).trans (am_itn (fun g3 => ?_))
    refine (ev_imul rfl).trans ?_
    refine (ev_iload rfl rfl).trans ?_
    refine (ev_iload rfl rfl).trans ?_
    refine (ev_imul rfl).trans ?_
    refine (ev_isub rfl).trans ?_
    exact ev_iret rfl
  refine (am_dec ((I (am_bd b2 + 1) 6) = (2 : Int32))).trans (am_ite (fun s1_2 => ?_) (fun s1_2 => ?_))
  · refine (ev_tswIn (k := 2) rfl (by rw [s1_2]; decide) rfl).trans ?_
    refine (ev_aload rfl rfl).trans ?_
    refine (ev_getR rfl (by have := am_bd_lt hb1; omega) (am_Kbd hb1) (by decide) rfl (am_Rb4 hb1)).trans ?_
    refine (ev_iload rfl rfl).trans ?_
    refine (ev_iald rfl (by have := am_bd_lt hb1; omega) (am_Kb3 hb1)).trans (am_itn (fun g2 => ?_))
    refine (ev_ineg rfl).trans ?_
    refine (ev_istore (ls' := [.ref (am_bd b1), .ref (am_bd b2), .int x3, .int (I (am_bd b2 + 1) 5), .int (-(I (am_bd b1 + 3) x3.toNatClampNeg))]) rfl (Nat.le_of_ble_eq_true rfl) rfl).trans ?_
    refine (ev_goto rfl).trans ?_
    refine (ev_const1 (v := (16 : Int32)) rfl am_ci_16).trans ?_
    refine (ev_iload rfl rfl).trans ?_
    refine (ev_isub rfl).trans ?_
    refine (ev_aload rfl rfl).trans ?_
    refine (ev_getR rfl (by have := am_bd_lt hb1; omega) (am_Kbd hb1) (by decide) rfl (am_Rb5 hb1)).trans ?_
    refine (ev_iload rfl rfl).trans ?_
    refine (ev_iald rfl (by have := am_bd_lt hb1; omega) (am_Kb4 hb1)).trans (am_itn (fun g3 => ?_))
    refine (ev_imul rfl).trans ?_
    refine (ev_iload rfl rfl).trans ?_
    refine (ev_iload rfl rfl).trans ?_
    refine (ev_imul rfl).trans ?_
    refine (ev_isub rfl).trans ?_
    exact ev_iret rfl
  refine (ev_tswOut rfl (by have q0 := am_neT s1_0 (n := 0) (by decide); have q1 := am_neT s1_1 (n := 1) (by decide); have q2 := am_neT s1_2 (n := 2) (by decide); simp only [List.length_cons, List.length_nil]; omega)).trans ?_
  refine (ev_aload rfl rfl).trans ?_
  refine (ev_getR rfl (by have := am_bd_lt hb1; omega) (am_Kbd hb1) (by decide) rfl (am_Rb3 hb1)).trans ?_
  refine (ev_iload rfl rfl).trans ?_
  refine (ev_iald rfl (by have := am_bd_lt hb1; omega) (am_Kb2 hb1)).trans (am_itn (fun g2 => ?_))
  refine (ev_istore (ls' := [.ref (am_bd b1), .ref (am_bd b2), .int x3, .int (I (am_bd b2 + 1) 5), .int (I (am_bd b1 + 2) x3.toNatClampNeg)]) rfl (Nat.le_of_ble_eq_true rfl) rfl).trans ?_
  refine (ev_const1 (v := (16 : Int32)) rfl am_ci_16).trans ?_
  refine (ev_iload rfl rfl).trans ?_
  refine (ev_isub rfl).trans ?_
  refine (ev_aload rfl rfl).trans ?_
  refine (ev_getR rfl (by have := am_bd_lt hb1; omega) (am_Kbd hb1) (by decide) rfl (am_Rb5 hb1)).trans ?_
  refine (ev_iload rfl rfl).trans ?_
  refine (ev_iald rfl (by have := am_bd_lt hb1; omega) (am_Kb4 hb1)).trans (am_itn (fun g3 => ?_))
  refine (ev_imul rfl).trans ?_
  refine (ev_iload rfl rfl).trans ?_
  refine (ev_iload rfl rfl).trans ?_
  refine (ev_imul rfl).trans ?_
  refine (ev_isub rfl).trans ?_
  exact ev_iret rfl
theorem cl_37 (X : am_X) (I : Nat → Nat → Int32) (J : Nat → Nat → Int64) (b1 : Nat) (b2 : Nat) (x3 : Int32) : am_do X 37 [.ref (am_bd b1), .ref (am_bd b2), .int x3] (am_sh I J) = am_ev X amP_37 0 [.ref (am_bd b1), .ref (am_bd b2), .int x3, .null, .null] [] (am_sh I J) := am_do_of rfl rfl rfl
-- 38 X2_shellIsOff
set_option maxRecDepth 10000 in
theorem sg_38_e0 (X : am_X) (I : Nat → Nat → Int32) (J : Nat → Nat → Int64) (b1 : Nat) (b2 : Nat) (x3 : Int32) (hb1 : b1 < 11) (hb2 : b2 < 11) : am_ev X amP_38 0 [.ref (am_bd b1), .ref (am_bd b2), .int x3, .null, .null, .null] [] (am_sh I J) = (if ((I (am_bd b1 + 1) 0) - (I (am_bd b2 + 1) 1)) ≤ ((I (am_bd b2 + 1) 0) - (I (am_bd b1 + 1) 1)) then (if ((I (am_bd b2 + 1) 0) - (I (am_bd b1 + 1) 1)) ≤ 0 then some (some (.int (0 : Int32)), am_sh I J) else (if ((((I (am_bd b2 + 1) 0) - (I (am_bd b1 + 1) 1)) - (1 : Int32)) * (((I (am_bd b2 + 1) 0) - (I (am_bd b1 + 1) 1)) - (1 : Int32))) ≤ (((3 : Int32) * x3) * x3) then some (some (.int (0 : Int32)), am_sh I J) else some (some (.int (1 : Int32)), am_sh I J))) else (if ((I (am_bd b1 + 1) 0) - (I (am_bd b2 + 1) 1)) ≤ 0 then some (some (.int (0 : Int32)), am_sh I J) else (if ((((I (am_bd b1 + 1) 0) - (I (am_bd b2 + 1) 1)) - (1 : Int32)) * (((I (am_bd b1 + 1) 0) - (I (am_bd b2 + 1) 1)) - (1 : Int32))) ≤ (((3 : Int32) * x3) * x3) then some (some (.int (0 : Int32)), am_sh I J) else some (some (.int (1 : Int32)), am_sh I J)))) := by
  refine (ev_aload rfl rfl).trans ?_
  refine (ev_getR rfl (by have := am_bd_lt hb1; omega) (am_Kbd hb1) (by decide) rfl (am_Rb2 hb1)).trans ?_
  refine (ev_const0 (v := (0 : Int32)) rfl am_ci_0).trans ?_
  refine (ev_ialdC (jn := 0) rfl (by have := am_bd_lt hb1; omega) (am_Kbn hb1) (by decide) (by decide)).trans ?_
  refine (ev_aload rfl rfl).trans ?_
  refine (ev_getR rfl (by have := am_bd_lt hb2; omega) (am_Kbd hb2) (by decide) rfl (am_Rb2 hb2)).trans ?_
  refine (ev_const0 (v := (1 : Int32)) rfl am_ci_1).trans ?_
  refine (ev_ialdC (jn := 1) rfl (by have := am_bd_lt hb2; omega) (am_Kbn hb2) (by decide) (by decide)).trans ?_
  refine (ev_isub rfl).trans ?_
  refine (ev_istore (ls' := [.ref (am_bd b1), .ref (am_bd b2), .int x3, .int ((I (am_bd b1 + 1) 0) - (I (am_bd b2 + 1) 1)), .null, .null]) rfl (Nat.le_of_ble_eq_true rfl) rfl).trans ?_
  refine (ev_aload rfl rfl).trans ?_
  refine (ev_getR rfl (by have := am_bd_lt hb2; omega) (am_Kbd hb2) (by decide) rfl (am_Rb2 hb2)).trans ?_
  refine (ev_const0 (v := (0 : Int32)) rfl am_ci_0).trans ?_
  refine (ev_ialdC (jn := 0) rfl (by have := am_bd_lt hb2; omega) (am_Kbn hb2) (by decide) (by decide)).trans ?_
  refine (ev_aload rfl rfl).trans ?_
  refine (ev_getR rfl (by have := am_bd_lt hb1; omega) (am_Kbd hb1) (by decide) rfl (am_Rb2 hb1)).trans ?_
  refine (ev_const0 (v := (1 : Int32)) rfl am_ci_1).trans ?_
  refine (ev_ialdC (jn := 1) rfl (by have := am_bd_lt hb1; omega) (am_Kbn hb1) (by decide) (by decide)).trans ?_
  refine (ev_isub rfl).trans ?_
  refine (ev_istore (ls' := [.ref (am_bd b1), .ref (am_bd b2), .int x3, .int ((I (am_bd b1 + 1) 0) - (I (am_bd b2 + 1) 1)), .int ((I (am_bd b2 + 1) 0) - (I (am_bd b1 + 1) 1)), .null]) rfl (Nat.le_of_ble_eq_true rfl) rfl).trans ?_
  refine (ev_iload rfl rfl).trans ?_
  refine (ev_iload rfl rfl).trans ?_
  refine (ev_icmp5 rfl).trans (am_ite (fun c1 => ?_) (fun c1 => ?_))
  · refine (ev_iload rfl rfl).trans ?_
    refine (ev_istore (ls' := [.ref (am_bd b1), .ref (am_bd b2), .int x3, .int ((I (am_bd b1 + 1) 0) - (I (am_bd b2 + 1) 1)), .int ((I (am_bd b2 + 1) 0) - (I (am_bd b1 + 1) 1)), .int ((I (am_bd b2 + 1) 0) - (I (am_bd b1 + 1) 1))]) rfl (Nat.le_of_ble_eq_true rfl) rfl).trans ?_
    refine (ev_iload rfl rfl).trans ?_
    refine (ev_if5 rfl).trans (am_ite (fun c2 => ?_) (fun c2 => ?_))
    · refine (ev_const0 (v := (0 : Int32)) rfl am_ci_0).trans ?_
      exact ev_zret rfl (by decide)
    · refine (ev_iload rfl rfl).trans ?_
      refine (ev_const0 (v := (1 : Int32)) rfl am_ci_1).trans ?_
      refine (ev_isub rfl).trans ?_
      refine (ev_iload rfl rfl).trans ?_
      refine (ev_const0 (v := (1 : Int32)) rfl am_ci_1).trans ?_
      refine (ev_isub rfl).trans ?_
      refine (ev_imul rfl).trans ?_
      refine (ev_const0 (v := (3 : Int32)) rfl am_ci_3).trans ?_
      refine (ev_iload rfl rfl).trans ?_
      refine (ev_imul rfl).trans ?_
      refine (ev_iload rfl rfl).trans ?_
      refine (ev_imul rfl).trans ?_
      refine (ev_icmp5 rfl).trans (am_ite (fun c3 => ?_) (fun c3 => ?_))
      · refine (ev_const0 (v := (0 : Int32)) rfl am_ci_0).trans ?_
        exact ev_zret rfl (by decide)
      · refine (ev_const0 (v := (1 : Int32)) rfl am_ci_1).trans ?_
        refine (ev_goto rfl).trans ?_
        exact ev_zret rfl (by decide)
  · refine (ev_iload rfl rfl).trans ?_
    refine (ev_goto rfl).trans ?_
    refine (ev_istore (ls' := [.ref (am_bd b1), .ref (am_bd b2), .int x3, .int ((I (am_bd b1 + 1) 0) - (I (am_bd b2 + 1) 1)), .int ((I (am_bd b2 + 1) 0) - (I (am_bd b1 + 1) 1)), .int ((I (am_bd b1 + 1) 0) - (I (am_bd b2 + 1) 1))]) rfl (Nat.le_of_ble_eq_true rfl) rfl).trans ?_
    refine (ev_iload rfl rfl).trans ?_
    refine (ev_if5 rfl).trans (am_ite (fun c2 => ?_) (fun c2 => ?_))
    · refine (ev_const0 (v := (0 : Int32)) rfl am_ci_0).trans ?_
      exact ev_zret rfl (by decide)
    · refine (ev_iload rfl rfl).trans ?_
      refine (ev_const0 (v := (1 : Int32)) rfl am_ci_1).trans ?_
      refine (ev_isub rfl).trans ?_
      refine (ev_iload rfl rfl).trans ?_
      refine (ev_const0 (v := (1 : Int32)) rfl am_ci_1).trans ?_
      refine (ev_isub rfl).trans ?_
      refine (ev_imul rfl).trans ?_
      refine (ev_const0 (v := (3 : Int32)) rfl am_ci_3).trans ?_
      refine (ev_iload rfl rfl).trans ?_
      refine (ev_imul rfl).trans ?_
      refine (ev_iload rfl rfl).trans ?_
      refine (ev_imul rfl).trans ?_
      refine (ev_icmp5 rfl).trans (am_ite (fun c3 => ?_) (fun c3 => ?_))
      · refine (ev_const0 (v := (0 : Int32)) rfl am_ci_0).trans ?_
        exact ev_zret rfl (by decide)
      · refine (ev_const0 (v := (1 : Int32)) rfl am_ci_1).trans ?_
        refine (ev_goto rfl).trans ?_
        exact ev_zret rfl (by decide)
theorem cl_38 (X : am_X) (I : Nat → Nat → Int32) (J : Nat → Nat → Int64) (b1 : Nat) (b2 : Nat) (x3 : Int32) : am_do X 38 [.ref (am_bd b1), .ref (am_bd b2), .int x3] (am_sh I J) = am_ev X amP_38 0 [.ref (am_bd b1), .ref (am_bd b2), .int x3, .null, .null, .null] [] (am_sh I J) := am_do_of rfl rfl rfl
-- 39 X2_sharedWith
set_option maxRecDepth 10000 in
theorem sg_39_e0 (X : am_X) (I : Nat → Nat → Int32) (J : Nat → Nat → Int64) (b1 : Nat) (b2 : Nat) (hb1 : b1 < 11) (hb2 : b2 < 11) : am_ev X amP_39 0 [.ref (am_bd b1), .ref (am_bd b2), .null, .null, .null, .null] [] (am_sh I J) = am_ev X amP_39 8 [.ref (am_bd b1), .ref (am_bd b2), .int (I (am_bd b1) 1), .int (I (am_bd b2) 1), .int (0 : Int32), .null] [] (am_sh I J) := by
  refine (ev_aload rfl rfl).trans ?_
  refine (ev_getI rfl (by have := am_bd_lt hb1; omega) (am_Kbd hb1) (by decide) rfl).trans ?_
  refine (ev_istore (ls' := [.ref (am_bd b1), .ref (am_bd b2), .int (I (am_bd b1) 1), .null, .null, .null]) rfl (Nat.le_of_ble_eq_true rfl) rfl).trans ?_
  refine (ev_aload rfl rfl).trans ?_
  refine (ev_getI rfl (by have := am_bd_lt hb2; omega) (am_Kbd hb2) (by decide) rfl).trans ?_
  refine (ev_istore (ls' := [.ref (am_bd b1), .ref (am_bd b2), .int (I (am_bd b1) 1), .int (I (am_bd b2) 1), .null, .null]) rfl (Nat.le_of_ble_eq_true rfl) rfl).trans ?_
  refine (ev_const0 (v := (0 : Int32)) rfl am_ci_0).trans ?_
  refine (ev_istore (ls' := [.ref (am_bd b1), .ref (am_bd b2), .int (I (am_bd b1) 1), .int (I (am_bd b2) 1), .int (0 : Int32), .null]) rfl (Nat.le_of_ble_eq_true rfl) rfl).trans ?_
  rfl
theorem cl_39 (X : am_X) (I : Nat → Nat → Int32) (J : Nat → Nat → Int64) (b1 : Nat) (b2 : Nat) : am_do X 39 [.ref (am_bd b1), .ref (am_bd b2)] (am_sh I J) = am_ev X amP_39 0 [.ref (am_bd b1), .ref (am_bd b2), .null, .null, .null, .null] [] (am_sh I J) := am_do_of rfl rfl rfl
set_option maxRecDepth 10000 in
theorem sg_39_8 (X : am_X) (I : Nat → Nat → Int32) (J : Nat → Nat → Int64) (b1 : Nat) (b2 : Nat) (x3 : Int32) (x4 : Int32) (x5 : Int32) (w6 : Value) (hb1 : b1 < 11) (hb2 : b2 < 11) (hw6 : w6.category = 1) : am_ev X amP_39 8 [.ref (am_bd b1), .ref (am_bd b2), .int x3, .int x4, .int x5, w6] [] (am_sh I J) = (if (48 : Int32) ≤ x5 then (if x3 ≤ 0 then some (some (.int (1 : Int32)), am_sh I J) else some (some (.int x3), am_sh I J)) else (if x4 ≤ 0 then (if x3 ≤ 0 then some (some (.int (1 : Int32)), am_sh I J) else some (some (.int x3), am_sh I J)) else (if x4 = 0 then none else am_ev X amP_39 8 [.ref (am_bd b1), .ref (am_bd b2), .int x4, .int (x3 - x3 / x4 * x4), .int (x5 + (1 : Int32)), .int (x3 - x3 / x4 * x4)] [] (am_sh I J)))) := by
  refine (ev_iload rfl rfl).trans ?_
  refine (ev_const1 (v := (48 : Int32)) rfl am_ci_48).trans ?_
  refine (ev_icmp3 rfl).trans (am_ite (fun c1 => ?_) (fun c1 => ?_))
  · refine (ev_iload rfl rfl).trans ?_
    refine (ev_if5 rfl).trans (am_ite (fun c2 => ?_) (fun c2 => ?_))
    · refine (ev_const0 (v := (1 : Int32)) rfl am_ci_1).trans ?_
      exact ev_iret rfl
    · refine (ev_iload rfl rfl).trans ?_
      refine (ev_goto rfl).trans ?_
      exact ev_iret rfl
  · refine (ev_iload rfl rfl).trans ?_
    refine (ev_if5 rfl).trans (am_ite (fun c2 => ?_) (fun c2 => ?_))
    · refine (ev_iload rfl rfl).trans ?_
      refine (ev_if5 rfl).trans (am_ite (fun c3 => ?_) (fun c3 => ?_))
      · refine (ev_const0 (v := (1 : Int32)) rfl am_ci_1).trans ?_
        exact ev_iret rfl
      · refine (ev_iload rfl rfl).trans ?_
        refine (ev_goto rfl).trans ?_
        exact ev_iret rfl
    · refine (ev_iload rfl rfl).trans ?_
      refine (ev_iload rfl rfl).trans ?_
      refine (ev_irem rfl).trans (am_itn (fun g3 => ?_))
      refine (ev_istore (ls' := [.ref (am_bd b1), .ref (am_bd b2), .int x3, .int x4, .int x5, .int (x3 - x3 / x4 * x4)]) rfl (Nat.le_of_ble_eq_true rfl) rfl).trans ?_
      refine (ev_iload rfl rfl).trans ?_
      refine (ev_istore (ls' := [.ref (am_bd b1), .ref (am_bd b2), .int x4, .int x4, .int x5, .int (x3 - x3 / x4 * x4)]) rfl (Nat.le_of_ble_eq_true rfl) rfl).trans ?_
      refine (ev_iload rfl rfl).trans ?_
      refine (ev_istore (ls' := [.ref (am_bd b1), .ref (am_bd b2), .int x4, .int (x3 - x3 / x4 * x4), .int x5, .int (x3 - x3 / x4 * x4)]) rfl (Nat.le_of_ble_eq_true rfl) rfl).trans ?_
      refine (ev_iincv (v := (1 : Int32)) (ls' := [.ref (am_bd b1), .ref (am_bd b2), .int x4, .int (x3 - x3 / x4 * x4), .int (x5 + (1 : Int32)), .int (x3 - x3 / x4 * x4)]) rfl am_ci_1 rfl rfl).trans ?_
      refine (ev_goto rfl).trans ?_
      rfl
-- 40 X2_cycleWith
set_option maxRecDepth 10000 in
theorem sg_40_e0 (X : am_X) (I : Nat → Nat → Int32) (J : Nat → Nat → Int64) (b1 : Nat) (b2 : Nat) (hb1 : b1 < 11) (hb2 : b2 < 11) : am_ev X amP_40 0 [.ref (am_bd b1), .ref (am_bd b2), .null, .null] [] (am_sh I J) = am_ev X amP_40 5 [.ref (am_bd b1), .ref (am_bd b2), .int (I (am_bd b1) 1), .int (1 : Int32)] [] (am_sh I J) := by
  refine (ev_aload rfl rfl).trans ?_
  refine (ev_getI rfl (by have := am_bd_lt hb1; omega) (am_Kbd hb1) (by decide) rfl).trans ?_
  refine (ev_istore (ls' := [.ref (am_bd b1), .ref (am_bd b2), .int (I (am_bd b1) 1), .null]) rfl (Nat.le_of_ble_eq_true rfl) rfl).trans ?_
  refine (ev_const0 (v := (1 : Int32)) rfl am_ci_1).trans ?_
  refine (ev_istore (ls' := [.ref (am_bd b1), .ref (am_bd b2), .int (I (am_bd b1) 1), .int (1 : Int32)]) rfl (Nat.le_of_ble_eq_true rfl) rfl).trans ?_
  rfl
theorem cl_40 (X : am_X) (I : Nat → Nat → Int32) (J : Nat → Nat → Int64) (b1 : Nat) (b2 : Nat) : am_do X 40 [.ref (am_bd b1), .ref (am_bd b2)] (am_sh I J) = am_ev X amP_40 0 [.ref (am_bd b1), .ref (am_bd b2), .null, .null] [] (am_sh I J) := am_do_of rfl rfl rfl
set_option maxRecDepth 10000 in
theorem sg_40_5 (X : am_X) (I : Nat → Nat → Int32) (J : Nat → Nat → Int64) (b1 : Nat) (b2 : Nat) (x3 : Int32) (x4 : Int32) (hb1 : b1 < 11) (hb2 : b2 < 11) : am_ev X amP_40 5 [.ref (am_bd b1), .ref (am_bd b2), .int x3, .int x4] [] (am_sh I J) = (if (I (am_bd b2) 1) ≤ x4 then some (some (.int x3), am_sh I J) else (if (I (am_bd b2) 1) = 0 then none else (if (x3 - x3 / (I (am_bd b2) 1) * (I (am_bd b2) 1)) = 0 then some (some (.int x3), am_sh I J) else am_ev X amP_40 5 [.ref (am_bd b1), .ref (am_bd b2), .int (x3 + (I (am_bd b1) 1)), .int (x4 + (1 : Int32))] [] (am_sh I J)))) := by
  refine (ev_iload rfl rfl).trans ?_
  refine (ev_aload rfl rfl).trans ?_
  refine (ev_getI rfl (by have := am_bd_lt hb2; omega) (am_Kbd hb2) (by decide) rfl).trans ?_
  refine (ev_icmp3 rfl).trans (am_ite (fun c1 => ?_) (fun c1 => ?_))
  · refine (ev_iload rfl rfl).trans ?_
    exact ev_iret rfl
  · refine (ev_iload rfl rfl).trans ?_
    refine (ev_aload rfl rfl).trans ?_
    refine (ev_getI rfl (by have := am_bd_lt hb2; omega) (am_Kbd hb2) (by decide) rfl).trans ?_
    refine (ev_irem rfl).trans (am_itn (fun g2 => ?_))
    refine (ev_if0 rfl).trans (am_ite (fun c3 => ?_) (fun c3 => ?_))
    · refine (ev_iload rfl rfl).trans ?_
      exact ev_iret rfl
    · refine (ev_iload rfl rfl).trans ?_
      refine (ev_aload rfl rfl).trans ?_
      refine (ev_getI rfl (by have := am_bd_lt hb1; omega) (am_Kbd hb1) (by decide) rfl).trans ?_
      refine (ev_iadd rfl).trans ?_
      refine (ev_istore (ls' := [.ref (am_bd b1), .ref (am_bd b2), .int (x3 + (I (am_bd b1) 1)), .int x4]) rfl (Nat.le_of_ble_eq_true rfl) rfl).trans ?_
      refine (ev_iincv (v := (1 : Int32)) (ls' := [.ref (am_bd b1), .ref (am_bd b2), .int (x3 + (I (am_bd b1) 1)), .int (x4 + (1 : Int32))]) rfl am_ci_1 rfl rfl).trans ?_
      refine (ev_goto rfl).trans ?_
      rfl
-- 41 X2_stepWithin
set_option maxRecDepth 10000 in
theorem sg_41_e0 (X : am_X) (I : Nat → Nat → Int32) (J : Nat → Nat → Int64) (b1 : Nat) (x2 : Int32) (b3 : Nat) (x4 : Int32) (x5 : Int32) (hb1 : b1 < 11) (hb3 : b3 < 11) : am_ev X amP_41 0 [.ref (am_bd b1), .int x2, .ref (am_bd b3), .int x4, .int x5, .null, .null, .null, .null, .null, .null, .null] [] (am_sh I J) = (am_do X 39 [.ref (am_bd b1), .ref (am_bd b3)] (am_sh I J)).bind (fun q => am_ev X amP_41 3 [.ref (am_bd b1), .int x2, .ref (am_bd b3), .int x4, .int x5, .null, .null, .null, .null, .null, .null, .null] (q.1.toList ++ []) q.2) := by
  refine (ev_aload rfl rfl).trans ?_
  refine (ev_aload rfl rfl).trans ?_
  exact ev_invv (as := [.ref (am_bd b3)]) rfl (by have := am_bd_lt hb1; omega) (am_Kbd hb1) rfl (by simp [Value.category])
theorem cl_41 (X : am_X) (I : Nat → Nat → Int32) (J : Nat → Nat → Int64) (b1 : Nat) (x2 : Int32) (b3 : Nat) (x4 : Int32) (x5 : Int32) : am_do X 41 [.ref (am_bd b1), .int x2, .ref (am_bd b3), .int x4, .int x5] (am_sh I J) = am_ev X amP_41 0 [.ref (am_bd b1), .int x2, .ref (am_bd b3), .int x4, .int x5, .null, .null, .null, .null, .null, .null, .null] [] (am_sh I J) := am_do_of rfl rfl rfl
set_option maxRecDepth 10000 in
theorem sg_41_3 (X : am_X) (I : Nat → Nat → Int32) (J : Nat → Nat → Int64) (b1 : Nat) (x2 : Int32) (b3 : Nat) (x4 : Int32) (x5 : Int32) (w6 : Value) (w7 : Value) (w8 : Value) (w9 : Value) (w10 : Value) (w11 : Value) (w12 : Value) (x13 : Int32) (hb1 : b1 < 11) (hb3 : b3 < 11) (hw6 : w6.category = 1) (hw7 : w7.category = 1) (hw8 : w8.category = 1) (hw9 : w9.category = 1) (hw10 : w10.category = 1) (hw11 : w11.category = 1) (hw12 : w12.category = 1) : am_ev X amP_41 3 [.ref (am_bd b1), .int x2, .ref (am_bd b3), .int x4, .int x5, w6, w7, w8, w9, w10, w11, w12] [.int x13] (am_sh I J) = (am_do X 38 [.ref (am_bd b1), .ref (am_bd b3), .int x2] (am_sh I J)).bind (fun q => am_ev X amP_41 18 [.ref (am_bd b1), .int x2, .ref (am_bd b3), .int x4, .int x5, .int x13, .int ((I (am_bd b1 + 1) 3) - (I (am_bd b3 + 1) 3)), w8, w9, w10, w11, w12] (q.1.toList ++ []) q.2) := by
  refine (ev_istore (ls' := [.ref (am_bd b1), .int x2, .ref (am_bd b3), .int x4, .int x5, .int x13, w7, w8, w9, w10, w11, w12]) rfl (Nat.le_of_ble_eq_true rfl) rfl).trans ?_
  refine (ev_aload rfl rfl).trans ?_
  refine (ev_getR rfl (by have := am_bd_lt hb1; omega) (am_Kbd hb1) (by decide) rfl (am_Rb2 hb1)).trans ?_
  refine (ev_const0 (v := (3 : Int32)) rfl am_ci_3).trans ?_
  refine (ev_ialdC (jn := 3) rfl (by have := am_bd_lt hb1; omega) (am_Kbn hb1) (by decide) (by decide)).trans ?_
  refine (ev_aload rfl rfl).trans ?_
  refine (ev_getR rfl (by have := am_bd_lt hb3; omega) (am_Kbd hb3) (by decide) rfl (am_Rb2 hb3)).trans ?_
  refine (ev_const0 (v := (3 : Int32)) rfl am_ci_3).trans ?_
  refine (ev_ialdC (jn := 3) rfl (by have := am_bd_lt hb3; omega) (am_Kbn hb3) (by decide) (by decide)).trans ?_
  refine (ev_isub rfl).trans ?_
  refine (ev_istore (ls' := [.ref (am_bd b1), .int x2, .ref (am_bd b3), .int x4, .int x5, .int x13, .int ((I (am_bd b1 + 1) 3) - (I (am_bd b3 + 1) 3)), w8, w9, w10, w11, w12]) rfl (Nat.le_of_ble_eq_true rfl) rfl).trans ?_
  refine (ev_aload rfl rfl).trans ?_
  refine (ev_aload rfl rfl).trans ?_
  refine (ev_iload rfl rfl).trans ?_
  exact ev_invv (as := [.int x2, .ref (am_bd b3)]) rfl (by have := am_bd_lt hb1; omega) (am_Kbd hb1) rfl (by simp [Value.category])
set_option maxRecDepth 10000 in
theorem sg_41_18 (X : am_X) (I : Nat → Nat → Int32) (J : Nat → Nat → Int64) (b1 : Nat) (x2 : Int32) (b3 : Nat) (x4 : Int32) (x5 : Int32) (x6 : Int32) (x7 : Int32) (w8 : Value) (w9 : Value) (w10 : Value) (w11 : Value) (w12 : Value) (x13 : Int32) (hb1 : b1 < 11) (hb3 : b3 < 11) (hw8 : w8.category = 1) (hw9 : w9.category = 1) (hw10 : w10.category = 1) (hw11 : w11.category = 1) (hw12 : w12.category = 1) : am_ev X amP_41 18 [.ref (am_bd b1), .int x2, .ref (am_bd b3), .int x4, .int x5, .int x6, .int x7, w8, w9, w10, w11, w12] [.int x13] (am_sh I J) = (if x13 = 0 then (am_do X 353 [.int x5, .int (I (am_bd b1) 1)] (am_sh I J)).bind (fun q => am_ev X amP_41 25 [.ref (am_bd b1), .int x2, .ref (am_bd b3), .int x4, .int x5, .int x6, .int x7, w8, w9, w10, w11, w12] (q.1.toList ++ []) q.2) else am_ev X amP_41 28 [.ref (am_bd b1), .int x2, .ref (am_bd b3), .int x4, .int x5, .int x6, .int x7, .int (0 : Int32), .int (0 : Int32), w10, w11, w12] [] (am_sh I J)) := by
  refine (ev_if0 rfl).trans (am_ite (fun c1 => ?_) (fun c1 => ?_))
  · refine (ev_iload rfl rfl).trans ?_
    refine (ev_aload rfl rfl).trans ?_
    refine (ev_getI rfl (by have := am_bd_lt hb1; omega) (am_Kbd hb1) (by decide) rfl).trans ?_
    exact ev_invs (as := [.int (I (am_bd b1) 1), .int x5]) rfl rfl (by simp [Value.category])
  · refine (ev_const0 (v := (0 : Int32)) rfl am_ci_0).trans ?_
    refine (ev_goto rfl).trans ?_
    refine (ev_istore (ls' := [.ref (am_bd b1), .int x2, .ref (am_bd b3), .int x4, .int x5, .int x6, .int x7, .int (0 : Int32), w9, w10, w11, w12]) rfl (Nat.le_of_ble_eq_true rfl) rfl).trans ?_
    refine (ev_const0 (v := (0 : Int32)) rfl am_ci_0).trans ?_
    refine (ev_istore (ls' := [.ref (am_bd b1), .int x2, .ref (am_bd b3), .int x4, .int x5, .int x6, .int x7, .int (0 : Int32), .int (0 : Int32), w10, w11, w12]) rfl (Nat.le_of_ble_eq_true rfl) rfl).trans ?_
    rfl
set_option maxRecDepth 10000 in
theorem sg_41_25 (X : am_X) (I : Nat → Nat → Int32) (J : Nat → Nat → Int64) (b1 : Nat) (x2 : Int32) (b3 : Nat) (x4 : Int32) (x5 : Int32) (x6 : Int32) (x7 : Int32) (w8 : Value) (w9 : Value) (w10 : Value) (w11 : Value) (w12 : Value) (x13 : Int32) (hb1 : b1 < 11) (hb3 : b3 < 11) (hw8 : w8.category = 1) (hw9 : w9.category = 1) (hw10 : w10.category = 1) (hw11 : w11.category = 1) (hw12 : w12.category = 1) : am_ev X amP_41 25 [.ref (am_bd b1), .int x2, .ref (am_bd b3), .int x4, .int x5, .int x6, .int x7, w8, w9, w10, w11, w12] [.int x13] (am_sh I J) = am_ev X amP_41 28 [.ref (am_bd b1), .int x2, .ref (am_bd b3), .int x4, .int x5, .int x6, .int x7, .int x13, .int (0 : Int32), w10, w11, w12] [] (am_sh I J) := by
  refine (ev_istore (ls' := [.ref (am_bd b1), .int x2, .ref (am_bd b3), .int x4, .int x5, .int x6, .int x7, .int x13, w9, w10, w11, w12]) rfl (Nat.le_of_ble_eq_true rfl) rfl).trans ?_
  refine (ev_const0 (v := (0 : Int32)) rfl am_ci_0).trans ?_
  refine (ev_istore (ls' := [.ref (am_bd b1), .int x2, .ref (am_bd b3), .int x4, .int x5, .int x6, .int x7, .int x13, .int (0 : Int32), w10, w11, w12]) rfl (Nat.le_of_ble_eq_true rfl) rfl).trans ?_
  rfl
set_option maxRecDepth 10000 in
theorem sg_41_28 (X : am_X) (I : Nat → Nat → Int32) (J : Nat → Nat → Int64) (b1 : Nat) (x2 : Int32) (b3 : Nat) (x4 : Int32) (x5 : Int32) (x6 : Int32) (x7 : Int32) (x8 : Int32) (x9 : Int32) (w10 : Value) (w11 : Value) (w12 : Value) (hb1 : b1 < 11) (hb3 : b3 < 11) (hw10 : w10.category = 1) (hw11 : w11.category = 1) (hw12 : w12.category = 1) : am_ev X amP_41 28 [.ref (am_bd b1), .int x2, .ref (am_bd b3), .int x4, .int x5, .int x6, .int x7, .int x8, .int x9, w10, w11, w12] [] (am_sh I J) = (if x8 ≤ x9 then some (some (.int (-1 : Int32)), am_sh I J) else (if (I (am_bd b1) 1) = 0 then none else (am_do X 350 [.int (((x4 + x9) - (x4 + x9) / (I (am_bd b1) 1) * (I (am_bd b1) 1)) - x7), .int x6] (am_sh I J)).bind (fun q => am_ev X amP_41 43 [.ref (am_bd b1), .int x2, .ref (am_bd b3), .int x4, .int x5, .int x6, .int x7, .int x8, .int x9, .int ((x4 + x9) - (x4 + x9) / (I (am_bd b1) 1) * (I (am_bd b1) 1)), w11, w12] (q.1.toList ++ []) q.2))) := by
  refine (ev_iload rfl rfl).trans ?_
  refine (ev_iload rfl rfl).trans ?_
  refine (ev_icmp3 rfl).trans (am_ite (fun c1 => ?_) (fun c1 => ?_))
  · refine (ev_const0 (v := (-1 : Int32)) rfl am_ci_m1).trans ?_
    exact ev_iret rfl
  · refine (ev_iload rfl rfl).trans ?_
    refine (ev_iload rfl rfl).trans ?_
    refine (ev_iadd rfl).trans ?_
    refine (ev_aload rfl rfl).trans ?_
    refine (ev_getI rfl (by have := am_bd_lt hb1; omega) (am_Kbd hb1) (by decide) rfl).trans ?_
    refine (ev_irem rfl).trans (am_itn (fun g2 => ?_))
    refine (ev_istore (ls' := [.ref (am_bd b1), .int x2, .ref (am_bd b3), .int x4, .int x5, .int x6, .int x7, .int x8, .int x9, .int ((x4 + x9) - (x4 + x9) / (I (am_bd b1) 1) * (I (am_bd b1) 1)), w11, w12]) rfl (Nat.le_of_ble_eq_true rfl) rfl).trans ?_
    refine (ev_iload rfl rfl).trans ?_
    refine (ev_iload rfl rfl).trans ?_
    refine (ev_isub rfl).trans ?_
    refine (ev_iload rfl rfl).trans ?_
    exact ev_invs (as := [.int x6, .int (((x4 + x9) - (x4 + x9) / (I (am_bd b1) 1) * (I (am_bd b1) 1)) - x7)]) rfl rfl (by simp [Value.category])
set_option maxRecDepth 10000 in
theorem sg_41_43 (X : am_X) (I : Nat → Nat → Int32) (J : Nat → Nat → Int64) (b1 : Nat) (x2 : Int32) (b3 : Nat) (x4 : Int32) (x5 : Int32) (x6 : Int32) (x7 : Int32) (x8 : Int32) (x9 : Int32) (x10 : Int32) (w11 : Value) (w12 : Value) (x13 : Int32) (hb1 : b1 < 11) (hb3 : b3 < 11) (hw11 : w11.category = 1) (hw12 : w12.category = 1) : am_ev X amP_41 43 [.ref (am_bd b1), .int x2, .ref (am_bd b3), .int x4, .int x5, .int x6, .int x7, .int x8, .int x9, .int x10, w11, w12] [.int x13] (am_sh I J) = am_ev X amP_41 44 [.ref (am_bd b1), .int x2, .ref (am_bd b3), .int x4, .int x5, .int x6, .int x7, .int x8, .int x9, .int x10, .int x13, w12] [] (am_sh I J) := by
  refine (ev_istore (ls' := [.ref (am_bd b1), .int x2, .ref (am_bd b3), .int x4, .int x5, .int x6, .int x7, .int x8, .int x9, .int x10, .int x13, w12]) rfl (Nat.le_of_ble_eq_true rfl) rfl).trans ?_
  rfl
set_option maxRecDepth 10000 in
theorem sg_41_44 (X : am_X) (I : Nat → Nat → Int32) (J : Nat → Nat → Int64) (b1 : Nat) (x2 : Int32) (b3 : Nat) (x4 : Int32) (x5 : Int32) (x6 : Int32) (x7 : Int32) (x8 : Int32) (x9 : Int32) (x10 : Int32) (x11 : Int32) (w12 : Value) (hb1 : b1 < 11) (hb3 : b3 < 11) (hw12 : w12.category = 1) : am_ev X amP_41 44 [.ref (am_bd b1), .int x2, .ref (am_bd b3), .int x4, .int x5, .int x6, .int x7, .int x8, .int x9, .int x10, .int x11, w12] [] (am_sh I J) = (if (I (am_bd b3) 1) ≤ x11 then am_ev X amP_41 28 [.ref (am_bd b1), .int x2, .ref (am_bd b3), .int x4, .int x5, .int x6, .int x7, .int x8, .int (x9 + (1 : Int32)), .int x10, .int x11, w12] [] (am_sh I J) else (if x6 ≤ 0 then am_ev X amP_41 28 [.ref (am_bd b1), .int x2, .ref (am_bd b3), .int x4, .int x5, .int x6, .int x7, .int x8, .int (x9 + (1 : Int32)), .int x10, .int x11, w12] [] (am_sh I J) else (if x10 < 0 ∨ 48 ≤ x10.toNatClampNeg then none else (if x11 < 0 ∨ 48 ≤ x11.toNatClampNeg then none else (if x2 < ((I (am_bd b1 + 2) x10.toNatClampNeg) - (I (am_bd b3 + 2) x11.toNatClampNeg)) then am_ev X amP_41 44 [.ref (am_bd b1), .int x2, .ref (am_bd b3), .int x4, .int x5, .int x6, .int x7, .int x8, .int x9, .int x10, .int (x11 + x6), .int ((I (am_bd b1 + 2) x10.toNatClampNeg) - (I (am_bd b3 + 2) x11.toNatClampNeg))] [] (am_sh I J) else (if ((I (am_bd b1 + 2) x10.toNatClampNeg) - (I (am_bd b3 + 2) x11.toNatClampNeg)) < (-x2) then am_ev X amP_41 44 [.ref (am_bd b1), .int x2, .ref (am_bd b3), .int x4, .int x5, .int x6, .int x7, .int x8, .int x9, .int x10, .int (x11 + x6), .int ((I (am_bd b1 + 2) x10.toNatClampNeg) - (I (am_bd b3 + 2) x11.toNatClampNeg))] [] (am_sh I J) else (am_do X 36 [.ref (am_bd b1), .int x2, .int x10, .ref (am_bd b3), .int x11] (am_sh I J)).bind (fun q => am_ev X amP_41 73 [.ref (am_bd b1), .int x2, .ref (am_bd b3), .int x4, .int x5, .int x6, .int x7, .int x8, .int x9, .int x10, .int x11, .int ((I (am_bd b1 + 2) x10.toNatClampNeg) - (I (am_bd b3 + 2) x11.toNatClampNeg))] (q.1.toList ++ []) q.2))))))) := by
  refine (ev_iload rfl rfl).trans ?_
  refine (ev_aload rfl rfl).trans ?_
  refine (ev_getI rfl (by have := am_bd_lt hb3; omega) (am_Kbd hb3) (by decide) rfl).trans ?_
  refine (ev_icmp3 rfl).trans (am_ite (fun c1 => ?_) (fun c1 => ?_))
  · refine (ev_iincv (v := (1 : Int32)) (ls' := [.ref (am_bd b1), .int x2, .ref (am_bd b3), .int x4, .int x5, .int x6, .int x7, .int x8, .int (x9 + (1 : Int32)), .int x10, .int x11, w12]) rfl am_ci_1 rfl rfl).trans ?_
    refine (ev_goto rfl).trans ?_
    rfl
  · refine (ev_iload rfl rfl).trans ?_
    refine (ev_if5 rfl).trans (am_ite (fun c2 => ?_) (fun c2 => ?_))
    · refine (ev_iincv (v := (1 : Int32)) (ls' := [.ref (am_bd b1), .int x2, .ref (am_bd b3), .int x4, .int x5, .int x6, .int x7, .int x8, .int (x9 + (1 : Int32)), .int x10, .int x11, w12]) rfl am_ci_1 rfl rfl).trans ?_
      refine (ev_goto rfl).trans ?_
      rfl
    · refine (ev_aload rfl rfl).trans ?_
      refine (ev_getR rfl (by have := am_bd_lt hb1; omega) (am_Kbd hb1) (by decide) rfl (am_Rb3 hb1)).trans ?_
      refine (ev_iload rfl rfl).trans ?_
      refine (ev_iald rfl (by have := am_bd_lt hb1; omega) (am_Kb2 hb1)).trans (am_itn (fun g3 => ?_))
      refine (ev_aload rfl rfl).trans ?_
      refine (ev_getR rfl (by have := am_bd_lt hb3; omega) (am_Kbd hb3) (by decide) rfl (am_Rb3 hb3)).trans ?_
      refine (ev_iload rfl rfl).trans ?_
      refine (ev_iald rfl (by have := am_bd_lt hb3; omega) (am_Kb2 hb3)).trans (am_itn (fun g4 => ?_))
      refine (ev_isub rfl).trans ?_
      refine (ev_istore (ls' := [.ref (am_bd b1), .int x2, .ref (am_bd b3), .int x4, .int x5, .int x6, .int x7, .int x8, .int x9, .int x10, .int x11, .int ((I (am_bd b1 + 2) x10.toNatClampNeg) - (I (am_bd b3 + 2) x11.toNatClampNeg))]) rfl (Nat.le_of_ble_eq_true rfl) rfl).trans ?_
      refine (ev_iload rfl rfl).trans ?_
      refine (ev_iload rfl rfl).trans ?_
      refine (ev_icmp4 rfl).trans (am_ite (fun c5 => ?_) (fun c5 => ?_))
      · refine (ev_iload rfl rfl).trans ?_
        refine (ev_iload rfl rfl).trans ?_
        refine (ev_iadd rfl).trans ?_
        refine (ev_istore (ls' := [.ref (am_bd b1), .int x2, .ref (am_bd b3), .int x4, .int x5, .int x6, .int x7, .int x8, .int x9, .int x10, .int (x11 + x6), .int ((I (am_bd b1 + 2) x10.toNatClampNeg) - (I (am_bd b3 + 2) x11.toNatClampNeg))]) rfl (Nat.le_of_ble_eq_true rfl) rfl).trans ?_
        refine (ev_goto rfl).trans ?_
        rfl
      · refine (ev_iload rfl rfl).trans ?_
        refine (ev_iload rfl rfl).trans ?_
        refine (ev_ineg rfl).trans ?_
        refine (ev_icmp2 rfl).trans (am_ite (fun c6 => ?_) (fun c6 => ?_))
        · refine (ev_iload rfl rfl).trans ?_
          refine (ev_iload rfl rfl).trans ?_
          refine (ev_iadd rfl).trans ?_
          refine (ev_istore (ls' := [.ref (am_bd b1), .int x2, .ref (am_bd b3), .int x4, .int x5, .int x6, .int x7, .int x8, .int x9, .int x10, .int (x11 + x6), .int ((I (am_bd b1 + 2) x10.toNatClampNeg) - (I (am_bd b3 + 2) x11.toNatClampNeg))]) rfl (Nat.le_of_ble_eq_true rfl) rfl).trans ?_
          refine (ev_goto rfl).trans ?_
          rfl
        · refine (ev_aload rfl rfl).trans ?_
          refine (ev_iload rfl rfl).trans ?_
          refine (ev_iload rfl rfl).trans ?_
          refine (ev_aload rfl rfl).trans ?_
          refine (ev_iload rfl rfl).trans ?_
          exact ev_invv (as := [.int x11, .ref (am_bd b3), .int x10, .int x2]) rfl (by have := am_bd_lt hb1; omega) (am_Kbd hb1) rfl (by simp [Value.category])
set_option maxRecDepth 10000 in
theorem sg_41_73 (X : am_X) (I : Nat → Nat → Int32) (J : Nat → Nat → Int64) (b1 : Nat) (x2 : Int32) (b3 : Nat) (x4 : Int32) (x5 : Int32) (x6 : Int32) (x7 : Int32) (x8 : Int32) (x9 : Int32) (x10 : Int32) (x11 : Int32) (x12 : Int32) (x13 : Int32) (hb1 : b1 < 11) (hb3 : b3 < 11) : am_ev X amP_41 73 [.ref (am_bd b1), .int x2, .ref (am_bd b3), .int x4, .int x5, .int x6, .int x7, .int x8, .int x9, .int x10, .int x11, .int x12] [.int x13] (am_sh I J) = (if x13 = 0 then am_ev X amP_41 44 [.ref (am_bd b1), .int x2, .ref (am_bd b3), .int x4, .int x5, .int x6, .int x7, .int x8, .int x9, .int x10, .int (x11 + x6), .int x12] [] (am_sh I J) else some (some (.int x10), am_sh I J)) := by
  refine (ev_if0 rfl).trans (am_ite (fun c1 => ?_) (fun c1 => ?_))
  · refine (ev_iload rfl rfl).trans ?_
    refine (ev_iload rfl rfl).trans ?_
    refine (ev_iadd rfl).trans ?_
    refine (ev_istore (ls' := [.ref (am_bd b1), .int x2, .ref (am_bd b3), .int x4, .int x5, .int x6, .int x7, .int x8, .int x9, .int x10, .int (x11 + x6), .int x12]) rfl (Nat.le_of_ble_eq_true rfl) rfl).trans ?_
    refine (ev_goto rfl).trans ?_
    rfl
  · refine (ev_iload rfl rfl).trans ?_
    exact ev_iret rfl
-- 42 X2_boxInto
set_option maxRecDepth 10000 in
theorem sg_42_e0 (X : am_X) (I : Nat → Nat → Int32) (J : Nat → Nat → Int64) (b1 : Nat) (a2 : Nat) (n2 : Nat) (x3 : Int32) (x4 : Int32) (hb1 : b1 < 11) (ha2 : a2 < 162) (ka2 : am_K a2 = (20, n2)) : am_ev X amP_42 0 [.ref (am_bd b1), .ref a2, .int x3, .int x4, .null, .null, .null, .null] [] (am_sh I J) = (am_do X 30 [.ref (am_bd b1), .int x3] (am_sh I J)).bind (fun q => am_ev X amP_42 3 [.ref (am_bd b1), .ref a2, .int x3, .int x4, .null, .null, .null, .null] (q.1.toList ++ []) q.2) := by
  refine (ev_aload rfl rfl).trans ?_
  refine (ev_iload rfl rfl).trans ?_
  exact ev_invv (as := [.int x3]) rfl (by have := am_bd_lt hb1; omega) (am_Kbd hb1) rfl (by simp [Value.category])
theorem cl_42 (X : am_X) (I : Nat → Nat → Int32) (J : Nat → Nat → Int64) (b1 : Nat) (a2 : Nat) (n2 : Nat) (x3 : Int32) (x4 : Int32) : am_do X 42 [.ref (am_bd b1), .ref a2, .int x3, .int x4] (am_sh I J) = am_ev X amP_42 0 [.ref (am_bd b1), .ref a2, .int x3, .int x4, .null, .null, .null, .null] [] (am_sh I J) := am_do_of rfl rfl rfl
set_option maxRecDepth 10000 in
theorem sg_42_3 (X : am_X) (I : Nat → Nat → Int32) (J : Nat → Nat → Int64) (b1 : Nat) (a2 : Nat) (n2 : Nat) (x3 : Int32) (x4 : Int32) (w5 : Value) (w6 : Value) (w7 : Value) (w8 : Value) (x9 : Int32) (hb1 : b1 < 11) (ha2 : a2 < 162) (ka2 : am_K a2 = (20, n2)) (hw5 : w5.category = 1) (hw6 : w6.category = 1) (hw7 : w7.category = 1) (hw8 : w8.category = 1) : am_ev X amP_42 3 [.ref (am_bd b1), .ref a2, .int x3, .int x4, w5, w6, w7, w8] [.int x9] (am_sh I J) = am_ev X amP_42 6 [.ref (am_bd b1), .ref a2, .int x3, .int x4, .int x9, .int (0 : Int32), w7, w8] [] (am_sh I J) := by
  refine (ev_istore (ls' := [.ref (am_bd b1), .ref a2, .int x3, .int x4, .int x9, w6, w7, w8]) rfl (Nat.le_of_ble_eq_true rfl) rfl).trans ?_
  refine (ev_const0 (v := (0 : Int32)) rfl am_ci_0).trans ?_
  refine (ev_istore (ls' := [.ref (am_bd b1), .ref a2, .int x3, .int x4, .int x9, .int (0 : Int32), w7, w8]) rfl (Nat.le_of_ble_eq_true rfl) rfl).trans ?_
  rfl
set_option maxRecDepth 10000 in
theorem sg_42_6 (X : am_X) (I : Nat → Nat → Int32) (J : Nat → Nat → Int64) (b1 : Nat) (a2 : Nat) (n2 : Nat) (x3 : Int32) (x4 : Int32) (x5 : Int32) (x6 : Int32) (w7 : Value) (w8 : Value) (hb1 : b1 < 11) (ha2 : a2 < 162) (ka2 : am_K a2 = (20, n2)) (hw7 : w7.category = 1) (hw8 : w8.category = 1) : am_ev X amP_42 6 [.ref (am_bd b1), .ref a2, .int x3, .int x4, .int x5, .int x6, w7, w8] [] (am_sh I J) = (if (3 : Int32) ≤ x6 then (am_do X 353 [.int ((x4 - x3) + (1 : Int32)), .int (I (am_bd b1) 1)] (am_sh I J)).bind (fun q => am_ev X amP_42 34 [.ref (am_bd b1), .ref a2, .int x3, .int x4, .int x5, .int x6, w7, w8] (q.1.toList ++ []) q.2) else (am_do X 34 [.ref (am_bd b1), .int x3, .int x6] (am_sh I J)).bind (fun q => am_ev X amP_42 15 [.ref (am_bd b1), .ref a2, .int x3, .int x4, .int x5, .int x6, w7, w8] (q.1.toList ++ [.int x6, .ref a2]) q.2)) := by
  refine (ev_iload rfl rfl).trans ?_
  refine (ev_const0 (v := (3 : Int32)) rfl am_ci_3).trans ?_
  refine (ev_icmp3 rfl).trans (am_ite (fun c1 => ?_) (fun c1 => ?_))
  · refine (ev_iload rfl rfl).trans ?_
    refine (ev_iload rfl rfl).trans ?_
    refine (ev_isub rfl).trans ?_
    refine (ev_const0 (v := (1 : Int32)) rfl am_ci_1).trans ?_
    refine (ev_iadd rfl).trans ?_
    refine (ev_aload rfl rfl).trans ?_
    refine (ev_getI rfl (by have := am_bd_lt hb1; omega) (am_Kbd hb1) (by decide) rfl).trans ?_
    exact ev_invs (as := [.int (I (am_bd b1) 1), .int ((x4 - x3) + (1 : Int32))]) rfl rfl (by simp [Value.category])
  · refine (ev_aload rfl rfl).trans ?_
    refine (ev_iload rfl rfl).trans ?_
    refine (ev_aload rfl rfl).trans ?_
    refine (ev_iload rfl rfl).trans ?_
    refine (ev_iload rfl rfl).trans ?_
    exact ev_invv (as := [.int x6, .int x3]) rfl (by have := am_bd_lt hb1; omega) (am_Kbd hb1) rfl (by simp [Value.category])
set_option maxRecDepth 10000 in
theorem sg_42_15 (X : am_X) (I : Nat → Nat → Int32) (J : Nat → Nat → Int64) (b1 : Nat) (a2 : Nat) (n2 : Nat) (x3 : Int32) (x4 : Int32) (x5 : Int32) (x6 : Int32) (w7 : Value) (w8 : Value) (a9 : Nat) (n9 : Nat) (x10 : Int32) (x11 : Int32) (hb1 : b1 < 11) (ha2 : a2 < 162) (ka2 : am_K a2 = (20, n2)) (hw7 : w7.category = 1) (hw8 : w8.category = 1) (ha9 : a9 < 162) (ka9 : am_K a9 = (20, n9)) : am_ev X amP_42 15 [.ref (am_bd b1), .ref a2, .int x3, .int x4, .int x5, .int x6, w7, w8] [.int x11, .int x10, .ref a9] (am_sh I J) = (if x10 < 0 ∨ n9 ≤ x10.toNatClampNeg then none else (if x6 < 0 ∨ n2 ≤ x6.toNatClampNeg then none else (if (x6 + (3 : Int32)) < 0 ∨ n2 ≤ (x6 + (3 : Int32)).toNatClampNeg then none else am_ev X amP_42 6 [.ref (am_bd b1), .ref a2, .int x3, .int x4, .int x5, .int (x6 + (1 : Int32)), w7, w8] [] (am_sh (am_up (am_up I a9 x10.toNatClampNeg x11) a2 (x6 + (3 : Int32)).toNatClampNeg ((am_up I a9 x10.toNatClampNeg x11) a2 x6.toNatClampNeg)) J)))) := by
  refine (ev_iast rfl ha9 ka9).trans (am_itn (fun g1 => ?_))
  refine (ev_aload rfl rfl).trans ?_
  refine (ev_iload rfl rfl).trans ?_
  refine (ev_const0 (v := (3 : Int32)) rfl am_ci_3).trans ?_
  refine (ev_iadd rfl).trans ?_
  refine (ev_aload rfl rfl).trans ?_
  refine (ev_iload rfl rfl).trans ?_
  refine (ev_iald rfl ha2 ka2).trans (am_itn (fun g2 => ?_))
  refine (ev_iast rfl ha2 ka2).trans (am_itn (fun g3 => ?_))
  refine (ev_iincv (v := (1 : Int32)) (ls' := [.ref (am_bd b1), .ref a2, .int x3, .int x4, .int x5, .int (x6 + (1 : Int32)), w7, w8]) rfl am_ci_1 rfl rfl).trans ?_
  refine (ev_goto rfl).trans ?_
  rfl
set_option maxRecDepth 10000 in
theorem sg_42_34 (X : am_X) (I : Nat → Nat → Int32) (J : Nat → Nat → Int64) (b1 : Nat) (a2 : Nat) (n2 : Nat) (x3 : Int32) (x4 : Int32) (x5 : Int32) (x6 : Int32) (w7 : Value) (w8 : Value) (x9 : Int32) (hb1 : b1 < 11) (ha2 : a2 < 162) (ka2 : am_K a2 = (20, n2)) (hw7 : w7.category = 1) (hw8 : w8.category = 1) : am_ev X amP_42 34 [.ref (am_bd b1), .ref a2, .int x3, .int x4, .int x5, .int x6, w7, w8] [.int x9] (am_sh I J) = am_ev X amP_42 37 [.ref (am_bd b1), .ref a2, .int x3, .int x4, .int x5, .int x9, .int (1 : Int32), w8] [] (am_sh I J) := by
  refine (ev_istore (ls' := [.ref (am_bd b1), .ref a2, .int x3, .int x4, .int x5, .int x9, w7, w8]) rfl (Nat.le_of_ble_eq_true rfl) rfl).trans ?_
  refine (ev_const0 (v := (1 : Int32)) rfl am_ci_1).trans ?_
  refine (ev_istore (ls' := [.ref (am_bd b1), .ref a2, .int x3, .int x4, .int x5, .int x9, .int (1 : Int32), w8]) rfl (Nat.le_of_ble_eq_true rfl) rfl).trans ?_
  rfl
set_option maxRecDepth 10000 in
theorem sg_42_37 (X : am_X) (I : Nat → Nat → Int32) (J : Nat → Nat → Int64) (b1 : Nat) (a2 : Nat) (n2 : Nat) (x3 : Int32) (x4 : Int32) (x5 : Int32) (x6 : Int32) (x7 : Int32) (w8 : Value) (hb1 : b1 < 11) (ha2 : a2 < 162) (ka2 : am_K a2 = (20, n2)) (hw8 : w8.category = 1) : am_ev X amP_42 37 [.ref (am_bd b1), .ref a2, .int x3, .int x4, .int x5, .int x6, .int x7, w8] [] (am_sh I J) = (if x6 ≤ x7 then some (none, am_sh I J) else (if (I (am_bd b1) 1) = 0 then none else (if ((x5 + x7) - (x5 + x7) / (I (am_bd b1) 1) * (I (am_bd b1) 1)) < 0 ∨ 48 ≤ ((x5 + x7) - (x5 + x7) / (I (am_bd b1) 1) * (I (am_bd b1) 1)).toNatClampNeg then none else (am_do X 43 [.ref a2, .int (0 : Int32), .int (I (am_bd b1 + 2) ((x5 + x7) - (x5 + x7) / (I (am_bd b1) 1) * (I (am_bd b1) 1)).toNatClampNeg)] (am_sh I J)).bind (fun q => am_ev X amP_42 54 [.ref (am_bd b1), .ref a2, .int x3, .int x4, .int x5, .int x6, .int x7, .int ((x5 + x7) - (x5 + x7) / (I (am_bd b1) 1) * (I (am_bd b1) 1))] (q.1.toList ++ []) q.2)))) := by
  refine (ev_iload rfl rfl).trans ?_
  refine (ev_iload rfl rfl).trans ?_
  refine (ev_icmp3 rfl).trans (am_ite (fun c1 => ?_) (fun c1 => ?_))
  · exact ev_vret rfl
  · refine (ev_iload rfl rfl).trans ?_
    refine (ev_iload rfl rfl).trans ?_
    refine (ev_iadd rfl).trans ?_
    refine (ev_aload rfl rfl).trans ?_
    refine (ev_getI rfl (by have := am_bd_lt hb1; omega) (am_Kbd hb1) (by decide) rfl).trans ?_
    refine (ev_irem rfl).trans (am_itn (fun g2 => ?_))
    refine (ev_istore (ls' := [.ref (am_bd b1), .ref a2, .int x3, .int x4, .int x5, .int x6, .int x7, .int ((x5 + x7) - (x5 + x7) / (I (am_bd b1) 1) * (I (am_bd b1) 1))]) rfl (Nat.le_of_ble_eq_true rfl) rfl).trans ?_
    refine (ev_aload rfl rfl).trans ?_
    refine (ev_const0 (v := (0 : Int32)) rfl am_ci_0).trans ?_
    refine (ev_aload rfl rfl).trans ?_
    refine (ev_getR rfl (by have := am_bd_lt hb1; omega) (am_Kbd hb1) (by decide) rfl (am_Rb3 hb1)).trans ?_
    refine (ev_iload rfl rfl).trans ?_
    refine (ev_iald rfl (by have := am_bd_lt hb1; omega) (am_Kb2 hb1)).trans (am_itn (fun g3 => ?_))
    exact ev_invs (as := [.int (I (am_bd b1 + 2) ((x5 + x7) - (x5 + x7) / (I (am_bd b1) 1) * (I (am_bd b1) 1)).toNatClampNeg), .int (0 : Int32), .ref a2]) rfl rfl (by simp [Value.category])
set_option maxRecDepth 10000 in
theorem sg_42_54 (X : am_X) (I : Nat → Nat → Int32) (J : Nat → Nat → Int64) (b1 : Nat) (a2 : Nat) (n2 : Nat) (x3 : Int32) (x4 : Int32) (x5 : Int32) (x6 : Int32) (x7 : Int32) (x8 : Int32) (hb1 : b1 < 11) (ha2 : a2 < 162) (ka2 : am_K a2 = (20, n2)) : am_ev X amP_42 54 [.ref (am_bd b1), .ref a2, .int x3, .int x4, .int x5, .int x6, .int x7, .int x8] [] (am_sh I J) = (if x8 < 0 ∨ 48 ≤ x8.toNatClampNeg then none else (am_do X 43 [.ref a2, .int (1 : Int32), .int (I (am_bd b1 + 3) x8.toNatClampNeg)] (am_sh I J)).bind (fun q => am_ev X amP_42 61 [.ref (am_bd b1), .ref a2, .int x3, .int x4, .int x5, .int x6, .int x7, .int x8] (q.1.toList ++ []) q.2)) := by
  refine (ev_aload rfl rfl).trans ?_
  refine (ev_const0 (v := (1 : Int32)) rfl am_ci_1).trans ?_
  refine (ev_aload rfl rfl).trans ?_
  refine (ev_getR rfl (by have := am_bd_lt hb1; omega) (am_Kbd hb1) (by decide) rfl (am_Rb4 hb1)).trans ?_
  refine (ev_iload rfl rfl).trans ?_
  refine (ev_iald rfl (by have := am_bd_lt hb1; omega) (am_Kb3 hb1)).trans (am_itn (fun g1 => ?_))
  exact ev_invs (as := [.int (I (am_bd b1 + 3) x8.toNatClampNeg), .int (1 : Int32), .ref a2]) rfl rfl (by simp [Value.category])
set_option maxRecDepth 10000 in
theorem sg_42_61 (X : am_X) (I : Nat → Nat → Int32) (J : Nat → Nat → Int64) (b1 : Nat) (a2 : Nat) (n2 : Nat) (x3 : Int32) (x4 : Int32) (x5 : Int32) (x6 : Int32) (x7 : Int32) (x8 : Int32) (hb1 : b1 < 11) (ha2 : a2 < 162) (ka2 : am_K a2 = (20, n2)) : am_ev X amP_42 61 [.ref (am_bd b1), .ref a2, .int x3, .int x4, .int x5, .int x6, .int x7, .int x8] [] (am_sh I J) = (if x8 < 0 ∨ 48 ≤ x8.toNatClampNeg then none else (am_do X 43 [.ref a2, .int (2 : Int32), .int (I (am_bd b1 + 4) x8.toNatClampNeg)] (am_sh I J)).bind (fun q => am_ev X amP_42 68 [.ref (am_bd b1), .ref a2, .int x3, .int x4, .int x5, .int x6, .int x7, .int x8] (q.1.toList ++ []) q.2)) := by
  refine (ev_aload rfl rfl).trans ?_
  refine (ev_const0 (v := (2 : Int32)) rfl am_ci_2).trans ?_
  refine (ev_aload rfl rfl).trans ?_
  refine (ev_getR rfl (by have := am_bd_lt hb1; omega) (am_Kbd hb1) (by decide) rfl (am_Rb5 hb1)).trans ?_
  refine (ev_iload rfl rfl).trans ?_
  refine (ev_iald rfl (by have := am_bd_lt hb1; omega) (am_Kb4 hb1)).trans (am_itn (fun g1 => ?_))
  exact ev_invs (as := [.int (I (am_bd b1 + 4) x8.toNatClampNeg), .int (2 : Int32), .ref a2]) rfl rfl (by simp [Value.category])
set_option maxRecDepth 10000 in
theorem sg_42_68 (X : am_X) (I : Nat → Nat → Int32) (J : Nat → Nat → Int64) (b1 : Nat) (a2 : Nat) (n2 : Nat) (x3 : Int32) (x4 : Int32) (x5 : Int32) (x6 : Int32) (x7 : Int32) (x8 : Int32) (hb1 : b1 < 11) (ha2 : a2 < 162) (ka2 : am_K a2 = (20, n2)) : am_ev X amP_42 68 [.ref (am_bd b1), .ref a2, .int x3, .int x4, .int x5, .int x6, .int x7, .int x8] [] (am_sh I J) = am_ev X amP_42 37 [.ref (am_bd b1), .ref a2, .int x3, .int x4, .int x5, .int x6, .int (x7 + (1 : Int32)), .int x8] [] (am_sh I J) := by
  refine (ev_iincv (v := (1 : Int32)) (ls' := [.ref (am_bd b1), .ref a2, .int x3, .int x4, .int x5, .int x6, .int (x7 + (1 : Int32)), .int x8]) rfl am_ci_1 rfl rfl).trans ?_
  refine (ev_goto rfl).trans ?_
  rfl
-- 43 X2_widen
set_option maxRecDepth 10000 in
theorem sg_43_e0 (X : am_X) (I : Nat → Nat → Int32) (J : Nat → Nat → Int64) (a1 : Nat) (n1 : Nat) (x2 : Int32) (x3 : Int32) (ha1 : a1 < 162) (ka1 : am_K a1 = (20, n1)) : am_ev X amP_43 0 [.ref a1, .int x2, .int x3] [] (am_sh I J) = (if x2 < 0 ∨ n1 ≤ x2.toNatClampNeg then none else (am_do X 353 [.int (I a1 x2.toNatClampNeg), .int x3] (am_sh I J)).bind (fun q => am_ev X amP_43 7 [.ref a1, .int x2, .int x3] (q.1.toList ++ [.int x2, .ref a1]) q.2)) := by
  refine (ev_aload rfl rfl).trans ?_
  refine (ev_iload rfl rfl).trans ?_
  refine (ev_aload rfl rfl).trans ?_
  refine (ev_iload rfl rfl).trans ?_
  refine (ev_iald rfl ha1 ka1).trans (am_itn (fun g1 => ?_))
  refine (ev_iload rfl rfl).trans ?_
  exact ev_invs (as := [.int x3, .int (I a1 x2.toNatClampNeg)]) rfl rfl (by simp [Value.category])
theorem cl_43 (X : am_X) (I : Nat → Nat → Int32) (J : Nat → Nat → Int64) (a1 : Nat) (n1 : Nat) (x2 : Int32) (x3 : Int32) : am_do X 43 [.ref a1, .int x2, .int x3] (am_sh I J) = am_ev X amP_43 0 [.ref a1, .int x2, .int x3] [] (am_sh I J) := am_do_of rfl rfl rfl
set_option maxRecDepth 10000 in
theorem sg_43_7 (X : am_X) (I : Nat → Nat → Int32) (J : Nat → Nat → Int64) (a1 : Nat) (n1 : Nat) (x2 : Int32) (x3 : Int32) (a4 : Nat) (n4 : Nat) (x5 : Int32) (x6 : Int32) (ha1 : a1 < 162) (ka1 : am_K a1 = (20, n1)) (ha4 : a4 < 162) (ka4 : am_K a4 = (20, n4)) : am_ev X amP_43 7 [.ref a1, .int x2, .int x3] [.int x6, .int x5, .ref a4] (am_sh I J) = (if x5 < 0 ∨ n4 ≤ x5.toNatClampNeg then none else (if (x2 + (3 : Int32)) < 0 ∨ n1 ≤ (x2 + (3 : Int32)).toNatClampNeg then none else (am_do X 352 [.int ((am_up I a4 x5.toNatClampNeg x6) a1 (x2 + (3 : Int32)).toNatClampNeg), .int x3] (am_sh (am_up I a4 x5.toNatClampNeg x6) J)).bind (fun q => am_ev X amP_43 19 [.ref a1, .int x2, .int x3] (q.1.toList ++ [.int (x2 + (3 : Int32)), .ref a1]) q.2))) := by
  refine (ev_iast rfl ha4 ka4).trans (am_itn (fun g1 => ?_))
  refine (ev_aload rfl rfl).trans ?_
  refine (ev_iload rfl rfl).trans ?_
  refine (ev_const0 (v := (3 : Int32)) rfl am_ci_3).trans ?_
  refine (ev_iadd rfl).trans ?_
  refine (ev_aload rfl rfl).trans ?_
  refine (ev_iload rfl rfl).trans ?_
  refine (ev_const0 (v := (3 : Int32)) rfl am_ci_3).trans ?_
  refine (ev_iadd rfl).trans ?_
  refine (ev_iald rfl ha1 ka1).trans (am_itn (fun g2 => ?_))
  refine (ev_iload rfl rfl).trans ?_
  exact ev_invs (as := [.int x3, .int ((am_up I a4 x5.toNatClampNeg x6) a1 (x2 + (3 : Int32)).toNatClampNeg)]) rfl rfl (by simp [Value.category])
set_option maxRecDepth 10000 in
theorem sg_43_19 (X : am_X) (I : Nat → Nat → Int32) (J : Nat → Nat → Int64) (a1 : Nat) (n1 : Nat) (x2 : Int32) (x3 : Int32) (a4 : Nat) (n4 : Nat) (x5 : Int32) (x6 : Int32) (ha1 : a1 < 162) (ka1 : am_K a1 = (20, n1)) (ha4 : a4 < 162) (ka4 : am_K a4 = (20, n4)) : am_ev X amP_43 19 [.ref a1, .int x2, .int x3] [.int x6, .int x5, .ref a4] (am_sh I J) = (if x5 < 0 ∨ n4 ≤ x5.toNatClampNeg then none else some (none, am_sh (am_up I a4 x5.toNatClampNeg x6) J)) := by
  refine (ev_iast rfl ha4 ka4).trans (am_itn (fun g1 => ?_))
  exact ev_vret rfl
-- 44 X2_costOf
set_option maxRecDepth 10000 in
theorem sg_44_e0 (X : am_X) (I : Nat → Nat → Int32) (J : Nat → Nat → Int64) (b1 : Nat) (x2 : Int32) (x3 : Int32) (hb1 : b1 < 11) : am_ev X amP_44 0 [.ref (am_bd b1), .int x2, .int x3] [] (am_sh I J) = (if x2 < 0 then some (some (.int (-1 : Int32)), am_sh I J) else (if (6 : Int32) ≤ x2 then some (some (.int (-1 : Int32)), am_sh I J) else (if x3 < (1 : Int32) then some (some (.int (-1 : Int32)), am_sh I J) else (if x3 ≤ (200 : Int32) then (if (1 : Int32) < x2 then (if (4 : Int32) ≤ x2 then some (some (.int ((3 : Int32) * x3)), am_sh I J) else some (some (.int ((2 : Int32) * x3)), am_sh I J)) else (if (I (am_bd b1) 1) ≤ x3 then some (some (.int (-1 : Int32)), am_sh I J) else (am_do X 353 [.int x3, .int ((I (am_bd b1) 1) - x3)] (am_sh I J)).bind (fun q => am_ev X amP_44 26 [.ref (am_bd b1), .int x2, .int x3] (q.1.toList ++ []) q.2))) else some (some (.int (-1 : Int32)), am_sh I J))))) := by
  refine (ev_iload rfl rfl).trans ?_
  refine (ev_if2 rfl).trans (am_ite (fun c1 => ?_) (fun c1 => ?_))
  · refine (ev_const0 (v := (-1 : Int32)) rfl am_ci_m1).trans ?_
    exact ev_iret rfl
  · refine (ev_iload rfl rfl).trans ?_
    refine (ev_const1 (v := (6 : Int32)) rfl am_ci_6).trans ?_
    refine (ev_icmp3 rfl).trans (am_ite (fun c2 => ?_) (fun c2 => ?_))
    · refine (ev_const0 (v := (-1 : Int32)) rfl am_ci_m1).trans ?_
      exact ev_iret rfl
    · refine (ev_iload rfl rfl).trans ?_
      refine (ev_const0 (v := (1 : Int32)) rfl am_ci_1).trans ?_
      refine (ev_icmp2 rfl).trans (am_ite (fun c3 => ?_) (fun c3 => ?_))
      · refine (ev_const0 (v := (-1 : Int32)) rfl am_ci_m1).trans ?_
        exact ev_iret rfl
      · refine (ev_iload rfl rfl).trans ?_
        refine (ev_const2 (v := (200 : Int32)) rfl am_ci_200).trans ?_
        refine (ev_icmp5 rfl).trans (am_ite (fun c4 => ?_) (fun c4 => ?_))
        · refine (ev_iload rfl rfl).trans ?_
          refine (ev_const0 (v := (1 : Int32)) rfl am_ci_1).trans ?_
          refine (ev_icmp4 rfl).trans (am_ite (fun c5 => ?_) (fun c5 => ?_))
          · refine (ev_iload rfl rfl).trans ?_
            refine (ev_const0 (v := (4 : Int32)) rfl am_ci_4).trans ?_
            refine (ev_icmp3 rfl).trans (am_ite (fun c6 => ?_) (fun c6 => ?_))
            · refine (ev_const0 (v := (3 : Int32)) rfl am_ci_3).trans ?_
              refine (ev_iload rfl rfl).trans ?_
              refine (ev_imul rfl).trans ?_
              exact ev_iret rfl
            · refine (ev_const0 (v := (2 : Int32)) rfl am_ci_2).trans ?_
              refine (ev_iload rfl rfl).trans ?_
              refine (ev_imul rfl).trans ?_
              refine (ev_goto rfl).trans ?_
              exact ev_iret rfl
          · refine (ev_iload rfl rfl).trans ?_
            refine (ev_aload rfl rfl).trans ?_
            refine (ev_getI rfl (by have := am_bd_lt hb1; omega) (am_Kbd hb1) (by decide) rfl).trans ?_
            refine (ev_icmp3 rfl).trans (am_ite (fun c6 => ?_) (fun c6 => ?_))
            · refine (ev_const0 (v := (-1 : Int32)) rfl am_ci_m1).trans ?_
              exact ev_iret rfl
            · refine (ev_iload rfl rfl).trans ?_
              refine (ev_aload rfl rfl).trans ?_
              refine (ev_getI rfl (by have := am_bd_lt hb1; omega) (am_Kbd hb1) (by decide) rfl).trans ?_
              refine (ev_iload rfl rfl).trans ?_
              refine (ev_isub rfl).trans ?_
              exact ev_invs (as := [.int ((I (am_bd b1) 1) - x3), .int x3]) rfl rfl (by simp [Value.category])
        · refine (ev_const0 (v := (-1 : Int32)) rfl am_ci_m1).trans ?_
          exact ev_iret rfl
theorem cl_44 (X : am_X) (I : Nat → Nat → Int32) (J : Nat → Nat → Int64) (b1 : Nat) (x2 : Int32) (x3 : Int32) : am_do X 44 [.ref (am_bd b1), .int x2, .int x3] (am_sh I J) = am_ev X amP_44 0 [.ref (am_bd b1), .int x2, .int x3] [] (am_sh I J) := am_do_of rfl rfl rfl
set_option maxRecDepth 10000 in
theorem sg_44_26 (X : am_X) (I : Nat → Nat → Int32) (J : Nat → Nat → Int64) (b1 : Nat) (x2 : Int32) (x3 : Int32) (x4 : Int32) (hb1 : b1 < 11) : am_ev X amP_44 26 [.ref (am_bd b1), .int x2, .int x3] [.int x4] (am_sh I J) = some (some (.int x4), am_sh I J) := by
  refine (ev_goto rfl).trans ?_
  exact ev_iret rfl
-- 45 X2_burnAtCost
set_option maxRecDepth 10000 in
theorem sg_45_e0 (X : am_X) (I : Nat → Nat → Int32) (J : Nat → Nat → Int64) (b1 : Nat) (x2 : Int32) (x3 : Int32) (x4 : Int32) (hb1 : b1 < 11) : am_ev X amP_45 0 [.ref (am_bd b1), .int x2, .int x3, .int x4, .null, .null] [] (am_sh I J) = (if (1 : Int32) < x2 then (if (4 : Int32) ≤ x2 then (if ¬ x4 = 0 then some (some (.int (-1 : Int32)), am_sh I J) else (if ¬ (x3 - x3 / (3 : Int32) * (3 : Int32)) = 0 then some (some (.int (-1 : Int32)), am_sh I J) else some (some (.int (x3 / (3 : Int32))), am_sh I J))) else (if ¬ x4 = 0 then some (some (.int (-1 : Int32)), am_sh I J) else (if ¬ (x3 - x3 / (2 : Int32) * (2 : Int32)) = 0 then some (some (.int (-1 : Int32)), am_sh I J) else some (some (.int (x3 / (2 : Int32))), am_sh I J)))) else (if ¬ x4 = 0 then (if ((I (am_bd b1) 1) - x3) ≤ x3 then some (some (.int (-1 : Int32)), am_sh I J) else (if ¬ x4 = 0 then some (some (.int ((I (am_bd b1) 1) - x3)), am_sh I J) else some (some (.int x3), am_sh I J))) else (if ((I (am_bd b1) 1) - x3) < x3 then some (some (.int (-1 : Int32)), am_sh I J) else (if ¬ x4 = 0 then some (some (.int ((I (am_bd b1) 1) - x3)), am_sh I J) else some (some (.int x3), am_sh I J))))) := by
  refine (ev_iload rfl rfl).trans ?_
  refine (ev_const0 (v := (1 : Int32)) rfl am_ci_1).trans ?_
  refine (ev_icmp4 rfl).trans (am_ite (fun c1 => ?_) (fun c1 => ?_))
  · refine (ev_iload rfl rfl).trans ?_
    refine (ev_const0 (v := (4 : Int32)) rfl am_ci_4).trans ?_
    refine (ev_icmp3 rfl).trans (am_ite (fun c2 => ?_) (fun c2 => ?_))
    · refine (ev_const0 (v := (3 : Int32)) rfl am_ci_3).trans ?_
      refine (ev_istore (ls' := [.ref (am_bd b1), .int x2, .int x3, .int x4, .int (3 : Int32), .null]) rfl (Nat.le_of_ble_eq_true rfl) rfl).trans ?_
      refine (ev_iload rfl rfl).trans ?_
      refine (ev_if1 rfl).trans (am_ite (fun c3 => ?_) (fun c3 => ?_))
      · refine (ev_const0 (v := (-1 : Int32)) rfl am_ci_m1).trans ?_
        exact ev_iret rfl
      · refine (ev_iload rfl rfl).trans ?_
        refine (ev_iload rfl rfl).trans ?_
        refine (ev_iremN (by decide) rfl).trans ?_
        refine (ev_if1 rfl).trans (am_ite (fun c4 => ?_) (fun c4 => ?_))
        · refine (ev_const0 (v := (-1 : Int32)) rfl am_ci_m1).trans ?_
          exact ev_iret rfl
        · refine (ev_iload rfl rfl).trans ?_
          refine (ev_iload rfl rfl).trans ?_
          refine (ev_idivN (by decide) rfl).trans ?_
          refine (ev_goto rfl).trans ?_
          exact ev_iret rfl
    · refine (ev_const0 (v := (2 : Int32)) rfl am_ci_2).trans ?_
      refine (ev_goto rfl).trans ?_
      refine (ev_istore (ls' := [.ref (am_bd b1), .int x2, .int x3, .int x4, .int (2 : Int32), .null]) rfl (Nat.le_of_ble_eq_true rfl) rfl).trans ?_
      refine (ev_iload rfl rfl).trans ?_
      refine (ev_if1 rfl).trans (am_ite (fun c3 => ?_) (fun c3 => ?_))
      · refine (ev_const0 (v := (-1 : Int32)) rfl am_ci_m1).trans ?_
        exact ev_iret rfl
      · refine (ev_iload rfl rfl).trans ?_
        refine (ev_iload rfl rfl).trans ?_
        refine (ev_iremN (by decide) rfl).trans ?_
        refine (ev_if1 rfl).trans (am_ite (fun c4 => ?_) (fun c4 => ?_))
        · refine (ev_const0 (v := (-1 : Int32)) rfl am_ci_m1).trans ?_
          exact ev_iret rfl
        · refine (ev_iload rfl rfl).trans ?_
          refine (ev_iload rfl rfl).trans ?_
          refine (ev_idivN (by decide) rfl).trans ?_
          refine (ev_goto rfl).trans ?_
          exact ev_iret rfl
  · refine (ev_aload rfl rfl).trans ?_
    refine (ev_getI rfl (by have := am_bd_lt hb1; omega) (am_Kbd hb1) (by decide) rfl).trans ?_
    refine (ev_iload rfl rfl).trans ?_
    refine (ev_isub rfl).trans ?_
    refine (ev_istore (ls' := [.ref (am_bd b1), .int x2, .int x3, .int x4, .int ((I (am_bd b1) 1) - x3), .null]) rfl (Nat.le_of_ble_eq_true rfl) rfl).trans ?_
    refine (ev_iload rfl rfl).trans ?_
    refine (ev_if1 rfl).trans (am_ite (fun c2 => ?_) (fun c2 => ?_))
    · refine (ev_iload rfl rfl).trans ?_
      refine (ev_iload rfl rfl).trans ?_
      refine (ev_icmp3 rfl).trans (am_ite (fun c3 => ?_) (fun c3 => ?_))
      · refine (ev_const0 (v := (0 : Int32)) rfl am_ci_0).trans ?_
        refine (ev_istore (ls' := [.ref (am_bd b1), .int x2, .int x3, .int x4, .int ((I (am_bd b1) 1) - x3), .int (0 : Int32)]) rfl (Nat.le_of_ble_eq_true rfl) rfl).trans ?_
        refine (ev_iload rfl rfl).trans ?_
        refine ((ev_if0 rfl).trans (if_pos (by decide))).trans ?_
        refine (ev_const0 (v := (-1 : Int32)) rfl am_ci_m1).trans ?_
        exact ev_iret rfl
      · refine (ev_const0 (v := (1 : Int32)) rfl am_ci_1).trans ?_
        refine (ev_goto rfl).trans ?_
        refine (ev_istore (ls' := [.ref (am_bd b1), .int x2, .int x3, .int x4, .int ((I (am_bd b1) 1) - x3), .int (1 : Int32)]) rfl (Nat.le_of_ble_eq_true rfl) rfl).trans ?_
        refine (ev_iload rfl rfl).trans ?_
        refine ((ev_if0 rfl).trans (if_neg (by decide))).trans ?_
        refine (ev_iload rfl rfl).trans ?_
        refine (ev_if1 rfl).trans (am_ite (fun c4 => ?_) (fun c4 => ?_))
        · refine (ev_iload rfl rfl).trans ?_
          refine (ev_goto rfl).trans ?_
          exact ev_iret rfl
        · refine (ev_iload rfl rfl).trans ?_
          refine (ev_goto rfl).trans ?_
          exact ev_iret rfl
    · refine (ev_iload rfl rfl).trans ?_
      refine (ev_iload rfl rfl).trans ?_
      refine (ev_icmp4 rfl).trans (am_ite (fun c3 => ?_) (fun c3 => ?_))
      · refine (ev_const0 (v := (0 : Int32)) rfl am_ci_0).trans ?_
        refine (ev_goto rfl).trans ?_
        refine (ev_istore (ls' := [.ref (am_bd b1), .int x2, .int x3, .int x4, .int ((I (am_bd b1) 1) - x3), .int (0 : Int32)]) rfl (Nat.le_of_ble_eq_true rfl) rfl).trans ?_
        refine (ev_iload rfl rfl).trans ?_
        refine ((ev_if0 rfl).trans (if_pos (by decide))).trans ?_
        refine (ev_const0 (v := (-1 : Int32)) rfl am_ci_m1).trans ?_
        exact ev_iret rfl
      · refine (ev_const0 (v := (1 : Int32)) rfl am_ci_1).trans ?_
        refine (ev_goto rfl).trans ?_
        refine (ev_istore (ls' := [.ref (am_bd b1), .int x2, .int x3, .int x4, .int ((I (am_bd b1) 1) - x3), .int (1 : Int32)]) rfl (Nat.le_of_ble_eq_true rfl) rfl).trans ?_
        refine (ev_iload rfl rfl).trans ?_
        refine ((ev_if0 rfl).trans (if_neg (by decide))).trans ?_
        refine (ev_iload rfl rfl).trans ?_
        refine (ev_if1 rfl).trans (am_ite (fun c4 => ?_) (fun c4 => ?_))
        · refine (ev_iload rfl rfl).trans ?_
          refine (ev_goto rfl).trans ?_
          exact ev_iret rfl
        · refine (ev_iload rfl rfl).trans ?_
          refine (ev_goto rfl).trans ?_
          exact ev_iret rfl
theorem cl_45 (X : am_X) (I : Nat → Nat → Int32) (J : Nat → Nat → Int64) (b1 : Nat) (x2 : Int32) (x3 : Int32) (x4 : Int32) : am_do X 45 [.ref (am_bd b1), .int x2, .int x3, .int x4] (am_sh I J) = am_ev X amP_45 0 [.ref (am_bd b1), .int x2, .int x3, .int x4, .null, .null] [] (am_sh I J) := am_do_of rfl rfl rfl
-- 46 X2_canBurn
set_option maxRecDepth 10000 in
theorem sg_46_e0 (X : am_X) (I : Nat → Nat → Int32) (J : Nat → Nat → Int64) (b1 : Nat) (x2 : Int32) (x3 : Int32) (hb1 : b1 < 11) : am_ev X amP_46 0 [.ref (am_bd b1), .int x2, .int x3, .null] [] (am_sh I J) = (am_do X 44 [.ref (am_bd b1), .int x2, .int x3] (am_sh I J)).bind (fun q => am_ev X amP_46 4 [.ref (am_bd b1), .int x2, .int x3, .null] (q.1.toList ++ []) q.2) := by
  refine (ev_aload rfl rfl).trans ?_
  refine (ev_iload rfl rfl).trans ?_
  refine (ev_iload rfl rfl).trans ?_
  exact ev_invv (as := [.int x3, .int x2]) rfl (by have := am_bd_lt hb1; omega) (am_Kbd hb1) rfl (by simp [Value.category])
theorem cl_46 (X : am_X) (I : Nat → Nat → Int32) (J : Nat → Nat → Int64) (b1 : Nat) (x2 : Int32) (x3 : Int32) : am_do X 46 [.ref (am_bd b1), .int x2, .int x3] (am_sh I J) = am_ev X amP_46 0 [.ref (am_bd b1), .int x2, .int x3, .null] [] (am_sh I J) := am_do_of rfl rfl rfl
set_option maxRecDepth 10000 in
theorem sg_46_4 (X : am_X) (I : Nat → Nat → Int32) (J : Nat → Nat → Int64) (b1 : Nat) (x2 : Int32) (x3 : Int32) (w4 : Value) (x5 : Int32) (hb1 : b1 < 11) (hw4 : w4.category = 1) : am_ev X amP_46 4 [.ref (am_bd b1), .int x2, .int x3, w4] [.int x5] (am_sh I J) = (if x5 = (-1 : Int32) then some (some (.int (0 : Int32)), am_sh I J) else (if x5 ≤ (I (am_bd b1 + 1) 7) then (if x2 = (2 : Int32) then (if (200 : Int32) < ((I (am_bd b1 + 1) 1) + x3) then some (some (.int (0 : Int32)), am_sh I J) else some (some (.int (1 : Int32)), am_sh I J)) else (if x2 = (3 : Int32) then (if ((I (am_bd b1 + 1) 0) - x3) < (1 : Int32) then some (some (.int (0 : Int32)), am_sh I J) else some (some (.int (1 : Int32)), am_sh I J)) else (if x2 = (4 : Int32) then (if (16 : Int32) < ((I (am_bd b1 + 1) 5) + x3) then some (some (.int (0 : Int32)), am_sh I J) else some (some (.int (1 : Int32)), am_sh I J)) else (if x2 = (5 : Int32) then (if ((I (am_bd b1 + 1) 5) - x3) < 0 then some (some (.int (0 : Int32)), am_sh I J) else some (some (.int (1 : Int32)), am_sh I J)) else some (some (.int (1 : Int32)), am_sh I J))))) else some (some (.int (0 : Int32)), am_sh I J))) := by
  refine (ev_istore (ls' := [.ref (am_bd b1), .int x2, .int x3, .int x5]) rfl (Nat.le_of_ble_eq_true rfl) rfl).trans ?_
  refine (ev_iload rfl rfl).trans ?_
  refine (ev_const0 (v := (-1 : Int32)) rfl am_ci_m1).trans ?_
  refine (ev_icmp0 rfl).trans (am_ite (fun c1 => ?_) (fun c1 => ?_))
  · refine (ev_const0 (v := (0 : Int32)) rfl am_ci_0).trans ?_
    exact ev_zret rfl (by decide)
  · refine (ev_iload rfl rfl).trans ?_
    refine (ev_aload rfl rfl).trans ?_
    refine (ev_getR rfl (by have := am_bd_lt hb1; omega) (am_Kbd hb1) (by decide) rfl (am_Rb2 hb1)).trans ?_
    refine (ev_const1 (v := (7 : Int32)) rfl am_ci_7).trans ?_
    refine (ev_ialdC (jn := 7) rfl (by have := am_bd_lt hb1; omega) (am_Kbn hb1) (by decide) (by decide)).trans ?_
    refine (ev_icmp5 rfl).trans (am_ite (fun c2 => ?_) (fun c2 => ?_))
    · refine (ev_iload rfl rfl).trans ?_
      refine (am_dec (x2 = (2 : Int32))).trans (am_ite (fun s3_0 => ?_) (fun s3_0 => ?_))
      · refine (ev_tswIn (k := 0) rfl (by rw [s3_0]; decide) rfl).trans ?_
        refine (ev_aload rfl rfl).trans ?_
        refine (ev_getR rfl (by have := am_bd_lt hb1; omega) (am_Kbd hb1) (by decide) rfl (am_Rb2 hb1)).trans ?_
        refine (ev_const0 (v := (1 : Int32)) rfl am_ci_1).trans ?_
        refine (ev_ialdC (jn := 1) rfl (by have := am_bd_lt hb1; omega) (am_Kbn hb1) (by decide) (by decide)).trans ?_
        refine (ev_iload rfl rfl).trans ?_
        refine (ev_iadd rfl).trans ?_
        refine (ev_const2 (v := (200 : Int32)) rfl am_ci_200).trans ?_
        refine (ev_icmp4 rfl).trans (am_ite (fun c4 => ?_) (fun c4 => ?_))
        · refine (ev_const0 (v := (0 : Int32)) rfl am_ci_0).trans ?_
          exact ev_zret rfl (by decide)
        · refine (ev_const0 (v := (1 : Int32)) rfl am_ci_1).trans ?_
          refine (ev_goto rfl).trans ?_
          exact ev_zret rfl (by decide)
      refine (am_dec (x2 = (3 : Int32))).trans (am_ite (fun s3_1 => ?_) (fun s3_1 => ?_))
      · refine (ev_tswIn (k := 1) rfl (by rw [s3_1]; decide) rfl).trans ?_
        refine (ev_aload rfl rfl).trans ?_
        refine (ev_getR rfl (by have := am_bd_lt hb1; omega) (am_Kbd hb1) (by decide) rfl (am_Rb2 hb1)).trans ?_
        refine (ev_const0 (v := (0 : Int32)) rfl am_ci_0).trans ?_
        refine (ev_ialdC (jn := 0) rfl (by have := am_bd_lt hb1; omega) (am_Kbn hb1) (by decide) (by decide)).trans ?_
        refine (ev_iload rfl rfl).trans ?_
        refine (ev_isub rfl).trans ?_
        refine (ev_const0 (v := (1 : Int32)) rfl am_ci_1).trans ?_
        refine (ev_icmp2 rfl).trans (am_ite (fun c4 => ?_) (fun c4 => ?_))
        · refine (ev_const0 (v := (0 : Int32)) rfl am_ci_0).trans ?_
          exact ev_zret rfl (by decide)
        · refine (ev_const0 (v := (1 : Int32)) rfl am_ci_1).trans ?_
          refine (ev_goto rfl).trans ?_
          exact ev_zret rfl (by decide)
      refine (am_dec (x2 = (4 : Int32))).trans (am_ite (fun s3_2 => ?_) (fun s3_2 => ?_))
      · refine (ev_tswIn (k := 2) rfl (by rw [s3_2]; decide) rfl).trans ?_
        refine (ev_aload rfl rfl).trans ?_
        refine (ev_getR rfl (by have := am_bd_lt hb1; omega) (am_Kbd hb1) (by decide) rfl (am_Rb2 hb1)).trans ?_
        refine (ev_const0 (v := (5 : Int32)) rfl am_ci_5).trans ?_
        refine (ev_ialdC (jn := 5) rfl (by have := am_bd_lt hb1; omega) (am_Kbn hb1) (by decide) (by decide)).trans ?_
        refine (ev_iload rfl rfl).trans ?_
        refine (ev_iadd rfl).trans ?_
        refine (ev_const1 (v := (16 : Int32)) rfl am_ci_16).trans ?_
        refine (ev_icmp4 rfl).trans (am_ite (fun c4 => ?_) (fun c4 => ?_))
        · refine (ev_const0 (v := (0 : Int32)) rfl am_ci_0).trans ?_
          exact ev_zret rfl (by decide)
        · refine (ev_const0 (v := (1 : Int32)) rfl am_ci_1).trans ?_
          refine (ev_goto rfl).trans ?_
          exact ev_zret rfl (by decide)
      refine (am_dec (x2 = (5 : Int32))).trans (am_ite (fun s3_3 => ?_) (fun s3_3 => ?_))
      · refine (ev_tswIn (k := 3) rfl (by rw [s3_3]; decide) rfl).trans ?_
        refine (ev_aload rfl rfl).trans ?_
        refine (ev_getR rfl (by have := am_bd_lt hb1; omega) (am_Kbd hb1) (by decide) rfl (am_Rb2 hb1)).trans ?_
        refine (ev_const0 (v := (5 : Int32)) rfl am_ci_5).trans ?_
        refine (ev_ialdC (jn := 5) rfl (by have := am_bd_lt hb1; omega) (am_Kbn hb1) (by decide) (by decide)).trans ?_
        refine (ev_iload rfl rfl).trans ?_
        refine (ev_isub rfl).trans ?_
        refine (ev_if2 rfl).trans (am_ite (fun c4 => ?_) (fun c4 => ?_))
        · refine (ev_const0 (v := (0 : Int32)) rfl am_ci_0).trans ?_
          exact ev_zret rfl (by decide)
        · refine (ev_const0 (v := (1 : Int32)) rfl am_ci_1).trans ?_
          refine (ev_goto rfl).trans ?_
          exact ev_zret rfl (by decide)
      refine (ev_tswOut rfl (by have q0 := am_neT s3_0 (n := 2) (by decide); have q1 := am_neT s3_1 (n := 3) (by decide); have q2 := am_neT s3_2 (n := 4) (by decide); have q3 := am_neT s3_3 (n := 5) (by decide); simp only [List.length_cons, List.length_nil]; omega)).trans ?_
      refine (ev_const0 (v := (1 : Int32)) rfl am_ci_1).trans ?_
      exact ev_zret rfl (by decide)
    · refine (ev_const0 (v := (0 : Int32)) rfl am_ci_0).trans ?_
      exact ev_zret rfl (by decide)
-- 47 X2_burnNow
set_option maxRecDepth 10000 in
theorem sg_47_e0 (X : am_X) (I : Nat → Nat → Int32) (J : Nat → Nat → Int64) (b1 : Nat) (x2 : Int32) (x3 : Int32) (hb1 : b1 < 11) : am_ev X amP_47 0 [.ref (am_bd b1), .int x2, .int x3, .null] [] (am_sh I J) = (am_do X 44 [.ref (am_bd b1), .int x2, .int x3] (am_sh I J)).bind (fun q => am_ev X amP_47 9 [.ref (am_bd b1), .int x2, .int x3, .null] (q.1.toList ++ [.int (I (am_bd b1 + 1) 7), .int (7 : Int32), .ref (am_bd b1 + 1)]) q.2) := by
  refine (ev_aload rfl rfl).trans ?_
  refine (ev_getR rfl (by have := am_bd_lt hb1; omega) (am_Kbd hb1) (by decide) rfl (am_Rb2 hb1)).trans ?_
  refine (ev_const1 (v := (7 : Int32)) rfl am_ci_7).trans ?_
  refine (ev_dup2 rfl).trans ?_
  refine (ev_ialdC (jn := 7) rfl (by have := am_bd_lt hb1; omega) (am_Kbn hb1) (by decide) (by decide)).trans ?_
  refine (ev_aload rfl rfl).trans ?_
  refine (ev_iload rfl rfl).trans ?_
  refine (ev_iload rfl rfl).trans ?_
  exact ev_invv (as := [.int x3, .int x2]) rfl (by have := am_bd_lt hb1; omega) (am_Kbd hb1) rfl (by simp [Value.category])
theorem cl_47 (X : am_X) (I : Nat → Nat → Int32) (J : Nat → Nat → Int64) (b1 : Nat) (x2 : Int32) (x3 : Int32) : am_do X 47 [.ref (am_bd b1), .int x2, .int x3] (am_sh I J) = am_ev X amP_47 0 [.ref (am_bd b1), .int x2, .int x3, .null] [] (am_sh I J) := am_do_of rfl rfl rfl
set_option maxRecDepth 10000 in
theorem sg_47_9 (X : am_X) (I : Nat → Nat → Int32) (J : Nat → Nat → Int64) (b1 : Nat) (x2 : Int32) (x3 : Int32) (w4 : Value) (b5 : Nat) (x6 : Int32) (x7 : Int32) (x8 : Int32) (hb1 : b1 < 11) (hw4 : w4.category = 1) (hb5 : b5 < 11) : am_ev X amP_47 9 [.ref (am_bd b1), .int x2, .int x3, w4] [.int x8, .int x7, .int x6, .ref (am_bd b5 + 1)] (am_sh I J) = (if x6 < 0 ∨ 9 ≤ x6.toNatClampNeg then none else (if ¬ x2 = 0 then (if ¬ x2 = (1 : Int32) then (if (4 : Int32) ≤ x2 then (if ¬ x2 = (4 : Int32) then some (none, am_sh (am_up (am_up I (am_bd b5 + 1) x6.toNatClampNeg (x7 - x8)) (am_bd b1 + 1) 5 (((am_up I (am_bd b5 + 1) x6.toNatClampNeg (x7 - x8)) (am_bd b1 + 1) 5) + (-x3))) J) else some (none, am_sh (am_up (am_up I (am_bd b5 + 1) x6.toNatClampNeg (x7 - x8)) (am_bd b1 + 1) 5 (((am_up I (am_bd b5 + 1) x6.toNatClampNeg (x7 - x8)) (am_bd b1 + 1) 5) + x3)) J)) else (if ¬ x2 = (2 : Int32) then some (none, am_sh (am_up (am_up (am_up I (am_bd b5 + 1) x6.toNatClampNeg (x7 - x8)) (am_bd b1 + 1) 0 (((am_up I (am_bd b5 + 1) x6.toNatClampNeg (x7 - x8)) (am_bd b1 + 1) 0) + (-x3))) (am_bd b1 + 1) 1 (((am_up (am_up I (am_bd b5 + 1) x6.toNatClampNeg (x7 - x8)) (am_bd b1 + 1) 0 (((am_up I (am_bd b5 + 1) x6.toNatClampNeg (x7 - x8)) (am_bd b1 + 1) 0) + (-x3))) (am_bd b1 + 1) 1) + (-x3))) J) else some (none, am_sh (am_up (am_up (am_up I (am_bd b5 + 1) x6.toNatClampNeg (x7 - x8)) (am_bd b1 + 1) 0 (((am_up I (am_bd b5 + 1) x6.toNatClampNeg (x7 - x8)) (am_bd b1 + 1) 0) + x3)) (am_bd b1 + 1) 1 (((am_up (am_up I (am_bd b5 + 1) x6.toNatClampNeg (x7 - x8)) (am_bd b1 + 1) 0 (((am_up I (am_bd b5 + 1) x6.toNatClampNeg (x7 - x8)) (am_bd b1 + 1) 0) + x3)) (am_bd b1 + 1) 1) + x3)) J))) else (if ((am_up I (am_bd b5 + 1) x6.toNatClampNeg (x7 - x8)) (am_bd b1) 1) = 0 then none else some (none, am_sh (am_up (am_up I (am_bd b5 + 1) x6.toNatClampNeg (x7 - x8)) (am_bd b1 + 1) 4 ((((am_up I (am_bd b5 + 1) x6.toNatClampNeg (x7 - x8)) (am_bd b1 + 1) 4) + x3) - (((am_up I (am_bd b5 + 1) x6.toNatClampNeg (x7 - x8)) (am_bd b1 + 1) 4) + x3) / ((am_up I (am_bd b5 + 1) x6.toNatClampNeg (x7 - x8)) (am_bd b1) 1) * ((am_up I (am_bd b5 + 1) x6.toNatClampNeg (x7 - x8)) (am_bd b1) 1))) J))) else (if ((am_up I (am_bd b5 + 1) x6.toNatClampNeg (x7 - x8)) (am_bd b1) 1) = 0 then none else some (none, am_sh (am_up (am_up I (am_bd b5 + 1) x6.toNatClampNeg (x7 - x8)) (am_bd b1 + 1) 3 ((((am_up I (am_bd b5 + 1) x6.toNatClampNeg (x7 - x8)) (am_bd b1 + 1) 3) + x3) - (((am_up I (am_bd b5 + 1) x6.toNatClampNeg (x7 - x8)) (am_bd b1 + 1) 3) + x3) / ((am_up I (am_bd b5 + 1) x6.toNatClampNeg (x7 - x8)) (am_bd b1) 1) * ((am_up I (am_bd b5 + 1) x6.toNatClampNeg (x7 - x8)) (am_bd b1) 1))) J)))) := by
  refine (ev_isub rfl).trans ?_
  refine (ev_iast rfl (by have := am_bd_lt hb5; omega) (am_Kbn hb5)).trans (am_itn (fun g1 => ?_))
  refine (ev_iload rfl rfl).trans ?_
  refine (ev_if1 rfl).trans (am_ite (fun c2 => ?_) (fun c2 => ?_))
  · refine (ev_iload rfl rfl).trans ?_
    refine (ev_const0 (v := (1 : Int32)) rfl am_ci_1).trans ?_
    refine (ev_icmp1 rfl).trans (am_ite (fun c3 => ?_) (fun c3 => ?_))
    · refine (ev_iload rfl rfl).trans ?_
      refine (ev_const0 (v := (4 : Int32)) rfl am_ci_4).trans ?_
      refine (ev_icmp3 rfl).trans (am_ite (fun c4 => ?_) (fun c4 => ?_))
      · refine (ev_aload rfl rfl).trans ?_
        refine (ev_getR rfl (by have := am_bd_lt hb1; omega) (am_Kbd hb1) (by decide) rfl (am_Rb2 hb1)).trans ?_
        refine (ev_const0 (v := (5 : Int32)) rfl am_ci_5).trans ?_
        refine (ev_dup2 rfl).trans ?_
        refine (ev_ialdC (jn := 5) rfl (by have := am_bd_lt hb1; omega) (am_Kbn hb1) (by decide) (by decide)).trans ?_
        refine (ev_iload rfl rfl).trans ?_
        refine (ev_const0 (v := (4 : Int32)) rfl am_ci_4).trans ?_
        refine (ev_icmp1 rfl).trans (am_ite (fun c5 => ?_) (fun c5 => ?_))
        · refine (ev_iload rfl rfl).trans ?_
          refine (ev_ineg rfl).trans ?_
          refine (ev_iadd rfl).trans ?_
          refine (ev_iastC (jn := 5) rfl (by have := am_bd_lt hb1; omega) (am_Kbn hb1) (by decide) (by decide)).trans ?_
          exact ev_vret rfl
        · refine (ev_iload rfl rfl).trans ?_
          refine (ev_goto rfl).trans ?_
          refine (ev_iadd rfl).trans ?_
          refine (ev_iastC (jn := 5) rfl (by have := am_bd_lt hb1; omega) (am_Kbn hb1) (by decide) (by decide)).trans ?_
          exact ev_vret rfl
      · refine (ev_iload rfl rfl).trans ?_
        refine (ev_const0 (v := (2 : Int32)) rfl am_ci_2).trans ?_
        refine (ev_icmp1 rfl).trans (am_ite (fun c5 => ?_) (fun c5 => ?_))
        · refine (ev_iload rfl rfl).trans ?_
          refine (ev_ineg rfl).trans ?_
          refine (ev_istore (ls' := [.ref (am_bd b1), .int x2, .int x3, .int (-x3)]) rfl (Nat.le_of_ble_eq_true rfl) rfl).trans ?_
          refine (ev_aload rfl rfl).trans ?_
          refine (ev_getR rfl (by have := am_bd_lt hb1; omega) (am_Kbd hb1) (by decide) rfl (am_Rb2 hb1)).trans ?_
          refine (ev_const0 (v := (0 : Int32)) rfl am_ci_0).trans ?_
          refine (ev_dup2 rfl).trans ?_
          refine (ev_ialdC (jn := 0) rfl (by have := am_bd_lt hb1; omega) (am_Kbn hb1) (by decide) (by decide)).trans ?_
          refine (ev_iload rfl rfl).trans ?_
          refine (ev_iadd rfl).trans ?_
          refine (ev_iastC (jn := 0) rfl (by have := am_bd_lt hb1; omega) (am_Kbn hb1) (by decide) (by decide)).trans ?_
          refine (ev_aload rfl rfl).trans ?_
          refine (ev_getR rfl (by have := am_bd_lt hb1; omega) (am_Kbd hb1) (by decide) rfl (am_Rb2 hb1)).trans ?_
          refine (ev_const0 (v := (1 : Int32)) rfl am_ci_1).trans ?_
          refine (ev_dup2 rfl).trans ?_
          refine (ev_ialdC (jn := 1) rfl (by have := am_bd_lt hb1; omega) (am_Kbn hb1) (by decide) (by decide)).trans ?_
          refine (ev_iload rfl rfl).trans ?_
          refine (ev_iadd rfl).trans ?_
          refine (ev_iastC (jn := 1) rfl (by have := am_bd_lt hb1; omega) (am_Kbn hb1) (by decide) (by decide)).trans ?_
          refine (ev_goto rfl).trans ?_
          exact ev_vret rfl
        · refine (ev_iload rfl rfl).trans ?_
          refine (ev_goto rfl).trans ?_
          refine (ev_istore (ls' := [.ref (am_bd b1), .int x2, .int x3, .int x3]) rfl (Nat.le_of_ble_eq_true rfl) rfl).trans ?_
          refine (ev_aload rfl rfl).trans ?_
          refine (ev_getR rfl (by have := am_bd_lt hb1; omega) (am_Kbd hb1) (by decide) rfl (am_Rb2 hb1)).trans ?_
          refine (ev_const0 (v := (0 : Int32)) rfl am_ci_0).trans ?_
          refine (ev_dup2 rfl).trans ?_
          refine (ev_ialdC (jn := 0) rfl (by have := am_bd_lt hb1; omega) (am_Kbn hb1) (by decide) (by decide)).trans ?_
          refine (ev_iload rfl rfl).trans ?_
          refine (ev_iadd rfl).trans ?_
          refine (ev_iastC (jn := 0) rfl (by have := am_bd_lt hb1; omega) (am_Kbn hb1) (by decide) (by decide)).trans ?_
          refine (ev_aload rfl rfl).trans ?_
          refine (ev_getR rfl (by have := am_bd_lt hb1; omega) (am_Kbd hb1) (by decide) rfl (am_Rb2 hb1)).trans ?_
          refine (ev_const0 (v := (1 : Int32)) rfl am_ci_1).trans ?_
          refine (ev_dup2 rfl).trans ?_
          refine (ev_ialdC (jn := 1) rfl (by have := am_bd_lt hb1; omega) (am_Kbn hb1) (by decide) (by decide)).trans ?_
          refine (ev_iload rfl rfl).trans ?_
          refine (ev_iadd rfl).trans ?_
          refine (ev_iastC (jn := 1) rfl (by have := am_bd_lt hb1; omega) (am_Kbn hb1) (by decide) (by decide)).trans ?_
          refine (ev_goto rfl).trans ?_
          exact ev_vret rfl
    · refine (ev_aload rfl rfl).trans ?_
      refine (ev_getR rfl (by have := am_bd_lt hb1; omega) (am_Kbd hb1) (by decide) rfl (am_Rb2 hb1)).trans ?_
      refine (ev_const0 (v := (4 : Int32)) rfl am_ci_4).trans ?_
      refine (ev_aload rfl rfl).trans ?_
      refine (ev_getR rfl (by have := am_bd_lt hb1; omega) (am_Kbd hb1) (by decide) rfl (am_Rb2 hb1)).trans ?_
      refine (ev_const0 (v := (4 : Int32)) rfl am_ci_4).trans ?_
      refine (ev_ialdC (jn := 4) rfl (by have := am_bd_lt hb1; omega) (am_Kbn hb1) (by decide) (by decide)).trans ?_
      refine (ev_iload rfl rfl).trans ?_
      refine (ev_iadd rfl).trans ?_
      refine (ev_aload rfl rfl).trans ?_
      refine (ev_getI rfl (by have := am_bd_lt hb1; omega) (am_Kbd hb1) (by decide) rfl).trans ?_
      refine (ev_irem rfl).trans (am_itn (fun g4 => ?_))
      refine (ev_iastC (jn := 4) rfl (by have := am_bd_lt hb1; omega) (am_Kbn hb1) (by decide) (by decide)).trans ?_
      refine (ev_goto rfl).trans ?_
      exact ev_vret rfl
  · refine (ev_aload rfl rfl).trans ?_
    refine (ev_getR rfl (by have := am_bd_lt hb1; omega) (am_Kbd hb1) (by decide) rfl (am_Rb2 hb1)).trans ?_
    refine (ev_const0 (v := (3 : Int32)) rfl am_ci_3).trans ?_
    refine (ev_aload rfl rfl).trans ?_
    refine (ev_getR rfl (by have := am_bd_lt hb1; omega) (am_Kbd hb1) (by decide) rfl (am_Rb2 hb1)).trans ?_
    refine (ev_const0 (v := (3 : Int32)) rfl am_ci_3).trans ?_
    refine (ev_ialdC (jn := 3) rfl (by have := am_bd_lt hb1; omega) (am_Kbn hb1) (by decide) (by decide)).trans ?_
    refine (ev_iload rfl rfl).trans ?_
    refine (ev_iadd rfl).trans ?_
    refine (ev_aload rfl rfl).trans ?_
    refine (ev_getI rfl (by have := am_bd_lt hb1; omega) (am_Kbd hb1) (by decide) rfl).trans ?_
    refine (ev_irem rfl).trans (am_itn (fun g3 => ?_))
    refine (ev_iastC (jn := 3) rfl (by have := am_bd_lt hb1; omega) (am_Kbn hb1) (by decide) (by decide)).trans ?_
    refine (ev_goto rfl).trans ?_
    exact ev_vret rfl
-- 49 X3_forgetAll
set_option maxRecDepth 10000 in
theorem sg_49_e0 (X : am_X) (I : Nat → Nat → Int32) (J : Nat → Nat → Int64) : am_ev X amP_49 0 [.ref 83] [] (am_sh I J) = (am_do X 360 [.ref 84, .int (-1 : Int32)] (am_sh I J)).bind (fun q => am_ev X amP_49 4 [.ref 83] (q.1.toList ++ []) q.2) := by
  refine (ev_aload rfl rfl).trans ?_
  refine (ev_getR rfl (by decide) am_K_83 (by decide) rfl am_R_83_1).trans ?_
  refine (ev_const0 (v := (-1 : Int32)) rfl am_ci_m1).trans ?_
  exact ev_invs (as := [.int (-1 : Int32), .ref 84]) rfl rfl (by simp [Value.category])
theorem cl_49 (X : am_X) (I : Nat → Nat → Int32) (J : Nat → Nat → Int64) : am_do X 49 [.ref 83] (am_sh I J) = am_ev X amP_49 0 [.ref 83] [] (am_sh I J) := am_do_of rfl rfl rfl
set_option maxRecDepth 10000 in
theorem sg_49_4 (X : am_X) (I : Nat → Nat → Int32) (J : Nat → Nat → Int64) : am_ev X amP_49 4 [.ref 83] [] (am_sh I J) = some (none, am_sh I J) := by
  exact ev_vret rfl
-- 50 X3_forgetBody
set_option maxRecDepth 10000 in
theorem sg_50_e0 (X : am_X) (I : Nat → Nat → Int32) (J : Nat → Nat → Int64) (x1 : Int32) : am_ev X amP_50 0 [.ref 83, .int x1, .null] [] (am_sh I J) = am_ev X amP_50 2 [.ref 83, .int x1, .int (0 : Int32)] [] (am_sh I J) := by
  refine (ev_const0 (v := (0 : Int32)) rfl am_ci_0).trans ?_
  refine (ev_istore (ls' := [.ref 83, .int x1, .int (0 : Int32)]) rfl (Nat.le_of_ble_eq_true rfl) rfl).trans ?_
  rfl
theorem cl_50 (X : am_X) (I : Nat → Nat → Int32) (J : Nat → Nat → Int64) (x1 : Int32) : am_do X 50 [.ref 83, .int x1] (am_sh I J) = am_ev X amP_50 0 [.ref 83, .int x1, .null] [] (am_sh I J) := am_do_of rfl rfl rfl
set_option maxRecDepth 10000 in
theorem sg_50_2 (X : am_X) (I : Nat → Nat → Int32) (J : Nat → Nat → Int64) (x1 : Int32) (x2 : Int32) : am_ev X amP_50 2 [.ref 83, .int x1, .int x2] [] (am_sh I J) = (if (10 : Int32) ≤ x2 then some (none, am_sh I J) else (am_do X 51 [.int x1, .int x2] (am_sh I J)).bind (fun q => am_ev X amP_50 10 [.ref 83, .int x1, .int x2] (q.1.toList ++ [.ref 84]) q.2)) := by
  refine (ev_iload rfl rfl).trans ?_
  refine (ev_const1 (v := (10 : Int32)) rfl am_ci_10).trans ?_
  refine (ev_icmp3 rfl).trans (am_ite (fun c1 => ?_) (fun c1 => ?_))
  · exact ev_vret rfl
  · refine (ev_aload rfl rfl).trans ?_
    refine (ev_getR rfl (by decide) am_K_83 (by decide) rfl am_R_83_1).trans ?_
    refine (ev_iload rfl rfl).trans ?_
    refine (ev_iload rfl rfl).trans ?_
    exact ev_invs (as := [.int x2, .int x1]) rfl rfl (by simp [Value.category])
set_option maxRecDepth 10000 in
theorem sg_50_10 (X : am_X) (I : Nat → Nat → Int32) (J : Nat → Nat → Int64) (x1 : Int32) (x2 : Int32) (x3 : Int32) : am_ev X amP_50 10 [.ref 83, .int x1, .int x2] [.int x3, .ref 84] (am_sh I J) = (if x3 < 0 ∨ 100 ≤ x3.toNatClampNeg then none else am_ev X amP_50 2 [.ref 83, .int x1, .int (x2 + (1 : Int32))] [] (am_sh (am_up I 84 x3.toNatClampNeg (-1 : Int32)) J)) := by
  refine (ev_const0 (v := (-1 : Int32)) rfl am_ci_m1).trans ?_
  refine (ev_iast rfl (by decide) am_K_84).trans (am_itn (fun g1 => ?_))
  refine (ev_iincv (v := (1 : Int32)) (ls' := [.ref 83, .int x1, .int (x2 + (1 : Int32))]) rfl am_ci_1 rfl rfl).trans ?_
  refine (ev_goto rfl).trans ?_
  rfl
-- 51 X3_pairOf
set_option maxRecDepth 10000 in
theorem sg_51_e0 (X : am_X) (I : Nat → Nat → Int32) (J : Nat → Nat → Int64) (x1 : Int32) (x2 : Int32) : am_ev X amP_51 0 [.int x1, .int x2] [] (am_sh I J) = (am_do X 353 [.int x1, .int x2] (am_sh I J)).bind (fun q => am_ev X amP_51 3 [.int x1, .int x2] (q.1.toList ++ []) q.2) := by
  refine (ev_iload rfl rfl).trans ?_
  refine (ev_iload rfl rfl).trans ?_
  exact ev_invs (as := [.int x2, .int x1]) rfl rfl (by simp [Value.category])
theorem cl_51 (X : am_X) (I : Nat → Nat → Int32) (J : Nat → Nat → Int64) (x1 : Int32) (x2 : Int32) : am_do X 51 [.int x1, .int x2] (am_sh I J) = am_ev X amP_51 0 [.int x1, .int x2] [] (am_sh I J) := am_do_of rfl rfl rfl
set_option maxRecDepth 10000 in
theorem sg_51_3 (X : am_X) (I : Nat → Nat → Int32) (J : Nat → Nat → Int64) (x1 : Int32) (x2 : Int32) (x3 : Int32) : am_ev X amP_51 3 [.int x1, .int x2] [.int x3] (am_sh I J) = (am_do X 352 [.int x1, .int x2] (am_sh I J)).bind (fun q => am_ev X amP_51 8 [.int x1, .int x2] (q.1.toList ++ [.int (x3 * (10 : Int32))]) q.2) := by
  refine (ev_const1 (v := (10 : Int32)) rfl am_ci_10).trans ?_
  refine (ev_imul rfl).trans ?_
  refine (ev_iload rfl rfl).trans ?_
  refine (ev_iload rfl rfl).trans ?_
  exact ev_invs (as := [.int x2, .int x1]) rfl rfl (by simp [Value.category])
set_option maxRecDepth 10000 in
theorem sg_51_8 (X : am_X) (I : Nat → Nat → Int32) (J : Nat → Nat → Int64) (x1 : Int32) (x2 : Int32) (x3 : Int32) (x4 : Int32) : am_ev X amP_51 8 [.int x1, .int x2] [.int x4, .int x3] (am_sh I J) = some (some (.int (x3 + x4)), am_sh I J) := by
  refine (ev_iadd rfl).trans ?_
  exact ev_iret rfl
-- 52 X3_leastFar
set_option maxRecDepth 10000 in
theorem sg_52_e0 (X : am_X) (I : Nat → Nat → Int32) (J : Nat → Nat → Int64) (x1 : Int32) (x2 : Int32) : am_ev X amP_52 0 [.ref 83, .int x1, .int x2, .null] [] (am_sh I J) = (am_do X 51 [.int x1, .int x2] (am_sh I J)).bind (fun q => am_ev X amP_52 3 [.ref 83, .int x1, .int x2, .null] (q.1.toList ++ []) q.2) := by
  refine (ev_iload rfl rfl).trans ?_
  refine (ev_iload rfl rfl).trans ?_
  exact ev_invs (as := [.int x2, .int x1]) rfl rfl (by simp [Value.category])
theorem cl_52 (X : am_X) (I : Nat → Nat → Int32) (J : Nat → Nat → Int64) (x1 : Int32) (x2 : Int32) : am_do X 52 [.ref 83, .int x1, .int x2] (am_sh I J) = am_ev X amP_52 0 [.ref 83, .int x1, .int x2, .null] [] (am_sh I J) := am_do_of rfl rfl rfl
set_option maxRecDepth 10000 in
theorem sg_52_3 (X : am_X) (I : Nat → Nat → Int32) (J : Nat → Nat → Int64) (x1 : Int32) (x2 : Int32) (w3 : Value) (x4 : Int32) (hw3 : w3.category = 1) : am_ev X amP_52 3 [.ref 83, .int x1, .int x2, w3] [.int x4] (am_sh I J) = (if x4 < 0 ∨ 100 ≤ x4.toNatClampNeg then none else (if ¬ (I 84 x4.toNatClampNeg) = (-1 : Int32) then (if x4 < 0 ∨ 100 ≤ x4.toNatClampNeg then none else some (some (.int (I 84 x4.toNatClampNeg)), am_sh I J)) else (if x1 < 0 ∨ 10 ≤ x1.toNatClampNeg then none else (if x2 < 0 ∨ 10 ≤ x2.toNatClampNeg then none else (am_do X 55 [.ref 83, .int x4, .ref (am_bd (x1.toNatClampNeg)), .ref (am_bd (x2.toNatClampNeg))] (am_sh I J)).bind (fun q => am_ev X amP_52 23 [.ref 83, .int x1, .int x2, .int x4] (q.1.toList ++ []) q.2))))) := by
  refine (ev_istore (ls' := [.ref 83, .int x1, .int x2, .int x4]) rfl (Nat.le_of_ble_eq_true rfl) rfl).trans ?_
  refine (ev_aload rfl rfl).trans ?_
  refine (ev_getR rfl (by decide) am_K_83 (by decide) rfl am_R_83_1).trans ?_
  refine (ev_iload rfl rfl).trans ?_
  refine (ev_iald rfl (by decide) am_K_84).trans (am_itn (fun g1 => ?_))
  refine (ev_const0 (v := (-1 : Int32)) rfl am_ci_m1).trans ?_
  refine (ev_icmp1 rfl).trans (am_ite (fun c2 => ?_) (fun c2 => ?_))
  · refine (ev_aload rfl rfl).trans ?_
    refine (ev_getR rfl (by decide) am_K_83 (by decide) rfl am_R_83_1).trans ?_
    refine (ev_iload rfl rfl).trans ?_
    refine (ev_iald rfl (by decide) am_K_84).trans (am_itn (fun g3 => ?_))
    exact ev_iret rfl
  · refine (ev_aload rfl rfl).trans ?_
    refine (ev_iload rfl rfl).trans ?_
    refine (ev_aload rfl rfl).trans ?_
    refine (ev_getR rfl (by decide) am_K_83 (by decide) rfl am_R_83_0).trans ?_
    refine (ev_getR rfl (by decide) am_K_16 (by decide) rfl am_R_16_0).trans ?_
    refine (ev_iload rfl rfl).trans ?_
    refine (ev_aald rfl (by decide) (Or.inl am_K_17) (f := am_bd) (fun k hk => am_R17 hk)).trans (am_itn (fun g3 => ?_))
    refine (ev_aload rfl rfl).trans ?_
    refine (ev_getR rfl (by decide) am_K_83 (by decide) rfl am_R_83_0).trans ?_
    refine (ev_getR rfl (by decide) am_K_16 (by decide) rfl am_R_16_0).trans ?_
    refine (ev_iload rfl rfl).trans ?_
    refine (ev_aald rfl (by decide) (Or.inl am_K_17) (f := am_bd) (fun k hk => am_R17 hk)).trans (am_itn (fun g4 => ?_))
    exact ev_invv (as := [.ref (am_bd (x2.toNatClampNeg)), .ref (am_bd (x1.toNatClampNeg)), .int x4]) rfl (by decide) am_K_83 rfl (by simp [Value.category])
set_option maxRecDepth 10000 in
theorem sg_52_23 (X : am_X) (I : Nat → Nat → Int32) (J : Nat → Nat → Int64) (x1 : Int32) (x2 : Int32) (x3 : Int32) : am_ev X amP_52 23 [.ref 83, .int x1, .int x2, .int x3] [] (am_sh I J) = (if x3 < 0 ∨ 100 ≤ x3.toNatClampNeg then none else some (some (.int (I 84 x3.toNatClampNeg)), am_sh I J)) := by
  refine (ev_aload rfl rfl).trans ?_
  refine (ev_getR rfl (by decide) am_K_83 (by decide) rfl am_R_83_1).trans ?_
  refine (ev_iload rfl rfl).trans ?_
  refine (ev_iald rfl (by decide) am_K_84).trans (am_itn (fun g1 => ?_))
  exact ev_iret rfl
-- 53 X3_isLookedAt
set_option maxRecDepth 10000 in
theorem sg_53_e0 (X : am_X) (I : Nat → Nat → Int32) (J : Nat → Nat → Int64) (x1 : Int32) (x2 : Int32) : am_ev X amP_53 0 [.ref 83, .int x1, .int x2] [] (am_sh I J) = (am_do X 51 [.int x1, .int x2] (am_sh I J)).bind (fun q => am_ev X amP_53 5 [.ref 83, .int x1, .int x2] (q.1.toList ++ [.ref 84]) q.2) := by
  refine (ev_aload rfl rfl).trans ?_
  refine (ev_getR rfl (by decide) am_K_83 (by decide) rfl am_R_83_1).trans ?_
  refine (ev_iload rfl rfl).trans ?_
  refine (ev_iload rfl rfl).trans ?_
  exact ev_invs (as := [.int x2, .int x1]) rfl rfl (by simp [Value.category])
theorem cl_53 (X : am_X) (I : Nat → Nat → Int32) (J : Nat → Nat → Int64) (x1 : Int32) (x2 : Int32) : am_do X 53 [.ref 83, .int x1, .int x2] (am_sh I J) = am_ev X amP_53 0 [.ref 83, .int x1, .int x2] [] (am_sh I J) := am_do_of rfl rfl rfl
set_option maxRecDepth 10000 in
theorem sg_53_5 (X : am_X) (I : Nat → Nat → Int32) (J : Nat → Nat → Int64) (x1 : Int32) (x2 : Int32) (x3 : Int32) : am_ev X amP_53 5 [.ref 83, .int x1, .int x2] [.int x3, .ref 84] (am_sh I J) = (if x3 < 0 ∨ 100 ≤ x3.toNatClampNeg then none else (if (I 84 x3.toNatClampNeg) = (-1 : Int32) then some (some (.int (0 : Int32)), am_sh I J) else some (some (.int (1 : Int32)), am_sh I J))) := by
  refine (ev_iald rfl (by decide) am_K_84).trans (am_itn (fun g1 => ?_))
  refine (ev_const0 (v := (-1 : Int32)) rfl am_ci_m1).trans ?_
  refine (ev_icmp0 rfl).trans (am_ite (fun c2 => ?_) (fun c2 => ?_))
  · refine (ev_const0 (v := (0 : Int32)) rfl am_ci_0).trans ?_
    exact ev_zret rfl (by decide)
  · refine (ev_const0 (v := (1 : Int32)) rfl am_ci_1).trans ?_
    refine (ev_goto rfl).trans ?_
    exact ev_zret rfl (by decide)
-- 54 X3_closestTick
set_option maxRecDepth 10000 in
theorem sg_54_e0 (X : am_X) (I : Nat → Nat → Int32) (J : Nat → Nat → Int64) (x1 : Int32) (x2 : Int32) : am_ev X amP_54 0 [.ref 83, .int x1, .int x2] [] (am_sh I J) = (am_do X 52 [.ref 83, .int x1, .int x2] (am_sh I J)).bind (fun q => am_ev X amP_54 4 [.ref 83, .int x1, .int x2] (q.1.toList ++ []) q.2) := by
  refine (ev_aload rfl rfl).trans ?_
  refine (ev_iload rfl rfl).trans ?_
  refine (ev_iload rfl rfl).trans ?_
  exact ev_invv (as := [.int x2, .int x1]) rfl (by decide) am_K_83 rfl (by simp [Value.category])
theorem cl_54 (X : am_X) (I : Nat → Nat → Int32) (J : Nat → Nat → Int64) (x1 : Int32) (x2 : Int32) : am_do X 54 [.ref 83, .int x1, .int x2] (am_sh I J) = am_ev X amP_54 0 [.ref 83, .int x1, .int x2] [] (am_sh I J) := am_do_of rfl rfl rfl
set_option maxRecDepth 10000 in
theorem sg_54_4 (X : am_X) (I : Nat → Nat → Int32) (J : Nat → Nat → Int64) (x1 : Int32) (x2 : Int32) (x3 : Int32) : am_ev X amP_54 4 [.ref 83, .int x1, .int x2] [.int x3] (am_sh I J) = (am_do X 51 [.int x1, .int x2] (am_sh I J)).bind (fun q => am_ev X amP_54 10 [.ref 83, .int x1, .int x2] (q.1.toList ++ [.ref 85]) q.2) := by
  refine (ev_popi rfl).trans ?_
  refine (ev_aload rfl rfl).trans ?_
  refine (ev_getR rfl (by decide) am_K_83 (by decide) rfl am_R_83_2).trans ?_
  refine (ev_iload rfl rfl).trans ?_
  refine (ev_iload rfl rfl).trans ?_
  exact ev_invs (as := [.int x2, .int x1]) rfl rfl (by simp [Value.category])
set_option maxRecDepth 10000 in
theorem sg_54_10 (X : am_X) (I : Nat → Nat → Int32) (J : Nat → Nat → Int64) (x1 : Int32) (x2 : Int32) (x3 : Int32) : am_ev X amP_54 10 [.ref 83, .int x1, .int x2] [.int x3, .ref 85] (am_sh I J) = (if x3 < 0 ∨ 100 ≤ x3.toNatClampNeg then none else some (some (.int (I 85 x3.toNatClampNeg)), am_sh I J)) := by
  refine (ev_iald rfl (by decide) am_K_85).trans (am_itn (fun g1 => ?_))
  exact ev_iret rfl
-- 55 X3_lookAt
set_option maxRecDepth 10000 in
theorem sg_55_e0 (X : am_X) (I : Nat → Nat → Int32) (J : Nat → Nat → Int64) (x1 : Int32) (b2 : Nat) (b3 : Nat) (hb2 : b2 < 11) (hb3 : b3 < 11) : am_ev X amP_55 0 [.ref 83, .int x1, .ref (am_bd b2), .ref (am_bd b3), .null, .null, .null, .null, .null, .null, .null, .null, .null] [] (am_sh I J) = (am_do X 40 [.ref (am_bd b2), .ref (am_bd b3)] (am_sh I J)).bind (fun q => am_ev X amP_55 3 [.ref 83, .int x1, .ref (am_bd b2), .ref (am_bd b3), .null, .null, .null, .null, .null, .null, .null, .null, .null] (q.1.toList ++ []) q.2) := by
  refine (ev_aload rfl rfl).trans ?_
  refine (ev_aload rfl rfl).trans ?_
  exact ev_invv (as := [.ref (am_bd b3)]) rfl (by have := am_bd_lt hb2; omega) (am_Kbd hb2) rfl (by simp [Value.category])
theorem cl_55 (X : am_X) (I : Nat → Nat → Int32) (J : Nat → Nat → Int64) (x1 : Int32) (b2 : Nat) (b3 : Nat) : am_do X 55 [.ref 83, .int x1, .ref (am_bd b2), .ref (am_bd b3)] (am_sh I J) = am_ev X amP_55 0 [.ref 83, .int x1, .ref (am_bd b2), .ref (am_bd b3), .null, .null, .null, .null, .null, .null, .null, .null, .null] [] (am_sh I J) := am_do_of rfl rfl rfl
set_option maxRecDepth 10000 in
theorem sg_55_3 (X : am_X) (I : Nat → Nat → Int32) (J : Nat → Nat → Int64) (x1 : Int32) (b2 : Nat) (b3 : Nat) (w4 : Value) (w5 : Value) (w6 : Value) (w7 : Value) (w8 : Value) (w9 : Value) (w10 : Value) (w11 : Value) (w12 : Value) (x13 : Int32) (hb2 : b2 < 11) (hb3 : b3 < 11) (hw4 : w4.category = 1) (hw5 : w5.category = 1) (hw6 : w6.category = 1) (hw7 : w7.category = 1) (hw8 : w8.category = 1) (hw9 : w9.category = 1) (hw10 : w10.category = 1) (hw11 : w11.category = 1) (hw12 : w12.category = 1) : am_ev X amP_55 3 [.ref 83, .int x1, .ref (am_bd b2), .ref (am_bd b3), w4, w5, w6, w7, w8, w9, w10, w11, w12] [.int x13] (am_sh I J) = (am_do X 30 [.ref (am_bd b2), .int (0 : Int32)] (am_sh I J)).bind (fun q => am_ev X amP_55 13 [.ref 83, .int x1, .ref (am_bd b2), .ref (am_bd b3), .int x13, .int (I (am_bd b2) 1), .int (I (am_bd b3) 1), w7, w8, w9, w10, w11, w12] (q.1.toList ++ []) q.2) := by
  refine (ev_istore (ls' := [.ref 83, .int x1, .ref (am_bd b2), .ref (am_bd b3), .int x13, w5, w6, w7, w8, w9, w10, w11, w12]) rfl (Nat.le_of_ble_eq_true rfl) rfl).trans ?_
  refine (ev_aload rfl rfl).trans ?_
  refine (ev_getI rfl (by have := am_bd_lt hb2; omega) (am_Kbd hb2) (by decide) rfl).trans ?_
  refine (ev_istore (ls' := [.ref 83, .int x1, .ref (am_bd b2), .ref (am_bd b3), .int x13, .int (I (am_bd b2) 1), w6, w7, w8, w9, w10, w11, w12]) rfl (Nat.le_of_ble_eq_true rfl) rfl).trans ?_
  refine (ev_aload rfl rfl).trans ?_
  refine (ev_getI rfl (by have := am_bd_lt hb3; omega) (am_Kbd hb3) (by decide) rfl).trans ?_
  refine (ev_istore (ls' := [.ref 83, .int x1, .ref (am_bd b2), .ref (am_bd b3), .int x13, .int (I (am_bd b2) 1), .int (I (am_bd b3) 1), w7, w8, w9, w10, w11, w12]) rfl (Nat.le_of_ble_eq_true rfl) rfl).trans ?_
  refine (ev_aload rfl rfl).trans ?_
  refine (ev_const0 (v := (0 : Int32)) rfl am_ci_0).trans ?_
  exact ev_invv (as := [.int (0 : Int32)]) rfl (by have := am_bd_lt hb2; omega) (am_Kbd hb2) rfl (by simp [Value.category])
set_option maxRecDepth 10000 in
theorem sg_55_13 (X : am_X) (I : Nat → Nat → Int32) (J : Nat → Nat → Int64) (x1 : Int32) (b2 : Nat) (b3 : Nat) (x4 : Int32) (x5 : Int32) (x6 : Int32) (w7 : Value) (w8 : Value) (w9 : Value) (w10 : Value) (w11 : Value) (w12 : Value) (x13 : Int32) (hb2 : b2 < 11) (hb3 : b3 < 11) (hw7 : w7.category = 1) (hw8 : w8.category = 1) (hw9 : w9.category = 1) (hw10 : w10.category = 1) (hw11 : w11.category = 1) (hw12 : w12.category = 1) : am_ev X amP_55 13 [.ref 83, .int x1, .ref (am_bd b2), .ref (am_bd b3), .int x4, .int x5, .int x6, w7, w8, w9, w10, w11, w12] [.int x13] (am_sh I J) = (am_do X 30 [.ref (am_bd b3), .int (0 : Int32)] (am_sh I J)).bind (fun q => am_ev X amP_55 17 [.ref 83, .int x1, .ref (am_bd b2), .ref (am_bd b3), .int x4, .int x5, .int x6, .int x13, w8, w9, w10, w11, w12] (q.1.toList ++ []) q.2) := by
  refine (ev_istore (ls' := [.ref 83, .int x1, .ref (am_bd b2), .ref (am_bd b3), .int x4, .int x5, .int x6, .int x13, w8, w9, w10, w11, w12]) rfl (Nat.le_of_ble_eq_true rfl) rfl).trans ?_
  refine (ev_aload rfl rfl).trans ?_
  refine (ev_const0 (v := (0 : Int32)) rfl am_ci_0).trans ?_
  exact ev_invv (as := [.int (0 : Int32)]) rfl (by have := am_bd_lt hb3; omega) (am_Kbd hb3) rfl (by simp [Value.category])
set_option maxRecDepth 10000 in
theorem sg_55_17 (X : am_X) (I : Nat → Nat → Int32) (J : Nat → Nat → Int64) (x1 : Int32) (b2 : Nat) (b3 : Nat) (x4 : Int32) (x5 : Int32) (x6 : Int32) (x7 : Int32) (w8 : Value) (w9 : Value) (w10 : Value) (w11 : Value) (w12 : Value) (x13 : Int32) (hb2 : b2 < 11) (hb3 : b3 < 11) (hw8 : w8.category = 1) (hw9 : w9.category = 1) (hw10 : w10.category = 1) (hw11 : w11.category = 1) (hw12 : w12.category = 1) : am_ev X amP_55 17 [.ref 83, .int x1, .ref (am_bd b2), .ref (am_bd b3), .int x4, .int x5, .int x6, .int x7, w8, w9, w10, w11, w12] [.int x13] (am_sh I J) = am_ev X amP_55 22 [.ref 83, .int x1, .ref (am_bd b2), .ref (am_bd b3), .int x4, .int x5, .int x6, .int x7, .int x13, .int (1000000 : Int32), .int (0 : Int32), w11, w12] [] (am_sh I J) := by
  refine (ev_istore (ls' := [.ref 83, .int x1, .ref (am_bd b2), .ref (am_bd b3), .int x4, .int x5, .int x6, .int x7, .int x13, w9, w10, w11, w12]) rfl (Nat.le_of_ble_eq_true rfl) rfl).trans ?_
  refine (ev_const3 (v := (1000000 : Int32)) rfl am_ci_1000000).trans ?_
  refine (ev_istore (ls' := [.ref 83, .int x1, .ref (am_bd b2), .ref (am_bd b3), .int x4, .int x5, .int x6, .int x7, .int x13, .int (1000000 : Int32), w10, w11, w12]) rfl (Nat.le_of_ble_eq_true rfl) rfl).trans ?_
  refine (ev_const0 (v := (0 : Int32)) rfl am_ci_0).trans ?_
  refine (ev_istore (ls' := [.ref 83, .int x1, .ref (am_bd b2), .ref (am_bd b3), .int x4, .int x5, .int x6, .int x7, .int x13, .int (1000000 : Int32), .int (0 : Int32), w11, w12]) rfl (Nat.le_of_ble_eq_true rfl) rfl).trans ?_
  rfl
set_option maxRecDepth 10000 in
theorem sg_55_22 (X : am_X) (I : Nat → Nat → Int32) (J : Nat → Nat → Int64) (x1 : Int32) (b2 : Nat) (b3 : Nat) (x4 : Int32) (x5 : Int32) (x6 : Int32) (x7 : Int32) (x8 : Int32) (x9 : Int32) (x10 : Int32) (w11 : Value) (w12 : Value) (hb2 : b2 < 11) (hb3 : b3 < 11) (hw11 : w11.category = 1) (hw12 : w12.category = 1) : am_ev X amP_55 22 [.ref 83, .int x1, .ref (am_bd b2), .ref (am_bd b3), .int x4, .int x5, .int x6, .int x7, .int x8, .int x9, .int x10, w11, w12] [] (am_sh I J) = (if x4 ≤ x10 then (if x1 < 0 ∨ 100 ≤ x1.toNatClampNeg then none else some (none, am_sh (am_up I 84 x1.toNatClampNeg x9) J)) else (if x7 < 0 ∨ 48 ≤ x7.toNatClampNeg then none else (if x8 < 0 ∨ 48 ≤ x8.toNatClampNeg then none else (if x9 ≤ (((I (am_bd b2 + 2) x7.toNatClampNeg) - (I (am_bd b3 + 2) x8.toNatClampNeg)) * ((I (am_bd b2 + 2) x7.toNatClampNeg) - (I (am_bd b3 + 2) x8.toNatClampNeg))) then (if x9 ≤ x9 then (if x5 ≤ (x7 + (1 : Int32)) then (if x6 ≤ (x8 + (1 : Int32)) then am_ev X amP_55 22 [.ref 83, .int x1, .ref (am_bd b2), .ref (am_bd b3), .int x4, .int x5, .int x6, .int (0 : Int32), .int (0 : Int32), .int x9, .int (x10 + (1 : Int32)), .int ((I (am_bd b2 + 2) x7.toNatClampNeg) - (I (am_bd b3 + 2) x8.toNatClampNeg)), .int x9] [] (am_sh I J) else am_ev X amP_55 22 [.ref 83, .int x1, .ref (am_bd b2), .ref (am_bd b3), .int x4, .int x5, .int x6, .int (0 : Int32), .int (x8 + (1 : Int32)), .int x9, .int (x10 + (1 : Int32)), .int ((I (am_bd b2 + 2) x7.toNatClampNeg) - (I (am_bd b3 + 2) x8.toNatClampNeg)), .int x9] [] (am_sh I J)) else (if x6 ≤ (x8 + (1 : Int32)) then am_ev X amP_55 22 [.ref 83, .int x1, .ref (am_bd b2), .ref (am_bd b3), .int x4, .int x5, .int x6, .int (x7 + (1 : Int32)), .int (0 : Int32), .int x9, .int (x10 + (1 : Int32)), .int ((I (am_bd b2 + 2) x7.toNatClampNeg) - (I (am_bd b3 + 2) x8.toNatClampNeg)), .int x9] [] (am_sh I J) else am_ev X amP_55 22 [.ref 83, .int x1, .ref (am_bd b2), .ref (am_bd b3), .int x4, .int x5, .int x6, .int (x7 + (1 : Int32)), .int (x8 + (1 : Int32)), .int x9, .int (x10 + (1 : Int32)), .int ((I (am_bd b2 + 2) x7.toNatClampNeg) - (I (am_bd b3 + 2) x8.toNatClampNeg)), .int x9] [] (am_sh I J))) else (if x1 < 0 ∨ 100 ≤ x1.toNatClampNeg then none else (if x5 ≤ (x7 + (1 : Int32)) then (if x6 ≤ (x8 + (1 : Int32)) then am_ev X amP_55 22 [.ref 83, .int x1, .ref (am_bd b2), .ref (am_bd b3), .int x4, .int x5, .int x6, .int (0 : Int32), .int (0 : Int32), .int x9, .int (x10 + (1 : Int32)), .int ((I (am_bd b2 + 2) x7.toNatClampNeg) - (I (am_bd b3 + 2) x8.toNatClampNeg)), .int x9] [] (am_sh (am_up I 85 x1.toNatClampNeg x10) J) else am_ev X amP_55 22 [.ref 83, .int x1, .ref (am_bd b2), .ref (am_bd b3), .int x4, .int x5, .int x6, .int (0 : Int32), .int (x8 + (1 : Int32)), .int x9, .int (x10 + (1 : Int32)), .int ((I (am_bd b2 + 2) x7.toNatClampNeg) - (I (am_bd b3 + 2) x8.toNatClampNeg)), .int x9] [] (am_sh (am_up I 85 x1.toNatClampNeg x10) J)) else (if x6 ≤ (x8 + (1 : Int32)) then am_ev X amP_55 22 [.ref 83, .int x1, .ref (am_bd b2), .ref (am_bd b3), .int x4, .int x5, .int x6, .int (x7 + (1 : Int32)), .int (0 : Int32), .int x9, .int (x10 + (1 : Int32)), .int ((I (am_bd b2 + 2) x7.toNatClampNeg) - (I (am_bd b3 + 2) x8.toNatClampNeg)), .int x9] [] (am_sh (am_up I 85 x1.toNatClampNeg x10) J) else am_ev X amP_55 22 [.ref 83, .int x1, .ref (am_bd b2), .ref (am_bd b3), .int x4, .int x5, .int x6, .int (x7 + (1 : Int32)), .int (x8 + (1 : Int32)), .int x9, .int (x10 + (1 : Int32)), .int ((I (am_bd b2 + 2) x7.toNatClampNeg) - (I (am_bd b3 + 2) x8.toNatClampNeg)), .int x9] [] (am_sh (am_up I 85 x1.toNatClampNeg x10) J))))) else (am_do X 35 [.ref (am_bd b2), .int x7, .ref (am_bd b3), .int x8] (am_sh I J)).bind (fun q => am_ev X amP_55 45 [.ref 83, .int x1, .ref (am_bd b2), .ref (am_bd b3), .int x4, .int x5, .int x6, .int x7, .int x8, .int x9, .int x10, .int ((I (am_bd b2 + 2) x7.toNatClampNeg) - (I (am_bd b3 + 2) x8.toNatClampNeg)), w12] (q.1.toList ++ []) q.2))))) := by
  refine (ev_iload rfl rfl).trans ?_
  refine (ev_iload rfl rfl).trans ?_
  refine (ev_icmp3 rfl).trans (am_ite (fun c1 => ?_) (fun c1 => ?_))
  · refine (ev_aload rfl rfl).trans ?_
    refine (ev_getR rfl (by decide) am_K_83 (by decide) rfl am_R_83_1).trans ?_
    refine (ev_iload rfl rfl).trans ?_
    refine (ev_iload rfl rfl).trans ?_
    refine (ev_iast rfl (by decide) am_K_84).trans (am_itn (fun g2 => ?_))
    exact ev_vret rfl
  · refine (ev_aload rfl rfl).trans ?_
    refine (ev_getR rfl (by have := am_bd_lt hb2; omega) (am_Kbd hb2) (by decide) rfl (am_Rb3 hb2)).trans ?_
    refine (ev_iload rfl rfl).trans ?_
    refine (ev_iald rfl (by have := am_bd_lt hb2; omega) (am_Kb2 hb2)).trans (am_itn (fun g2 => ?_))
    refine (ev_aload rfl rfl).trans ?_
    refine (ev_getR rfl (by have := am_bd_lt hb3; omega) (am_Kbd hb3) (by decide) rfl (am_Rb3 hb3)).trans ?_
    refine (ev_iload rfl rfl).trans ?_
    refine (ev_iald rfl (by have := am_bd_lt hb3; omega) (am_Kb2 hb3)).trans (am_itn (fun g3 => ?_))
    refine (ev_isub rfl).trans ?_
    refine (ev_istore (ls' := [.ref 83, .int x1, .ref (am_bd b2), .ref (am_bd b3), .int x4, .int x5, .int x6, .int x7, .int x8, .int x9, .int x10, .int ((I (am_bd b2 + 2) x7.toNatClampNeg) - (I (am_bd b3 + 2) x8.toNatClampNeg)), w12]) rfl (Nat.le_of_ble_eq_true rfl) rfl).trans ?_
    refine (ev_iload rfl rfl).trans ?_
    refine (ev_iload rfl rfl).trans ?_
    refine (ev_imul rfl).trans ?_
    refine (ev_iload rfl rfl).trans ?_
    refine (ev_icmp3 rfl).trans (am_ite (fun c4 => ?_) (fun c4 => ?_))
    · refine (ev_iload rfl rfl).trans ?_
      refine (ev_istore (ls' := [.ref 83, .int x1, .ref (am_bd b2), .ref (am_bd b3), .int x4, .int x5, .int x6, .int x7, .int x8, .int x9, .int x10, .int ((I (am_bd b2 + 2) x7.toNatClampNeg) - (I (am_bd b3 + 2) x8.toNatClampNeg)), .int x9]) rfl (Nat.le_of_ble_eq_true rfl) rfl).trans ?_
      refine (ev_iload rfl rfl).trans ?_
      refine (ev_iload rfl rfl).trans ?_
      refine (ev_icmp3 rfl).trans (am_ite (fun c5 => ?_) (fun c5 => ?_))
      · refine (ev_iload rfl rfl).trans ?_
        refine (ev_const0 (v := (1 : Int32)) rfl am_ci_1).trans ?_
        refine (ev_iadd rfl).trans ?_
        refine (ev_iload rfl rfl).trans ?_
        refine (ev_icmp3 rfl).trans (am_ite (fun c6 => ?_) (fun c6 => ?_))
        · refine (ev_const0 (v := (0 : Int32)) rfl am_ci_0).trans ?_
          refine (ev_istore (ls' := [.ref 83, .int x1, .ref (am_bd b2), .ref (am_bd b3), .int x4, .int x5, .int x6, .int (0 : Int32), .int x8, .int x9, .int x10, .int ((I (am_bd b2 + 2) x7.toNatClampNeg) - (I (am_bd b3 + 2) x8.toNatClampNeg)), .int x9]) rfl (Nat.le_of_ble_eq_true rfl) rfl).trans ?_
          refine (ev_iload rfl rfl).trans ?_
          refine (ev_const0 (v := (1 : Int32)) rfl am_ci_1).trans ?_
          refine (ev_iadd rfl).trans ?_
          refine (ev_iload rfl rfl).trans ?_
          refine (ev_icmp3 rfl).trans (am_ite (fun c7 => ?_) (fun c7 => ?_))
          · refine (ev_const0 (v := (0 : Int32)) rfl am_ci_0).trans ?_
            refine (ev_istore (ls' := [.ref 83, .int x1, .ref (am_bd b2), .ref (am_bd b3), .int x4, .int x5, .int x6, .int (0 : Int32), .int (0 : Int32), .int x9, .int x10, .int ((I (am_bd b2 + 2) x7.toNatClampNeg) - (I (am_bd b3 + 2) x8.toNatClampNeg)), .int x9]) rfl (Nat.le_of_ble_eq_true rfl) rfl).trans ?_
            refine (ev_iincv (v := (1 : Int32)) (ls' := [.ref 83, .int x1, .ref (am_bd b2), .ref (am_bd b3), .int x4, .int x5, .int x6, .int (0 : Int32), .int (0 : Int32), .int x9, .int (x10 + (1 : Int32)), .int ((I (am_bd b2 + 2) x7.toNatClampNeg) - (I (am_bd b3 + 2) x8.toNatClampNeg)), .int x9]) rfl am_ci_1 rfl rfl).trans ?_
            refine (ev_goto rfl).trans ?_
            rfl
          · refine (ev_iload rfl rfl).trans ?_
            refine (ev_const0 (v := (1 : Int32)) rfl am_ci_1).trans ?_
            refine (ev_iadd rfl).trans ?_
            refine (ev_goto rfl).trans ?_
            refine (ev_istore (ls' := [.ref 83, .int x1, .ref (am_bd b2), .ref (am_bd b3), .int x4, .int x5, .int x6, .int (0 : Int32), .int (x8 + (1 : Int32)), .int x9, .int x10, .int ((I (am_bd b2 + 2) x7.toNatClampNeg) - (I (am_bd b3 + 2) x8.toNatClampNeg)), .int x9]) rfl (Nat.le_of_ble_eq_true rfl) rfl).trans ?_
            refine (ev_iincv (v := (1 : Int32)) (ls' := [.ref 83, .int x1, .ref (am_bd b2), .ref (am_bd b3), .int x4, .int x5, .int x6, .int (0 : Int32), .int (x8 + (1 : Int32)), .int x9, .int (x10 + (1 : Int32)), .int ((I (am_bd b2 + 2) x7.toNatClampNeg) - (I (am_bd b3 + 2) x8.toNatClampNeg)), .int x9]) rfl am_ci_1 rfl rfl).trans ?_
            refine (ev_goto rfl).trans ?_
            rfl
        · refine (ev_iload rfl rfl).trans ?_
          refine (ev_const0 (v := (1 : Int32)) rfl am_ci_1).trans ?_
          refine (ev_iadd rfl).trans ?_
          refine (ev_goto rfl).trans ?_
          refine (ev_istore (ls' := [.ref 83, .int x1, .ref (am_bd b2), .ref (am_bd b3), .int x4, .int x5, .int x6, .int (x7 + (1 : Int32)), .int x8, .int x9, .int x10, .int ((I (am_bd b2 + 2) x7.toNatClampNeg) - (I (am_bd b3 + 2) x8.toNatClampNeg)), .int x9]) rfl (Nat.le_of_ble_eq_true rfl) rfl).trans ?_
          refine (ev_iload rfl rfl).trans ?_
          refine (ev_const0 (v := (1 : Int32)) rfl am_ci_1).trans ?_
          refine (ev_iadd rfl).trans ?_
          refine (ev_iload rfl rfl).trans ?_
          refine (ev_icmp3 rfl).trans (am_ite (fun c7 => ?_) (fun c7 => ?_))
          · refine (ev_const0 (v := (0 : Int32)) rfl am_ci_0).trans ?_
            refine (ev_istore (ls' := [.ref 83, .int x1, .ref (am_bd b2), .ref (am_bd b3), .int x4, .int x5, .int x6, .int (x7 + (1 : Int32)), .int (0 : Int32), .int x9, .int x10, .int ((I (am_bd b2 + 2) x7.toNatClampNeg) - (I (am_bd b3 + 2) x8.toNatClampNeg)), .int x9]) rfl (Nat.le_of_ble_eq_true rfl) rfl).trans ?_
            refine (ev_iincv (v := (1 : Int32)) (ls' := [.ref 83, .int x1, .ref (am_bd b2), .ref (am_bd b3), .int x4, .int x5, .int x6, .int (x7 + (1 : Int32)), .int (0 : Int32), .int x9, .int (x10 + (1 : Int32)), .int ((I (am_bd b2 + 2) x7.toNatClampNeg) - (I (am_bd b3 + 2) x8.toNatClampNeg)), .int x9]) rfl am_ci_1 rfl rfl).trans ?_
            refine (ev_goto rfl).trans ?_
            rfl
          · refine (ev_iload rfl rfl).trans ?_
            refine (ev_const0 (v := (1 : Int32)) rfl am_ci_1).trans ?_
            refine (ev_iadd rfl).trans ?_
            refine (ev_goto rfl).trans ?_
            refine (ev_istore (ls' := [.ref 83, .int x1, .ref (am_bd b2), .ref (am_bd b3), .int x4, .int x5, .int x6, .int (x7 + (1 : Int32)), .int (x8 + (1 : Int32)), .int x9, .int x10, .int ((I (am_bd b2 + 2) x7.toNatClampNeg) - (I (am_bd b3 + 2) x8.toNatClampNeg)), .int x9]) rfl (Nat.le_of_ble_eq_true rfl) rfl).trans ?_
            refine (ev_iincv (v := (1 : Int32)) (ls' := [.ref 83, .int x1, .ref (am_bd b2), .ref (am_bd b3), .int x4, .int x5, .int x6, .int (x7 + (1 : Int32)), .int (x8 + (1 : Int32)), .int x9, .int (x10 + (1 : Int32)), .int ((I (am_bd b2 + 2) x7.toNatClampNeg) - (I (am_bd b3 + 2) x8.toNatClampNeg)), .int x9]) rfl am_ci_1 rfl rfl).trans ?_
            refine (ev_goto rfl).trans ?_
            rfl
      · refine (ev_iload rfl rfl).trans ?_
        refine (ev_istore (ls' := [.ref 83, .int x1, .ref (am_bd b2), .ref (am_bd b3), .int x4, .int x5, .int x6, .int x7, .int x8, .int x9, .int x10, .int ((I (am_bd b2 + 2) x7.toNatClampNeg) - (I (am_bd b3 + 2) x8.toNatClampNeg)), .int x9]) rfl (Nat.le_of_ble_eq_true rfl) rfl).trans ?_
        refine (ev_aload rfl rfl).trans ?_
        refine (ev_getR rfl (by decide) am_K_83 (by decide) rfl am_R_83_2).trans ?_
        refine (ev_iload rfl rfl).trans ?_
        refine (ev_iload rfl rfl).trans ?_
        refine (ev_iast rfl (by decide) am_K_85).trans (am_itn (fun g6 => ?_))
        refine (ev_iload rfl rfl).trans ?_
        refine (ev_const0 (v := (1 : Int32)) rfl am_ci_1).trans ?_
        refine (ev_iadd rfl).trans ?_
        refine (ev_iload rfl rfl).trans ?_
        refine (ev_icmp3 rfl).trans (am_ite (fun c7 => ?_) (fun c7 => ?_))
        · refine (ev_const0 (v := (0 : Int32)) rfl am_ci_0).trans ?_
          refine (ev_istore (ls' := [.ref 83, .int x1, .ref (am_bd b2), .ref (am_bd b3), .int x4, .int x5, .int x6, .int (0 : Int32), .int x8, .int x9, .int x10, .int ((I (am_bd b2 + 2) x7.toNatClampNeg) - (I (am_bd b3 + 2) x8.toNatClampNeg)), .int x9]) rfl (Nat.le_of_ble_eq_true rfl) rfl).trans ?_
          refine (ev_iload rfl rfl).trans ?_
          refine (ev_const0 (v := (1 : Int32)) rfl am_ci_1).trans ?_
          refine (ev_iadd rfl).trans ?_
          refine (ev_iload rfl rfl).trans ?_
          refine (ev_icmp3 rfl).trans (am_ite (fun c8 => ?_) (fun c8 => ?_))
          · refine (ev_const0 (v := (0 : Int32)) rfl am_ci_0).trans ?_
            refine (ev_istore (ls' := [.ref 83, .int x1, .ref (am_bd b2), .ref (am_bd b3), .int x4, .int x5, .int x6, .int (0 : Int32), .int (0 : Int32), .int x9, .int x10, .int ((I (am_bd b2 + 2) x7.toNatClampNeg) - (I (am_bd b3 + 2) x8.toNatClampNeg)), .int x9]) rfl (Nat.le_of_ble_eq_true rfl) rfl).trans ?_
            refine (ev_iincv (v := (1 : Int32)) (ls' := [.ref 83, .int x1, .ref (am_bd b2), .ref (am_bd b3), .int x4, .int x5, .int x6, .int (0 : Int32), .int (0 : Int32), .int x9, .int (x10 + (1 : Int32)), .int ((I (am_bd b2 + 2) x7.toNatClampNeg) - (I (am_bd b3 + 2) x8.toNatClampNeg)), .int x9]) rfl am_ci_1 rfl rfl).trans ?_
            refine (ev_goto rfl).trans ?_
            rfl
          · refine (ev_iload rfl rfl).trans ?_
            refine (ev_const0 (v := (1 : Int32)) rfl am_ci_1).trans ?_
            refine (ev_iadd rfl).trans ?_
            refine (ev_goto rfl).trans ?_
            refine (ev_istore (ls' := [.ref 83, .int x1, .ref (am_bd b2), .ref (am_bd b3), .int x4, .int x5, .int x6, .int (0 : Int32), .int (x8 + (1 : Int32)), .int x9, .int x10, .int ((I (am_bd b2 + 2) x7.toNatClampNeg) - (I (am_bd b3 + 2) x8.toNatClampNeg)), .int x9]) rfl (Nat.le_of_ble_eq_true rfl) rfl).trans ?_
            refine (ev_iincv (v := (1 : Int32)) (ls' := [.ref 83, .int x1, .ref (am_bd b2), .ref (am_bd b3), .int x4, .int x5, .int x6, .int (0 : Int32), .int (x8 + (1 : Int32)), .int x9, .int (x10 + (1 : Int32)), .int ((I (am_bd b2 + 2) x7.toNatClampNeg) - (I (am_bd b3 + 2) x8.toNatClampNeg)), .int x9]) rfl am_ci_1 rfl rfl).trans ?_
            refine (ev_goto rfl).trans ?_
            rfl
        · refine (ev_iload rfl rfl).trans ?_
          refine (ev_const0 (v := (1 : Int32)) rfl am_ci_1).trans ?_
          refine (ev_iadd rfl).trans ?_
          refine (ev_goto rfl).trans ?_
          refine (ev_istore (ls' := [.ref 83, .int x1, .ref (am_bd b2), .ref (am_bd b3), .int x4, .int x5, .int x6, .int (x7 + (1 : Int32)), .int x8, .int x9, .int x10, .int ((I (am_bd b2 + 2) x7.toNatClampNeg) - (I (am_bd b3 + 2) x8.toNatClampNeg)), .int x9]) rfl (Nat.le_of_ble_eq_true rfl) rfl).trans ?_
          refine (ev_iload rfl rfl).trans ?_
          refine (ev_const0 (v := (1 : Int32)) rfl am_ci_1).trans ?_
          refine (ev_iadd rfl).trans ?_
          refine (ev_iload rfl rfl).trans ?_
          refine (ev_icmp3 rfl).trans (am_ite (fun c8 => ?_) (fun c8 => ?_))
          · refine (ev_const0 (v := (0 : Int32)) rfl am_ci_0).trans ?_
            refine (ev_istore (ls' := [.ref 83, .int x1, .ref (am_bd b2), .ref (am_bd b3), .int x4, .int x5, .int x6, .int (x7 + (1 : Int32)), .int (0 : Int32), .int x9, .int x10, .int ((I (am_bd b2 + 2) x7.toNatClampNeg) - (I (am_bd b3 + 2) x8.toNatClampNeg)), .int x9]) rfl (Nat.le_of_ble_eq_true rfl) rfl).trans ?_
            refine (ev_iincv (v := (1 : Int32)) (ls' := [.ref 83, .int x1, .ref (am_bd b2), .ref (am_bd b3), .int x4, .int x5, .int x6, .int (x7 + (1 : Int32)), .int (0 : Int32), .int x9, .int (x10 + (1 : Int32)), .int ((I (am_bd b2 + 2) x7.toNatClampNeg) - (I (am_bd b3 + 2) x8.toNatClampNeg)), .int x9]) rfl am_ci_1 rfl rfl).trans ?_
            refine (ev_goto rfl).trans ?_
            rfl
          · refine (ev_iload rfl rfl).trans ?_
            refine (ev_const0 (v := (1 : Int32)) rfl am_ci_1).trans ?_
            refine (ev_iadd rfl).trans ?_
            refine (ev_goto rfl).trans ?_
            refine (ev_istore (ls' := [.ref 83, .int x1, .ref (am_bd b2), .ref (am_bd b3), .int x4, .int x5, .int x6, .int (x7 + (1 : Int32)), .int (x8 + (1 : Int32)), .int x9, .int x10, .int ((I (am_bd b2 + 2) x7.toNatClampNeg) - (I (am_bd b3 + 2) x8.toNatClampNeg)), .int x9]) rfl (Nat.le_of_ble_eq_true rfl) rfl).trans ?_
            refine (ev_iincv (v := (1 : Int32)) (ls' := [.ref 83, .int x1, .ref (am_bd b2), .ref (am_bd b3), .int x4, .int x5, .int x6, .int (x7 + (1 : Int32)), .int (x8 + (1 : Int32)), .int x9, .int (x10 + (1 : Int32)), .int ((I (am_bd b2 + 2) x7.toNatClampNeg) - (I (am_bd b3 + 2) x8.toNatClampNeg)), .int x9]) rfl am_ci_1 rfl rfl).trans ?_
            refine (ev_goto rfl).trans ?_
            rfl
    · refine (ev_aload rfl rfl).trans ?_
      refine (ev_iload rfl rfl).trans ?_
      refine (ev_aload rfl rfl).trans ?_
      refine (ev_iload rfl rfl).trans ?_
      exact ev_invv (as := [.int x8, .ref (am_bd b3), .int x7]) rfl (by have := am_bd_lt hb2; omega) (am_Kbd hb2) rfl (by simp [Value.category])
set_option maxRecDepth 10000 in
theorem sg_55_45 (X : am_X) (I : Nat → Nat → Int32) (J : Nat → Nat → Int64) (x1 : Int32) (b2 : Nat) (b3 : Nat) (x4 : Int32) (x5 : Int32) (x6 : Int32) (x7 : Int32) (x8 : Int32) (x9 : Int32) (x10 : Int32) (x11 : Int32) (w12 : Value) (x13 : Int32) (hb2 : b2 < 11) (hb3 : b3 < 11) (hw12 : w12.category = 1) : am_ev X amP_55 45 [.ref 83, .int x1, .ref (am_bd b2), .ref (am_bd b3), .int x4, .int x5, .int x6, .int x7, .int x8, .int x9, .int x10, .int x11, w12] [.int x13] (am_sh I J) = (if x9 ≤ x13 then (if x5 ≤ (x7 + (1 : Int32)) then (if x6 ≤ (x8 + (1 : Int32)) then am_ev X amP_55 22 [.ref 83, .int x1, .ref (am_bd b2), .ref (am_bd b3), .int x4, .int x5, .int x6, .int (0 : Int32), .int (0 : Int32), .int x9, .int (x10 + (1 : Int32)), .int x11, .int x13] [] (am_sh I J) else am_ev X amP_55 22 [.ref 83, .int x1, .ref (am_bd b2), .ref (am_bd b3), .int x4, .int x5, .int x6, .int (0 : Int32), .int (x8 + (1 : Int32)), .int x9, .int (x10 + (1 : Int32)), .int x11, .int x13] [] (am_sh I J)) else (if x6 ≤ (x8 + (1 : Int32)) then am_ev X amP_55 22 [.ref 83, .int x1, .ref (am_bd b2), .ref (am_bd b3), .int x4, .int x5, .int x6, .int (x7 + (1 : Int32)), .int (0 : Int32), .int x9, .int (x10 + (1 : Int32)), .int x11, .int x13] [] (am_sh I J) else am_ev X amP_55 22 [.ref 83, .int x1, .ref (am_bd b2), .ref (am_bd b3), .int x4, .int x5, .int x6, .int (x7 + (1 : Int32)), .int (x8 + (1 : Int32)), .int x9, .int (x10 + (1 : Int32)), .int x11, .int x13] [] (am_sh I J))) else (if x1 < 0 ∨ 100 ≤ x1.toNatClampNeg then none else (if x5 ≤ (x7 + (1 : Int32)) then (if x6 ≤ (x8 + (1 : Int32)) then am_ev X amP_55 22 [.ref 83, .int x1, .ref (am_bd b2), .ref (am_bd b3), .int x4, .int x5, .int x6, .int (0 : Int32), .int (0 : Int32), .int x13, .int (x10 + (1 : Int32)), .int x11, .int x13] [] (am_sh (am_up I 85 x1.toNatClampNeg x10) J) else am_ev X amP_55 22 [.ref 83, .int x1, .ref (am_bd b2), .ref (am_bd b3), .int x4, .int x5, .int x6, .int (0 : Int32), .int (x8 + (1 : Int32)), .int x13, .int (x10 + (1 : Int32)), .int x11, .int x13] [] (am_sh (am_up I 85 x1.toNatClampNeg x10) J)) else (if x6 ≤ (x8 + (1 : Int32)) then am_ev X amP_55 22 [.ref 83, .int x1, .ref (am_bd b2), .ref (am_bd b3), .int x4, .int x5, .int x6, .int (x7 + (1 : Int32)), .int (0 : Int32), .int x13, .int (x10 + (1 : Int32)), .int x11, .int x13] [] (am_sh (am_up I 85 x1.toNatClampNeg x10) J) else am_ev X amP_55 22 [.ref 83, .int x1, .ref (am_bd b2), .ref (am_bd b3), .int x4, .int x5, .int x6, .int (x7 + (1 : Int32)), .int (x8 + (1 : Int32)), .int x13, .int (x10 + (1 : Int32)), .int x11, .int x13] [] (am_sh (am_up I 85 x1.toNatClampNeg x10) J))))) := by
  refine (ev_goto rfl).trans ?_
  refine (ev_istore (ls' := [.ref 83, .int x1, .ref (am_bd b2), .ref (am_bd b3), .int x4, .int x5, .int x6, .int x7, .int x8, .int x9, .int x10, .int x11, .int x13]) rfl (Nat.le_of_ble_eq_true rfl) rfl).trans ?_
  refine (ev_iload rfl rfl).trans ?_
  refine (ev_iload rfl rfl).trans ?_
  refine (ev_icmp3 rfl).trans (am_ite (fun c1 => ?_) (fun c1 => ?_))
  · refine (ev_iload rfl rfl).trans ?_
    refine (ev_const0 (v := (1 : Int32)) rfl am_ci_1).trans ?_
    refine (ev_iadd rfl).trans ?_
    refine (ev_iload rfl rfl).trans ?_
    refine (ev_icmp3 rfl).trans (am_ite (fun c2 => ?_) (fun c2 => ?_))
    · refine (ev_const0 (v := (0 : Int32)) rfl am_ci_0).trans ?_
      refine (ev_istore (ls' := [.ref 83, .int x1, .ref (am_bd b2), .ref (am_bd b3), .int x4, .int x5, .int x6, .int (0 : Int32), .int x8, .int x9, .int x10, .int x11, .int x13]) rfl (Nat.le_of_ble_eq_true rfl) rfl).trans ?_
      refine (ev_iload rfl rfl).trans ?_
      refine (ev_const0 (v := (1 : Int32)) rfl am_ci_1).trans ?_
      refine (ev_iadd rfl).trans ?_
      refine (ev_iload rfl rfl).trans ?_
      refine (ev_icmp3 rfl).trans (am_ite (fun c3 => ?_) (fun c3 => ?_))
      · refine (ev_const0 (v := (0 : Int32)) rfl am_ci_0).trans ?_
        refine (ev_istore (ls' := [.ref 83, .int x1, .ref (am_bd b2), .ref (am_bd b3), .int x4, .int x5, .int x6, .int (0 : Int32), .int (0 : Int32), .int x9, .int x10, .int x11, .int x13]) rfl (Nat.le_of_ble_eq_true rfl) rfl).trans ?_
        refine (ev_iincv (v := (1 : Int32)) (ls' := [.ref 83, .int x1, .ref (am_bd b2), .ref (am_bd b3), .int x4, .int x5, .int x6, .int (0 : Int32), .int (0 : Int32), .int x9, .int (x10 + (1 : Int32)), .int x11, .int x13]) rfl am_ci_1 rfl rfl).trans ?_
        refine (ev_goto rfl).trans ?_
        rfl
      · refine (ev_iload rfl rfl).trans ?_
        refine (ev_const0 (v := (1 : Int32)) rfl am_ci_1).trans ?_
        refine (ev_iadd rfl).trans ?_
        refine (ev_goto rfl).trans ?_
        refine (ev_istore (ls' := [.ref 83, .int x1, .ref (am_bd b2), .ref (am_bd b3), .int x4, .int x5, .int x6, .int (0 : Int32), .int (x8 + (1 : Int32)), .int x9, .int x10, .int x11, .int x13]) rfl (Nat.le_of_ble_eq_true rfl) rfl).trans ?_
        refine (ev_iincv (v := (1 : Int32)) (ls' := [.ref 83, .int x1, .ref (am_bd b2), .ref (am_bd b3), .int x4, .int x5, .int x6, .int (0 : Int32), .int (x8 + (1 : Int32)), .int x9, .int (x10 + (1 : Int32)), .int x11, .int x13]) rfl am_ci_1 rfl rfl).trans ?_
        refine (ev_goto rfl).trans ?_
        rfl
    · refine (ev_iload rfl rfl).trans ?_
      refine (ev_const0 (v := (1 : Int32)) rfl am_ci_1).trans ?_
      refine (ev_iadd rfl).trans ?_
      refine (ev_goto rfl).trans ?_
      refine (ev_istore (ls' := [.ref 83, .int x1, .ref (am_bd b2), .ref (am_bd b3), .int x4, .int x5, .int x6, .int (x7 + (1 : Int32)), .int x8, .int x9, .int x10, .int x11, .int x13]) rfl (Nat.le_of_ble_eq_true rfl) rfl).trans ?_
      refine (ev_iload rfl rfl).trans ?_
      refine (ev_const0 (v := (1 : Int32)) rfl am_ci_1).trans ?_
      refine (ev_iadd rfl).trans ?_
      refine (ev_iload rfl rfl).trans ?_
      refine (ev_icmp3 rfl).trans (am_ite (fun c3 => ?_) (fun c3 => ?_))
      · refine (ev_const0 (v := (0 : Int32)) rfl am_ci_0).trans ?_
        refine (ev_istore (ls' := [.ref 83, .int x1, .ref (am_bd b2), .ref (am_bd b3), .int x4, .int x5, .int x6, .int (x7 + (1 : Int32)), .int (0 : Int32), .int x9, .int x10, .int x11, .int x13]) rfl (Nat.le_of_ble_eq_true rfl) rfl).trans ?_
        refine (ev_iincv (v := (1 : Int32)) (ls' := [.ref 83, .int x1, .ref (am_bd b2), .ref (am_bd b3), .int x4, .int x5, .int x6, .int (x7 + (1 : Int32)), .int (0 : Int32), .int x9, .int (x10 + (1 : Int32)), .int x11, .int x13]) rfl am_ci_1 rfl rfl).trans ?_
        refine (ev_goto rfl).trans ?_
        rfl
      · refine (ev_iload rfl rfl).trans ?_
        refine (ev_const0 (v := (1 : Int32)) rfl am_ci_1).trans ?_
        refine (ev_iadd rfl).trans ?_
        refine (ev_goto rfl).trans ?_
        refine (ev_istore (ls' := [.ref 83, .int x1, .ref (am_bd b2), .ref (am_bd b3), .int x4, .int x5, .int x6, .int (x7 + (1 : Int32)), .int (x8 + (1 : Int32)), .int x9, .int x10, .int x11, .int x13]) rfl (Nat.le_of_ble_eq_true rfl) rfl).trans ?_
        refine (ev_iincv (v := (1 : Int32)) (ls' := [.ref 83, .int x1, .ref (am_bd b2), .ref (am_bd b3), .int x4, .int x5, .int x6, .int (x7 + (1 : Int32)), .int (x8 + (1 : Int32)), .int x9, .int (x10 + (1 : Int32)), .int x11, .int x13]) rfl am_ci_1 rfl rfl).trans ?_
        refine (ev_goto rfl).trans ?_
        rfl
  · refine (ev_iload rfl rfl).trans ?_
    refine (ev_istore (ls' := [.ref 83, .int x1, .ref (am_bd b2), .ref (am_bd b3), .int x4, .int x5, .int x6, .int x7, .int x8, .int x13, .int x10, .int x11, .int x13]) rfl (Nat.le_of_ble_eq_true rfl) rfl).trans ?_
    refine (ev_aload rfl rfl).trans ?_
    refine (ev_getR rfl (by decide) am_K_83 (by decide) rfl am_R_83_2).trans ?_
    refine (ev_iload rfl rfl).trans ?_
    refine (ev_iload rfl rfl).trans ?_
    refine (ev_iast rfl (by decide) am_K_85).trans (am_itn (fun g2 => ?_))
    refine (ev_iload rfl rfl).trans ?_
    refine (ev_const0 (v := (1 : Int32)) rfl am_ci_1).trans ?_
    refine (ev_iadd rfl).trans ?_
    refine (ev_iload rfl rfl).trans ?_
    refine (ev_icmp3 rfl).trans (am_ite (fun c3 => ?_) (fun c3 => ?_))
    · refine (ev_const0 (v := (0 : Int32)) rfl am_ci_0).trans ?_
      refine (ev_istore (ls' := [.ref 83, .int x1, .ref (am_bd b2), .ref (am_bd b3), .int x4, .int x5, .int x6, .int (0 : Int32), .int x8, .int x13, .int x10, .int x11, .int x13]) rfl (Nat.le_of_ble_eq_true rfl) rfl).trans ?_
      refine (ev_iload rfl rfl).trans ?_
      refine (ev_const0 (v := (1 : Int32)) rfl am_ci_1).trans ?_
      refine (ev_iadd rfl).trans ?_
      refine (ev_iload rfl rfl).trans ?_
      refine (ev_icmp3 rfl).trans (am_ite (fun c4 => ?_) (fun c4 => ?_))
      · refine (ev_const0 (v := (0 : Int32)) rfl am_ci_0).trans ?_
        refine (ev_istore (ls' := [.ref 83, .int x1, .ref (am_bd b2), .ref (am_bd b3), .int x4, .int x5, .int x6, .int (0 : Int32), .int (0 : Int32), .int x13, .int x10, .int x11, .int x13]) rfl (Nat.le_of_ble_eq_true rfl) rfl).trans ?_
        refine (ev_iincv (v := (1 : Int32)) (ls' := [.ref 83, .int x1, .ref (am_bd b2), .ref (am_bd b3), .int x4, .int x5, .int x6, .int (0 : Int32), .int (0 : Int32), .int x13, .int (x10 + (1 : Int32)), .int x11, .int x13]) rfl am_ci_1 rfl rfl).trans ?_
        refine (ev_goto rfl).trans ?_
        rfl
      · refine (ev_iload rfl rfl).trans ?_
        refine (ev_const0 (v := (1 : Int32)) rfl am_ci_1).trans ?_
        refine (ev_iadd rfl).trans ?_
        refine (ev_goto rfl).trans ?_
        refine (ev_istore (ls' := [.ref 83, .int x1, .ref (am_bd b2), .ref (am_bd b3), .int x4, .int x5, .int x6, .int (0 : Int32), .int (x8 + (1 : Int32)), .int x13, .int x10, .int x11, .int x13]) rfl (Nat.le_of_ble_eq_true rfl) rfl).trans ?_
        refine (ev_iincv (v := (1 : Int32)) (ls' := [.ref 83, .int x1, .ref (am_bd b2), .ref (am_bd b3), .int x4, .int x5, .int x6, .int (0 : Int32), .int (x8 + (1 : Int32)), .int x13, .int (x10 + (1 : Int32)), .int x11, .int x13]) rfl am_ci_1 rfl rfl).trans ?_
        refine (ev_goto rfl).trans ?_
        rfl
    · refine (ev_iload rfl rfl).trans ?_
      refine (ev_const0 (v := (1 : Int32)) rfl am_ci_1).trans ?_
      refine (ev_iadd rfl).trans ?_
      refine (ev_goto rfl).trans ?_
      refine (ev_istore (ls' := [.ref 83, .int x1, .ref (am_bd b2), .ref (am_bd b3), .int x4, .int x5, .int x6, .int (x7 + (1 : Int32)), .int x8, .int x13, .int x10, .int x11, .int x13]) rfl (Nat.le_of_ble_eq_true rfl) rfl).trans ?_
      refine (ev_iload rfl rfl).trans ?_
      refine (ev_const0 (v := (1 : Int32)) rfl am_ci_1).trans ?_
      refine (ev_iadd rfl).trans ?_
      refine (ev_iload rfl rfl).trans ?_
      refine (ev_icmp3 rfl).trans (am_ite (fun c4 => ?_) (fun c4 => ?_))
      · refine (ev_const0 (v := (0 : Int32)) rfl am_ci_0).trans ?_
        refine (ev_istore (ls' := [.ref 83, .int x1, .ref (am_bd b2), .ref (am_bd b3), .int x4, .int x5, .int x6, .int (x7 + (1 : Int32)), .int (0 : Int32), .int x13, .int x10, .int x11, .int x13]) rfl (Nat.le_of_ble_eq_true rfl) rfl).trans ?_
        refine (ev_iincv (v := (1 : Int32)) (ls' := [.ref 83, .int x1, .ref (am_bd b2), .ref (am_bd b3), .int x4, .int x5, .int x6, .int (x7 + (1 : Int32)), .int (0 : Int32), .int x13, .int (x10 + (1 : Int32)), .int x11, .int x13]) rfl am_ci_1 rfl rfl).trans ?_
        refine (ev_goto rfl).trans ?_
        rfl
      · refine (ev_iload rfl rfl).trans ?_
        refine (ev_const0 (v := (1 : Int32)) rfl am_ci_1).trans ?_
        refine (ev_iadd rfl).trans ?_
        refine (ev_goto rfl).trans ?_
        refine (ev_istore (ls' := [.ref 83, .int x1, .ref (am_bd b2), .ref (am_bd b3), .int x4, .int x5, .int x6, .int (x7 + (1 : Int32)), .int (x8 + (1 : Int32)), .int x13, .int x10, .int x11, .int x13]) rfl (Nat.le_of_ble_eq_true rfl) rfl).trans ?_
        refine (ev_iincv (v := (1 : Int32)) (ls' := [.ref 83, .int x1, .ref (am_bd b2), .ref (am_bd b3), .int x4, .int x5, .int x6, .int (x7 + (1 : Int32)), .int (x8 + (1 : Int32)), .int x13, .int (x10 + (1 : Int32)), .int x11, .int x13]) rfl am_ci_1 rfl rfl).trans ?_
        refine (ev_goto rfl).trans ?_
        rfl
-- 56 X3_areNear
set_option maxRecDepth 10000 in
theorem sg_56_e0 (X : am_X) (I : Nat → Nat → Int32) (J : Nat → Nat → Int64) (x1 : Int32) (x2 : Int32) : am_ev X amP_56 0 [.ref 83, .int x1, .int x2] [] (am_sh I J) = (am_do X 101 [.ref 16, .int x1] (am_sh I J)).bind (fun q => am_ev X amP_56 4 [.ref 83, .int x1, .int x2] (q.1.toList ++ []) q.2) := by
  refine (ev_aload rfl rfl).trans ?_
  refine (ev_getR rfl (by decide) am_K_83 (by decide) rfl am_R_83_0).trans ?_
  refine (ev_iload rfl rfl).trans ?_
  exact ev_invv (as := [.int x1]) rfl (by decide) am_K_16 rfl (by simp [Value.category])
theorem cl_56 (X : am_X) (I : Nat → Nat → Int32) (J : Nat → Nat → Int64) (x1 : Int32) (x2 : Int32) : am_do X 56 [.ref 83, .int x1, .int x2] (am_sh I J) = am_ev X amP_56 0 [.ref 83, .int x1, .int x2] [] (am_sh I J) := am_do_of rfl rfl rfl
set_option maxRecDepth 10000 in
theorem sg_56_4 (X : am_X) (I : Nat → Nat → Int32) (J : Nat → Nat → Int64) (x1 : Int32) (x2 : Int32) (x3 : Int32) : am_ev X amP_56 4 [.ref 83, .int x1, .int x2] [.int x3] (am_sh I J) = (if x3 = 0 then some (some (.int (0 : Int32)), am_sh I J) else (am_do X 101 [.ref 16, .int x2] (am_sh I J)).bind (fun q => am_ev X amP_56 9 [.ref 83, .int x1, .int x2] (q.1.toList ++ []) q.2)) := by
  refine (ev_if0 rfl).trans (am_ite (fun c1 => ?_) (fun c1 => ?_))
  · refine (ev_const0 (v := (0 : Int32)) rfl am_ci_0).trans ?_
    exact ev_zret rfl (by decide)
  · refine (ev_aload rfl rfl).trans ?_
    refine (ev_getR rfl (by decide) am_K_83 (by decide) rfl am_R_83_0).trans ?_
    refine (ev_iload rfl rfl).trans ?_
    exact ev_invv (as := [.int x2]) rfl (by decide) am_K_16 rfl (by simp [Value.category])
set_option maxRecDepth 10000 in
theorem sg_56_9 (X : am_X) (I : Nat → Nat → Int32) (J : Nat → Nat → Int64) (x1 : Int32) (x2 : Int32) (x3 : Int32) : am_ev X amP_56 9 [.ref 83, .int x1, .int x2] [.int x3] (am_sh I J) = (if x3 = 0 then some (some (.int (0 : Int32)), am_sh I J) else (am_do X 57 [.ref 83, .int x1, .int x2] (am_sh I J)).bind (fun q => am_ev X amP_56 14 [.ref 83, .int x1, .int x2] (q.1.toList ++ []) q.2)) := by
  refine (ev_if0 rfl).trans (am_ite (fun c1 => ?_) (fun c1 => ?_))
  · refine (ev_const0 (v := (0 : Int32)) rfl am_ci_0).trans ?_
    exact ev_zret rfl (by decide)
  · refine (ev_aload rfl rfl).trans ?_
    refine (ev_iload rfl rfl).trans ?_
    refine (ev_iload rfl rfl).trans ?_
    exact ev_invv (as := [.int x2, .int x1]) rfl (by decide) am_K_83 rfl (by simp [Value.category])
set_option maxRecDepth 10000 in
theorem sg_56_14 (X : am_X) (I : Nat → Nat → Int32) (J : Nat → Nat → Int64) (x1 : Int32) (x2 : Int32) (x3 : Int32) : am_ev X amP_56 14 [.ref 83, .int x1, .int x2] [.int x3] (am_sh I J) = (if x3 = 0 then some (some (.int (0 : Int32)), am_sh I J) else some (some (.int (1 : Int32)), am_sh I J)) := by
  refine (ev_if0 rfl).trans (am_ite (fun c1 => ?_) (fun c1 => ?_))
  · refine (ev_const0 (v := (0 : Int32)) rfl am_ci_0).trans ?_
    exact ev_zret rfl (by decide)
  · refine (ev_const0 (v := (1 : Int32)) rfl am_ci_1).trans ?_
    refine (ev_goto rfl).trans ?_
    exact ev_zret rfl (by decide)
-- 57 X3_comeNear
set_option maxRecDepth 10000 in
theorem sg_57_e0 (X : am_X) (I : Nat → Nat → Int32) (J : Nat → Nat → Int64) (x1 : Int32) (x2 : Int32) : am_ev X amP_57 0 [.ref 83, .int x1, .int x2] [] (am_sh I J) = (if x1 < 0 ∨ 10 ≤ x1.toNatClampNeg then none else (if x2 < 0 ∨ 10 ≤ x2.toNatClampNeg then none else (am_do X 38 [.ref (am_bd (x1.toNatClampNeg)), .ref (am_bd (x2.toNatClampNeg)), .int (I 16 3)] (am_sh I J)).bind (fun q => am_ev X amP_57 14 [.ref 83, .int x1, .int x2] (q.1.toList ++ []) q.2))) := by
  refine (ev_aload rfl rfl).trans ?_
  refine (ev_getR rfl (by decide) am_K_83 (by decide) rfl am_R_83_0).trans ?_
  refine (ev_getR rfl (by decide) am_K_16 (by decide) rfl am_R_16_0).trans ?_
  refine (ev_iload rfl rfl).trans ?_
  refine (ev_aald rfl (by decide) (Or.inl am_K_17) (f := am_bd) (fun k hk => am_R17 hk)).trans (am_itn (fun g1 => ?_))
  refine (ev_aload rfl rfl).trans ?_
  refine (ev_getR rfl (by decide) am_K_83 (by decide) rfl am_R_83_0).trans ?_
  refine (ev_getR rfl (by decide) am_K_16 (by decide) rfl am_R_16_0).trans ?_
  refine (ev_iload rfl rfl).trans ?_
  refine (ev_aald rfl (by decide) (Or.inl am_K_17) (f := am_bd) (fun k hk => am_R17 hk)).trans (am_itn (fun g2 => ?_))
  refine (ev_aload rfl rfl).trans ?_
  refine (ev_getR rfl (by decide) am_K_83 (by decide) rfl am_R_83_0).trans ?_
  refine (ev_getI rfl (by decide) am_K_16 (by decide) rfl).trans ?_
  exact ev_invv (as := [.int (I 16 3), .ref (am_bd (x2.toNatClampNeg))]) rfl (by have := am_bd_lt (by omega : (x1.toNatClampNeg) < 11); omega) (am_Kbd (by omega : (x1.toNatClampNeg) < 11)) rfl (by simp [Value.category])
theorem cl_57 (X : am_X) (I : Nat → Nat → Int32) (J : Nat → Nat → Int64) (x1 : Int32) (x2 : Int32) : am_do X 57 [.ref 83, .int x1, .int x2] (am_sh I J) = am_ev X amP_57 0 [.ref 83, .int x1, .int x2] [] (am_sh I J) := am_do_of rfl rfl rfl
set_option maxRecDepth 10000 in
theorem sg_57_14 (X : am_X) (I : Nat → Nat → Int32) (J : Nat → Nat → Int64) (x1 : Int32) (x2 : Int32) (x3 : Int32) : am_ev X amP_57 14 [.ref 83, .int x1, .int x2] [.int x3] (am_sh I J) = (if ¬ x3 = 0 then some (some (.int (0 : Int32)), am_sh I J) else (am_do X 52 [.ref 83, .int x1, .int x2] (am_sh I J)).bind (fun q => am_ev X amP_57 19 [.ref 83, .int x1, .int x2] (q.1.toList ++ []) q.2)) := by
  refine (ev_if1 rfl).trans (am_ite (fun c1 => ?_) (fun c1 => ?_))
  · refine (ev_const0 (v := (0 : Int32)) rfl am_ci_0).trans ?_
    exact ev_zret rfl (by decide)
  · refine (ev_aload rfl rfl).trans ?_
    refine (ev_iload rfl rfl).trans ?_
    refine (ev_iload rfl rfl).trans ?_
    exact ev_invv (as := [.int x2, .int x1]) rfl (by decide) am_K_83 rfl (by simp [Value.category])
set_option maxRecDepth 10000 in
theorem sg_57_19 (X : am_X) (I : Nat → Nat → Int32) (J : Nat → Nat → Int64) (x1 : Int32) (x2 : Int32) (x3 : Int32) : am_ev X amP_57 19 [.ref 83, .int x1, .int x2] [.int x3] (am_sh I J) = (if ((I 16 3) * (I 16 3)) < x3 then some (some (.int (0 : Int32)), am_sh I J) else some (some (.int (1 : Int32)), am_sh I J)) := by
  refine (ev_aload rfl rfl).trans ?_
  refine (ev_getR rfl (by decide) am_K_83 (by decide) rfl am_R_83_0).trans ?_
  refine (ev_getI rfl (by decide) am_K_16 (by decide) rfl).trans ?_
  refine (ev_aload rfl rfl).trans ?_
  refine (ev_getR rfl (by decide) am_K_83 (by decide) rfl am_R_83_0).trans ?_
  refine (ev_getI rfl (by decide) am_K_16 (by decide) rfl).trans ?_
  refine (ev_imul rfl).trans ?_
  refine (ev_icmp4 rfl).trans (am_ite (fun c1 => ?_) (fun c1 => ?_))
  · refine (ev_const0 (v := (0 : Int32)) rfl am_ci_0).trans ?_
    exact ev_zret rfl (by decide)
  · refine (ev_const0 (v := (1 : Int32)) rfl am_ci_1).trans ?_
    refine (ev_goto rfl).trans ?_
    exact ev_zret rfl (by decide)
-- 58 X3_nearBits
set_option maxRecDepth 10000 in
theorem sg_58_e0 (X : am_X) (I : Nat → Nat → Int32) (J : Nat → Nat → Int64) (x1 : Int32) : am_ev X amP_58 0 [.ref 83, .int x1, .null, .null] [] (am_sh I J) = am_ev X amP_58 4 [.ref 83, .int x1, .int (0 : Int32), .int (0 : Int32)] [] (am_sh I J) := by
  refine (ev_const0 (v := (0 : Int32)) rfl am_ci_0).trans ?_
  refine (ev_istore (ls' := [.ref 83, .int x1, .int (0 : Int32), .null]) rfl (Nat.le_of_ble_eq_true rfl) rfl).trans ?_
  refine (ev_const0 (v := (0 : Int32)) rfl am_ci_0).trans ?_
  refine (ev_istore (ls' := [.ref 83, .int x1, .int (0 : Int32), .int (0 : Int32)]) rfl (Nat.le_of_ble_eq_true rfl) rfl).trans ?_
  rfl
theorem cl_58 (X : am_X) (I : Nat → Nat → Int32) (J : Nat → Nat → Int64) (x1 : Int32) : am_do X 58 [.ref 83, .int x1] (am_sh I J) = am_ev X amP_58 0 [.ref 83, .int x1, .null, .null] [] (am_sh I J) := am_do_of rfl rfl rfl
set_option maxRecDepth 10000 in
theorem sg_58_4 (X : am_X) (I : Nat → Nat → Int32) (J : Nat → Nat → Int64) (x1 : Int32) (x2 : Int32) (x3 : Int32) : am_ev X amP_58 4 [.ref 83, .int x1, .int x2, .int x3] [] (am_sh I J) = (if (I 16 2) ≤ x3 then some (some (.int x2), am_sh I J) else (if x3 = x1 then am_ev X amP_58 4 [.ref 83, .int x1, .int x2, .int (x3 + (1 : Int32))] [] (am_sh I J) else (am_do X 101 [.ref 16, .int x3] (am_sh I J)).bind (fun q => am_ev X amP_58 16 [.ref 83, .int x1, .int x2, .int x3] (q.1.toList ++ []) q.2))) := by
  refine (ev_iload rfl rfl).trans ?_
  refine (ev_aload rfl rfl).trans ?_
  refine (ev_getR rfl (by decide) am_K_83 (by decide) rfl am_R_83_0).trans ?_
  refine (ev_getI rfl (by decide) am_K_16 (by decide) rfl).trans ?_
  refine (ev_icmp3 rfl).trans (am_ite (fun c1 => ?_) (fun c1 => ?_))
  · refine (ev_iload rfl rfl).trans ?_
    exact ev_iret rfl
  · refine (ev_iload rfl rfl).trans ?_
    refine (ev_iload rfl rfl).trans ?_
    refine (ev_icmp0 rfl).trans (am_ite (fun c2 => ?_) (fun c2 => ?_))
    · refine (ev_iincv (v := (1 : Int32)) (ls' := [.ref 83, .int x1, .int x2, .int (x3 + (1 : Int32))]) rfl am_ci_1 rfl rfl).trans ?_
      refine (ev_goto rfl).trans ?_
      rfl
    · refine (ev_aload rfl rfl).trans ?_
      refine (ev_getR rfl (by decide) am_K_83 (by decide) rfl am_R_83_0).trans ?_
      refine (ev_iload rfl rfl).trans ?_
      exact ev_invv (as := [.int x3]) rfl (by decide) am_K_16 rfl (by simp [Value.category])
set_option maxRecDepth 10000 in
theorem sg_58_16 (X : am_X) (I : Nat → Nat → Int32) (J : Nat → Nat → Int64) (x1 : Int32) (x2 : Int32) (x3 : Int32) (x4 : Int32) : am_ev X amP_58 16 [.ref 83, .int x1, .int x2, .int x3] [.int x4] (am_sh I J) = (if x4 = 0 then am_ev X amP_58 4 [.ref 83, .int x1, .int x2, .int (x3 + (1 : Int32))] [] (am_sh I J) else (am_do X 57 [.ref 83, .int x1, .int x3] (am_sh I J)).bind (fun q => am_ev X amP_58 21 [.ref 83, .int x1, .int x2, .int x3] (q.1.toList ++ []) q.2)) := by
  refine (ev_if0 rfl).trans (am_ite (fun c1 => ?_) (fun c1 => ?_))
  · refine (ev_iincv (v := (1 : Int32)) (ls' := [.ref 83, .int x1, .int x2, .int (x3 + (1 : Int32))]) rfl am_ci_1 rfl rfl).trans ?_
    refine (ev_goto rfl).trans ?_
    rfl
  · refine (ev_aload rfl rfl).trans ?_
    refine (ev_iload rfl rfl).trans ?_
    refine (ev_iload rfl rfl).trans ?_
    exact ev_invv (as := [.int x3, .int x1]) rfl (by decide) am_K_83 rfl (by simp [Value.category])
set_option maxRecDepth 10000 in
theorem sg_58_21 (X : am_X) (I : Nat → Nat → Int32) (J : Nat → Nat → Int64) (x1 : Int32) (x2 : Int32) (x3 : Int32) (x4 : Int32) : am_ev X amP_58 21 [.ref 83, .int x1, .int x2, .int x3] [.int x4] (am_sh I J) = (if x4 = 0 then am_ev X amP_58 4 [.ref 83, .int x1, .int x2, .int (x3 + (1 : Int32))] [] (am_sh I J) else am_ev X amP_58 4 [.ref 83, .int x1, .int (x2 ||| ((1 : Int32) <<< (x3 &&& 31))), .int (x3 + (1 : Int32))] [] (am_sh I J)) := by
  refine (ev_if0 rfl).trans (am_ite (fun c1 => ?_) (fun c1 => ?_))
  · refine (ev_iincv (v := (1 : Int32)) (ls' := [.ref 83, .int x1, .int x2, .int (x3 + (1 : Int32))]) rfl am_ci_1 rfl rfl).trans ?_
    refine (ev_goto rfl).trans ?_
    rfl
  · refine (ev_iload rfl rfl).trans ?_
    refine (ev_const0 (v := (1 : Int32)) rfl am_ci_1).trans ?_
    refine (ev_iload rfl rfl).trans ?_
    refine (ev_ishl rfl).trans ?_
    refine (ev_ior rfl).trans ?_
    refine (ev_istore (ls' := [.ref 83, .int x1, .int (x2 ||| ((1 : Int32) <<< (x3 &&& 31))), .int x3]) rfl (Nat.le_of_ble_eq_true rfl) rfl).trans ?_
    refine (ev_iincv (v := (1 : Int32)) (ls' := [.ref 83, .int x1, .int (x2 ||| ((1 : Int32) <<< (x3 &&& 31))), .int (x3 + (1 : Int32))]) rfl am_ci_1 rfl rfl).trans ?_
    refine (ev_goto rfl).trans ?_
    rfl
-- 59 X3_countNear
set_option maxRecDepth 10000 in
theorem sg_59_e0 (X : am_X) (I : Nat → Nat → Int32) (J : Nat → Nat → Int64) : am_ev X amP_59 0 [.ref 83, .null, .null] [] (am_sh I J) = am_ev X amP_59 4 [.ref 83, .int (0 : Int32), .int (0 : Int32)] [] (am_sh I J) := by
  refine (ev_const0 (v := (0 : Int32)) rfl am_ci_0).trans ?_
  refine (ev_istore (ls' := [.ref 83, .int (0 : Int32), .null]) rfl (Nat.le_of_ble_eq_true rfl) rfl).trans ?_
  refine (ev_const0 (v := (0 : Int32)) rfl am_ci_0).trans ?_
  refine (ev_istore (ls' := [.ref 83, .int (0 : Int32), .int (0 : Int32)]) rfl (Nat.le_of_ble_eq_true rfl) rfl).trans ?_
  rfl
theorem cl_59 (X : am_X) (I : Nat → Nat → Int32) (J : Nat → Nat → Int64) : am_do X 59 [.ref 83] (am_sh I J) = am_ev X amP_59 0 [.ref 83, .null, .null] [] (am_sh I J) := am_do_of rfl rfl rfl
set_option maxRecDepth 10000 in
theorem sg_59_4 (X : am_X) (I : Nat → Nat → Int32) (J : Nat → Nat → Int64) (x1 : Int32) (x2 : Int32) : am_ev X amP_59 4 [.ref 83, .int x1, .int x2] [] (am_sh I J) = (if (I 16 2) ≤ x2 then some (some (.int (x1 / (2 : Int32))), am_sh I J) else (am_do X 101 [.ref 16, .int x2] (am_sh I J)).bind (fun q => am_ev X amP_59 14 [.ref 83, .int x1, .int x2] (q.1.toList ++ [.int x1]) q.2)) := by
  refine (ev_iload rfl rfl).trans ?_
  refine (ev_aload rfl rfl).trans ?_
  refine (ev_getR rfl (by decide) am_K_83 (by decide) rfl am_R_83_0).trans ?_
  refine (ev_getI rfl (by decide) am_K_16 (by decide) rfl).trans ?_
  refine (ev_icmp3 rfl).trans (am_ite (fun c1 => ?_) (fun c1 => ?_))
  · refine (ev_iload rfl rfl).trans ?_
    refine (ev_const0 (v := (2 : Int32)) rfl am_ci_2).trans ?_
    refine (ev_idivN (by decide) rfl).trans ?_
    exact ev_iret rfl
  · refine (ev_iload rfl rfl).trans ?_
    refine (ev_aload rfl rfl).trans ?_
    refine (ev_getR rfl (by decide) am_K_83 (by decide) rfl am_R_83_0).trans ?_
    refine (ev_iload rfl rfl).trans ?_
    exact ev_invv (as := [.int x2]) rfl (by decide) am_K_16 rfl (by simp [Value.category])
set_option maxRecDepth 10000 in
theorem sg_59_14 (X : am_X) (I : Nat → Nat → Int32) (J : Nat → Nat → Int64) (x1 : Int32) (x2 : Int32) (x3 : Int32) (x4 : Int32) : am_ev X amP_59 14 [.ref 83, .int x1, .int x2] [.int x4, .int x3] (am_sh I J) = (if x4 = 0 then am_ev X amP_59 4 [.ref 83, .int (x3 + (0 : Int32)), .int (x2 + (1 : Int32))] [] (am_sh I J) else (am_do X 58 [.ref 83, .int x2] (am_sh I J)).bind (fun q => am_ev X amP_59 18 [.ref 83, .int x1, .int x2] (q.1.toList ++ [.int x3]) q.2)) := by
  refine (ev_if0 rfl).trans (am_ite (fun c1 => ?_) (fun c1 => ?_))
  · refine (ev_const0 (v := (0 : Int32)) rfl am_ci_0).trans ?_
    refine (ev_iadd rfl).trans ?_
    refine (ev_istore (ls' := [.ref 83, .int (x3 + (0 : Int32)), .int x2]) rfl (Nat.le_of_ble_eq_true rfl) rfl).trans ?_
    refine (ev_iincv (v := (1 : Int32)) (ls' := [.ref 83, .int (x3 + (0 : Int32)), .int (x2 + (1 : Int32))]) rfl am_ci_1 rfl rfl).trans ?_
    refine (ev_goto rfl).trans ?_
    rfl
  · refine (ev_aload rfl rfl).trans ?_
    refine (ev_iload rfl rfl).trans ?_
    exact ev_invv (as := [.int x2]) rfl (by decide) am_K_83 rfl (by simp [Value.category])
set_option maxRecDepth 10000 in
theorem sg_59_18 (X : am_X) (I : Nat → Nat → Int32) (J : Nat → Nat → Int64) (x1 : Int32) (x2 : Int32) (x3 : Int32) (x4 : Int32) : am_ev X amP_59 18 [.ref 83, .int x1, .int x2] [.int x4, .int x3] (am_sh I J) = (am_do X 348 [.int x4] (am_sh I J)).bind (fun q => am_ev X amP_59 19 [.ref 83, .int x1, .int x2] (q.1.toList ++ [.int x3]) q.2) := by
  exact ev_invs (as := [.int x4]) rfl rfl (by simp [Value.category])
set_option maxRecDepth 10000 in
theorem sg_59_19 (X : am_X) (I : Nat → Nat → Int32) (J : Nat → Nat → Int64) (x1 : Int32) (x2 : Int32) (x3 : Int32) (x4 : Int32) : am_ev X amP_59 19 [.ref 83, .int x1, .int x2] [.int x4, .int x3] (am_sh I J) = am_ev X amP_59 4 [.ref 83, .int (x3 + x4), .int (x2 + (1 : Int32))] [] (am_sh I J) := by
  refine (ev_goto rfl).trans ?_
  refine (ev_iadd rfl).trans ?_
  refine (ev_istore (ls' := [.ref 83, .int (x3 + x4), .int x2]) rfl (Nat.le_of_ble_eq_true rfl) rfl).trans ?_
  refine (ev_iincv (v := (1 : Int32)) (ls' := [.ref 83, .int (x3 + x4), .int (x2 + (1 : Int32))]) rfl am_ci_1 rfl rfl).trans ?_
  refine (ev_goto rfl).trans ?_
  rfl
