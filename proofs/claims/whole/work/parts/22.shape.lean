/-! the shape of the world behind the constructors: it stays; ints and longs change -/
theorem am_ex (S : am_S) : ∃ K : (Nat → Nat × Nat) × (Nat → Nat → Option Nat), K.1 = S.2.1 ∧ K.2 = S.2.2.2.2 := ⟨(S.2.1, S.2.2.2.2), rfl, rfl⟩
theorem am_K_ex : ∃ K : (Nat → Nat × Nat) × (Nat → Nat → Option Nat), K.1 = am_S1.2.1 ∧ K.2 = am_S1.2.2.2.2 := am_ex am_S1
noncomputable def am_KR : (Nat → Nat × Nat) × (Nat → Nat → Option Nat) := Classical.choose am_K_ex
noncomputable def am_K : Nat → Nat × Nat := am_KR.1
noncomputable def am_Rf : Nat → Nat → Option Nat := am_KR.2
theorem am_K_is : am_K = am_S1.2.1 := (Classical.choose_spec am_K_ex).1
theorem am_Rf_is : am_Rf = am_S1.2.2.2.2 := (Classical.choose_spec am_K_ex).2
noncomputable def am_sh (I : Nat → Nat → Int32) (J : Nat → Nat → Int64) : am_S := ((162, 15823), am_K, I, J, am_Rf)
theorem am_eta (S : am_S) : S = (S.1, S.2.1, S.2.2.1, S.2.2.2.1, S.2.2.2.2) := rfl
theorem am_S1_sh : am_S1 = am_sh am_S1.2.2.1 am_S1.2.2.2.1 := by
  unfold am_sh
  rw [am_K_is, am_Rf_is, ← am_S1_n]
theorem am_Kc {c : Nat} (h : c < 162) : am_K c = am_KL.getD c (0, 0) := by
  rw [am_K_is]
  exact of_decide_eq_true (List.all_eq_true.mp am_Kb c (List.mem_range.mpr h))
theorem am_Rc {c k v : Nat} (h : c < 162) (hk : k < (am_RL.getD c []).length) (hv : (am_RL.getD c []).getD k 999 = v) (hne : v ≠ 999) : am_Rf c k = some v := by
  have h1 := List.all_eq_true.mp (List.all_eq_true.mp am_Rb c (List.mem_range.mpr h)) k (List.mem_range.mpr hk)
  rw [hv] at h1
  have h2 : (v == 999) = false := by simp [hne]
  rw [h2, Bool.false_or] at h1
  rw [am_Rf_is]
  exact of_decide_eq_true h1
/-- the bodies: 0 .. 9 those of the sky, 10 the tried one; its rows behind it: 1 numbers, 2 xs, 3 ys, 4 zs, 5 heights -/
def am_bd (b : Nat) : Nat := if b < 10 then 19 + 6 * b else 97
theorem am_bd_lt {b : Nat} (h : b < 11) : am_bd b + 5 < 162 := by
  unfold am_bd
  split <;> omega
theorem am_Kbd {b : Nat} (h : b < 11) : am_K (am_bd b) = (2, 7) := by
  rw [am_Kc (by have := am_bd_lt h; omega)]
  revert h
  revert b
  decide
theorem am_Kbn {b : Nat} (h : b < 11) : am_K (am_bd b + 1) = (20, 9) := by
  rw [am_Kc (by have := am_bd_lt h; omega)]
  revert h
  revert b
  decide

theorem am_Kb2 {b : Nat} (h : b < 11) : am_K (am_bd b + 2) = (20, 48) := by
  rw [am_Kc (by have := am_bd_lt h; omega)]
  revert h
  revert b
  decide
theorem am_Kb3 {b : Nat} (h : b < 11) : am_K (am_bd b + 3) = (20, 48) := by
  rw [am_Kc (by have := am_bd_lt h; omega)]
  revert h
  revert b
  decide
theorem am_Kb4 {b : Nat} (h : b < 11) : am_K (am_bd b + 4) = (20, 48) := by
  rw [am_Kc (by have := am_bd_lt h; omega)]
  revert h
  revert b
  decide
theorem am_Kb5 {b : Nat} (h : b < 11) : am_K (am_bd b + 5) = (20, 48) := by
  rw [am_Kc (by have := am_bd_lt h; omega)]
  revert h
  revert b
  decide
theorem am_Rb2 {b : Nat} (h : b < 11) : am_Rf (am_bd b) 2 = some (am_bd b + 1) := by
  refine am_Rc (by have := am_bd_lt h; omega) ?_ ?_ ?_
  · revert h; revert b; decide
  · revert h; revert b; decide
  · have := am_bd_lt h; omega
theorem am_Rb3 {b : Nat} (h : b < 11) : am_Rf (am_bd b) 3 = some (am_bd b + 2) := by
  refine am_Rc (by have := am_bd_lt h; omega) ?_ ?_ ?_
  · revert h; revert b; decide
  · revert h; revert b; decide
  · have := am_bd_lt h; omega
theorem am_Rb4 {b : Nat} (h : b < 11) : am_Rf (am_bd b) 4 = some (am_bd b + 3) := by
  refine am_Rc (by have := am_bd_lt h; omega) ?_ ?_ ?_
  · revert h; revert b; decide
  · revert h; revert b; decide
  · have := am_bd_lt h; omega
theorem am_Rb5 {b : Nat} (h : b < 11) : am_Rf (am_bd b) 5 = some (am_bd b + 4) := by
  refine am_Rc (by have := am_bd_lt h; omega) ?_ ?_ ?_
  · revert h; revert b; decide
  · revert h; revert b; decide
  · have := am_bd_lt h; omega
theorem am_Rb6 {b : Nat} (h : b < 11) : am_Rf (am_bd b) 6 = some (am_bd b + 5) := by
  refine am_Rc (by have := am_bd_lt h; omega) ?_ ?_ ?_
  · revert h; revert b; decide
  · revert h; revert b; decide
  · have := am_bd_lt h; omega
theorem am_R17 {b : Nat} (h : b < 10) : am_Rf 17 b = some (am_bd b) := by
  refine am_Rc (by omega) ?_ ?_ ?_
  · revert h; revert b; decide
  · revert h; revert b; decide
  · have := am_bd_lt (b := b) (by omega); omega
theorem am_R107 {b : Nat} (h : b < 20) : am_Rf 107 b = some (108 + b) := by
  refine am_Rc (by omega) ?_ ?_ (by omega)
  · revert h; revert b; decide
  · revert h; revert b; decide
theorem am_K108 {b : Nat} (h : b < 20) : am_K (108 + b) = (20, 173) := by
  rw [am_Kc (by omega)]
  revert h
  revert b
  decide
theorem am_R5 {b : Nat} (h : b < 10) : am_Rf 5 b = some (6 + b) := by
  refine am_Rc (by omega) ?_ ?_ (by omega)
  · revert h; revert b; decide
  · revert h; revert b; decide
theorem am_K6 {b : Nat} (h : b < 10) : am_K (6 + b) = (20, 9) := by
  rw [am_Kc (by omega)]
  revert h
  revert b
  decide
theorem am_K_0 : am_K 0 = (11, 13) := am_Kc (by omega)
theorem am_R_0_0 : am_Rf 0 0 = some 1 := am_Rc (by omega) (by decide) rfl (by omega)
theorem am_R_0_1 : am_Rf 0 1 = some 3 := am_Rc (by omega) (by decide) rfl (by omega)
theorem am_R_0_2 : am_Rf 0 2 = some 16 := am_Rc (by omega) (by decide) rfl (by omega)
theorem am_R_0_3 : am_Rf 0 3 = some 79 := am_Rc (by omega) (by decide) rfl (by omega)
theorem am_R_0_4 : am_Rf 0 4 = some 83 := am_Rc (by omega) (by decide) rfl (by omega)
theorem am_R_0_5 : am_Rf 0 5 = some 89 := am_Rc (by omega) (by decide) rfl (by omega)
theorem am_R_0_6 : am_Rf 0 6 = some 96 := am_Rc (by omega) (by decide) rfl (by omega)
theorem am_R_0_7 : am_Rf 0 7 = some 106 := am_Rc (by omega) (by decide) rfl (by omega)
theorem am_R_0_8 : am_Rf 0 8 = some 128 := am_Rc (by omega) (by decide) rfl (by omega)
theorem am_R_0_9 : am_Rf 0 9 = some 133 := am_Rc (by omega) (by decide) rfl (by omega)
theorem am_R_0_10 : am_Rf 0 10 = some 136 := am_Rc (by omega) (by decide) rfl (by omega)
theorem am_R_0_11 : am_Rf 0 11 = some 137 := am_Rc (by omega) (by decide) rfl (by omega)
theorem am_R_0_12 : am_Rf 0 12 = some 138 := am_Rc (by omega) (by decide) rfl (by omega)
theorem am_K_1 : am_K 1 = (9, 2) := am_Kc (by omega)
theorem am_R_1_0 : am_Rf 1 0 = some 2 := am_Rc (by omega) (by decide) rfl (by omega)
theorem am_K_2 : am_K 2 = (20, 1600) := am_Kc (by omega)
theorem am_K_3 : am_K 3 = (8, 11) := am_Kc (by omega)
theorem am_R_3_5 : am_Rf 3 5 = some 4 := am_Rc (by omega) (by decide) rfl (by omega)
theorem am_R_3_6 : am_Rf 3 6 = some 5 := am_Rc (by omega) (by decide) rfl (by omega)
theorem am_R_3_7 : am_Rf 3 7 = some 1 := am_Rc (by omega) (by decide) rfl (by omega)
theorem am_K_4 : am_K 4 = (20, 10) := am_Kc (by omega)
theorem am_K_5 : am_K 5 = (24, 10) := am_Kc (by omega)
theorem am_K_6 : am_K 6 = (20, 9) := am_Kc (by omega)
theorem am_K_7 : am_K 7 = (20, 9) := am_Kc (by omega)
theorem am_K_8 : am_K 8 = (20, 9) := am_Kc (by omega)
theorem am_K_9 : am_K 9 = (20, 9) := am_Kc (by omega)
theorem am_K_10 : am_K 10 = (20, 9) := am_Kc (by omega)
theorem am_K_11 : am_K 11 = (20, 9) := am_Kc (by omega)
theorem am_K_12 : am_K 12 = (20, 9) := am_Kc (by omega)
theorem am_K_13 : am_K 13 = (20, 9) := am_Kc (by omega)
theorem am_K_14 : am_K 14 = (20, 9) := am_Kc (by omega)
theorem am_K_15 : am_K 15 = (20, 9) := am_Kc (by omega)
theorem am_K_16 : am_K 16 = (7, 9) := am_Kc (by omega)
theorem am_R_16_0 : am_Rf 16 0 = some 17 := am_Rc (by omega) (by decide) rfl (by omega)
theorem am_R_16_7 : am_Rf 16 7 = some 18 := am_Rc (by omega) (by decide) rfl (by omega)
theorem am_K_17 : am_K 17 = (23, 10) := am_Kc (by omega)
theorem am_K_18 : am_K 18 = (20, 80) := am_Kc (by omega)
theorem am_K_19 : am_K 19 = (2, 7) := am_Kc (by omega)
theorem am_R_19_2 : am_Rf 19 2 = some 20 := am_Rc (by omega) (by decide) rfl (by omega)
theorem am_R_19_3 : am_Rf 19 3 = some 21 := am_Rc (by omega) (by decide) rfl (by omega)
theorem am_R_19_4 : am_Rf 19 4 = some 22 := am_Rc (by omega) (by decide) rfl (by omega)
theorem am_R_19_5 : am_Rf 19 5 = some 23 := am_Rc (by omega) (by decide) rfl (by omega)
theorem am_R_19_6 : am_Rf 19 6 = some 24 := am_Rc (by omega) (by decide) rfl (by omega)
theorem am_K_20 : am_K 20 = (20, 9) := am_Kc (by omega)
theorem am_K_21 : am_K 21 = (20, 48) := am_Kc (by omega)
theorem am_K_22 : am_K 22 = (20, 48) := am_Kc (by omega)
theorem am_K_23 : am_K 23 = (20, 48) := am_Kc (by omega)
theorem am_K_24 : am_K 24 = (20, 48) := am_Kc (by omega)
theorem am_K_25 : am_K 25 = (2, 7) := am_Kc (by omega)
theorem am_R_25_2 : am_Rf 25 2 = some 26 := am_Rc (by omega) (by decide) rfl (by omega)
theorem am_R_25_3 : am_Rf 25 3 = some 27 := am_Rc (by omega) (by decide) rfl (by omega)
theorem am_R_25_4 : am_Rf 25 4 = some 28 := am_Rc (by omega) (by decide) rfl (by omega)
theorem am_R_25_5 : am_Rf 25 5 = some 29 := am_Rc (by omega) (by decide) rfl (by omega)
theorem am_R_25_6 : am_Rf 25 6 = some 30 := am_Rc (by omega) (by decide) rfl (by omega)
theorem am_K_26 : am_K 26 = (20, 9) := am_Kc (by omega)
theorem am_K_27 : am_K 27 = (20, 48) := am_Kc (by omega)
theorem am_K_28 : am_K 28 = (20, 48) := am_Kc (by omega)
theorem am_K_29 : am_K 29 = (20, 48) := am_Kc (by omega)
theorem am_K_30 : am_K 30 = (20, 48) := am_Kc (by omega)
theorem am_K_31 : am_K 31 = (2, 7) := am_Kc (by omega)
theorem am_R_31_2 : am_Rf 31 2 = some 32 := am_Rc (by omega) (by decide) rfl (by omega)
theorem am_R_31_3 : am_Rf 31 3 = some 33 := am_Rc (by omega) (by decide) rfl (by omega)
theorem am_R_31_4 : am_Rf 31 4 = some 34 := am_Rc (by omega) (by decide) rfl (by omega)
theorem am_R_31_5 : am_Rf 31 5 = some 35 := am_Rc (by omega) (by decide) rfl (by omega)
theorem am_R_31_6 : am_Rf 31 6 = some 36 := am_Rc (by omega) (by decide) rfl (by omega)
theorem am_K_32 : am_K 32 = (20, 9) := am_Kc (by omega)
theorem am_K_33 : am_K 33 = (20, 48) := am_Kc (by omega)
theorem am_K_34 : am_K 34 = (20, 48) := am_Kc (by omega)
theorem am_K_35 : am_K 35 = (20, 48) := am_Kc (by omega)
theorem am_K_36 : am_K 36 = (20, 48) := am_Kc (by omega)
theorem am_K_37 : am_K 37 = (2, 7) := am_Kc (by omega)
theorem am_R_37_2 : am_Rf 37 2 = some 38 := am_Rc (by omega) (by decide) rfl (by omega)
theorem am_R_37_3 : am_Rf 37 3 = some 39 := am_Rc (by omega) (by decide) rfl (by omega)
theorem am_R_37_4 : am_Rf 37 4 = some 40 := am_Rc (by omega) (by decide) rfl (by omega)
theorem am_R_37_5 : am_Rf 37 5 = some 41 := am_Rc (by omega) (by decide) rfl (by omega)
theorem am_R_37_6 : am_Rf 37 6 = some 42 := am_Rc (by omega) (by decide) rfl (by omega)
theorem am_K_38 : am_K 38 = (20, 9) := am_Kc (by omega)
theorem am_K_39 : am_K 39 = (20, 48) := am_Kc (by omega)
theorem am_K_40 : am_K 40 = (20, 48) := am_Kc (by omega)
theorem am_K_41 : am_K 41 = (20, 48) := am_Kc (by omega)
theorem am_K_42 : am_K 42 = (20, 48) := am_Kc (by omega)
theorem am_K_43 : am_K 43 = (2, 7) := am_Kc (by omega)
theorem am_R_43_2 : am_Rf 43 2 = some 44 := am_Rc (by omega) (by decide) rfl (by omega)
theorem am_R_43_3 : am_Rf 43 3 = some 45 := am_Rc (by omega) (by decide) rfl (by omega)
theorem am_R_43_4 : am_Rf 43 4 = some 46 := am_Rc (by omega) (by decide) rfl (by omega)
theorem am_R_43_5 : am_Rf 43 5 = some 47 := am_Rc (by omega) (by decide) rfl (by omega)
theorem am_R_43_6 : am_Rf 43 6 = some 48 := am_Rc (by omega) (by decide) rfl (by omega)
theorem am_K_44 : am_K 44 = (20, 9) := am_Kc (by omega)
theorem am_K_45 : am_K 45 = (20, 48) := am_Kc (by omega)
theorem am_K_46 : am_K 46 = (20, 48) := am_Kc (by omega)
theorem am_K_47 : am_K 47 = (20, 48) := am_Kc (by omega)
theorem am_K_48 : am_K 48 = (20, 48) := am_Kc (by omega)
theorem am_K_49 : am_K 49 = (2, 7) := am_Kc (by omega)
theorem am_R_49_2 : am_Rf 49 2 = some 50 := am_Rc (by omega) (by decide) rfl (by omega)
theorem am_R_49_3 : am_Rf 49 3 = some 51 := am_Rc (by omega) (by decide) rfl (by omega)
theorem am_R_49_4 : am_Rf 49 4 = some 52 := am_Rc (by omega) (by decide) rfl (by omega)
theorem am_R_49_5 : am_Rf 49 5 = some 53 := am_Rc (by omega) (by decide) rfl (by omega)
theorem am_R_49_6 : am_Rf 49 6 = some 54 := am_Rc (by omega) (by decide) rfl (by omega)
theorem am_K_50 : am_K 50 = (20, 9) := am_Kc (by omega)
theorem am_K_51 : am_K 51 = (20, 48) := am_Kc (by omega)
theorem am_K_52 : am_K 52 = (20, 48) := am_Kc (by omega)
theorem am_K_53 : am_K 53 = (20, 48) := am_Kc (by omega)
theorem am_K_54 : am_K 54 = (20, 48) := am_Kc (by omega)
theorem am_K_55 : am_K 55 = (2, 7) := am_Kc (by omega)
theorem am_R_55_2 : am_Rf 55 2 = some 56 := am_Rc (by omega) (by decide) rfl (by omega)
theorem am_R_55_3 : am_Rf 55 3 = some 57 := am_Rc (by omega) (by decide) rfl (by omega)
theorem am_R_55_4 : am_Rf 55 4 = some 58 := am_Rc (by omega) (by decide) rfl (by omega)
theorem am_R_55_5 : am_Rf 55 5 = some 59 := am_Rc (by omega) (by decide) rfl (by omega)
theorem am_R_55_6 : am_Rf 55 6 = some 60 := am_Rc (by omega) (by decide) rfl (by omega)
theorem am_K_56 : am_K 56 = (20, 9) := am_Kc (by omega)
theorem am_K_57 : am_K 57 = (20, 48) := am_Kc (by omega)
theorem am_K_58 : am_K 58 = (20, 48) := am_Kc (by omega)
theorem am_K_59 : am_K 59 = (20, 48) := am_Kc (by omega)
theorem am_K_60 : am_K 60 = (20, 48) := am_Kc (by omega)
theorem am_K_61 : am_K 61 = (2, 7) := am_Kc (by omega)
theorem am_R_61_2 : am_Rf 61 2 = some 62 := am_Rc (by omega) (by decide) rfl (by omega)
theorem am_R_61_3 : am_Rf 61 3 = some 63 := am_Rc (by omega) (by decide) rfl (by omega)
theorem am_R_61_4 : am_Rf 61 4 = some 64 := am_Rc (by omega) (by decide) rfl (by omega)
theorem am_R_61_5 : am_Rf 61 5 = some 65 := am_Rc (by omega) (by decide) rfl (by omega)
theorem am_R_61_6 : am_Rf 61 6 = some 66 := am_Rc (by omega) (by decide) rfl (by omega)
theorem am_K_62 : am_K 62 = (20, 9) := am_Kc (by omega)
theorem am_K_63 : am_K 63 = (20, 48) := am_Kc (by omega)
theorem am_K_64 : am_K 64 = (20, 48) := am_Kc (by omega)
theorem am_K_65 : am_K 65 = (20, 48) := am_Kc (by omega)
theorem am_K_66 : am_K 66 = (20, 48) := am_Kc (by omega)
theorem am_K_67 : am_K 67 = (2, 7) := am_Kc (by omega)
theorem am_R_67_2 : am_Rf 67 2 = some 68 := am_Rc (by omega) (by decide) rfl (by omega)
theorem am_R_67_3 : am_Rf 67 3 = some 69 := am_Rc (by omega) (by decide) rfl (by omega)
theorem am_R_67_4 : am_Rf 67 4 = some 70 := am_Rc (by omega) (by decide) rfl (by omega)
theorem am_R_67_5 : am_Rf 67 5 = some 71 := am_Rc (by omega) (by decide) rfl (by omega)
theorem am_R_67_6 : am_Rf 67 6 = some 72 := am_Rc (by omega) (by decide) rfl (by omega)
theorem am_K_68 : am_K 68 = (20, 9) := am_Kc (by omega)
theorem am_K_69 : am_K 69 = (20, 48) := am_Kc (by omega)
theorem am_K_70 : am_K 70 = (20, 48) := am_Kc (by omega)
theorem am_K_71 : am_K 71 = (20, 48) := am_Kc (by omega)
theorem am_K_72 : am_K 72 = (20, 48) := am_Kc (by omega)
theorem am_K_73 : am_K 73 = (2, 7) := am_Kc (by omega)
theorem am_R_73_2 : am_Rf 73 2 = some 74 := am_Rc (by omega) (by decide) rfl (by omega)
theorem am_R_73_3 : am_Rf 73 3 = some 75 := am_Rc (by omega) (by decide) rfl (by omega)
theorem am_R_73_4 : am_Rf 73 4 = some 76 := am_Rc (by omega) (by decide) rfl (by omega)
theorem am_R_73_5 : am_Rf 73 5 = some 77 := am_Rc (by omega) (by decide) rfl (by omega)
theorem am_R_73_6 : am_Rf 73 6 = some 78 := am_Rc (by omega) (by decide) rfl (by omega)
theorem am_K_74 : am_K 74 = (20, 9) := am_Kc (by omega)
theorem am_K_75 : am_K 75 = (20, 48) := am_Kc (by omega)
theorem am_K_76 : am_K 76 = (20, 48) := am_Kc (by omega)
theorem am_K_77 : am_K 77 = (20, 48) := am_Kc (by omega)
theorem am_K_78 : am_K 78 = (20, 48) := am_Kc (by omega)
theorem am_K_79 : am_K 79 = (5, 4) := am_Kc (by omega)
theorem am_R_79_0 : am_Rf 79 0 = some 16 := am_Rc (by omega) (by decide) rfl (by omega)
theorem am_R_79_1 : am_Rf 79 1 = some 80 := am_Rc (by omega) (by decide) rfl (by omega)
theorem am_R_79_2 : am_Rf 79 2 = some 81 := am_Rc (by omega) (by decide) rfl (by omega)
theorem am_R_79_3 : am_Rf 79 3 = some 82 := am_Rc (by omega) (by decide) rfl (by omega)
theorem am_K_80 : am_K 80 = (20, 100) := am_Kc (by omega)
theorem am_K_81 : am_K 81 = (21, 48) := am_Kc (by omega)
theorem am_K_82 : am_K 82 = (21, 48) := am_Kc (by omega)
theorem am_K_83 : am_K 83 = (3, 6) := am_Kc (by omega)
theorem am_R_83_0 : am_Rf 83 0 = some 16 := am_Rc (by omega) (by decide) rfl (by omega)
theorem am_R_83_1 : am_Rf 83 1 = some 84 := am_Rc (by omega) (by decide) rfl (by omega)
theorem am_R_83_2 : am_Rf 83 2 = some 85 := am_Rc (by omega) (by decide) rfl (by omega)
theorem am_R_83_3 : am_Rf 83 3 = some 86 := am_Rc (by omega) (by decide) rfl (by omega)
theorem am_R_83_4 : am_Rf 83 4 = some 87 := am_Rc (by omega) (by decide) rfl (by omega)
theorem am_R_83_5 : am_Rf 83 5 = some 88 := am_Rc (by omega) (by decide) rfl (by omega)
theorem am_K_84 : am_K 84 = (20, 100) := am_Kc (by omega)
theorem am_K_85 : am_K 85 = (20, 100) := am_Kc (by omega)
theorem am_K_86 : am_K 86 = (21, 48) := am_Kc (by omega)
theorem am_K_87 : am_K 87 = (20, 4) := am_Kc (by omega)
theorem am_K_88 : am_K 88 = (20, 3) := am_Kc (by omega)
theorem am_K_89 : am_K 89 = (1, 10) := am_Kc (by omega)
theorem am_R_89_0 : am_Rf 89 0 = some 16 := am_Rc (by omega) (by decide) rfl (by omega)
theorem am_R_89_1 : am_Rf 89 1 = some 83 := am_Rc (by omega) (by decide) rfl (by omega)
theorem am_R_89_2 : am_Rf 89 2 = some 90 := am_Rc (by omega) (by decide) rfl (by omega)
theorem am_R_89_3 : am_Rf 89 3 = some 91 := am_Rc (by omega) (by decide) rfl (by omega)
theorem am_R_89_4 : am_Rf 89 4 = some 92 := am_Rc (by omega) (by decide) rfl (by omega)
theorem am_R_89_5 : am_Rf 89 5 = some 93 := am_Rc (by omega) (by decide) rfl (by omega)
theorem am_R_89_6 : am_Rf 89 6 = some 94 := am_Rc (by omega) (by decide) rfl (by omega)
theorem am_R_89_7 : am_Rf 89 7 = some 95 := am_Rc (by omega) (by decide) rfl (by omega)
theorem am_K_90 : am_K 90 = (20, 10) := am_Kc (by omega)
theorem am_K_91 : am_K 91 = (20, 10) := am_Kc (by omega)
theorem am_K_92 : am_K 92 = (20, 10) := am_Kc (by omega)
theorem am_K_93 : am_K 93 = (20, 10) := am_Kc (by omega)
theorem am_K_94 : am_K 94 = (20, 10) := am_Kc (by omega)
theorem am_K_95 : am_K 95 = (20, 4) := am_Kc (by omega)
theorem am_K_96 : am_K 96 = (10, 12) := am_Kc (by omega)
theorem am_R_96_0 : am_Rf 96 0 = some 16 := am_Rc (by omega) (by decide) rfl (by omega)
theorem am_R_96_1 : am_Rf 96 1 = some 83 := am_Rc (by omega) (by decide) rfl (by omega)
theorem am_R_96_2 : am_Rf 96 2 = some 89 := am_Rc (by omega) (by decide) rfl (by omega)
theorem am_R_96_3 : am_Rf 96 3 = some 97 := am_Rc (by omega) (by decide) rfl (by omega)
theorem am_R_96_4 : am_Rf 96 4 = some 103 := am_Rc (by omega) (by decide) rfl (by omega)
theorem am_R_96_10 : am_Rf 96 10 = some 104 := am_Rc (by omega) (by decide) rfl (by omega)
theorem am_R_96_11 : am_Rf 96 11 = some 105 := am_Rc (by omega) (by decide) rfl (by omega)
theorem am_K_97 : am_K 97 = (2, 7) := am_Kc (by omega)
theorem am_R_97_2 : am_Rf 97 2 = some 98 := am_Rc (by omega) (by decide) rfl (by omega)
theorem am_R_97_3 : am_Rf 97 3 = some 99 := am_Rc (by omega) (by decide) rfl (by omega)
theorem am_R_97_4 : am_Rf 97 4 = some 100 := am_Rc (by omega) (by decide) rfl (by omega)
theorem am_R_97_5 : am_Rf 97 5 = some 101 := am_Rc (by omega) (by decide) rfl (by omega)
theorem am_R_97_6 : am_Rf 97 6 = some 102 := am_Rc (by omega) (by decide) rfl (by omega)
theorem am_K_98 : am_K 98 = (20, 9) := am_Kc (by omega)
theorem am_K_99 : am_K 99 = (20, 48) := am_Kc (by omega)
theorem am_K_100 : am_K 100 = (20, 48) := am_Kc (by omega)
theorem am_K_101 : am_K 101 = (20, 48) := am_Kc (by omega)
theorem am_K_102 : am_K 102 = (20, 48) := am_Kc (by omega)
theorem am_K_103 : am_K 103 = (20, 5) := am_Kc (by omega)
theorem am_K_104 : am_K 104 = (20, 10) := am_Kc (by omega)
theorem am_K_105 : am_K 105 = (22, 48) := am_Kc (by omega)
theorem am_K_106 : am_K 106 = (0, 8) := am_Kc (by omega)
theorem am_R_106_0 : am_Rf 106 0 = some 16 := am_Rc (by omega) (by decide) rfl (by omega)
theorem am_R_106_1 : am_Rf 106 1 = some 79 := am_Rc (by omega) (by decide) rfl (by omega)
theorem am_R_106_2 : am_Rf 106 2 = some 83 := am_Rc (by omega) (by decide) rfl (by omega)
theorem am_R_106_3 : am_Rf 106 3 = some 89 := am_Rc (by omega) (by decide) rfl (by omega)
theorem am_R_106_4 : am_Rf 106 4 = some 107 := am_Rc (by omega) (by decide) rfl (by omega)
theorem am_K_107 : am_K 107 = (24, 20) := am_Kc (by omega)
theorem am_K_108 : am_K 108 = (20, 173) := am_Kc (by omega)
theorem am_K_109 : am_K 109 = (20, 173) := am_Kc (by omega)
theorem am_K_110 : am_K 110 = (20, 173) := am_Kc (by omega)
theorem am_K_111 : am_K 111 = (20, 173) := am_Kc (by omega)
theorem am_K_112 : am_K 112 = (20, 173) := am_Kc (by omega)
theorem am_K_113 : am_K 113 = (20, 173) := am_Kc (by omega)
theorem am_K_114 : am_K 114 = (20, 173) := am_Kc (by omega)
theorem am_K_115 : am_K 115 = (20, 173) := am_Kc (by omega)
theorem am_K_116 : am_K 116 = (20, 173) := am_Kc (by omega)
theorem am_K_117 : am_K 117 = (20, 173) := am_Kc (by omega)
theorem am_K_118 : am_K 118 = (20, 173) := am_Kc (by omega)
theorem am_K_119 : am_K 119 = (20, 173) := am_Kc (by omega)
theorem am_K_120 : am_K 120 = (20, 173) := am_Kc (by omega)
theorem am_K_121 : am_K 121 = (20, 173) := am_Kc (by omega)
theorem am_K_122 : am_K 122 = (20, 173) := am_Kc (by omega)
theorem am_K_123 : am_K 123 = (20, 173) := am_Kc (by omega)
theorem am_K_124 : am_K 124 = (20, 173) := am_Kc (by omega)
theorem am_K_125 : am_K 125 = (20, 173) := am_Kc (by omega)
theorem am_K_126 : am_K 126 = (20, 173) := am_Kc (by omega)
theorem am_K_127 : am_K 127 = (20, 173) := am_Kc (by omega)
theorem am_K_128 : am_K 128 = (6, 8) := am_Kc (by omega)
theorem am_R_128_4 : am_Rf 128 4 = some 129 := am_Rc (by omega) (by decide) rfl (by omega)
theorem am_R_128_5 : am_Rf 128 5 = some 130 := am_Rc (by omega) (by decide) rfl (by omega)
theorem am_R_128_6 : am_Rf 128 6 = some 131 := am_Rc (by omega) (by decide) rfl (by omega)
theorem am_R_128_7 : am_Rf 128 7 = some 132 := am_Rc (by omega) (by decide) rfl (by omega)
theorem am_K_129 : am_K 129 = (20, 16) := am_Kc (by omega)
theorem am_K_130 : am_K 130 = (20, 16) := am_Kc (by omega)
theorem am_K_131 : am_K 131 = (21, 48) := am_Kc (by omega)
theorem am_K_132 : am_K 132 = (20, 4) := am_Kc (by omega)
theorem am_K_133 : am_K 133 = (4, 3) := am_Kc (by omega)
theorem am_R_133_0 : am_Rf 133 0 = some 134 := am_Rc (by omega) (by decide) rfl (by omega)
theorem am_R_133_2 : am_Rf 133 2 = some 135 := am_Rc (by omega) (by decide) rfl (by omega)
theorem am_K_134 : am_K 134 = (20, 72) := am_Kc (by omega)
theorem am_K_135 : am_K 135 = (20, 9) := am_Kc (by omega)
theorem am_K_136 : am_K 136 = (20, 6) := am_Kc (by omega)
theorem am_K_137 : am_K 137 = (20, 6) := am_Kc (by omega)
theorem am_K_138 : am_K 138 = (20, 6) := am_Kc (by omega)
theorem am_K_139 : am_K 139 = (12, 44) := am_Kc (by omega)
theorem am_R_139_3 : am_Rf 139 3 = some 140 := am_Rc (by omega) (by decide) rfl (by omega)
theorem am_R_139_4 : am_Rf 139 4 = some 141 := am_Rc (by omega) (by decide) rfl (by omega)
theorem am_R_139_5 : am_Rf 139 5 = some 142 := am_Rc (by omega) (by decide) rfl (by omega)
theorem am_R_139_9 : am_Rf 139 9 = some 143 := am_Rc (by omega) (by decide) rfl (by omega)
theorem am_R_139_10 : am_Rf 139 10 = some 144 := am_Rc (by omega) (by decide) rfl (by omega)
theorem am_R_139_11 : am_Rf 139 11 = some 145 := am_Rc (by omega) (by decide) rfl (by omega)
theorem am_R_139_13 : am_Rf 139 13 = some 146 := am_Rc (by omega) (by decide) rfl (by omega)
theorem am_R_139_21 : am_Rf 139 21 = some 147 := am_Rc (by omega) (by decide) rfl (by omega)
theorem am_R_139_22 : am_Rf 139 22 = some 148 := am_Rc (by omega) (by decide) rfl (by omega)
theorem am_R_139_23 : am_Rf 139 23 = some 149 := am_Rc (by omega) (by decide) rfl (by omega)
theorem am_R_139_25 : am_Rf 139 25 = some 150 := am_Rc (by omega) (by decide) rfl (by omega)
theorem am_R_139_26 : am_Rf 139 26 = some 151 := am_Rc (by omega) (by decide) rfl (by omega)
theorem am_R_139_27 : am_Rf 139 27 = some 152 := am_Rc (by omega) (by decide) rfl (by omega)
theorem am_R_139_28 : am_Rf 139 28 = some 153 := am_Rc (by omega) (by decide) rfl (by omega)
theorem am_R_139_29 : am_Rf 139 29 = some 154 := am_Rc (by omega) (by decide) rfl (by omega)
theorem am_R_139_30 : am_Rf 139 30 = some 155 := am_Rc (by omega) (by decide) rfl (by omega)
theorem am_R_139_31 : am_Rf 139 31 = some 156 := am_Rc (by omega) (by decide) rfl (by omega)
theorem am_R_139_35 : am_Rf 139 35 = some 157 := am_Rc (by omega) (by decide) rfl (by omega)
theorem am_R_139_38 : am_Rf 139 38 = some 158 := am_Rc (by omega) (by decide) rfl (by omega)
theorem am_R_139_39 : am_Rf 139 39 = some 159 := am_Rc (by omega) (by decide) rfl (by omega)
theorem am_R_139_40 : am_Rf 139 40 = some 160 := am_Rc (by omega) (by decide) rfl (by omega)
theorem am_R_139_42 : am_Rf 139 42 = some 161 := am_Rc (by omega) (by decide) rfl (by omega)
theorem am_K_140 : am_K 140 = (20, 10) := am_Kc (by omega)
theorem am_K_141 : am_K 141 = (20, 10) := am_Kc (by omega)
theorem am_K_142 : am_K 142 = (20, 60) := am_Kc (by omega)
theorem am_K_143 : am_K 143 = (20, 80) := am_Kc (by omega)
theorem am_K_144 : am_K 144 = (20, 60) := am_Kc (by omega)
theorem am_K_145 : am_K 145 = (20, 1600) := am_Kc (by omega)
theorem am_K_146 : am_K 146 = (20, 6) := am_Kc (by omega)
theorem am_K_147 : am_K 147 = (20, 54) := am_Kc (by omega)
theorem am_K_148 : am_K 148 = (20, 153) := am_Kc (by omega)
theorem am_K_149 : am_K 149 = (20, 3060) := am_Kc (by omega)
theorem am_K_150 : am_K 150 = (20, 1920) := am_Kc (by omega)
theorem am_K_151 : am_K 151 = (20, 45) := am_Kc (by omega)
theorem am_K_152 : am_K 152 = (20, 45) := am_Kc (by omega)
theorem am_K_153 : am_K 153 = (20, 45) := am_Kc (by omega)
theorem am_K_154 : am_K 154 = (20, 45) := am_Kc (by omega)
theorem am_K_155 : am_K 155 = (20, 10) := am_Kc (by omega)
theorem am_K_156 : am_K 156 = (20, 14) := am_Kc (by omega)
theorem am_K_157 : am_K 157 = (20, 5) := am_Kc (by omega)
theorem am_K_158 : am_K 158 = (20, 16) := am_Kc (by omega)
theorem am_K_159 : am_K 159 = (20, 16) := am_Kc (by omega)
theorem am_K_160 : am_K 160 = (20, 48) := am_Kc (by omega)
theorem am_K_161 : am_K 161 = (20, 72) := am_Kc (by omega)
section EVH
variable {X : am_X} {P : List (Nat × am_I)} {i pc a b t ci k nf len : Nat} {n : Int} {ts : List Nat} {ls st : List Value} {S : am_S} {I : Nat → Nat → Int32} {J : Nat → Nat → Int64}
theorem ev_getI (h : P[i]? = some (pc, 44, ci, k, n, ts)) (ha : a < 162) (hK : am_K a = (ci, nf)) (hk : k < nf) (ht : am_rt (am_ft ci k) = false) : am_ev X P i ls (.ref a :: st) (am_sh I J) = am_ev X P (i + 1) ls (.int (I a k) :: st) (am_sh I J) := by
  rw [ev_at h]
  have e1 : am_fv (am_sh I J) a ci k = .int (I a k) := by
    unfold am_fv
    rw [if_neg (by rw [ht]; decide)]
    rfl
  have : am_step X (44, ci, k, n, ts) i ls (.ref a :: st) (am_sh I J) = am_go (i + 1) ls (.int (I a k) :: st) (am_sh I J) := by
    show (if a < 162 ∧ (am_K a).1 = ci ∧ k < (am_K a).2 then (if am_fv (am_sh I J) a ci k = .null then none else am_go (i + 1) ls (am_fv (am_sh I J) a ci k :: st) (am_sh I J)) else none) = _
    rw [hK, if_pos ⟨ha, rfl, hk⟩, e1, if_neg (by intro z; cases z)]
  rw [this]
  rfl
theorem ev_getR {v : Nat} (h : P[i]? = some (pc, 44, ci, k, n, ts)) (ha : a < 162) (hK : am_K a = (ci, nf)) (hk : k < nf) (ht : am_rt (am_ft ci k) = true) (hr : am_Rf a k = some v) : am_ev X P i ls (.ref a :: st) (am_sh I J) = am_ev X P (i + 1) ls (.ref v :: st) (am_sh I J) := by
  rw [ev_at h]
  have e1 : am_fv (am_sh I J) a ci k = .ref v := by
    unfold am_fv
    rw [if_pos ht]
    show (match am_Rf a k with
      | some v => Value.ref v
      | none => Value.null) = _
    rw [hr]
  have : am_step X (44, ci, k, n, ts) i ls (.ref a :: st) (am_sh I J) = am_go (i + 1) ls (.ref v :: st) (am_sh I J) := by
    show (if a < 162 ∧ (am_K a).1 = ci ∧ k < (am_K a).2 then (if am_fv (am_sh I J) a ci k = .null then none else am_go (i + 1) ls (am_fv (am_sh I J) a ci k :: st) (am_sh I J)) else none) = _
    rw [hK, if_pos ⟨ha, rfl, hk⟩, e1, if_neg (by intro z; cases z)]
  rw [this]
  rfl
theorem ev_putI {x : Int32} (h : P[i]? = some (pc, 45, ci, k, n, ts)) (ha : a < 162) (hK : am_K a = (ci, nf)) (hk : k < nf) (ht : am_ft ci k = .int) : am_ev X P i ls (.int x :: .ref a :: st) (am_sh I J) = am_ev X P (i + 1) ls st (am_sh (am_up I a k x) J) := by
  rw [ev_at h]
  have : am_step X (45, ci, k, n, ts) i ls (.int x :: .ref a :: st) (am_sh I J) = am_go (i + 1) ls st (am_sh (am_up I a k x) J) := by
    show (if a < 162 ∧ (am_K a).1 = ci ∧ k < (am_K a).2 ∧ narrow (am_ft ci k) (.int x) = .int x ∧ fits (am_ft ci k) (.int x) = true then am_go (i + 1) ls st (am_setI (am_sh I J) a k x) else none) = _
    rw [hK, ht, if_pos ⟨ha, rfl, hk, rfl, rfl⟩]
    rfl
  rw [this]
  rfl
theorem ev_putZ {x : Int32} (h : P[i]? = some (pc, 45, ci, k, n, ts)) (ha : a < 162) (hK : am_K a = (ci, nf)) (hk : k < nf) (ht : am_ft ci k = .boolean) (hx : x = 0 ∨ x = 1) : am_ev X P i ls (.int x :: .ref a :: st) (am_sh I J) = am_ev X P (i + 1) ls st (am_sh (am_up I a k x) J) := by
  rw [ev_at h]
  have hn : narrow .boolean (.int x) = .int x ∧ fits .boolean (.int x) = true := by rcases hx with rfl | rfl <;> decide
  have : am_step X (45, ci, k, n, ts) i ls (.int x :: .ref a :: st) (am_sh I J) = am_go (i + 1) ls st (am_sh (am_up I a k x) J) := by
    show (if a < 162 ∧ (am_K a).1 = ci ∧ k < (am_K a).2 ∧ narrow (am_ft ci k) (.int x) = .int x ∧ fits (am_ft ci k) (.int x) = true then am_go (i + 1) ls st (am_setI (am_sh I J) a k x) else none) = _
    rw [hK, ht, if_pos ⟨ha, rfl, hk, hn.1, hn.2⟩]
    rfl
  rw [this]
  rfl
theorem ev_iald {j : Int32} (h : P[i]? = some (pc, 47, 0, 0, 0, [])) (ha : a < 162) (hK : am_K a = (20, len)) : am_ev X P i ls (.int j :: .ref a :: st) (am_sh I J) = if j < 0 ∨ len ≤ j.toNatClampNeg then none else am_ev X P (i + 1) ls (.int (I a j.toNatClampNeg) :: st) (am_sh I J) := by
  rw [ev_at h]
  have : am_step X (47, 0, 0, 0, []) i ls (.int j :: .ref a :: st) (am_sh I J) = if j < 0 ∨ len ≤ j.toNatClampNeg then none else am_go (i + 1) ls (.int (I a j.toNatClampNeg) :: st) (am_sh I J) := by
    show (if a < 162 ∧ (am_K a).1 = 20 ∧ ¬ (j < 0 ∨ (am_K a).2 ≤ j.toNatClampNeg) then am_go (i + 1) ls (.int (I a j.toNatClampNeg) :: st) (am_sh I J) else none) = _
    rw [hK]
    by_cases hc : j < 0 ∨ len ≤ j.toNatClampNeg
    · rw [if_pos hc, if_neg (fun z => z.2.2 hc)]
    · rw [if_neg hc, if_pos ⟨ha, rfl, hc⟩]
  rw [this]
  split <;> rfl
theorem ev_zald {j : Int32} (h : P[i]? = some (pc, 49, 0, 0, 0, [])) (ha : a < 162) (hK : am_K a = (21, len)) : am_ev X P i ls (.int j :: .ref a :: st) (am_sh I J) = if j < 0 ∨ len ≤ j.toNatClampNeg then none else am_ev X P (i + 1) ls (.int (I a j.toNatClampNeg) :: st) (am_sh I J) := by
  rw [ev_at h]
  have : am_step X (49, 0, 0, 0, []) i ls (.int j :: .ref a :: st) (am_sh I J) = if j < 0 ∨ len ≤ j.toNatClampNeg then none else am_go (i + 1) ls (.int (I a j.toNatClampNeg) :: st) (am_sh I J) := by
    show (if a < 162 ∧ (am_K a).1 = 21 ∧ ¬ (j < 0 ∨ (am_K a).2 ≤ j.toNatClampNeg) then am_go (i + 1) ls (.int (I a j.toNatClampNeg) :: st) (am_sh I J) else none) = _
    rw [hK]
    by_cases hc : j < 0 ∨ len ≤ j.toNatClampNeg
    · rw [if_pos hc, if_neg (fun z => z.2.2 hc)]
    · rw [if_neg hc, if_pos ⟨ha, rfl, hc⟩]
  rw [this]
  split <;> rfl
theorem ev_lald {j : Int32} (h : P[i]? = some (pc, 51, 0, 0, 0, [])) (ha : a < 162) (hK : am_K a = (22, len)) : am_ev X P i ls (.int j :: .ref a :: st) (am_sh I J) = if j < 0 ∨ len ≤ j.toNatClampNeg then none else am_ev X P (i + 1) ls (.long (J a j.toNatClampNeg) :: st) (am_sh I J) := by
  rw [ev_at h]
  have : am_step X (51, 0, 0, 0, []) i ls (.int j :: .ref a :: st) (am_sh I J) = if j < 0 ∨ len ≤ j.toNatClampNeg then none else am_go (i + 1) ls (.long (J a j.toNatClampNeg) :: st) (am_sh I J) := by
    show (if a < 162 ∧ (am_K a).1 = 22 ∧ ¬ (j < 0 ∨ (am_K a).2 ≤ j.toNatClampNeg) then am_go (i + 1) ls (.long (J a j.toNatClampNeg) :: st) (am_sh I J) else none) = _
    rw [hK]
    by_cases hc : j < 0 ∨ len ≤ j.toNatClampNeg
    · rw [if_pos hc, if_neg (fun z => z.2.2 hc)]
    · rw [if_neg hc, if_pos ⟨ha, rfl, hc⟩]
  rw [this]
  split <;> rfl
theorem ev_iast {j x : Int32} (h : P[i]? = some (pc, 48, 0, 0, 0, [])) (ha : a < 162) (hK : am_K a = (20, len)) : am_ev X P i ls (.int x :: .int j :: .ref a :: st) (am_sh I J) = if j < 0 ∨ len ≤ j.toNatClampNeg then none else am_ev X P (i + 1) ls st (am_sh (am_up I a j.toNatClampNeg x) J) := by
  rw [ev_at h]
  have : am_step X (48, 0, 0, 0, []) i ls (.int x :: .int j :: .ref a :: st) (am_sh I J) = if j < 0 ∨ len ≤ j.toNatClampNeg then none else am_go (i + 1) ls st (am_sh (am_up I a j.toNatClampNeg x) J) := by
    show (if a < 162 ∧ (am_K a).1 = 20 ∧ ¬ (j < 0 ∨ (am_K a).2 ≤ j.toNatClampNeg) then am_go (i + 1) ls st (am_setI (am_sh I J) a j.toNatClampNeg x) else none) = _
    rw [hK]
    by_cases hc : j < 0 ∨ len ≤ j.toNatClampNeg
    · rw [if_pos hc, if_neg (fun z => z.2.2 hc)]
    · rw [if_neg hc, if_pos ⟨ha, rfl, hc⟩]
      rfl
  rw [this]
  split <;> rfl
theorem ev_zast {j x : Int32} (h : P[i]? = some (pc, 50, 0, 0, 0, [])) (ha : a < 162) (hK : am_K a = (21, len)) (hx : x = 0 ∨ x = 1) : am_ev X P i ls (.int x :: .int j :: .ref a :: st) (am_sh I J) = if j < 0 ∨ len ≤ j.toNatClampNeg then none else am_ev X P (i + 1) ls st (am_sh (am_up I a j.toNatClampNeg x) J) := by
  rw [ev_at h]
  have hn : vp_nar .boolean x = x := by rcases hx with rfl | rfl <;> decide
  have : am_step X (50, 0, 0, 0, []) i ls (.int x :: .int j :: .ref a :: st) (am_sh I J) = if j < 0 ∨ len ≤ j.toNatClampNeg then none else am_go (i + 1) ls st (am_sh (am_up I a j.toNatClampNeg x) J) := by
    show (if a < 162 ∧ (am_K a).1 = 21 ∧ ¬ (j < 0 ∨ (am_K a).2 ≤ j.toNatClampNeg) ∧ vp_nar .boolean x = x then am_go (i + 1) ls st (am_setI (am_sh I J) a j.toNatClampNeg x) else none) = _
    rw [hK]
    by_cases hc : j < 0 ∨ len ≤ j.toNatClampNeg
    · rw [if_pos hc, if_neg (fun z => z.2.2.1 hc)]
    · rw [if_neg hc, if_pos ⟨ha, rfl, hc, hn⟩]
      rfl
  rw [this]
  split <;> rfl
theorem ev_last {j : Int32} {x : Int64} (h : P[i]? = some (pc, 52, 0, 0, 0, [])) (ha : a < 162) (hK : am_K a = (22, len)) : am_ev X P i ls (.long x :: .int j :: .ref a :: st) (am_sh I J) = if j < 0 ∨ len ≤ j.toNatClampNeg then none else am_ev X P (i + 1) ls st (am_sh I (am_up J a j.toNatClampNeg x)) := by
  rw [ev_at h]
  have : am_step X (52, 0, 0, 0, []) i ls (.long x :: .int j :: .ref a :: st) (am_sh I J) = if j < 0 ∨ len ≤ j.toNatClampNeg then none else am_go (i + 1) ls st (am_sh I (am_up J a j.toNatClampNeg x)) := by
    show (if a < 162 ∧ (am_K a).1 = 22 ∧ ¬ (j < 0 ∨ (am_K a).2 ≤ j.toNatClampNeg) then am_go (i + 1) ls st (am_setJ (am_sh I J) a j.toNatClampNeg x) else none) = _
    rw [hK]
    by_cases hc : j < 0 ∨ len ≤ j.toNatClampNeg
    · rw [if_pos hc, if_neg (fun z => z.2.2 hc)]
    · rw [if_neg hc, if_pos ⟨ha, rfl, hc⟩]
      rfl
  rw [this]
  split <;> rfl
theorem ev_aald {j : Int32} (h : P[i]? = some (pc, 53, 0, 0, 0, [])) (ha : a < 162) (hK : am_K a = (23, len) ∨ am_K a = (24, len)) {f : Nat → Nat} (hf : ∀ k, k < len → am_Rf a k = some (f k)) : am_ev X P i ls (.int j :: .ref a :: st) (am_sh I J) = if j < 0 ∨ len ≤ j.toNatClampNeg then none else am_ev X P (i + 1) ls (.ref (f j.toNatClampNeg) :: st) (am_sh I J) := by
  rw [ev_at h]
  have : am_step X (53, 0, 0, 0, []) i ls (.int j :: .ref a :: st) (am_sh I J) = if j < 0 ∨ len ≤ j.toNatClampNeg then none else am_go (i + 1) ls (.ref (f j.toNatClampNeg) :: st) (am_sh I J) := by
    show (if a < 162 ∧ ((am_K a).1 = 23 ∨ (am_K a).1 = 24) ∧ ¬ (j < 0 ∨ (am_K a).2 ≤ j.toNatClampNeg) then (match am_Rf a j.toNatClampNeg with
      | some v => am_go (i + 1) ls (.ref v :: st) (am_sh I J)
      | none => none) else none) = _
    have hl : (am_K a).2 = len := by rcases hK with h | h <;> rw [h]
    have hk : (am_K a).1 = 23 ∨ (am_K a).1 = 24 := by
      rcases hK with h | h
      · rw [h]; exact Or.inl rfl
      · rw [h]; exact Or.inr rfl
    rw [hl]
    by_cases hc : j < 0 ∨ len ≤ j.toNatClampNeg
    · rw [if_pos hc, if_neg (fun z => z.2.2 hc)]
    · rw [if_neg hc, if_pos ⟨ha, hk, hc⟩, hf _ (by omega)]
  rw [this]
  split <;> rfl
theorem ev_alen (h : P[i]? = some (pc, 55, 0, 0, 0, [])) (ha : a < 162) {kd : Nat} (hK : am_K a = (kd, len)) (h1 : 20 ≤ kd) (h2 : kd < 25) : am_ev X P i ls (.ref a :: st) (am_sh I J) = am_ev X P (i + 1) ls (.int (Int32.ofNat len) :: st) (am_sh I J) := by
  rw [ev_at h]
  have : am_step X (55, 0, 0, 0, []) i ls (.ref a :: st) (am_sh I J) = am_go (i + 1) ls (.int (Int32.ofNat len) :: st) (am_sh I J) := by
    show (if a < 162 ∧ 20 ≤ (am_K a).1 ∧ (am_K a).1 < 25 then am_go (i + 1) ls (.int (Int32.ofNat (am_K a).2) :: st) (am_sh I J) else none) = _
    rw [hK, if_pos ⟨ha, h1, h2⟩]
  rw [this]
  rfl
theorem ev_iaS {j : Int32} (h : P[i]? = some (pc, 47, 0, 0, 0, [])) (ht : t = 0 ∨ t = 2) : am_ev X P i ls (.int j :: .retAddr t :: st) S = if j < 0 ∨ (X t).1 ≤ j.toNatClampNeg then none else am_ev X P (i + 1) ls (.int ((X t).2 j.toNatClampNeg) :: st) S := by
  rw [ev_at h]
  have : am_step X (47, 0, 0, 0, []) i ls (.int j :: .retAddr t :: st) S = if j < 0 ∨ (X t).1 ≤ j.toNatClampNeg then none else am_go (i + 1) ls (.int ((X t).2 j.toNatClampNeg) :: st) S := by
    show (if (t = 0 ∨ t = 2) ∧ ¬ (j < 0 ∨ (X t).1 ≤ j.toNatClampNeg) then am_go (i + 1) ls (.int ((X t).2 j.toNatClampNeg) :: st) S else none) = _
    by_cases hc : j < 0 ∨ (X t).1 ≤ j.toNatClampNeg
    · rw [if_pos hc, if_neg (fun z => z.2 hc)]
    · rw [if_neg hc, if_pos ⟨ht, hc⟩]
  rw [this]
  split <;> rfl
theorem ev_alS (h : P[i]? = some (pc, 55, 0, 0, 0, [])) (ht : t = 0 ∨ t = 2 ∨ t = 3) : am_ev X P i ls (.retAddr t :: st) S = am_ev X P (i + 1) ls (.int (Int32.ofNat (X t).1) :: st) S := by
  rw [ev_at h]
  have : am_step X (55, 0, 0, 0, []) i ls (.retAddr t :: st) S = am_go (i + 1) ls (.int (Int32.ofNat (X t).1) :: st) S := by
    show (if t = 0 ∨ t = 2 ∨ t = 3 then am_go (i + 1) ls (.int (Int32.ofNat (X t).1) :: st) S else none) = _
    rw [if_pos ht]
  rw [this]
  rfl
theorem ev_gets0 (h : P[i]? = some (pc, 56, a, 0, n, ts)) : am_ev X P i ls st S = am_ev X P (i + 1) ls (.retAddr 0 :: st) S := by
  rw [ev_at h]
  rfl
theorem ev_acpy {sp dp m : Int32} {len2 : Nat} (h : P[i]? = some (pc, 70, 0, 0, n, ts)) (ha : a < 162) (hK : am_K a = (20, len)) (hb : b < 162) (hKb : am_K b = (20, len2)) (hc : (st.map Value.category).sum ≤ 8) : am_ev X P i ls (.int m :: .int dp :: .ref b :: .int sp :: .ref a :: st) (am_sh I J) = if sp < 0 ∨ dp < 0 ∨ m < 0 ∨ len < sp.toNatClampNeg + m.toNatClampNeg ∨ len2 < dp.toNatClampNeg + m.toNatClampNeg then none else am_ev X P (i + 1) ls st (am_sh (fun c k => if c = b then (if dp.toNatClampNeg ≤ k ∧ k < dp.toNatClampNeg + m.toNatClampNeg then I a (sp.toNatClampNeg + (k - dp.toNatClampNeg)) else I c k) else I c k) J) := by
  rw [ev_at h]
  have : am_step X (70, 0, 0, n, ts) i ls (.int m :: .int dp :: .ref b :: .int sp :: .ref a :: st) (am_sh I J) = if sp < 0 ∨ dp < 0 ∨ m < 0 ∨ len < sp.toNatClampNeg + m.toNatClampNeg ∨ len2 < dp.toNatClampNeg + m.toNatClampNeg then none else am_go (i + 1) ls st (am_cp (am_sh I J) a b sp.toNatClampNeg dp.toNatClampNeg m.toNatClampNeg) := by
    show (if a < 162 ∧ b < 162 ∧ (am_K a).1 = 20 ∧ (am_K b).1 = 20 ∧ ¬ sp < 0 ∧ ¬ dp < 0 ∧ ¬ m < 0 ∧ sp.toNatClampNeg + m.toNatClampNeg ≤ (am_K a).2 ∧ dp.toNatClampNeg + m.toNatClampNeg ≤ (am_K b).2 ∧ (st.map Value.category).sum ≤ 8 then am_go (i + 1) ls st (am_cp (am_sh I J) a b sp.toNatClampNeg dp.toNatClampNeg m.toNatClampNeg) else none) = _
    rw [hK, hKb]
    by_cases hq : sp < 0 ∨ dp < 0 ∨ m < 0 ∨ len < sp.toNatClampNeg + m.toNatClampNeg ∨ len2 < dp.toNatClampNeg + m.toNatClampNeg
    · rw [if_pos hq, if_neg]
      rintro ⟨-, -, -, -, g1, g2, g3, g4, g5, -⟩
      rcases hq with q | q | q | q | q
      · exact g1 q
      · exact g2 q
      · exact g3 q
      · omega
      · omega
    · rw [if_neg hq, if_pos]
      have g1 : ¬ sp < 0 := fun z => hq (Or.inl z)
      have g2 : ¬ dp < 0 := fun z => hq (Or.inr (Or.inl z))
      have g3 : ¬ m < 0 := fun z => hq (Or.inr (Or.inr (Or.inl z)))
      have g4 : ¬ len < sp.toNatClampNeg + m.toNatClampNeg := fun z => hq (Or.inr (Or.inr (Or.inr (Or.inl z))))
      have g5 : ¬ len2 < dp.toNatClampNeg + m.toNatClampNeg := fun z => hq (Or.inr (Or.inr (Or.inr (Or.inr z))))
      exact ⟨ha, hb, rfl, rfl, g1, g2, g3, by omega, by omega, hc⟩
  rw [this]
  split <;> rfl
/-- calls: the values taken from the stack (the last on top), what the callee answers -/
theorem ev_call {op m : Nat} {vs st' : List Value} (h : P[i]? = some (pc, op, a, b, n, ts)) (hs : am_step X (op, a, b, n, ts) i ls st S = some (.inr (.inr (m, vs, st')))) : am_ev X P i ls st S = (am_do X m vs S).bind (fun q => am_ev X P (i + 1) ls (q.1.toList ++ st') q.2) := by
  rw [ev_at h]
  show am_kt X P i ls S (am_step X (op, a, b, n, ts) i ls st S) = _
  rw [hs]
  rfl
theorem ev_invs {as : List Value} (h : P[i]? = some (pc, 61, a, b, n, ts)) (hl : as.length = b) (hc : (st.map Value.category).sum ≤ 8) : am_ev X P i ls (as ++ st) S = (am_do X a as.reverse S).bind (fun q => am_ev X P (i + 1) ls (q.1.toList ++ st) q.2) := by
  subst hl
  refine ev_call h ?_
  show (if as.length ≤ (as ++ st).length ∧ (((as ++ st).drop as.length).map Value.category).sum ≤ 8 then some (Sum.inr (Sum.inr (a, ((as ++ st).take as.length).reverse, (as ++ st).drop as.length))) else none) = _
  rw [List.drop_left, List.take_left, if_pos ⟨by simp, hc⟩]
theorem ev_invv {as : List Value} {r c m : Nat} (h : P[i]? = some (pc, 60, m, b, n, [t, c])) (hr : r < 162) (hK : am_K r = (c, nf)) (hl : as.length + 1 = b) (hc : (st.map Value.category).sum ≤ 8) : am_ev X P i ls (as ++ .ref r :: st) (am_sh I J) = (am_do X m (.ref r :: as.reverse) (am_sh I J)).bind (fun q => am_ev X P (i + 1) ls (q.1.toList ++ st) q.2) := by
  subst hl
  refine ev_call h ?_
  show am_x_invv X (60, m, as.length + 1, n, [t, c]) i ls (as ++ .ref r :: st) (am_sh I J) = _
  unfold am_x_invv
  have e1 : (as ++ Value.ref r :: st)[as.length + 1 - 1]? = some (.ref r) := by simp
  have e2 : (as ++ Value.ref r :: st).drop (as.length + 1) = st := by
    rw [show as ++ Value.ref r :: st = (as ++ [Value.ref r]) ++ st by simp, show as.length + 1 = (as ++ [Value.ref r]).length by simp, List.drop_left]
  have e3 : (as ++ Value.ref r :: st).take (as.length + 1) = as ++ [.ref r] := by
    rw [show as ++ Value.ref r :: st = (as ++ [Value.ref r]) ++ st by simp, show as.length + 1 = (as ++ [Value.ref r]).length by simp, List.take_left]
  dsimp only
  rw [e1]
  dsimp only
  rw [e2, e3, if_pos ⟨Nat.succ_pos _, hr, by show some c = some (am_K r).1; rw [hK]⟩, if_pos ⟨by simp, hc⟩]
  simp
theorem ev_iret {x : Int32} (h : P[i]? = some (pc, 71, 0, 0, 0, [])) : am_ev X P i ls [.int x] S = some (some (.int x), S) := by
  rw [ev_at h]
  have : am_step X (71, 0, 0, 0, []) i ls [.int x] S = some (.inr (.inl (some (.int x), S))) := by
    show (if narrow .int (.int x) = .int x then some (Sum.inr (Sum.inl (some (Value.int x), S))) else none) = _
    rw [if_pos (show narrow FieldType.int (Value.int x) = Value.int x from rfl)]
  rw [this]
  rfl
theorem ev_zret {x : Int32} (h : P[i]? = some (pc, 71, 0, 1, 0, [])) (hx : x = 0 ∨ x = 1) : am_ev X P i ls [.int x] S = some (some (.int x), S) := by
  rw [ev_at h]
  rcases hx with rfl | rfl <;> rfl
theorem ev_lret {x : Int64} (h : P[i]? = some (pc, 72, 0, 0, 0, [])) : am_ev X P i ls [.long x] S = some (some (.long x), S) := by
  rw [ev_at h]
  rfl
theorem ev_aret {x : Nat} (h : P[i]? = some (pc, 73, 0, 0, 0, [])) : am_ev X P i ls [.ref x] S = some (some (.ref x), S) := by
  rw [ev_at h]
  rfl
theorem ev_vret (h : P[i]? = some (pc, 74, 0, 0, 0, [])) : am_ev X P i ls [] S = some (none, S) := by
  rw [ev_at h]
  rfl
end EVH
section EVC
variable {X : am_X} {P : List (Nat × am_I)} {i pc a b t ci k nf len jn : Nat} {n : Int} {ts : List Nat} {ls st : List Value} {S : am_S} {I : Nat → Nat → Int32} {J : Nat → Nat → Int64}
theorem ev_const0 {v : Int32} (h : P[i]? = some (pc, 0, a, b, n, ts)) (hv : Int32.ofInt n = v) : am_ev X P i ls st S = am_ev X P (i + 1) ls (.int v :: st) S := by
  rw [ev_iconst h, hv]
theorem ev_const1 {v : Int32} (h : P[i]? = some (pc, 1, a, b, n, ts)) (hv : Int32.ofInt n = v) : am_ev X P i ls st S = am_ev X P (i + 1) ls (.int v :: st) S := by
  rw [ev_bipush h, hv]
theorem ev_const2 {v : Int32} (h : P[i]? = some (pc, 2, a, b, n, ts)) (hv : Int32.ofInt n = v) : am_ev X P i ls st S = am_ev X P (i + 1) ls (.int v :: st) S := by
  rw [ev_sipush h, hv]
theorem ev_const3 {v : Int32} (h : P[i]? = some (pc, 3, a, b, n, ts)) (hv : Int32.ofInt n = v) : am_ev X P i ls st S = am_ev X P (i + 1) ls (.int v :: st) S := by
  rw [ev_ldc h, hv]
theorem ev_const4 {v : Int32} (h : P[i]? = some (pc, 4, a, b, n, ts)) (hv : Int32.ofInt n = v) : am_ev X P i ls st S = am_ev X P (i + 1) ls (.int v :: st) S := by
  rw [ev_ldcw h, hv]
theorem ev_iincv {x v : Int32} {ls' : List Value} (h : P[i]? = some (pc, 11, a, b, n, ts)) (hv : Int32.ofInt n = v) (hl : ls[a]? = some (.int x)) (he : am_st ls a (.int (x + v)) = ls') : am_ev X P i ls st S = am_ev X P (i + 1) ls' st S := by
  subst hv
  exact ev_iinc h hl he
theorem ev_idivN {x y : Int32} (hy : y ≠ 0) (h : P[i]? = some (pc, 22, a, b, n, ts)) : am_ev X P i ls (.int y :: .int x :: st) S = am_ev X P (i + 1) ls (.int (x / y) :: st) S := by
  rw [ev_idiv h, if_neg hy]
theorem ev_iremN {x y : Int32} (hy : y ≠ 0) (h : P[i]? = some (pc, 23, a, b, n, ts)) : am_ev X P i ls (.int y :: .int x :: st) S = am_ev X P (i + 1) ls (.int (x - x / y * y) :: st) S := by
  rw [ev_irem h, if_neg hy]
theorem ev_ialdC {j : Int32} (h : P[i]? = some (pc, 47, 0, 0, 0, [])) (ha : a < 162) (hK : am_K a = (20, len)) (hj : ¬ (j < 0 ∨ len ≤ j.toNatClampNeg)) (hn : j.toNatClampNeg = jn) : am_ev X P i ls (.int j :: .ref a :: st) (am_sh I J) = am_ev X P (i + 1) ls (.int (I a jn) :: st) (am_sh I J) := by
  rw [ev_iald h ha hK, if_neg hj, hn]
theorem ev_zaldC {j : Int32} (h : P[i]? = some (pc, 49, 0, 0, 0, [])) (ha : a < 162) (hK : am_K a = (21, len)) (hj : ¬ (j < 0 ∨ len ≤ j.toNatClampNeg)) (hn : j.toNatClampNeg = jn) : am_ev X P i ls (.int j :: .ref a :: st) (am_sh I J) = am_ev X P (i + 1) ls (.int (I a jn) :: st) (am_sh I J) := by
  rw [ev_zald h ha hK, if_neg hj, hn]
theorem ev_laldC {j : Int32} (h : P[i]? = some (pc, 51, 0, 0, 0, [])) (ha : a < 162) (hK : am_K a = (22, len)) (hj : ¬ (j < 0 ∨ len ≤ j.toNatClampNeg)) (hn : j.toNatClampNeg = jn) : am_ev X P i ls (.int j :: .ref a :: st) (am_sh I J) = am_ev X P (i + 1) ls (.long (J a jn) :: st) (am_sh I J) := by
  rw [ev_lald h ha hK, if_neg hj, hn]
theorem ev_iastC {j x : Int32} (h : P[i]? = some (pc, 48, 0, 0, 0, [])) (ha : a < 162) (hK : am_K a = (20, len)) (hj : ¬ (j < 0 ∨ len ≤ j.toNatClampNeg)) (hn : j.toNatClampNeg = jn) : am_ev X P i ls (.int x :: .int j :: .ref a :: st) (am_sh I J) = am_ev X P (i + 1) ls st (am_sh (am_up I a jn x) J) := by
  rw [ev_iast h ha hK, if_neg hj, hn]
theorem ev_zastC {j x : Int32} (h : P[i]? = some (pc, 50, 0, 0, 0, [])) (ha : a < 162) (hK : am_K a = (21, len)) (hx : x = 0 ∨ x = 1) (hj : ¬ (j < 0 ∨ len ≤ j.toNatClampNeg)) (hn : j.toNatClampNeg = jn) : am_ev X P i ls (.int x :: .int j :: .ref a :: st) (am_sh I J) = am_ev X P (i + 1) ls st (am_sh (am_up I a jn x) J) := by
  rw [ev_zast h ha hK hx, if_neg hj, hn]
end EVC
theorem am_neT {x v : Int32} {n : Int} (h : ¬ x = v) (hv : v.toInt = n) : ¬ x.toInt = n := fun z => h (Int32.toInt_inj.mp (z.trans hv.symm))
theorem am_ci_m1000000 : Int32.ofInt (-1000000) = (-1000000) := by decide
theorem am_ci_m8 : Int32.ofInt (-8) = (-8) := by decide
theorem am_ci_m2 : Int32.ofInt (-2) = (-2) := by decide
theorem am_ci_m1 : Int32.ofInt (-1) = (-1) := by decide
theorem am_ci_0 : Int32.ofInt 0 = 0 := by decide
theorem am_ci_1 : Int32.ofInt 1 = 1 := by decide
theorem am_ci_2 : Int32.ofInt 2 = 2 := by decide
theorem am_ci_3 : Int32.ofInt 3 = 3 := by decide
theorem am_ci_4 : Int32.ofInt 4 = 4 := by decide
theorem am_ci_5 : Int32.ofInt 5 = 5 := by decide
theorem am_ci_6 : Int32.ofInt 6 = 6 := by decide
theorem am_ci_7 : Int32.ofInt 7 = 7 := by decide
theorem am_ci_8 : Int32.ofInt 8 = 8 := by decide
theorem am_ci_9 : Int32.ofInt 9 = 9 := by decide
theorem am_ci_10 : Int32.ofInt 10 = 10 := by decide
theorem am_ci_11 : Int32.ofInt 11 = 11 := by decide
theorem am_ci_12 : Int32.ofInt 12 = 12 := by decide
theorem am_ci_14 : Int32.ofInt 14 = 14 := by decide
theorem am_ci_16 : Int32.ofInt 16 = 16 := by decide
theorem am_ci_20 : Int32.ofInt 20 = 20 := by decide
theorem am_ci_24 : Int32.ofInt 24 = 24 := by decide
theorem am_ci_30 : Int32.ofInt 30 = 30 := by decide
theorem am_ci_31 : Int32.ofInt 31 = 31 := by decide
theorem am_ci_32 : Int32.ofInt 32 = 32 := by decide
theorem am_ci_40 : Int32.ofInt 40 = 40 := by decide
theorem am_ci_48 : Int32.ofInt 48 = 48 := by decide
theorem am_ci_49 : Int32.ofInt 49 = 49 := by decide
theorem am_ci_54 : Int32.ofInt 54 = 54 := by decide
theorem am_ci_57 : Int32.ofInt 57 = 57 := by decide
theorem am_ci_59 : Int32.ofInt 59 = 59 := by decide
theorem am_ci_60 : Int32.ofInt 60 = 60 := by decide
theorem am_ci_63 : Int32.ofInt 63 = 63 := by decide
theorem am_ci_64 : Int32.ofInt 64 = 64 := by decide
theorem am_ci_73 : Int32.ofInt 73 = 73 := by decide
theorem am_ci_78 : Int32.ofInt 78 = 78 := by decide
theorem am_ci_80 : Int32.ofInt 80 = 80 := by decide
theorem am_ci_90 : Int32.ofInt 90 = 90 := by decide
theorem am_ci_91 : Int32.ofInt 91 = 91 := by decide
theorem am_ci_92 : Int32.ofInt 92 = 92 := by decide
theorem am_ci_93 : Int32.ofInt 93 = 93 := by decide
theorem am_ci_96 : Int32.ofInt 96 = 96 := by decide
theorem am_ci_97 : Int32.ofInt 97 = 97 := by decide
theorem am_ci_99 : Int32.ofInt 99 = 99 := by decide
theorem am_ci_122 : Int32.ofInt 122 = 122 := by decide
theorem am_ci_127 : Int32.ofInt 127 = 127 := by decide
theorem am_ci_151 : Int32.ofInt 151 = 151 := by decide
theorem am_ci_153 : Int32.ofInt 153 = 153 := by decide
theorem am_ci_173 : Int32.ofInt 173 = 173 := by decide
theorem am_ci_200 : Int32.ofInt 200 = 200 := by decide
theorem am_ci_251 : Int32.ofInt 251 = 251 := by decide
theorem am_ci_255 : Int32.ofInt 255 = 255 := by decide
theorem am_ci_400 : Int32.ofInt 400 = 400 := by decide
theorem am_ci_999 : Int32.ofInt 999 = 999 := by decide
theorem am_ci_1023 : Int32.ofInt 1023 = 1023 := by decide
theorem am_ci_1600 : Int32.ofInt 1600 = 1600 := by decide
theorem am_ci_2400 : Int32.ofInt 2400 = 2400 := by decide
theorem am_ci_2907 : Int32.ofInt 2907 = 2907 := by decide
theorem am_ci_9999 : Int32.ofInt 9999 = 9999 := by decide
theorem am_ci_12345 : Int32.ofInt 12345 = 12345 := by decide
theorem am_ci_1000000 : Int32.ofInt 1000000 = 1000000 := by decide
theorem am_ci_252645135 : Int32.ofInt 252645135 = 252645135 := by decide
theorem am_ci_858993459 : Int32.ofInt 858993459 = 858993459 := by decide
theorem am_ci_1000000000 : Int32.ofInt 1000000000 = 1000000000 := by decide
theorem am_ci_1103515245 : Int32.ofInt 1103515245 = 1103515245 := by decide
theorem am_ci_1431655765 : Int32.ofInt 1431655765 = 1431655765 := by decide
theorem am_ci_2147483647 : Int32.ofInt 2147483647 = 2147483647 := by decide
theorem am_ite {α : Type} {c : Prop} [hd : Decidable c] {x y x' y' : α} (h1 : c → x = x') (h2 : ¬ c → y = y') : (if c then x else y) = if c then x' else y' := by
  by_cases h : c
  · rw [if_pos h, if_pos h, h1 h]
  · rw [if_neg h, if_neg h, h2 h]
theorem am_dec {α : Type} {x : α} (c : Prop) [hd : Decidable c] : x = if c then x else x := by split <;> rfl
theorem am_itn {α : Type} {c : Prop} [hd : Decidable c] {y y' : Option α} (h2 : ¬ c → y = y') : (if c then none else y) = if c then none else y' := am_ite (fun _ => rfl) h2
theorem am_do_of {X : am_X} {m : Nat} {vs ls : List Value} {P : List (Nat × am_I)} {S : am_S} (hP : (am_G m).2.2.2.2.1 = P) (hl : am_ini (am_G m) vs = ls) (hn : ls.length = (am_G m).2.2.1) : am_do X m vs S = am_ev X P 0 ls [] S := by
  unfold am_do
  rw [hl, if_pos hn, hP]
