/-! all calls; the start -/
theorem all_ops (L : Nat) (xs : Nat → Int32) : am_Ops (am_Xs L xs) Rl_ := by
  have h0 : am_Xs L xs 0 = am_X00 0 := rfl
  have h3 : am_Xs L xs 3 = am_X00 3 := rfl
  exact ⟨op_0 _, op_1 _, op_2 h3, op_3 _, op_4 _, op_5 _, op_6 _, op_7 _, op_8 _, op_9 _, op_10 _, op_11 _, op_12 _, op_13 _, op_14 _, op_15 _, op_16 _, op_17 _, op_18 _, op_19 _, op_20 _, op_21 _, op_22 _, op_23 _, op_24 _, op_25 _, op_26 _, op_27 _, op_28 _, op_29 _, op_30 _, op_31 _, op_32 _, op_33 _, op_34 _, op_35 _, op_36 _, op_37 _, op_38 _, op_39 _, op_40 _, op_41 _, op_42 _, op_43 _, op_44 _, op_45 _, op_46 _, op_47 _, op_48 _, op_49 h0, op_50 _, op_51 h0, op_52 _⟩
theorem sz_0 : am_S1.2.2.1 1 1 = iI 0 ∧ am_S1.2.2.1 139 12 = iI 0 ∧ (am_S1.2.2.1 139 14 = am_S1.2.2.1 3 0 ∧ am_S1.2.2.1 139 15 = am_S1.2.2.1 3 1) ∧ (∀ k, k < 6 → am_S1.2.2.1 146 k = am_S1.2.2.1 138 k) ∧ (am_S1.2.2.1 139 41 = am_S1.2.2.1 106 7 ∧ 0 ≤ (am_S1.2.2.1 106 7).toInt) ∧ (am_S1.2.2.1 139 43 = iI 0 ∧ am_S1.2.2.1 133 1 = iI 0) ∧ (∀ k, k < 54 → am_S1.2.2.1 147 k = ps_own.getD k 0) := by decide +kernel
theorem sz_1 : am_S1.2.2.1 16 1 = 0 ∧ am_S1.2.2.1 16 2 = iI 0 ∧ am_S1.2.2.1 16 3 = iI 0 ∧ am_S1.2.2.1 16 4 = iI 0 ∧ am_S1.2.2.1 16 5 = iI 0 ∧ am_S1.2.2.1 16 6 = iI 0 ∧ am_S1.2.2.1 106 6 = iI 0 ∧ am_S1.2.2.1 106 5 = iI 0 ∧ am_S1.2.2.1 128 1 = iI 0 ∧ am_S1.2.2.1 16 8 = iI 0 ∧ am_S1.2.2.1 96 8 = iI (-1) := by decide +kernel
theorem sz_2 : am_S1.2.2.1 139 0 = 0 ∧ am_S1.2.2.1 139 1 = iI 0 ∧ am_S1.2.2.1 139 2 = iI 0 ∧ am_S1.2.2.1 148 0 = iI 0 ∧ am_S1.2.2.1 148 1 = iI 0 ∧ am_S1.2.2.1 148 2 = iI 0 ∧ am_S1.2.2.1 139 24 = iI 0 ∧ am_S1.2.2.1 139 36 = iI 0 ∧ ∀ k, k < 10 → 0 ≤ (am_S1.2.2.1 104 k).toInt ∧ (am_S1.2.2.1 104 k).toInt < 48 := by decide +kernel
theorem Rl_start : Rl_ 0 am_S1.2.2.1 am_S1.2.2.2.1 := by
  obtain ⟨a1, a2, a3, a4, a5, ⟨a6, a7⟩, a8⟩ := sz_0
  obtain ⟨b1, b2, b3, b4, b5, b6, b7, b8, b9, b10, b11⟩ := sz_1
  obtain ⟨c1, c2, c3, c4, c5, c6, c7, c8, c9⟩ := sz_2
  generalize am_S1.2.2.1 = I at *
  have q0 : (iI 0).toInt = 0 := rfl
  have ec : cn I = 0 := by unfold cn; rw [b2]; rfl
  have em : mn I = 0 := by unfold mn; rw [c2]; rfl
  have eu : un I = 0 := by unfold un; rw [b7]; rfl
  have eo : uo I = 0 := by unfold uo; rw [b8]; rfl
  refine ⟨hT0 a1 a2, a3, a4, a5, ⟨by rw [a6, a7], by rw [a7, q0]; omega, by rw [a7, q0]; omega, fun k hk => by rw [a7, q0] at hk; omega⟩, a8, ⟨⟨by rw [ec]; exact b2, by omega⟩, ⟨0, b3, by omega, by omega⟩, ⟨0, b4, by omega, by omega⟩, ⟨0, b5, by omega, by omega⟩, ⟨0, b6, by omega, by omega⟩, fun b hb => by omega⟩, ⟨⟨by rw [em]; exact c2, by omega⟩, fun b hb => by omega⟩, ⟨Or.inl b1, by rw [c1, b1], by rw [c2, b2], by rw [c3, b4], by rw [c4, b3], by rw [c5, b5], by rw [c6, b6], fun j hj => by rw [b6, q0] at hj; omega, fun _ => ⟨b2, b3, b4, b5, b6, b7, b9⟩, fun b hb => by omega⟩, fun b hb => by omega, ?_, ?_, ⟨fun a b _ hb => by omega, fun a b _ hb => by omega, c9⟩, ?_⟩
  · unfold rl_U
    rw [eu, eo, b7, b8, c7]
    exact ⟨rfl, ⟨rfl, by omega⟩, ⟨rfl, by omega⟩, fun v hv => by omega⟩
  · unfold rl_E
    rw [c8, b9, q0]
    exact ⟨rfl, by omega, fun z => by omega, fun k hk => by omega⟩
  · have q1 : (iI (-1)).toInt = -1 := rfl
    refine ⟨by rw [b10, q0]; omega, by rw [b10, b11, q0, q1]; omega, fun w => ?_⟩
    rw [b10, b11] at w
    exact absurd w (by decide)
theorem the_law {L : Nat} {xs : Nat → Int32} (hL : L ≤ 3072) : am_Law L xs := am_Law_ops hL (all_ops L xs) (fun _ _ _ g => Rl_mono g) Rl_start
