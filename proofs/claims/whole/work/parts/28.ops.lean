/-! OPS, one by one -/
theorem c_208_0 (X : am_X) (I : Nat → Nat → Int32) (J : Nat → Nat → Int64) : am_do X 208 [.ref 0, .int 0] (am_sh I J) = some (some (.int (-1)), am_sh (am_up I 138 0 (I 138 0 + 1)) J) := c_208 X I J (k := 0) (by omega)
theorem c_208_5 (X : am_X) (I : Nat → Nat → Int32) (J : Nat → Nat → Int64) : am_do X 208 [.ref 0, .int 5] (am_sh I J) = some (some (.int (-1)), am_sh (am_up I 138 5 (I 138 5 + 1)) J) := c_208 X I J (k := 5) (by omega)
theorem c_219_0 (X : am_X) (I : Nat → Nat → Int32) (J : Nat → Nat → Int64) : am_do X 219 [.ref 139, .int 0] (am_sh I J) = some (some (.int 0), am_sh (am_up I 146 0 (I 146 0 + 1)) J) := c_219 X I J (k := 0) (by omega)
theorem c_219_5 (X : am_X) (I : Nat → Nat → Int32) (J : Nat → Nat → Int64) : am_do X 219 [.ref 139, .int 5] (am_sh I J) = some (some (.int 0), am_sh (am_up I 146 5 (I 146 5 + 1)) J) := c_219 X I J (k := 5) (by omega)
/-- behind a refusal on both sides -/
theorem Rl_ref {n k : Nat} {I : Nat → Nat → Int32} {J : Nat → Nat → Int64} (hk : k < 6) (h : Rl_ n I J) : Rl_ (n + 1) (am_up (am_up I 138 k (I 138 k + 1)) 146 k (am_up I 138 k (I 138 k + 1) 146 k + 1)) J := by
  obtain ⟨h1, h2, h3, h4, h5, hb⟩ := h
  have e : ∀ c j, c ≠ 138 → c ≠ 146 → am_up (am_up I 138 k (I 138 k + 1)) 146 k (am_up I 138 k (I 138 k + 1) 146 k + 1) c j = I c j := fun c j q1 q2 => by rw [up_ck (Or.inl q2), up_ck (Or.inl q1)]
  have ef : ∀ c, c ≠ 138 → c ≠ 146 → am_up (am_up I 138 k (I 138 k + 1)) 146 k (am_up I 138 k (I 138 k + 1) 146 k + 1) c = I c := fun c q1 q2 => funext fun j => e c j q1 q2
  refine ⟨?_, ?_, ?_, ?_, ?_, big_congr (fun c j q => ?_) hb⟩
  · rw [ef 1 (by decide) (by decide), ef 139 (by decide) (by decide), ef 2 (by decide) (by decide), ef 145 (by decide) (by decide)]
    exact h1
  · rw [ef 3 (by decide) (by decide), ef 139 (by decide) (by decide)]
    exact h2
  · intro j hj
    by_cases hjk : j = k
    · subst hjk
      rw [up_at, up_ck (Or.inl (by decide)), up_at, up_ck (Or.inl (by decide)), h3 j hj]
    · rw [up_k hjk, up_ck (Or.inl (by decide)), up_ck (Or.inl (by decide)), up_k hjk]
      exact h3 j hj
  · rw [ef 106 (by decide) (by decide), ef 139 (by decide) (by decide)]
    exact h4
  · rw [ef 133 (by decide) (by decide), ef 139 (by decide) (by decide), ef 134 (by decide) (by decide), ef 161 (by decide) (by decide)]
    exact h5
  · exact e c j (by unfold ps_far_off rd_S at q; omega) (by unfold ps_far_off rd_S at q; omega)
/-- 3 fault -/
theorem op_3 (X : am_X) (a1 : Int32) : am_Same X Rl_ 158 240 [.int a1] := by
  intro n I J hn h
  have h2 := h.2.1
  by_cases e0 : a1 = 0
  · refine ⟨I 3 0, I, J, I, J, ?_, ?_, Rl_mono h⟩
    · rw [cl_158, sg_158_e0, if_neg (fun z => z e0)]
    · rw [cl_240, sg_240_e0, if_neg (fun z => z e0), h2.1]
  · by_cases e1 : a1 = 1
    · refine ⟨I 3 1, I, J, I, J, ?_, ?_, Rl_mono h⟩
      · rw [cl_158, sg_158_e0, if_pos e0, if_neg (fun z => z e1)]
      · rw [cl_240, sg_240_e0, if_pos e0, if_neg (fun z => z e1), h2.2]
    · refine ⟨-1, I, J, I, J, ?_, ?_, Rl_mono h⟩
      · rw [cl_158, sg_158_e0, if_pos e0, if_pos e1]
      · rw [cl_240, sg_240_e0, if_pos e0, if_pos e1]
/-- 52 status -/
theorem op_52 (X : am_X) (a1 : Int32) : am_Same X Rl_ 207 347 [.int a1] := by
  intro n I J hn h
  have h3 := h.2.2.1
  by_cases e0 : a1 < 0
  · refine ⟨-1, I, J, I, J, ?_, ?_, Rl_mono h⟩
    · rw [cl_207, sg_207_e0, if_pos e0]
    · rw [cl_347, sg_347_e0, c_214, bnd_s, sg_347_4, if_neg (fun z => Int32.not_le.mpr e0 z.1), if_pos rfl]
  · obtain ⟨k, hk, rfl⟩ := nI_of e0
    have hc : (nI k).toNatClampNeg = k := nI_clamp hk
    by_cases e1 : k < 6
    · have hlt : nI k < Int32.ofNat 6 := (nI_ltI hk (by omega)).mpr e1
      have hg : ¬ (nI k < 0 ∨ 6 ≤ (nI k).toNatClampNeg) := by
        rw [hc]
        intro z
        rcases z with z | z
        · exact e0 z
        · omega
      have hin : (0 : Int32) ≤ nI k ∧ nI k ≤ (5 : Int32) := ⟨nI_pos' hk, (nI_leI hk (by omega : 5 < 2 ^ 31)).mpr (by omega)⟩
      refine ⟨I 138 k, I, J, I, J, ?_, ?_, Rl_mono h⟩
      · rw [cl_207, sg_207_e0, if_neg e0, if_pos hlt, if_neg hg, hc]
      · rw [cl_347, sg_347_e0, c_214, bnd_s, sg_347_4, if_pos hin, if_neg (by decide), if_neg hg, hc, h3 k e1]
    · have hlt : ¬ nI k < Int32.ofNat 6 := fun z => e1 ((nI_ltI hk (by omega)).mp z)
      have hin : ¬ ((0 : Int32) ≤ nI k ∧ nI k ≤ (5 : Int32)) := fun z => e1 (by
        have := (nI_leI hk (by omega : 5 < 2 ^ 31)).mp z.2
        omega)
      refine ⟨-1, I, J, I, J, ?_, ?_, Rl_mono h⟩
      · rw [cl_207, sg_207_e0, if_neg e0, if_neg hlt]
      · rw [cl_347, sg_347_e0, c_214, bnd_s, sg_347_4, if_neg hin, if_pos rfl]
/-- 48 seed -/
theorem op_48 (X : am_X) (a1 : Int32) : am_Same X Rl_ 203 340 [.int a1] := by
  intro n I J hn h
  by_cases e0 : 0 ≤ a1
  · refine ⟨1, am_up I 106 7 a1, J, am_up (am_up I 106 7 a1) 139 41 a1, J, ?_, ?_, ?_⟩
    · rw [cl_203, sg_203_e0, if_pos e0]
    · rw [cl_340, sg_340_e0, if_pos e0]
    · obtain ⟨h1, h2, h3, h4, h5, hb⟩ := h
      have e : ∀ c j, (c ≠ 106 ∨ j ≠ 7) → (c ≠ 139 ∨ j ≠ 41) → am_up (am_up I 106 7 a1) 139 41 a1 c j = I c j := fun c j q1 q2 => by rw [up_ck q2, up_ck q1]
      have ef : ∀ c, c ≠ 106 → c ≠ 139 → am_up (am_up I 106 7 a1) 139 41 a1 c = I c := fun c q1 q2 => funext fun j => e c j (Or.inl q1) (Or.inl q2)
      refine ⟨?_, ?_, ?_, ?_, ?_, big_congr (fun c j q => ?_) hb⟩
      · rw [ef 1 (by decide) (by decide), e 139 12 (by decide) (by decide), ef 2 (by decide) (by decide), ef 145 (by decide) (by decide)]
        exact h1
      · rw [ef 3 (by decide) (by decide), e 139 14 (by decide) (by decide), e 139 15 (by decide) (by decide)]
        exact h2
      · rw [ef 138 (by decide) (by decide), ef 146 (by decide) (by decide)]
        exact h3
      · rw [up_at, up_ck (by decide), up_at]
        refine ⟨rfl, ?_⟩
        have := Int32.le_iff_toInt_le.mp e0
        simpa using this
      · rw [ef 133 (by decide) (by decide), e 139 43 (by decide) (by decide), ef 134 (by decide) (by decide), ef 161 (by decide) (by decide)]
        exact h5
      · exact e c j (by unfold ps_far_off rd_S at q; omega) (by unfold ps_far_off rd_S at q; omega)
  · refine ⟨0, _, J, _, J, ?_, ?_, Rl_ref (k := 5) (by omega) h⟩
    · rw [cl_203, sg_203_e0, if_neg e0, c_208_5, bnd_s, sg_203_5, if_pos rfl]
    · rw [cl_340, sg_340_e0, if_neg e0, c_219_5, bnd_s, sg_340_5 _ _ _ _ _ (by decide)]
/-- 1 end -/
theorem op_1 (X : am_X) (a1 : Int32) : am_Same X Rl_ 156 222 [.int a1] := by
  intro n I J hn h
  have hT := h.1
  have eT : I 139 12 = I 1 1 := hT.1.symm
  by_cases e0 : a1 < 0
  · refine ⟨0, _, J, _, J, ?_, ?_, Rl_ref (k := 0) (by omega) h⟩
    · rw [cl_156, sg_156_e0, if_pos e0, c_208_0, bnd_s, sg_156_10, if_pos rfl]
    · rw [cl_222, sg_222_e0, if_pos e0, c_219_0, bnd_s, sg_222_9 _ _ _ _ _ (by decide)]
  · by_cases e1 : a1 ≤ I 1 1
    · refine ⟨1, am_up I 1 1 a1, J, am_up (am_up I 1 1 a1) 139 12 a1, J, ?_, ?_, ?_⟩
      · rw [cl_156, sg_156_e0, if_neg e0, if_pos e1]
      · rw [cl_222, sg_222_e0, if_neg e0, if_pos (by rw [up_ck (by decide), eT]; exact e1)]
      · obtain ⟨h1, h2, h3, h4, h5, hb⟩ := h
        have e : ∀ c j, (c ≠ 1 ∨ j ≠ 1) → (c ≠ 139 ∨ j ≠ 12) → am_up (am_up I 1 1 a1) 139 12 a1 c j = I c j := fun c j q1 q2 => by rw [up_ck q2, up_ck q1]
        have ef : ∀ c, c ≠ 1 → c ≠ 139 → am_up (am_up I 1 1 a1) 139 12 a1 c = I c := fun c q1 q2 => funext fun j => e c j (Or.inl q1) (Or.inl q2)
        refine ⟨?_, ?_, ?_, ?_, ?_, big_congr (fun c j q => ?_) hb⟩
        · rw [up_at, up_ck (by decide), up_at, ef 2 (by decide) (by decide), ef 145 (by decide) (by decide)]
          obtain ⟨t1, t2, t3, t4⟩ := hT
          have l1 := Int32.le_iff_toInt_le.mp e1
          have l0 : 0 ≤ a1.toInt := by
            have := Int32.le_iff_toInt_le.mp (Int32.not_lt.mp e0)
            simpa using this
          exact ⟨rfl, l0, by omega, fun k hk => t4 k (by omega)⟩
        · rw [ef 3 (by decide) (by decide), e 139 14 (by decide) (by decide), e 139 15 (by decide) (by decide)]
          exact h2
        · rw [ef 138 (by decide) (by decide), ef 146 (by decide) (by decide)]
          exact h3
        · rw [ef 106 (by decide) (by decide), e 139 41 (by decide) (by decide)]
          exact h4
        · rw [ef 133 (by decide) (by decide), e 139 43 (by decide) (by decide), ef 134 (by decide) (by decide), ef 161 (by decide) (by decide)]
          exact h5
        · exact e c j (by unfold ps_far_off rd_S at q; omega) (by unfold ps_far_off rd_S at q; omega)
    · refine ⟨0, _, J, _, J, ?_, ?_, Rl_ref (k := 0) (by omega) h⟩
      · rw [cl_156, sg_156_e0, if_neg e0, if_neg e1, c_208_0, bnd_s, sg_156_10, if_pos rfl]
      · rw [cl_222, sg_222_e0, if_neg e0, if_neg (by rw [up_ck (by decide), eT]; exact e1), c_219_0, bnd_s, sg_222_9 _ _ _ _ _ (by decide)]
